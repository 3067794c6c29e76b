/-! the reference's first order -/
theorem lead_k {S : zS} {X Y Z G x y z s k : Nat} (hk : k < 11) (h : LK S X Y Z G x y z s k) (h0 : ∀ i, i < k → ¬ LK S X Y Z G x y z s i) : lead S X Y Z G (x, y, z, s) k := ⟨hk, h.1, h.2, h0⟩
theorem LK_some {S : zS} {X Y Z G x y z s : Nat} (hR : Rc S X Y Z G x y z s) (hn : 0 < rem X Y Z G x y z s) : ∃ k, k < 11 ∧ LK S X Y Z G x y z s k := by
  rcases Rc_step.mp hR with ⟨rfl, rfl, rfl, rfl⟩ | h
  · rw [rem_fin] at hn; omega
  · exact h
theorem lt_3 {P : Nat → Prop} {j : Nat} (h0 : ¬ P 0) (h1 : ¬ P 1) (h2 : ¬ P 2) (h : ∀ m, m < j → ¬ P (3 + m)) : ∀ i, i < 3 + j → ¬ P i := by
  intro i hi
  rcases (show i = 0 ∨ i = 1 ∨ i = 2 ∨ 3 ≤ i by omega) with rfl | rfl | rfl | q
  · exact h0
  · exact h1
  · exact h2
  · have e := h (i - 3) (by omega)
    rw [show 3 + (i - 3) = i by omega] at e
    exact e
theorem cnv_g (j : Nat) : cnv (3 + j) = 10 + j := by unfold cnv; rw [if_neg (by omega)]; omega
set_option maxHeartbeats 600000 in
set_option maxRecDepth 100000 in
theorem c_X4_firstStep (l : Launch) (D : va_G) (t : ClassId × ClassId × ClassId) (b : Nat → Nat) (S : zS) (f : Nat → Int32) (Xn Yn Zn G : Nat) (h15 : S 15 = l3 Xn Yn Zn) (hG : G < 256) (hX : Xn + Yn + Zn ≤ 8) (hI : zI S) (h18 : S 18 0 = nI G) (hL : Lb S Xn Yn Zn G f 0) (x y z s : Nat) (hR : Rc S Xn Yn Zn G x y z s) (hn : 0 < rem Xn Yn Zn G x y z s) : zM1 l yX4_firstStep cX4_firstStep 8 (some .int) 4 D t [.ref (b 0), .int (nI x), .int (nI y), .int (nI z), .int (nI s)] (wM t b (va_up S 22 f)) (fun r => ∃ k, r = nI (cnv k) ∧ lead S Xn Yn Zn G (x, y, z, s) k) := by
  refine z_m1 (by decide +kernel) (Nat.le_of_ble_eq_true rfl) (by simp [Value.category]) ?_
  intro E X Z
  refine z_lv (lv' := [some (.ref (b 0)), some (.int (nI x)), some (.int (nI y)), some (.int (nI z)), some (.int (nI s)), none, none, none]) rfl ?_
  obtain ⟨hx, hy, hz, hs8⟩ := Rc_inB hR
  have hs := sub8_lt hs8 hG
  refine z_iload_n X dX4_firstStep_0 rfl rfl ?_
  refine z_aload_n X dX4_firstStep_1 rfl rfl ?_
  refine z_get X (C := RX4) (T := TX4) (N := 21) (ci := 4) (v := .ref (b 3)) inZ4 0 2 rfl rfl (by decide) q_fl_X4_16 rfl rfl dX4_firstStep_2 ?_
  refine z_iconst (v := nI 0) X dX4_firstStep_5 (by decide) ?_
  refine n_iald (f := S 15) X 3 rfl (by omega) (by decide) dX4_firstStep_6 ?_
  refine z_top (y := nI Xn) (by rw [h15]; rfl) ?_
  refine n_icmp_ge (tgt := 31) X dX4_firstStep_7 (by decide) (by omega) (by omega) (fun c7 => ?_) (fun c7 => ?_)
  ·
    refine z_iload_n X dX4_firstStep_31 rfl rfl ?_
    refine z_aload_n X dX4_firstStep_32 rfl rfl ?_
    refine z_get X (C := RX4) (T := TX4) (N := 21) (ci := 4) (v := .ref (b 3)) inZ4 0 2 rfl rfl (by decide) q_fl_X4_16 rfl rfl dX4_firstStep_33 ?_
    refine z_iconst (v := nI 1) X dX4_firstStep_36 (by decide) ?_
    refine n_iald (f := S 15) X 3 rfl (by omega) (by decide) dX4_firstStep_37 ?_
    refine z_top (y := nI Yn) (by rw [h15]; rfl) ?_
    refine n_icmp_ge (tgt := 62) X dX4_firstStep_38 (by decide) (by omega) (by omega) (fun c38 => ?_) (fun c38 => ?_)
    ·
      refine z_iload_n X dX4_firstStep_62 rfl rfl ?_
      refine z_aload_n X dX4_firstStep_63 rfl rfl ?_
      refine z_get X (C := RX4) (T := TX4) (N := 21) (ci := 4) (v := .ref (b 3)) inZ4 0 2 rfl rfl (by decide) q_fl_X4_16 rfl rfl dX4_firstStep_64 ?_
      refine z_iconst (v := nI 2) X dX4_firstStep_67 (by decide) ?_
      refine n_iald (f := S 15) X 3 rfl (by omega) (by decide) dX4_firstStep_68 ?_
      refine z_top (y := nI Zn) (by rw [h15]; rfl) ?_
      refine n_icmp_ge (tgt := 93) X dX4_firstStep_69 (by decide) (by omega) (by omega) (fun c69 => ?_) (fun c69 => ?_)
      ·
        refine z_iconst (v := (-1)) X dX4_firstStep_93 (by decide) ?_
        refine z_istore X dX4_firstStep_94 (Nat.le_of_ble_eq_true rfl) ?_
        refine z_lv (lv' := [some (.ref (b 0)), some (.int (nI x)), some (.int (nI y)), some (.int (nI z)), some (.int (nI s)), some (.int (-1)), none, none]) rfl ?_
        refine z_bipush (v := nI 7) X dX4_firstStep_96 (by decide) ?_
        refine z_istore X dX4_firstStep_98 (Nat.le_of_ble_eq_true rfl) ?_
        refine z_lv (lv' := [some (.ref (b 0)), some (.int (nI x)), some (.int (nI y)), some (.int (nI z)), some (.int (nI s)), some (.int (-1)), some (.int (nI 7)), none]) rfl ?_
        have n0 : ¬ LK S Xn Yn Zn G x y z s 0 := (by first | exact fun q => u25 (LK_0.mp q).2 | exact fun q => absurd (LK_0.mp q).1 (by omega))
        have n1 : ¬ LK S Xn Yn Zn G x y z s 1 := (by first | exact fun q => u56 (LK_1.mp q).2 | exact fun q => absurd (LK_1.mp q).1 (by omega))
        have n2 : ¬ LK S Xn Yn Zn G x y z s 2 := (by first | exact fun q => u87 (LK_2.mp q).2 | exact fun q => absurd (LK_2.mp q).1 (by omega))
        refine zl_dn (fun q => ∀ (v : Int32), (q ≤ 8 ∧ ((v = -1 ∧ ∀ m, q ≤ m → m < 8 → ¬ LK S Xn Yn Zn G x y z s (3 + m)) ∨ ∃ j, q ≤ j ∧ j < 8 ∧ v = nI (10 + j) ∧ LK S Xn Yn Zn G x y z s (3 + j) ∧ ∀ m, q ≤ m → m < j → ¬ LK S Xn Yn Zn G x y z s (3 + m))) → Wz E 0 0 100 [some (.ref (b 0)), some (.int (nI x)), some (.int (nI y)), some (.int (nI z)), some (.int (nI s)), some (.int v), some (.int (sv q)), none] [] (wM t b (va_up S 22 f))) ?_ ?_ 8 (-1) (⟨Nat.le_refl 8, Or.inl ⟨rfl, fun m h1 h2 => absurd h1 (by omega)⟩⟩)
        ·
          intro v hv
          obtain ⟨hq8, hv⟩ := hv
          refine z_lv (lv' := [some (.ref (b 0)), some (.int (nI x)), some (.int (nI y)), some (.int (nI z)), some (.int (nI s)), some (.int v), some (.int (-1)), none]) rfl ?_
          refine z_iload X dX4_firstStep_100 rfl ?_
          refine z_if_lt (tgt := 183) X dX4_firstStep_102 (by decide) (fun _ => ?_) (fun c102 => absurd c102 (by decide))
          refine z_iload X dX4_firstStep_183 rfl ?_
          refine z_iret X Z rfl dX4_firstStep_185 ?_
          rcases hv with ⟨-, h⟩ | ⟨j, h1, h2, rfl, h4, h5⟩
          · exfalso
            obtain ⟨k, hk, hK⟩ := LK_some hR hn
            exact lt_3 (j := 8) n0 n1 n2 (fun m hm => h m (Nat.zero_le m) hm) k (by omega) hK
          · exact ⟨(), ⟨3 + j, by rw [cnv_g], lead_k (by omega) h4 (lt_3 n0 n1 n2 (fun m hm => h5 m (Nat.zero_le m) hm))⟩, fun _ _ => trivial⟩
        ·
          intro q ihq v hv
          obtain ⟨hq8, hv⟩ := hv
          refine z_lv (lv' := [some (.ref (b 0)), some (.int (nI x)), some (.int (nI y)), some (.int (nI z)), some (.int (nI s)), some (.int v), some (.int (nI q)), none]) rfl ?_
          refine z_iload X dX4_firstStep_100 rfl ?_
          refine n_if_lt (tgt := 183) X dX4_firstStep_102 (by decide) (by omega) ?_
          have jq1 : ∀ (q1 : Int32), bz q1 (G.testBit q = true ∧ mt S x y z s q) → Wz E 0 0 136 [some (.ref (b 0)), some (.int (nI x)), some (.int (nI y)), some (.int (nI z)), some (.int (nI s)), some (.int v), some (.int (nI q)), none] [.int q1] (wM t b (va_up S 22 f)) := by
            intro q1 hjq1
            refine z_istore X dX4_firstStep_136 (Nat.le_of_ble_eq_true rfl) ?_
            refine z_lv (lv' := [some (.ref (b 0)), some (.int (nI x)), some (.int (nI y)), some (.int (nI z)), some (.int (nI s)), some (.int v), some (.int (nI q)), some (.int q1)]) rfl ?_
            rcases hjq1 with ⟨rfl, hjq1⟩ | ⟨rfl, hjq1⟩
            ·
              refine z_iload X dX4_firstStep_138 rfl ?_
              refine n_if_eq (tgt := 173) X dX4_firstStep_140 (by decide) (by omega) (fun c140 => absurd c140 (by decide)) (fun _ => ?_)
              have hsj := zn_or8 s hs q (by omega)
              have hix := ix_lt hX hx hy hz hsj
              refine z_aload_n X dX4_firstStep_143 rfl rfl ?_
              refine z_get X (C := RX4) (T := TX4) (N := 21) (ci := 4) (v := .ref (b 18)) inZ4 0 19 rfl rfl (by decide) q_fl_X4_61 rfl rfl dX4_firstStep_144 ?_
              refine z_aload_n X dX4_firstStep_147 rfl rfl ?_
              refine z_iload_n X dX4_firstStep_148 rfl rfl ?_
              refine z_iload_n X dX4_firstStep_149 rfl rfl ?_
              refine z_iload_n X dX4_firstStep_150 rfl rfl ?_
              refine z_iload X dX4_firstStep_151 rfl ?_
              refine z_iconst (v := nI 1) X dX4_firstStep_153 (by decide) ?_
              refine z_iload X dX4_firstStep_154 rfl ?_
              refine n_ishl1 X dX4_firstStep_156 (by omega) ?_
              refine n_ior X dX4_firstStep_157 ?_
              refine z_callV1 (k := 0) (n := 0) (st := [.ref (b 18)]) X (c_X4_place l D t b (va_up S 22 f) Xn Yn Zn h15 x y z (s ||| (2 ^ q))) k_X4_place q_ml_X4_142 is19 ⟨by decide, rfl⟩ 0 4 rfl rfl (by decide) rfl rfl rfl (Nat.le_of_ble_eq_true rfl) ⟨Nat.zero_le _, Nat.zero_le _⟩ dX4_firstStep_158 (fun r158 h158 => ?_)
              subst h158
              refine n_zald (f := f) X 18 rfl (by omega) (by decide) dX4_firstStep_161 ?_
              rcases hL x y z (s ||| 2 ^ q) hx hy hz hsj (Nat.zero_le _) with ⟨e9, u162⟩ | ⟨e9, u162⟩
              ·
                refine z_top (y := nI 1) e9 ?_
                refine n_if_eq (tgt := 173) X dX4_firstStep_162 (by decide) (by omega) (fun c162 => absurd c162 (by decide)) (fun _ => ?_)
                refine z_bipush (v := nI 10) X dX4_firstStep_165 (by decide) ?_
                refine z_iload X dX4_firstStep_167 rfl ?_
                refine n_iadd X dX4_firstStep_169 ?_
                refine z_goto (tgt := 175) X dX4_firstStep_170 (by decide) ?_
                refine z_istore X dX4_firstStep_175 (Nat.le_of_ble_eq_true rfl) ?_
                refine z_lv (lv' := [some (.ref (b 0)), some (.int (nI x)), some (.int (nI y)), some (.int (nI z)), some (.int (nI s)), some (.int (nI (10 + q))), some (.int (nI q)), some (.int (nI 1))]) rfl ?_
                refine z_iinc (v := sv q) X dX4_firstStep_177 rfl (sv_m q) ?_
                refine z_lv (lv' := [some (.ref (b 0)), some (.int (nI x)), some (.int (nI y)), some (.int (nI z)), some (.int (nI s)), some (.int (nI (10 + q))), some (.int (sv q)), some (.int (nI 1))]) rfl ?_
                refine z_goto (tgt := 100) X dX4_firstStep_180 (by decide) ?_
                have hI9 : (nI (10 + q) = -1 ∧ ∀ m, q ≤ m → m < 8 → ¬ LK S Xn Yn Zn G x y z s (3 + m)) ∨ ∃ j, q ≤ j ∧ j < 8 ∧ nI (10 + q) = nI (10 + j) ∧ LK S Xn Yn Zn G x y z s (3 + j) ∧ ∀ m, q ≤ m → m < j → ¬ LK S Xn Yn Zn G x y z s (3 + m) := by
                  exact Or.inr ⟨q, Nat.le_refl q, by omega, rfl, (LK_g (by omega)).mpr ⟨hjq1.1, hjq1.2, u162⟩, fun m h1 h2 => absurd h1 (by omega)⟩
                refine Wz.less (lv' := [some (.ref (b 0)), some (.int (nI x)), some (.int (nI y)), some (.int (nI z)), some (.int (nI s)), some (.int (nI (10 + q))), some (.int (sv q)), none]) (by simp [zle] <;> rfl) ?_
                exact ihq (nI (10 + q)) (⟨by omega, hI9⟩)
              ·
                refine z_top (y := nI 0) e9 ?_
                refine n_if_eq (tgt := 173) X dX4_firstStep_162 (by decide) (by omega) (fun _ => ?_) (fun c162 => absurd c162 (by decide))
                refine z_iload X dX4_firstStep_173 rfl ?_
                refine z_istore X dX4_firstStep_175 (Nat.le_of_ble_eq_true rfl) ?_
                refine z_lv (lv' := [some (.ref (b 0)), some (.int (nI x)), some (.int (nI y)), some (.int (nI z)), some (.int (nI s)), some (.int v), some (.int (nI q)), some (.int (nI 1))]) rfl ?_
                refine z_iinc (v := sv q) X dX4_firstStep_177 rfl (sv_m q) ?_
                refine z_lv (lv' := [some (.ref (b 0)), some (.int (nI x)), some (.int (nI y)), some (.int (nI z)), some (.int (nI s)), some (.int v), some (.int (sv q)), some (.int (nI 1))]) rfl ?_
                refine z_goto (tgt := 100) X dX4_firstStep_180 (by decide) ?_
                have hI9 : (v = -1 ∧ ∀ m, q ≤ m → m < 8 → ¬ LK S Xn Yn Zn G x y z s (3 + m)) ∨ ∃ j, q ≤ j ∧ j < 8 ∧ v = nI (10 + j) ∧ LK S Xn Yn Zn G x y z s (3 + j) ∧ ∀ m, q ≤ m → m < j → ¬ LK S Xn Yn Zn G x y z s (3 + m) := by
                  have hno : ¬ LK S Xn Yn Zn G x y z s (3 + q) := by first | exact fun p => hjq1 ⟨((LK_g (by omega)).mp p).1, ((LK_g (by omega)).mp p).2.1⟩ | exact fun p => u162 ((LK_g (by omega)).mp p).2.2
                  have hst : ∀ m, q ≤ m → ¬ q + 1 ≤ m → m = q := fun m h1 h2 => by omega
                  rcases hv with ⟨e, h⟩ | ⟨j, h1, h2, h3, h4, h5⟩
                  · refine Or.inl ⟨e, fun m h1 h2 => ?_⟩
                    by_cases hm : q + 1 ≤ m
                    · exact h m hm h2
                    · rw [hst m h1 hm]; exact hno
                  · refine Or.inr ⟨j, by omega, h2, h3, h4, fun m h6 h7 => ?_⟩
                    by_cases hm : q + 1 ≤ m
                    · exact h5 m hm h7
                    · rw [hst m h6 hm]; exact hno
                refine Wz.less (lv' := [some (.ref (b 0)), some (.int (nI x)), some (.int (nI y)), some (.int (nI z)), some (.int (nI s)), some (.int v), some (.int (sv q)), none]) (by simp [zle] <;> rfl) ?_
                exact ihq v (⟨by omega, hI9⟩)
            ·
              refine z_iload X dX4_firstStep_138 rfl ?_
              refine n_if_eq (tgt := 173) X dX4_firstStep_140 (by decide) (by omega) (fun _ => ?_) (fun c140 => absurd c140 (by decide))
              refine z_iload X dX4_firstStep_173 rfl ?_
              refine z_istore X dX4_firstStep_175 (Nat.le_of_ble_eq_true rfl) ?_
              refine z_lv (lv' := [some (.ref (b 0)), some (.int (nI x)), some (.int (nI y)), some (.int (nI z)), some (.int (nI s)), some (.int v), some (.int (nI q)), some (.int (nI 0))]) rfl ?_
              refine z_iinc (v := sv q) X dX4_firstStep_177 rfl (sv_m q) ?_
              refine z_lv (lv' := [some (.ref (b 0)), some (.int (nI x)), some (.int (nI y)), some (.int (nI z)), some (.int (nI s)), some (.int v), some (.int (sv q)), some (.int (nI 0))]) rfl ?_
              refine z_goto (tgt := 100) X dX4_firstStep_180 (by decide) ?_
              have hI9 : (v = -1 ∧ ∀ m, q ≤ m → m < 8 → ¬ LK S Xn Yn Zn G x y z s (3 + m)) ∨ ∃ j, q ≤ j ∧ j < 8 ∧ v = nI (10 + j) ∧ LK S Xn Yn Zn G x y z s (3 + j) ∧ ∀ m, q ≤ m → m < j → ¬ LK S Xn Yn Zn G x y z s (3 + m) := by
                have hno : ¬ LK S Xn Yn Zn G x y z s (3 + q) := by first | exact fun p => hjq1 ⟨((LK_g (by omega)).mp p).1, ((LK_g (by omega)).mp p).2.1⟩ | exact fun p => u162 ((LK_g (by omega)).mp p).2.2
                have hst : ∀ m, q ≤ m → ¬ q + 1 ≤ m → m = q := fun m h1 h2 => by omega
                rcases hv with ⟨e, h⟩ | ⟨j, h1, h2, h3, h4, h5⟩
                · refine Or.inl ⟨e, fun m h1 h2 => ?_⟩
                  by_cases hm : q + 1 ≤ m
                  · exact h m hm h2
                  · rw [hst m h1 hm]; exact hno
                · refine Or.inr ⟨j, by omega, h2, h3, h4, fun m h6 h7 => ?_⟩
                  by_cases hm : q + 1 ≤ m
                  · exact h5 m hm h7
                  · rw [hst m h6 hm]; exact hno
              refine Wz.less (lv' := [some (.ref (b 0)), some (.int (nI x)), some (.int (nI y)), some (.int (nI z)), some (.int (nI s)), some (.int v), some (.int (sv q)), none]) (by simp [zle] <;> rfl) ?_
              exact ihq v (⟨by omega, hI9⟩)
          refine z_aload_n X dX4_firstStep_105 rfl rfl ?_
          refine z_get X (C := RX4) (T := TX4) (N := 21) (ci := 4) (v := .int (S 18 0)) inZ4 0 4 rfl rfl (by decide) q_fl_X4_111 rfl rfl dX4_firstStep_106 ?_
          refine z_top (y := nI G) (h18) ?_
          refine z_iload X dX4_firstStep_109 rfl ?_
          refine z_callS1 (k := 0) (n := 0) (st := []) X (c_X4_has l D t G q (by omega) (by omega)) k_X4_has q_ml_X4_107 [] ⟨by decide, rfl⟩ (by decide) rfl rfl rfl (Nat.le_of_ble_eq_true rfl) ⟨Nat.zero_le _, Nat.zero_le _⟩ dX4_firstStep_111 (fun r111 h111 => ?_)
          rcases h111 with ⟨rfl, h111⟩ | ⟨rfl, h111⟩
          ·
            refine n_if_eq (tgt := 135) X dX4_firstStep_114 (by decide) (by omega) (fun c114 => absurd c114 (by decide)) (fun _ => ?_)
            refine z_aload_n X dX4_firstStep_117 rfl rfl ?_
            refine z_iload X dX4_firstStep_118 rfl ?_
            refine z_iload_n X dX4_firstStep_120 rfl rfl ?_
            refine z_iload_n X dX4_firstStep_121 rfl rfl ?_
            refine z_iload_n X dX4_firstStep_122 rfl rfl ?_
            refine z_iload X dX4_firstStep_123 rfl ?_
            refine z_callV1 (k := 0) (n := 0) (st := []) X (c_X4_mayTake l D t b (va_up S 22 f) q x y z s (by omega) (by omega) (by omega) hI) k_X4_mayTake q_ml_X4_114 is19 ⟨by decide, rfl⟩ 0 4 rfl rfl (by decide) rfl rfl rfl (Nat.le_of_ble_eq_true rfl) ⟨Nat.zero_le _, Nat.zero_le _⟩ dX4_firstStep_125 (fun r125 h125 => ?_)
            replace h125 : bz r125 (mt S x y z s q) := h125
            rcases h125 with ⟨rfl, h125⟩ | ⟨rfl, h125⟩
            ·
              refine n_if_eq (tgt := 135) X dX4_firstStep_128 (by decide) (by omega) (fun c128 => absurd c128 (by decide)) (fun _ => ?_)
              refine z_iconst (v := nI 1) X dX4_firstStep_131 (by decide) ?_
              refine z_goto (tgt := 136) X dX4_firstStep_132 (by decide) ?_
              exact jq1 (nI 1) (by
                          first
                            | exact bz_t (⟨h111, h125⟩)
                            | exact bz_f (fun p => h111 p.1)
                            | exact bz_f (fun p => h125 p.2))
            ·
              refine n_if_eq (tgt := 135) X dX4_firstStep_128 (by decide) (by omega) (fun _ => ?_) (fun c128 => absurd c128 (by decide))
              refine z_iconst (v := nI 0) X dX4_firstStep_135 (by decide) ?_
              exact jq1 (nI 0) (by
                          first
                            | exact bz_t (⟨h111, h125⟩)
                            | exact bz_f (fun p => h111 p.1)
                            | exact bz_f (fun p => h125 p.2))
          ·
            refine n_if_eq (tgt := 135) X dX4_firstStep_114 (by decide) (by omega) (fun _ => ?_) (fun c114 => absurd c114 (by decide))
            refine z_iconst (v := nI 0) X dX4_firstStep_135 (by decide) ?_
            exact jq1 (nI 0) (by
                          first
                            | exact bz_t (⟨h111, h125⟩)
                            | exact bz_f (fun p => h111 p.1)
                            | exact bz_f (fun p => h125 p.2))
      ·
        refine z_aload_n X dX4_firstStep_72 rfl rfl ?_
        refine z_get X (C := RX4) (T := TX4) (N := 21) (ci := 4) (v := .ref (b 18)) inZ4 0 19 rfl rfl (by decide) q_fl_X4_61 rfl rfl dX4_firstStep_73 ?_
        refine z_aload_n X dX4_firstStep_76 rfl rfl ?_
        refine z_iload_n X dX4_firstStep_77 rfl rfl ?_
        refine z_iload_n X dX4_firstStep_78 rfl rfl ?_
        refine z_iload_n X dX4_firstStep_79 rfl rfl ?_
        refine z_iconst (v := nI 1) X dX4_firstStep_80 (by decide) ?_
        refine n_iadd X dX4_firstStep_81 ?_
        refine z_iload X dX4_firstStep_82 rfl ?_
        refine z_callV1 (k := 0) (n := 0) (st := [.ref (b 18)]) X (c_X4_place l D t b (va_up S 22 f) Xn Yn Zn h15 x y (z + 1) s) k_X4_place q_ml_X4_142 is19 ⟨by decide, rfl⟩ 0 4 rfl rfl (by decide) rfl rfl rfl (Nat.le_of_ble_eq_true rfl) ⟨Nat.zero_le _, Nat.zero_le _⟩ dX4_firstStep_84 (fun r84 h84 => ?_)
        subst h84
        have hix := ix_lt (s := s) hX hx hy (show z + 1 ≤ Zn by omega) hs
        refine n_zald (f := f) X 18 rfl (by omega) (by decide) dX4_firstStep_87 ?_
        rcases hL x y (z + 1) s (by omega) (by omega) (by omega) hs (Nat.zero_le _) with ⟨e9, u87⟩ | ⟨e9, u87⟩
        ·
          refine z_top (y := nI 1) e9 ?_
          refine n_if_eq (tgt := 93) X dX4_firstStep_88 (by decide) (by omega) (fun c88 => absurd c88 (by decide)) (fun _ => ?_)
          refine z_iconst (v := nI 2) X dX4_firstStep_91 (by decide) ?_
          refine z_iret X Z rfl dX4_firstStep_92 ?_
          have n0 : ¬ LK S Xn Yn Zn G x y z s 0 := (by first | exact fun q => u25 (LK_0.mp q).2 | exact fun q => absurd (LK_0.mp q).1 (by omega))
          have n1 : ¬ LK S Xn Yn Zn G x y z s 1 := (by first | exact fun q => u56 (LK_1.mp q).2 | exact fun q => absurd (LK_1.mp q).1 (by omega))
          exact ⟨(), ⟨2, rfl, lead_k (by decide) (LK_2.mpr ⟨c69, u87⟩) (fun i h => by rcases (show i = 0 ∨ i = 1 by omega) with rfl | rfl; exact n0; exact n1)⟩, fun _ _ => trivial⟩
        ·
          refine z_top (y := nI 0) e9 ?_
          refine n_if_eq (tgt := 93) X dX4_firstStep_88 (by decide) (by omega) (fun _ => ?_) (fun c88 => absurd c88 (by decide))
          refine z_iconst (v := (-1)) X dX4_firstStep_93 (by decide) ?_
          refine z_istore X dX4_firstStep_94 (Nat.le_of_ble_eq_true rfl) ?_
          refine z_lv (lv' := [some (.ref (b 0)), some (.int (nI x)), some (.int (nI y)), some (.int (nI z)), some (.int (nI s)), some (.int (-1)), none, none]) rfl ?_
          refine z_bipush (v := nI 7) X dX4_firstStep_96 (by decide) ?_
          refine z_istore X dX4_firstStep_98 (Nat.le_of_ble_eq_true rfl) ?_
          refine z_lv (lv' := [some (.ref (b 0)), some (.int (nI x)), some (.int (nI y)), some (.int (nI z)), some (.int (nI s)), some (.int (-1)), some (.int (nI 7)), none]) rfl ?_
          have n0 : ¬ LK S Xn Yn Zn G x y z s 0 := (by first | exact fun q => u25 (LK_0.mp q).2 | exact fun q => absurd (LK_0.mp q).1 (by omega))
          have n1 : ¬ LK S Xn Yn Zn G x y z s 1 := (by first | exact fun q => u56 (LK_1.mp q).2 | exact fun q => absurd (LK_1.mp q).1 (by omega))
          have n2 : ¬ LK S Xn Yn Zn G x y z s 2 := (by first | exact fun q => u87 (LK_2.mp q).2 | exact fun q => absurd (LK_2.mp q).1 (by omega))
          refine zl_dn (fun q => ∀ (v : Int32), (q ≤ 8 ∧ ((v = -1 ∧ ∀ m, q ≤ m → m < 8 → ¬ LK S Xn Yn Zn G x y z s (3 + m)) ∨ ∃ j, q ≤ j ∧ j < 8 ∧ v = nI (10 + j) ∧ LK S Xn Yn Zn G x y z s (3 + j) ∧ ∀ m, q ≤ m → m < j → ¬ LK S Xn Yn Zn G x y z s (3 + m))) → Wz E 0 0 100 [some (.ref (b 0)), some (.int (nI x)), some (.int (nI y)), some (.int (nI z)), some (.int (nI s)), some (.int v), some (.int (sv q)), none] [] (wM t b (va_up S 22 f))) ?_ ?_ 8 (-1) (⟨Nat.le_refl 8, Or.inl ⟨rfl, fun m h1 h2 => absurd h1 (by omega)⟩⟩)
          ·
            intro v hv
            obtain ⟨hq8, hv⟩ := hv
            refine z_lv (lv' := [some (.ref (b 0)), some (.int (nI x)), some (.int (nI y)), some (.int (nI z)), some (.int (nI s)), some (.int v), some (.int (-1)), none]) rfl ?_
            refine z_iload X dX4_firstStep_100 rfl ?_
            refine z_if_lt (tgt := 183) X dX4_firstStep_102 (by decide) (fun _ => ?_) (fun c102 => absurd c102 (by decide))
            refine z_iload X dX4_firstStep_183 rfl ?_
            refine z_iret X Z rfl dX4_firstStep_185 ?_
            rcases hv with ⟨-, h⟩ | ⟨j, h1, h2, rfl, h4, h5⟩
            · exfalso
              obtain ⟨k, hk, hK⟩ := LK_some hR hn
              exact lt_3 (j := 8) n0 n1 n2 (fun m hm => h m (Nat.zero_le m) hm) k (by omega) hK
            · exact ⟨(), ⟨3 + j, by rw [cnv_g], lead_k (by omega) h4 (lt_3 n0 n1 n2 (fun m hm => h5 m (Nat.zero_le m) hm))⟩, fun _ _ => trivial⟩
          ·
            intro q ihq v hv
            obtain ⟨hq8, hv⟩ := hv
            refine z_lv (lv' := [some (.ref (b 0)), some (.int (nI x)), some (.int (nI y)), some (.int (nI z)), some (.int (nI s)), some (.int v), some (.int (nI q)), none]) rfl ?_
            refine z_iload X dX4_firstStep_100 rfl ?_
            refine n_if_lt (tgt := 183) X dX4_firstStep_102 (by decide) (by omega) ?_
            have jq1 : ∀ (q1 : Int32), bz q1 (G.testBit q = true ∧ mt S x y z s q) → Wz E 0 0 136 [some (.ref (b 0)), some (.int (nI x)), some (.int (nI y)), some (.int (nI z)), some (.int (nI s)), some (.int v), some (.int (nI q)), none] [.int q1] (wM t b (va_up S 22 f)) := by
              intro q1 hjq1
              refine z_istore X dX4_firstStep_136 (Nat.le_of_ble_eq_true rfl) ?_
              refine z_lv (lv' := [some (.ref (b 0)), some (.int (nI x)), some (.int (nI y)), some (.int (nI z)), some (.int (nI s)), some (.int v), some (.int (nI q)), some (.int q1)]) rfl ?_
              rcases hjq1 with ⟨rfl, hjq1⟩ | ⟨rfl, hjq1⟩
              ·
                refine z_iload X dX4_firstStep_138 rfl ?_
                refine n_if_eq (tgt := 173) X dX4_firstStep_140 (by decide) (by omega) (fun c140 => absurd c140 (by decide)) (fun _ => ?_)
                have hsj := zn_or8 s hs q (by omega)
                have hix := ix_lt hX hx hy hz hsj
                refine z_aload_n X dX4_firstStep_143 rfl rfl ?_
                refine z_get X (C := RX4) (T := TX4) (N := 21) (ci := 4) (v := .ref (b 18)) inZ4 0 19 rfl rfl (by decide) q_fl_X4_61 rfl rfl dX4_firstStep_144 ?_
                refine z_aload_n X dX4_firstStep_147 rfl rfl ?_
                refine z_iload_n X dX4_firstStep_148 rfl rfl ?_
                refine z_iload_n X dX4_firstStep_149 rfl rfl ?_
                refine z_iload_n X dX4_firstStep_150 rfl rfl ?_
                refine z_iload X dX4_firstStep_151 rfl ?_
                refine z_iconst (v := nI 1) X dX4_firstStep_153 (by decide) ?_
                refine z_iload X dX4_firstStep_154 rfl ?_
                refine n_ishl1 X dX4_firstStep_156 (by omega) ?_
                refine n_ior X dX4_firstStep_157 ?_
                refine z_callV1 (k := 0) (n := 0) (st := [.ref (b 18)]) X (c_X4_place l D t b (va_up S 22 f) Xn Yn Zn h15 x y z (s ||| (2 ^ q))) k_X4_place q_ml_X4_142 is19 ⟨by decide, rfl⟩ 0 4 rfl rfl (by decide) rfl rfl rfl (Nat.le_of_ble_eq_true rfl) ⟨Nat.zero_le _, Nat.zero_le _⟩ dX4_firstStep_158 (fun r158 h158 => ?_)
                subst h158
                refine n_zald (f := f) X 18 rfl (by omega) (by decide) dX4_firstStep_161 ?_
                rcases hL x y z (s ||| 2 ^ q) hx hy hz hsj (Nat.zero_le _) with ⟨e9, u162⟩ | ⟨e9, u162⟩
                ·
                  refine z_top (y := nI 1) e9 ?_
                  refine n_if_eq (tgt := 173) X dX4_firstStep_162 (by decide) (by omega) (fun c162 => absurd c162 (by decide)) (fun _ => ?_)
                  refine z_bipush (v := nI 10) X dX4_firstStep_165 (by decide) ?_
                  refine z_iload X dX4_firstStep_167 rfl ?_
                  refine n_iadd X dX4_firstStep_169 ?_
                  refine z_goto (tgt := 175) X dX4_firstStep_170 (by decide) ?_
                  refine z_istore X dX4_firstStep_175 (Nat.le_of_ble_eq_true rfl) ?_
                  refine z_lv (lv' := [some (.ref (b 0)), some (.int (nI x)), some (.int (nI y)), some (.int (nI z)), some (.int (nI s)), some (.int (nI (10 + q))), some (.int (nI q)), some (.int (nI 1))]) rfl ?_
                  refine z_iinc (v := sv q) X dX4_firstStep_177 rfl (sv_m q) ?_
                  refine z_lv (lv' := [some (.ref (b 0)), some (.int (nI x)), some (.int (nI y)), some (.int (nI z)), some (.int (nI s)), some (.int (nI (10 + q))), some (.int (sv q)), some (.int (nI 1))]) rfl ?_
                  refine z_goto (tgt := 100) X dX4_firstStep_180 (by decide) ?_
                  have hI9 : (nI (10 + q) = -1 ∧ ∀ m, q ≤ m → m < 8 → ¬ LK S Xn Yn Zn G x y z s (3 + m)) ∨ ∃ j, q ≤ j ∧ j < 8 ∧ nI (10 + q) = nI (10 + j) ∧ LK S Xn Yn Zn G x y z s (3 + j) ∧ ∀ m, q ≤ m → m < j → ¬ LK S Xn Yn Zn G x y z s (3 + m) := by
                    exact Or.inr ⟨q, Nat.le_refl q, by omega, rfl, (LK_g (by omega)).mpr ⟨hjq1.1, hjq1.2, u162⟩, fun m h1 h2 => absurd h1 (by omega)⟩
                  refine Wz.less (lv' := [some (.ref (b 0)), some (.int (nI x)), some (.int (nI y)), some (.int (nI z)), some (.int (nI s)), some (.int (nI (10 + q))), some (.int (sv q)), none]) (by simp [zle] <;> rfl) ?_
                  exact ihq (nI (10 + q)) (⟨by omega, hI9⟩)
                ·
                  refine z_top (y := nI 0) e9 ?_
                  refine n_if_eq (tgt := 173) X dX4_firstStep_162 (by decide) (by omega) (fun _ => ?_) (fun c162 => absurd c162 (by decide))
                  refine z_iload X dX4_firstStep_173 rfl ?_
                  refine z_istore X dX4_firstStep_175 (Nat.le_of_ble_eq_true rfl) ?_
                  refine z_lv (lv' := [some (.ref (b 0)), some (.int (nI x)), some (.int (nI y)), some (.int (nI z)), some (.int (nI s)), some (.int v), some (.int (nI q)), some (.int (nI 1))]) rfl ?_
                  refine z_iinc (v := sv q) X dX4_firstStep_177 rfl (sv_m q) ?_
                  refine z_lv (lv' := [some (.ref (b 0)), some (.int (nI x)), some (.int (nI y)), some (.int (nI z)), some (.int (nI s)), some (.int v), some (.int (sv q)), some (.int (nI 1))]) rfl ?_
                  refine z_goto (tgt := 100) X dX4_firstStep_180 (by decide) ?_
                  have hI9 : (v = -1 ∧ ∀ m, q ≤ m → m < 8 → ¬ LK S Xn Yn Zn G x y z s (3 + m)) ∨ ∃ j, q ≤ j ∧ j < 8 ∧ v = nI (10 + j) ∧ LK S Xn Yn Zn G x y z s (3 + j) ∧ ∀ m, q ≤ m → m < j → ¬ LK S Xn Yn Zn G x y z s (3 + m) := by
                    have hno : ¬ LK S Xn Yn Zn G x y z s (3 + q) := by first | exact fun p => hjq1 ⟨((LK_g (by omega)).mp p).1, ((LK_g (by omega)).mp p).2.1⟩ | exact fun p => u162 ((LK_g (by omega)).mp p).2.2
                    have hst : ∀ m, q ≤ m → ¬ q + 1 ≤ m → m = q := fun m h1 h2 => by omega
                    rcases hv with ⟨e, h⟩ | ⟨j, h1, h2, h3, h4, h5⟩
                    · refine Or.inl ⟨e, fun m h1 h2 => ?_⟩
                      by_cases hm : q + 1 ≤ m
                      · exact h m hm h2
                      · rw [hst m h1 hm]; exact hno
                    · refine Or.inr ⟨j, by omega, h2, h3, h4, fun m h6 h7 => ?_⟩
                      by_cases hm : q + 1 ≤ m
                      · exact h5 m hm h7
                      · rw [hst m h6 hm]; exact hno
                  refine Wz.less (lv' := [some (.ref (b 0)), some (.int (nI x)), some (.int (nI y)), some (.int (nI z)), some (.int (nI s)), some (.int v), some (.int (sv q)), none]) (by simp [zle] <;> rfl) ?_
                  exact ihq v (⟨by omega, hI9⟩)
              ·
                refine z_iload X dX4_firstStep_138 rfl ?_
                refine n_if_eq (tgt := 173) X dX4_firstStep_140 (by decide) (by omega) (fun _ => ?_) (fun c140 => absurd c140 (by decide))
                refine z_iload X dX4_firstStep_173 rfl ?_
                refine z_istore X dX4_firstStep_175 (Nat.le_of_ble_eq_true rfl) ?_
                refine z_lv (lv' := [some (.ref (b 0)), some (.int (nI x)), some (.int (nI y)), some (.int (nI z)), some (.int (nI s)), some (.int v), some (.int (nI q)), some (.int (nI 0))]) rfl ?_
                refine z_iinc (v := sv q) X dX4_firstStep_177 rfl (sv_m q) ?_
                refine z_lv (lv' := [some (.ref (b 0)), some (.int (nI x)), some (.int (nI y)), some (.int (nI z)), some (.int (nI s)), some (.int v), some (.int (sv q)), some (.int (nI 0))]) rfl ?_
                refine z_goto (tgt := 100) X dX4_firstStep_180 (by decide) ?_
                have hI9 : (v = -1 ∧ ∀ m, q ≤ m → m < 8 → ¬ LK S Xn Yn Zn G x y z s (3 + m)) ∨ ∃ j, q ≤ j ∧ j < 8 ∧ v = nI (10 + j) ∧ LK S Xn Yn Zn G x y z s (3 + j) ∧ ∀ m, q ≤ m → m < j → ¬ LK S Xn Yn Zn G x y z s (3 + m) := by
                  have hno : ¬ LK S Xn Yn Zn G x y z s (3 + q) := by first | exact fun p => hjq1 ⟨((LK_g (by omega)).mp p).1, ((LK_g (by omega)).mp p).2.1⟩ | exact fun p => u162 ((LK_g (by omega)).mp p).2.2
                  have hst : ∀ m, q ≤ m → ¬ q + 1 ≤ m → m = q := fun m h1 h2 => by omega
                  rcases hv with ⟨e, h⟩ | ⟨j, h1, h2, h3, h4, h5⟩
                  · refine Or.inl ⟨e, fun m h1 h2 => ?_⟩
                    by_cases hm : q + 1 ≤ m
                    · exact h m hm h2
                    · rw [hst m h1 hm]; exact hno
                  · refine Or.inr ⟨j, by omega, h2, h3, h4, fun m h6 h7 => ?_⟩
                    by_cases hm : q + 1 ≤ m
                    · exact h5 m hm h7
                    · rw [hst m h6 hm]; exact hno
                refine Wz.less (lv' := [some (.ref (b 0)), some (.int (nI x)), some (.int (nI y)), some (.int (nI z)), some (.int (nI s)), some (.int v), some (.int (sv q)), none]) (by simp [zle] <;> rfl) ?_
                exact ihq v (⟨by omega, hI9⟩)
            refine z_aload_n X dX4_firstStep_105 rfl rfl ?_
            refine z_get X (C := RX4) (T := TX4) (N := 21) (ci := 4) (v := .int (S 18 0)) inZ4 0 4 rfl rfl (by decide) q_fl_X4_111 rfl rfl dX4_firstStep_106 ?_
            refine z_top (y := nI G) (h18) ?_
            refine z_iload X dX4_firstStep_109 rfl ?_
            refine z_callS1 (k := 0) (n := 0) (st := []) X (c_X4_has l D t G q (by omega) (by omega)) k_X4_has q_ml_X4_107 [] ⟨by decide, rfl⟩ (by decide) rfl rfl rfl (Nat.le_of_ble_eq_true rfl) ⟨Nat.zero_le _, Nat.zero_le _⟩ dX4_firstStep_111 (fun r111 h111 => ?_)
            rcases h111 with ⟨rfl, h111⟩ | ⟨rfl, h111⟩
            ·
              refine n_if_eq (tgt := 135) X dX4_firstStep_114 (by decide) (by omega) (fun c114 => absurd c114 (by decide)) (fun _ => ?_)
              refine z_aload_n X dX4_firstStep_117 rfl rfl ?_
              refine z_iload X dX4_firstStep_118 rfl ?_
              refine z_iload_n X dX4_firstStep_120 rfl rfl ?_
              refine z_iload_n X dX4_firstStep_121 rfl rfl ?_
              refine z_iload_n X dX4_firstStep_122 rfl rfl ?_
              refine z_iload X dX4_firstStep_123 rfl ?_
              refine z_callV1 (k := 0) (n := 0) (st := []) X (c_X4_mayTake l D t b (va_up S 22 f) q x y z s (by omega) (by omega) (by omega) hI) k_X4_mayTake q_ml_X4_114 is19 ⟨by decide, rfl⟩ 0 4 rfl rfl (by decide) rfl rfl rfl (Nat.le_of_ble_eq_true rfl) ⟨Nat.zero_le _, Nat.zero_le _⟩ dX4_firstStep_125 (fun r125 h125 => ?_)
              replace h125 : bz r125 (mt S x y z s q) := h125
              rcases h125 with ⟨rfl, h125⟩ | ⟨rfl, h125⟩
              ·
                refine n_if_eq (tgt := 135) X dX4_firstStep_128 (by decide) (by omega) (fun c128 => absurd c128 (by decide)) (fun _ => ?_)
                refine z_iconst (v := nI 1) X dX4_firstStep_131 (by decide) ?_
                refine z_goto (tgt := 136) X dX4_firstStep_132 (by decide) ?_
                exact jq1 (nI 1) (by
                            first
                              | exact bz_t (⟨h111, h125⟩)
                              | exact bz_f (fun p => h111 p.1)
                              | exact bz_f (fun p => h125 p.2))
              ·
                refine n_if_eq (tgt := 135) X dX4_firstStep_128 (by decide) (by omega) (fun _ => ?_) (fun c128 => absurd c128 (by decide))
                refine z_iconst (v := nI 0) X dX4_firstStep_135 (by decide) ?_
                exact jq1 (nI 0) (by
                            first
                              | exact bz_t (⟨h111, h125⟩)
                              | exact bz_f (fun p => h111 p.1)
                              | exact bz_f (fun p => h125 p.2))
            ·
              refine n_if_eq (tgt := 135) X dX4_firstStep_114 (by decide) (by omega) (fun _ => ?_) (fun c114 => absurd c114 (by decide))
              refine z_iconst (v := nI 0) X dX4_firstStep_135 (by decide) ?_
              exact jq1 (nI 0) (by
                            first
                              | exact bz_t (⟨h111, h125⟩)
                              | exact bz_f (fun p => h111 p.1)
                              | exact bz_f (fun p => h125 p.2))
    ·
      refine z_aload_n X dX4_firstStep_41 rfl rfl ?_
      refine z_get X (C := RX4) (T := TX4) (N := 21) (ci := 4) (v := .ref (b 18)) inZ4 0 19 rfl rfl (by decide) q_fl_X4_61 rfl rfl dX4_firstStep_42 ?_
      refine z_aload_n X dX4_firstStep_45 rfl rfl ?_
      refine z_iload_n X dX4_firstStep_46 rfl rfl ?_
      refine z_iload_n X dX4_firstStep_47 rfl rfl ?_
      refine z_iconst (v := nI 1) X dX4_firstStep_48 (by decide) ?_
      refine n_iadd X dX4_firstStep_49 ?_
      refine z_iload_n X dX4_firstStep_50 rfl rfl ?_
      refine z_iload X dX4_firstStep_51 rfl ?_
      refine z_callV1 (k := 0) (n := 0) (st := [.ref (b 18)]) X (c_X4_place l D t b (va_up S 22 f) Xn Yn Zn h15 x (y + 1) z s) k_X4_place q_ml_X4_142 is19 ⟨by decide, rfl⟩ 0 4 rfl rfl (by decide) rfl rfl rfl (Nat.le_of_ble_eq_true rfl) ⟨Nat.zero_le _, Nat.zero_le _⟩ dX4_firstStep_53 (fun r53 h53 => ?_)
      subst h53
      have hix := ix_lt (s := s) hX hx (show y + 1 ≤ Yn by omega) hz hs
      refine n_zald (f := f) X 18 rfl (by omega) (by decide) dX4_firstStep_56 ?_
      rcases hL x (y + 1) z s (by omega) (by omega) (by omega) hs (Nat.zero_le _) with ⟨e9, u56⟩ | ⟨e9, u56⟩
      ·
        refine z_top (y := nI 1) e9 ?_
        refine n_if_eq (tgt := 62) X dX4_firstStep_57 (by decide) (by omega) (fun c57 => absurd c57 (by decide)) (fun _ => ?_)
        refine z_iconst (v := nI 1) X dX4_firstStep_60 (by decide) ?_
        refine z_iret X Z rfl dX4_firstStep_61 ?_
        have n0 : ¬ LK S Xn Yn Zn G x y z s 0 := (by first | exact fun q => u25 (LK_0.mp q).2 | exact fun q => absurd (LK_0.mp q).1 (by omega))
        exact ⟨(), ⟨1, rfl, lead_k (by decide) (LK_1.mpr ⟨c38, u56⟩) (fun i h => by rw [show i = 0 by omega]; exact n0)⟩, fun _ _ => trivial⟩
      ·
        refine z_top (y := nI 0) e9 ?_
        refine n_if_eq (tgt := 62) X dX4_firstStep_57 (by decide) (by omega) (fun _ => ?_) (fun c57 => absurd c57 (by decide))
        refine z_iload_n X dX4_firstStep_62 rfl rfl ?_
        refine z_aload_n X dX4_firstStep_63 rfl rfl ?_
        refine z_get X (C := RX4) (T := TX4) (N := 21) (ci := 4) (v := .ref (b 3)) inZ4 0 2 rfl rfl (by decide) q_fl_X4_16 rfl rfl dX4_firstStep_64 ?_
        refine z_iconst (v := nI 2) X dX4_firstStep_67 (by decide) ?_
        refine n_iald (f := S 15) X 3 rfl (by omega) (by decide) dX4_firstStep_68 ?_
        refine z_top (y := nI Zn) (by rw [h15]; rfl) ?_
        refine n_icmp_ge (tgt := 93) X dX4_firstStep_69 (by decide) (by omega) (by omega) (fun c69 => ?_) (fun c69 => ?_)
        ·
          refine z_iconst (v := (-1)) X dX4_firstStep_93 (by decide) ?_
          refine z_istore X dX4_firstStep_94 (Nat.le_of_ble_eq_true rfl) ?_
          refine z_lv (lv' := [some (.ref (b 0)), some (.int (nI x)), some (.int (nI y)), some (.int (nI z)), some (.int (nI s)), some (.int (-1)), none, none]) rfl ?_
          refine z_bipush (v := nI 7) X dX4_firstStep_96 (by decide) ?_
          refine z_istore X dX4_firstStep_98 (Nat.le_of_ble_eq_true rfl) ?_
          refine z_lv (lv' := [some (.ref (b 0)), some (.int (nI x)), some (.int (nI y)), some (.int (nI z)), some (.int (nI s)), some (.int (-1)), some (.int (nI 7)), none]) rfl ?_
          have n0 : ¬ LK S Xn Yn Zn G x y z s 0 := (by first | exact fun q => u25 (LK_0.mp q).2 | exact fun q => absurd (LK_0.mp q).1 (by omega))
          have n1 : ¬ LK S Xn Yn Zn G x y z s 1 := (by first | exact fun q => u56 (LK_1.mp q).2 | exact fun q => absurd (LK_1.mp q).1 (by omega))
          have n2 : ¬ LK S Xn Yn Zn G x y z s 2 := (by first | exact fun q => u87 (LK_2.mp q).2 | exact fun q => absurd (LK_2.mp q).1 (by omega))
          refine zl_dn (fun q => ∀ (v : Int32), (q ≤ 8 ∧ ((v = -1 ∧ ∀ m, q ≤ m → m < 8 → ¬ LK S Xn Yn Zn G x y z s (3 + m)) ∨ ∃ j, q ≤ j ∧ j < 8 ∧ v = nI (10 + j) ∧ LK S Xn Yn Zn G x y z s (3 + j) ∧ ∀ m, q ≤ m → m < j → ¬ LK S Xn Yn Zn G x y z s (3 + m))) → Wz E 0 0 100 [some (.ref (b 0)), some (.int (nI x)), some (.int (nI y)), some (.int (nI z)), some (.int (nI s)), some (.int v), some (.int (sv q)), none] [] (wM t b (va_up S 22 f))) ?_ ?_ 8 (-1) (⟨Nat.le_refl 8, Or.inl ⟨rfl, fun m h1 h2 => absurd h1 (by omega)⟩⟩)
          ·
            intro v hv
            obtain ⟨hq8, hv⟩ := hv
            refine z_lv (lv' := [some (.ref (b 0)), some (.int (nI x)), some (.int (nI y)), some (.int (nI z)), some (.int (nI s)), some (.int v), some (.int (-1)), none]) rfl ?_
            refine z_iload X dX4_firstStep_100 rfl ?_
            refine z_if_lt (tgt := 183) X dX4_firstStep_102 (by decide) (fun _ => ?_) (fun c102 => absurd c102 (by decide))
            refine z_iload X dX4_firstStep_183 rfl ?_
            refine z_iret X Z rfl dX4_firstStep_185 ?_
            rcases hv with ⟨-, h⟩ | ⟨j, h1, h2, rfl, h4, h5⟩
            · exfalso
              obtain ⟨k, hk, hK⟩ := LK_some hR hn
              exact lt_3 (j := 8) n0 n1 n2 (fun m hm => h m (Nat.zero_le m) hm) k (by omega) hK
            · exact ⟨(), ⟨3 + j, by rw [cnv_g], lead_k (by omega) h4 (lt_3 n0 n1 n2 (fun m hm => h5 m (Nat.zero_le m) hm))⟩, fun _ _ => trivial⟩
          ·
            intro q ihq v hv
            obtain ⟨hq8, hv⟩ := hv
            refine z_lv (lv' := [some (.ref (b 0)), some (.int (nI x)), some (.int (nI y)), some (.int (nI z)), some (.int (nI s)), some (.int v), some (.int (nI q)), none]) rfl ?_
            refine z_iload X dX4_firstStep_100 rfl ?_
            refine n_if_lt (tgt := 183) X dX4_firstStep_102 (by decide) (by omega) ?_
            have jq1 : ∀ (q1 : Int32), bz q1 (G.testBit q = true ∧ mt S x y z s q) → Wz E 0 0 136 [some (.ref (b 0)), some (.int (nI x)), some (.int (nI y)), some (.int (nI z)), some (.int (nI s)), some (.int v), some (.int (nI q)), none] [.int q1] (wM t b (va_up S 22 f)) := by
              intro q1 hjq1
              refine z_istore X dX4_firstStep_136 (Nat.le_of_ble_eq_true rfl) ?_
              refine z_lv (lv' := [some (.ref (b 0)), some (.int (nI x)), some (.int (nI y)), some (.int (nI z)), some (.int (nI s)), some (.int v), some (.int (nI q)), some (.int q1)]) rfl ?_
              rcases hjq1 with ⟨rfl, hjq1⟩ | ⟨rfl, hjq1⟩
              ·
                refine z_iload X dX4_firstStep_138 rfl ?_
                refine n_if_eq (tgt := 173) X dX4_firstStep_140 (by decide) (by omega) (fun c140 => absurd c140 (by decide)) (fun _ => ?_)
                have hsj := zn_or8 s hs q (by omega)
                have hix := ix_lt hX hx hy hz hsj
                refine z_aload_n X dX4_firstStep_143 rfl rfl ?_
                refine z_get X (C := RX4) (T := TX4) (N := 21) (ci := 4) (v := .ref (b 18)) inZ4 0 19 rfl rfl (by decide) q_fl_X4_61 rfl rfl dX4_firstStep_144 ?_
                refine z_aload_n X dX4_firstStep_147 rfl rfl ?_
                refine z_iload_n X dX4_firstStep_148 rfl rfl ?_
                refine z_iload_n X dX4_firstStep_149 rfl rfl ?_
                refine z_iload_n X dX4_firstStep_150 rfl rfl ?_
                refine z_iload X dX4_firstStep_151 rfl ?_
                refine z_iconst (v := nI 1) X dX4_firstStep_153 (by decide) ?_
                refine z_iload X dX4_firstStep_154 rfl ?_
                refine n_ishl1 X dX4_firstStep_156 (by omega) ?_
                refine n_ior X dX4_firstStep_157 ?_
                refine z_callV1 (k := 0) (n := 0) (st := [.ref (b 18)]) X (c_X4_place l D t b (va_up S 22 f) Xn Yn Zn h15 x y z (s ||| (2 ^ q))) k_X4_place q_ml_X4_142 is19 ⟨by decide, rfl⟩ 0 4 rfl rfl (by decide) rfl rfl rfl (Nat.le_of_ble_eq_true rfl) ⟨Nat.zero_le _, Nat.zero_le _⟩ dX4_firstStep_158 (fun r158 h158 => ?_)
                subst h158
                refine n_zald (f := f) X 18 rfl (by omega) (by decide) dX4_firstStep_161 ?_
                rcases hL x y z (s ||| 2 ^ q) hx hy hz hsj (Nat.zero_le _) with ⟨e9, u162⟩ | ⟨e9, u162⟩
                ·
                  refine z_top (y := nI 1) e9 ?_
                  refine n_if_eq (tgt := 173) X dX4_firstStep_162 (by decide) (by omega) (fun c162 => absurd c162 (by decide)) (fun _ => ?_)
                  refine z_bipush (v := nI 10) X dX4_firstStep_165 (by decide) ?_
                  refine z_iload X dX4_firstStep_167 rfl ?_
                  refine n_iadd X dX4_firstStep_169 ?_
                  refine z_goto (tgt := 175) X dX4_firstStep_170 (by decide) ?_
                  refine z_istore X dX4_firstStep_175 (Nat.le_of_ble_eq_true rfl) ?_
                  refine z_lv (lv' := [some (.ref (b 0)), some (.int (nI x)), some (.int (nI y)), some (.int (nI z)), some (.int (nI s)), some (.int (nI (10 + q))), some (.int (nI q)), some (.int (nI 1))]) rfl ?_
                  refine z_iinc (v := sv q) X dX4_firstStep_177 rfl (sv_m q) ?_
                  refine z_lv (lv' := [some (.ref (b 0)), some (.int (nI x)), some (.int (nI y)), some (.int (nI z)), some (.int (nI s)), some (.int (nI (10 + q))), some (.int (sv q)), some (.int (nI 1))]) rfl ?_
                  refine z_goto (tgt := 100) X dX4_firstStep_180 (by decide) ?_
                  have hI9 : (nI (10 + q) = -1 ∧ ∀ m, q ≤ m → m < 8 → ¬ LK S Xn Yn Zn G x y z s (3 + m)) ∨ ∃ j, q ≤ j ∧ j < 8 ∧ nI (10 + q) = nI (10 + j) ∧ LK S Xn Yn Zn G x y z s (3 + j) ∧ ∀ m, q ≤ m → m < j → ¬ LK S Xn Yn Zn G x y z s (3 + m) := by
                    exact Or.inr ⟨q, Nat.le_refl q, by omega, rfl, (LK_g (by omega)).mpr ⟨hjq1.1, hjq1.2, u162⟩, fun m h1 h2 => absurd h1 (by omega)⟩
                  refine Wz.less (lv' := [some (.ref (b 0)), some (.int (nI x)), some (.int (nI y)), some (.int (nI z)), some (.int (nI s)), some (.int (nI (10 + q))), some (.int (sv q)), none]) (by simp [zle] <;> rfl) ?_
                  exact ihq (nI (10 + q)) (⟨by omega, hI9⟩)
                ·
                  refine z_top (y := nI 0) e9 ?_
                  refine n_if_eq (tgt := 173) X dX4_firstStep_162 (by decide) (by omega) (fun _ => ?_) (fun c162 => absurd c162 (by decide))
                  refine z_iload X dX4_firstStep_173 rfl ?_
                  refine z_istore X dX4_firstStep_175 (Nat.le_of_ble_eq_true rfl) ?_
                  refine z_lv (lv' := [some (.ref (b 0)), some (.int (nI x)), some (.int (nI y)), some (.int (nI z)), some (.int (nI s)), some (.int v), some (.int (nI q)), some (.int (nI 1))]) rfl ?_
                  refine z_iinc (v := sv q) X dX4_firstStep_177 rfl (sv_m q) ?_
                  refine z_lv (lv' := [some (.ref (b 0)), some (.int (nI x)), some (.int (nI y)), some (.int (nI z)), some (.int (nI s)), some (.int v), some (.int (sv q)), some (.int (nI 1))]) rfl ?_
                  refine z_goto (tgt := 100) X dX4_firstStep_180 (by decide) ?_
                  have hI9 : (v = -1 ∧ ∀ m, q ≤ m → m < 8 → ¬ LK S Xn Yn Zn G x y z s (3 + m)) ∨ ∃ j, q ≤ j ∧ j < 8 ∧ v = nI (10 + j) ∧ LK S Xn Yn Zn G x y z s (3 + j) ∧ ∀ m, q ≤ m → m < j → ¬ LK S Xn Yn Zn G x y z s (3 + m) := by
                    have hno : ¬ LK S Xn Yn Zn G x y z s (3 + q) := by first | exact fun p => hjq1 ⟨((LK_g (by omega)).mp p).1, ((LK_g (by omega)).mp p).2.1⟩ | exact fun p => u162 ((LK_g (by omega)).mp p).2.2
                    have hst : ∀ m, q ≤ m → ¬ q + 1 ≤ m → m = q := fun m h1 h2 => by omega
                    rcases hv with ⟨e, h⟩ | ⟨j, h1, h2, h3, h4, h5⟩
                    · refine Or.inl ⟨e, fun m h1 h2 => ?_⟩
                      by_cases hm : q + 1 ≤ m
                      · exact h m hm h2
                      · rw [hst m h1 hm]; exact hno
                    · refine Or.inr ⟨j, by omega, h2, h3, h4, fun m h6 h7 => ?_⟩
                      by_cases hm : q + 1 ≤ m
                      · exact h5 m hm h7
                      · rw [hst m h6 hm]; exact hno
                  refine Wz.less (lv' := [some (.ref (b 0)), some (.int (nI x)), some (.int (nI y)), some (.int (nI z)), some (.int (nI s)), some (.int v), some (.int (sv q)), none]) (by simp [zle] <;> rfl) ?_
                  exact ihq v (⟨by omega, hI9⟩)
              ·
                refine z_iload X dX4_firstStep_138 rfl ?_
                refine n_if_eq (tgt := 173) X dX4_firstStep_140 (by decide) (by omega) (fun _ => ?_) (fun c140 => absurd c140 (by decide))
                refine z_iload X dX4_firstStep_173 rfl ?_
                refine z_istore X dX4_firstStep_175 (Nat.le_of_ble_eq_true rfl) ?_
                refine z_lv (lv' := [some (.ref (b 0)), some (.int (nI x)), some (.int (nI y)), some (.int (nI z)), some (.int (nI s)), some (.int v), some (.int (nI q)), some (.int (nI 0))]) rfl ?_
                refine z_iinc (v := sv q) X dX4_firstStep_177 rfl (sv_m q) ?_
                refine z_lv (lv' := [some (.ref (b 0)), some (.int (nI x)), some (.int (nI y)), some (.int (nI z)), some (.int (nI s)), some (.int v), some (.int (sv q)), some (.int (nI 0))]) rfl ?_
                refine z_goto (tgt := 100) X dX4_firstStep_180 (by decide) ?_
                have hI9 : (v = -1 ∧ ∀ m, q ≤ m → m < 8 → ¬ LK S Xn Yn Zn G x y z s (3 + m)) ∨ ∃ j, q ≤ j ∧ j < 8 ∧ v = nI (10 + j) ∧ LK S Xn Yn Zn G x y z s (3 + j) ∧ ∀ m, q ≤ m → m < j → ¬ LK S Xn Yn Zn G x y z s (3 + m) := by
                  have hno : ¬ LK S Xn Yn Zn G x y z s (3 + q) := by first | exact fun p => hjq1 ⟨((LK_g (by omega)).mp p).1, ((LK_g (by omega)).mp p).2.1⟩ | exact fun p => u162 ((LK_g (by omega)).mp p).2.2
                  have hst : ∀ m, q ≤ m → ¬ q + 1 ≤ m → m = q := fun m h1 h2 => by omega
                  rcases hv with ⟨e, h⟩ | ⟨j, h1, h2, h3, h4, h5⟩
                  · refine Or.inl ⟨e, fun m h1 h2 => ?_⟩
                    by_cases hm : q + 1 ≤ m
                    · exact h m hm h2
                    · rw [hst m h1 hm]; exact hno
                  · refine Or.inr ⟨j, by omega, h2, h3, h4, fun m h6 h7 => ?_⟩
                    by_cases hm : q + 1 ≤ m
                    · exact h5 m hm h7
                    · rw [hst m h6 hm]; exact hno
                refine Wz.less (lv' := [some (.ref (b 0)), some (.int (nI x)), some (.int (nI y)), some (.int (nI z)), some (.int (nI s)), some (.int v), some (.int (sv q)), none]) (by simp [zle] <;> rfl) ?_
                exact ihq v (⟨by omega, hI9⟩)
            refine z_aload_n X dX4_firstStep_105 rfl rfl ?_
            refine z_get X (C := RX4) (T := TX4) (N := 21) (ci := 4) (v := .int (S 18 0)) inZ4 0 4 rfl rfl (by decide) q_fl_X4_111 rfl rfl dX4_firstStep_106 ?_
            refine z_top (y := nI G) (h18) ?_
            refine z_iload X dX4_firstStep_109 rfl ?_
            refine z_callS1 (k := 0) (n := 0) (st := []) X (c_X4_has l D t G q (by omega) (by omega)) k_X4_has q_ml_X4_107 [] ⟨by decide, rfl⟩ (by decide) rfl rfl rfl (Nat.le_of_ble_eq_true rfl) ⟨Nat.zero_le _, Nat.zero_le _⟩ dX4_firstStep_111 (fun r111 h111 => ?_)
            rcases h111 with ⟨rfl, h111⟩ | ⟨rfl, h111⟩
            ·
              refine n_if_eq (tgt := 135) X dX4_firstStep_114 (by decide) (by omega) (fun c114 => absurd c114 (by decide)) (fun _ => ?_)
              refine z_aload_n X dX4_firstStep_117 rfl rfl ?_
              refine z_iload X dX4_firstStep_118 rfl ?_
              refine z_iload_n X dX4_firstStep_120 rfl rfl ?_
              refine z_iload_n X dX4_firstStep_121 rfl rfl ?_
              refine z_iload_n X dX4_firstStep_122 rfl rfl ?_
              refine z_iload X dX4_firstStep_123 rfl ?_
              refine z_callV1 (k := 0) (n := 0) (st := []) X (c_X4_mayTake l D t b (va_up S 22 f) q x y z s (by omega) (by omega) (by omega) hI) k_X4_mayTake q_ml_X4_114 is19 ⟨by decide, rfl⟩ 0 4 rfl rfl (by decide) rfl rfl rfl (Nat.le_of_ble_eq_true rfl) ⟨Nat.zero_le _, Nat.zero_le _⟩ dX4_firstStep_125 (fun r125 h125 => ?_)
              replace h125 : bz r125 (mt S x y z s q) := h125
              rcases h125 with ⟨rfl, h125⟩ | ⟨rfl, h125⟩
              ·
                refine n_if_eq (tgt := 135) X dX4_firstStep_128 (by decide) (by omega) (fun c128 => absurd c128 (by decide)) (fun _ => ?_)
                refine z_iconst (v := nI 1) X dX4_firstStep_131 (by decide) ?_
                refine z_goto (tgt := 136) X dX4_firstStep_132 (by decide) ?_
                exact jq1 (nI 1) (by
                            first
                              | exact bz_t (⟨h111, h125⟩)
                              | exact bz_f (fun p => h111 p.1)
                              | exact bz_f (fun p => h125 p.2))
              ·
                refine n_if_eq (tgt := 135) X dX4_firstStep_128 (by decide) (by omega) (fun _ => ?_) (fun c128 => absurd c128 (by decide))
                refine z_iconst (v := nI 0) X dX4_firstStep_135 (by decide) ?_
                exact jq1 (nI 0) (by
                            first
                              | exact bz_t (⟨h111, h125⟩)
                              | exact bz_f (fun p => h111 p.1)
                              | exact bz_f (fun p => h125 p.2))
            ·
              refine n_if_eq (tgt := 135) X dX4_firstStep_114 (by decide) (by omega) (fun _ => ?_) (fun c114 => absurd c114 (by decide))
              refine z_iconst (v := nI 0) X dX4_firstStep_135 (by decide) ?_
              exact jq1 (nI 0) (by
                            first
                              | exact bz_t (⟨h111, h125⟩)
                              | exact bz_f (fun p => h111 p.1)
                              | exact bz_f (fun p => h125 p.2))
        ·
          refine z_aload_n X dX4_firstStep_72 rfl rfl ?_
          refine z_get X (C := RX4) (T := TX4) (N := 21) (ci := 4) (v := .ref (b 18)) inZ4 0 19 rfl rfl (by decide) q_fl_X4_61 rfl rfl dX4_firstStep_73 ?_
          refine z_aload_n X dX4_firstStep_76 rfl rfl ?_
          refine z_iload_n X dX4_firstStep_77 rfl rfl ?_
          refine z_iload_n X dX4_firstStep_78 rfl rfl ?_
          refine z_iload_n X dX4_firstStep_79 rfl rfl ?_
          refine z_iconst (v := nI 1) X dX4_firstStep_80 (by decide) ?_
          refine n_iadd X dX4_firstStep_81 ?_
          refine z_iload X dX4_firstStep_82 rfl ?_
          refine z_callV1 (k := 0) (n := 0) (st := [.ref (b 18)]) X (c_X4_place l D t b (va_up S 22 f) Xn Yn Zn h15 x y (z + 1) s) k_X4_place q_ml_X4_142 is19 ⟨by decide, rfl⟩ 0 4 rfl rfl (by decide) rfl rfl rfl (Nat.le_of_ble_eq_true rfl) ⟨Nat.zero_le _, Nat.zero_le _⟩ dX4_firstStep_84 (fun r84 h84 => ?_)
          subst h84
          have hix := ix_lt (s := s) hX hx hy (show z + 1 ≤ Zn by omega) hs
          refine n_zald (f := f) X 18 rfl (by omega) (by decide) dX4_firstStep_87 ?_
          rcases hL x y (z + 1) s (by omega) (by omega) (by omega) hs (Nat.zero_le _) with ⟨e9, u87⟩ | ⟨e9, u87⟩
          ·
            refine z_top (y := nI 1) e9 ?_
            refine n_if_eq (tgt := 93) X dX4_firstStep_88 (by decide) (by omega) (fun c88 => absurd c88 (by decide)) (fun _ => ?_)
            refine z_iconst (v := nI 2) X dX4_firstStep_91 (by decide) ?_
            refine z_iret X Z rfl dX4_firstStep_92 ?_
            have n0 : ¬ LK S Xn Yn Zn G x y z s 0 := (by first | exact fun q => u25 (LK_0.mp q).2 | exact fun q => absurd (LK_0.mp q).1 (by omega))
            have n1 : ¬ LK S Xn Yn Zn G x y z s 1 := (by first | exact fun q => u56 (LK_1.mp q).2 | exact fun q => absurd (LK_1.mp q).1 (by omega))
            exact ⟨(), ⟨2, rfl, lead_k (by decide) (LK_2.mpr ⟨c69, u87⟩) (fun i h => by rcases (show i = 0 ∨ i = 1 by omega) with rfl | rfl; exact n0; exact n1)⟩, fun _ _ => trivial⟩
          ·
            refine z_top (y := nI 0) e9 ?_
            refine n_if_eq (tgt := 93) X dX4_firstStep_88 (by decide) (by omega) (fun _ => ?_) (fun c88 => absurd c88 (by decide))
            refine z_iconst (v := (-1)) X dX4_firstStep_93 (by decide) ?_
            refine z_istore X dX4_firstStep_94 (Nat.le_of_ble_eq_true rfl) ?_
            refine z_lv (lv' := [some (.ref (b 0)), some (.int (nI x)), some (.int (nI y)), some (.int (nI z)), some (.int (nI s)), some (.int (-1)), none, none]) rfl ?_
            refine z_bipush (v := nI 7) X dX4_firstStep_96 (by decide) ?_
            refine z_istore X dX4_firstStep_98 (Nat.le_of_ble_eq_true rfl) ?_
            refine z_lv (lv' := [some (.ref (b 0)), some (.int (nI x)), some (.int (nI y)), some (.int (nI z)), some (.int (nI s)), some (.int (-1)), some (.int (nI 7)), none]) rfl ?_
            have n0 : ¬ LK S Xn Yn Zn G x y z s 0 := (by first | exact fun q => u25 (LK_0.mp q).2 | exact fun q => absurd (LK_0.mp q).1 (by omega))
            have n1 : ¬ LK S Xn Yn Zn G x y z s 1 := (by first | exact fun q => u56 (LK_1.mp q).2 | exact fun q => absurd (LK_1.mp q).1 (by omega))
            have n2 : ¬ LK S Xn Yn Zn G x y z s 2 := (by first | exact fun q => u87 (LK_2.mp q).2 | exact fun q => absurd (LK_2.mp q).1 (by omega))
            refine zl_dn (fun q => ∀ (v : Int32), (q ≤ 8 ∧ ((v = -1 ∧ ∀ m, q ≤ m → m < 8 → ¬ LK S Xn Yn Zn G x y z s (3 + m)) ∨ ∃ j, q ≤ j ∧ j < 8 ∧ v = nI (10 + j) ∧ LK S Xn Yn Zn G x y z s (3 + j) ∧ ∀ m, q ≤ m → m < j → ¬ LK S Xn Yn Zn G x y z s (3 + m))) → Wz E 0 0 100 [some (.ref (b 0)), some (.int (nI x)), some (.int (nI y)), some (.int (nI z)), some (.int (nI s)), some (.int v), some (.int (sv q)), none] [] (wM t b (va_up S 22 f))) ?_ ?_ 8 (-1) (⟨Nat.le_refl 8, Or.inl ⟨rfl, fun m h1 h2 => absurd h1 (by omega)⟩⟩)
            ·
              intro v hv
              obtain ⟨hq8, hv⟩ := hv
              refine z_lv (lv' := [some (.ref (b 0)), some (.int (nI x)), some (.int (nI y)), some (.int (nI z)), some (.int (nI s)), some (.int v), some (.int (-1)), none]) rfl ?_
              refine z_iload X dX4_firstStep_100 rfl ?_
              refine z_if_lt (tgt := 183) X dX4_firstStep_102 (by decide) (fun _ => ?_) (fun c102 => absurd c102 (by decide))
              refine z_iload X dX4_firstStep_183 rfl ?_
              refine z_iret X Z rfl dX4_firstStep_185 ?_
              rcases hv with ⟨-, h⟩ | ⟨j, h1, h2, rfl, h4, h5⟩
              · exfalso
                obtain ⟨k, hk, hK⟩ := LK_some hR hn
                exact lt_3 (j := 8) n0 n1 n2 (fun m hm => h m (Nat.zero_le m) hm) k (by omega) hK
              · exact ⟨(), ⟨3 + j, by rw [cnv_g], lead_k (by omega) h4 (lt_3 n0 n1 n2 (fun m hm => h5 m (Nat.zero_le m) hm))⟩, fun _ _ => trivial⟩
            ·
              intro q ihq v hv
              obtain ⟨hq8, hv⟩ := hv
              refine z_lv (lv' := [some (.ref (b 0)), some (.int (nI x)), some (.int (nI y)), some (.int (nI z)), some (.int (nI s)), some (.int v), some (.int (nI q)), none]) rfl ?_
              refine z_iload X dX4_firstStep_100 rfl ?_
              refine n_if_lt (tgt := 183) X dX4_firstStep_102 (by decide) (by omega) ?_
              have jq1 : ∀ (q1 : Int32), bz q1 (G.testBit q = true ∧ mt S x y z s q) → Wz E 0 0 136 [some (.ref (b 0)), some (.int (nI x)), some (.int (nI y)), some (.int (nI z)), some (.int (nI s)), some (.int v), some (.int (nI q)), none] [.int q1] (wM t b (va_up S 22 f)) := by
                intro q1 hjq1
                refine z_istore X dX4_firstStep_136 (Nat.le_of_ble_eq_true rfl) ?_
                refine z_lv (lv' := [some (.ref (b 0)), some (.int (nI x)), some (.int (nI y)), some (.int (nI z)), some (.int (nI s)), some (.int v), some (.int (nI q)), some (.int q1)]) rfl ?_
                rcases hjq1 with ⟨rfl, hjq1⟩ | ⟨rfl, hjq1⟩
                ·
                  refine z_iload X dX4_firstStep_138 rfl ?_
                  refine n_if_eq (tgt := 173) X dX4_firstStep_140 (by decide) (by omega) (fun c140 => absurd c140 (by decide)) (fun _ => ?_)
                  have hsj := zn_or8 s hs q (by omega)
                  have hix := ix_lt hX hx hy hz hsj
                  refine z_aload_n X dX4_firstStep_143 rfl rfl ?_
                  refine z_get X (C := RX4) (T := TX4) (N := 21) (ci := 4) (v := .ref (b 18)) inZ4 0 19 rfl rfl (by decide) q_fl_X4_61 rfl rfl dX4_firstStep_144 ?_
                  refine z_aload_n X dX4_firstStep_147 rfl rfl ?_
                  refine z_iload_n X dX4_firstStep_148 rfl rfl ?_
                  refine z_iload_n X dX4_firstStep_149 rfl rfl ?_
                  refine z_iload_n X dX4_firstStep_150 rfl rfl ?_
                  refine z_iload X dX4_firstStep_151 rfl ?_
                  refine z_iconst (v := nI 1) X dX4_firstStep_153 (by decide) ?_
                  refine z_iload X dX4_firstStep_154 rfl ?_
                  refine n_ishl1 X dX4_firstStep_156 (by omega) ?_
                  refine n_ior X dX4_firstStep_157 ?_
                  refine z_callV1 (k := 0) (n := 0) (st := [.ref (b 18)]) X (c_X4_place l D t b (va_up S 22 f) Xn Yn Zn h15 x y z (s ||| (2 ^ q))) k_X4_place q_ml_X4_142 is19 ⟨by decide, rfl⟩ 0 4 rfl rfl (by decide) rfl rfl rfl (Nat.le_of_ble_eq_true rfl) ⟨Nat.zero_le _, Nat.zero_le _⟩ dX4_firstStep_158 (fun r158 h158 => ?_)
                  subst h158
                  refine n_zald (f := f) X 18 rfl (by omega) (by decide) dX4_firstStep_161 ?_
                  rcases hL x y z (s ||| 2 ^ q) hx hy hz hsj (Nat.zero_le _) with ⟨e9, u162⟩ | ⟨e9, u162⟩
                  ·
                    refine z_top (y := nI 1) e9 ?_
                    refine n_if_eq (tgt := 173) X dX4_firstStep_162 (by decide) (by omega) (fun c162 => absurd c162 (by decide)) (fun _ => ?_)
                    refine z_bipush (v := nI 10) X dX4_firstStep_165 (by decide) ?_
                    refine z_iload X dX4_firstStep_167 rfl ?_
                    refine n_iadd X dX4_firstStep_169 ?_
                    refine z_goto (tgt := 175) X dX4_firstStep_170 (by decide) ?_
                    refine z_istore X dX4_firstStep_175 (Nat.le_of_ble_eq_true rfl) ?_
                    refine z_lv (lv' := [some (.ref (b 0)), some (.int (nI x)), some (.int (nI y)), some (.int (nI z)), some (.int (nI s)), some (.int (nI (10 + q))), some (.int (nI q)), some (.int (nI 1))]) rfl ?_
                    refine z_iinc (v := sv q) X dX4_firstStep_177 rfl (sv_m q) ?_
                    refine z_lv (lv' := [some (.ref (b 0)), some (.int (nI x)), some (.int (nI y)), some (.int (nI z)), some (.int (nI s)), some (.int (nI (10 + q))), some (.int (sv q)), some (.int (nI 1))]) rfl ?_
                    refine z_goto (tgt := 100) X dX4_firstStep_180 (by decide) ?_
                    have hI9 : (nI (10 + q) = -1 ∧ ∀ m, q ≤ m → m < 8 → ¬ LK S Xn Yn Zn G x y z s (3 + m)) ∨ ∃ j, q ≤ j ∧ j < 8 ∧ nI (10 + q) = nI (10 + j) ∧ LK S Xn Yn Zn G x y z s (3 + j) ∧ ∀ m, q ≤ m → m < j → ¬ LK S Xn Yn Zn G x y z s (3 + m) := by
                      exact Or.inr ⟨q, Nat.le_refl q, by omega, rfl, (LK_g (by omega)).mpr ⟨hjq1.1, hjq1.2, u162⟩, fun m h1 h2 => absurd h1 (by omega)⟩
                    refine Wz.less (lv' := [some (.ref (b 0)), some (.int (nI x)), some (.int (nI y)), some (.int (nI z)), some (.int (nI s)), some (.int (nI (10 + q))), some (.int (sv q)), none]) (by simp [zle] <;> rfl) ?_
                    exact ihq (nI (10 + q)) (⟨by omega, hI9⟩)
                  ·
                    refine z_top (y := nI 0) e9 ?_
                    refine n_if_eq (tgt := 173) X dX4_firstStep_162 (by decide) (by omega) (fun _ => ?_) (fun c162 => absurd c162 (by decide))
                    refine z_iload X dX4_firstStep_173 rfl ?_
                    refine z_istore X dX4_firstStep_175 (Nat.le_of_ble_eq_true rfl) ?_
                    refine z_lv (lv' := [some (.ref (b 0)), some (.int (nI x)), some (.int (nI y)), some (.int (nI z)), some (.int (nI s)), some (.int v), some (.int (nI q)), some (.int (nI 1))]) rfl ?_
                    refine z_iinc (v := sv q) X dX4_firstStep_177 rfl (sv_m q) ?_
                    refine z_lv (lv' := [some (.ref (b 0)), some (.int (nI x)), some (.int (nI y)), some (.int (nI z)), some (.int (nI s)), some (.int v), some (.int (sv q)), some (.int (nI 1))]) rfl ?_
                    refine z_goto (tgt := 100) X dX4_firstStep_180 (by decide) ?_
                    have hI9 : (v = -1 ∧ ∀ m, q ≤ m → m < 8 → ¬ LK S Xn Yn Zn G x y z s (3 + m)) ∨ ∃ j, q ≤ j ∧ j < 8 ∧ v = nI (10 + j) ∧ LK S Xn Yn Zn G x y z s (3 + j) ∧ ∀ m, q ≤ m → m < j → ¬ LK S Xn Yn Zn G x y z s (3 + m) := by
                      have hno : ¬ LK S Xn Yn Zn G x y z s (3 + q) := by first | exact fun p => hjq1 ⟨((LK_g (by omega)).mp p).1, ((LK_g (by omega)).mp p).2.1⟩ | exact fun p => u162 ((LK_g (by omega)).mp p).2.2
                      have hst : ∀ m, q ≤ m → ¬ q + 1 ≤ m → m = q := fun m h1 h2 => by omega
                      rcases hv with ⟨e, h⟩ | ⟨j, h1, h2, h3, h4, h5⟩
                      · refine Or.inl ⟨e, fun m h1 h2 => ?_⟩
                        by_cases hm : q + 1 ≤ m
                        · exact h m hm h2
                        · rw [hst m h1 hm]; exact hno
                      · refine Or.inr ⟨j, by omega, h2, h3, h4, fun m h6 h7 => ?_⟩
                        by_cases hm : q + 1 ≤ m
                        · exact h5 m hm h7
                        · rw [hst m h6 hm]; exact hno
                    refine Wz.less (lv' := [some (.ref (b 0)), some (.int (nI x)), some (.int (nI y)), some (.int (nI z)), some (.int (nI s)), some (.int v), some (.int (sv q)), none]) (by simp [zle] <;> rfl) ?_
                    exact ihq v (⟨by omega, hI9⟩)
                ·
                  refine z_iload X dX4_firstStep_138 rfl ?_
                  refine n_if_eq (tgt := 173) X dX4_firstStep_140 (by decide) (by omega) (fun _ => ?_) (fun c140 => absurd c140 (by decide))
                  refine z_iload X dX4_firstStep_173 rfl ?_
                  refine z_istore X dX4_firstStep_175 (Nat.le_of_ble_eq_true rfl) ?_
                  refine z_lv (lv' := [some (.ref (b 0)), some (.int (nI x)), some (.int (nI y)), some (.int (nI z)), some (.int (nI s)), some (.int v), some (.int (nI q)), some (.int (nI 0))]) rfl ?_
                  refine z_iinc (v := sv q) X dX4_firstStep_177 rfl (sv_m q) ?_
                  refine z_lv (lv' := [some (.ref (b 0)), some (.int (nI x)), some (.int (nI y)), some (.int (nI z)), some (.int (nI s)), some (.int v), some (.int (sv q)), some (.int (nI 0))]) rfl ?_
                  refine z_goto (tgt := 100) X dX4_firstStep_180 (by decide) ?_
                  have hI9 : (v = -1 ∧ ∀ m, q ≤ m → m < 8 → ¬ LK S Xn Yn Zn G x y z s (3 + m)) ∨ ∃ j, q ≤ j ∧ j < 8 ∧ v = nI (10 + j) ∧ LK S Xn Yn Zn G x y z s (3 + j) ∧ ∀ m, q ≤ m → m < j → ¬ LK S Xn Yn Zn G x y z s (3 + m) := by
                    have hno : ¬ LK S Xn Yn Zn G x y z s (3 + q) := by first | exact fun p => hjq1 ⟨((LK_g (by omega)).mp p).1, ((LK_g (by omega)).mp p).2.1⟩ | exact fun p => u162 ((LK_g (by omega)).mp p).2.2
                    have hst : ∀ m, q ≤ m → ¬ q + 1 ≤ m → m = q := fun m h1 h2 => by omega
                    rcases hv with ⟨e, h⟩ | ⟨j, h1, h2, h3, h4, h5⟩
                    · refine Or.inl ⟨e, fun m h1 h2 => ?_⟩
                      by_cases hm : q + 1 ≤ m
                      · exact h m hm h2
                      · rw [hst m h1 hm]; exact hno
                    · refine Or.inr ⟨j, by omega, h2, h3, h4, fun m h6 h7 => ?_⟩
                      by_cases hm : q + 1 ≤ m
                      · exact h5 m hm h7
                      · rw [hst m h6 hm]; exact hno
                  refine Wz.less (lv' := [some (.ref (b 0)), some (.int (nI x)), some (.int (nI y)), some (.int (nI z)), some (.int (nI s)), some (.int v), some (.int (sv q)), none]) (by simp [zle] <;> rfl) ?_
                  exact ihq v (⟨by omega, hI9⟩)
              refine z_aload_n X dX4_firstStep_105 rfl rfl ?_
              refine z_get X (C := RX4) (T := TX4) (N := 21) (ci := 4) (v := .int (S 18 0)) inZ4 0 4 rfl rfl (by decide) q_fl_X4_111 rfl rfl dX4_firstStep_106 ?_
              refine z_top (y := nI G) (h18) ?_
              refine z_iload X dX4_firstStep_109 rfl ?_
              refine z_callS1 (k := 0) (n := 0) (st := []) X (c_X4_has l D t G q (by omega) (by omega)) k_X4_has q_ml_X4_107 [] ⟨by decide, rfl⟩ (by decide) rfl rfl rfl (Nat.le_of_ble_eq_true rfl) ⟨Nat.zero_le _, Nat.zero_le _⟩ dX4_firstStep_111 (fun r111 h111 => ?_)
              rcases h111 with ⟨rfl, h111⟩ | ⟨rfl, h111⟩
              ·
                refine n_if_eq (tgt := 135) X dX4_firstStep_114 (by decide) (by omega) (fun c114 => absurd c114 (by decide)) (fun _ => ?_)
                refine z_aload_n X dX4_firstStep_117 rfl rfl ?_
                refine z_iload X dX4_firstStep_118 rfl ?_
                refine z_iload_n X dX4_firstStep_120 rfl rfl ?_
                refine z_iload_n X dX4_firstStep_121 rfl rfl ?_
                refine z_iload_n X dX4_firstStep_122 rfl rfl ?_
                refine z_iload X dX4_firstStep_123 rfl ?_
                refine z_callV1 (k := 0) (n := 0) (st := []) X (c_X4_mayTake l D t b (va_up S 22 f) q x y z s (by omega) (by omega) (by omega) hI) k_X4_mayTake q_ml_X4_114 is19 ⟨by decide, rfl⟩ 0 4 rfl rfl (by decide) rfl rfl rfl (Nat.le_of_ble_eq_true rfl) ⟨Nat.zero_le _, Nat.zero_le _⟩ dX4_firstStep_125 (fun r125 h125 => ?_)
                replace h125 : bz r125 (mt S x y z s q) := h125
                rcases h125 with ⟨rfl, h125⟩ | ⟨rfl, h125⟩
                ·
                  refine n_if_eq (tgt := 135) X dX4_firstStep_128 (by decide) (by omega) (fun c128 => absurd c128 (by decide)) (fun _ => ?_)
                  refine z_iconst (v := nI 1) X dX4_firstStep_131 (by decide) ?_
                  refine z_goto (tgt := 136) X dX4_firstStep_132 (by decide) ?_
                  exact jq1 (nI 1) (by
                              first
                                | exact bz_t (⟨h111, h125⟩)
                                | exact bz_f (fun p => h111 p.1)
                                | exact bz_f (fun p => h125 p.2))
                ·
                  refine n_if_eq (tgt := 135) X dX4_firstStep_128 (by decide) (by omega) (fun _ => ?_) (fun c128 => absurd c128 (by decide))
                  refine z_iconst (v := nI 0) X dX4_firstStep_135 (by decide) ?_
                  exact jq1 (nI 0) (by
                              first
                                | exact bz_t (⟨h111, h125⟩)
                                | exact bz_f (fun p => h111 p.1)
                                | exact bz_f (fun p => h125 p.2))
              ·
                refine n_if_eq (tgt := 135) X dX4_firstStep_114 (by decide) (by omega) (fun _ => ?_) (fun c114 => absurd c114 (by decide))
                refine z_iconst (v := nI 0) X dX4_firstStep_135 (by decide) ?_
                exact jq1 (nI 0) (by
                              first
                                | exact bz_t (⟨h111, h125⟩)
                                | exact bz_f (fun p => h111 p.1)
                                | exact bz_f (fun p => h125 p.2))
  ·
    refine z_aload_n X dX4_firstStep_10 rfl rfl ?_
    refine z_get X (C := RX4) (T := TX4) (N := 21) (ci := 4) (v := .ref (b 18)) inZ4 0 19 rfl rfl (by decide) q_fl_X4_61 rfl rfl dX4_firstStep_11 ?_
    refine z_aload_n X dX4_firstStep_14 rfl rfl ?_
    refine z_iload_n X dX4_firstStep_15 rfl rfl ?_
    refine z_iconst (v := nI 1) X dX4_firstStep_16 (by decide) ?_
    refine n_iadd X dX4_firstStep_17 ?_
    refine z_iload_n X dX4_firstStep_18 rfl rfl ?_
    refine z_iload_n X dX4_firstStep_19 rfl rfl ?_
    refine z_iload X dX4_firstStep_20 rfl ?_
    refine z_callV1 (k := 0) (n := 0) (st := [.ref (b 18)]) X (c_X4_place l D t b (va_up S 22 f) Xn Yn Zn h15 (x + 1) y z s) k_X4_place q_ml_X4_142 is19 ⟨by decide, rfl⟩ 0 4 rfl rfl (by decide) rfl rfl rfl (Nat.le_of_ble_eq_true rfl) ⟨Nat.zero_le _, Nat.zero_le _⟩ dX4_firstStep_22 (fun r22 h22 => ?_)
    subst h22
    have hix := ix_lt (s := s) hX (show x + 1 ≤ Xn by omega) hy hz hs
    refine n_zald (f := f) X 18 rfl (by omega) (by decide) dX4_firstStep_25 ?_
    rcases hL (x + 1) y z s (by omega) (by omega) (by omega) hs (Nat.zero_le _) with ⟨e9, u25⟩ | ⟨e9, u25⟩
    ·
      refine z_top (y := nI 1) e9 ?_
      refine n_if_eq (tgt := 31) X dX4_firstStep_26 (by decide) (by omega) (fun c26 => absurd c26 (by decide)) (fun _ => ?_)
      refine z_iconst (v := nI 0) X dX4_firstStep_29 (by decide) ?_
      refine z_iret X Z rfl dX4_firstStep_30 ?_
      exact ⟨(), ⟨0, rfl, lead_k (by decide) (LK_0.mpr ⟨c7, u25⟩) (fun i h => absurd h (Nat.not_lt_zero i))⟩, fun _ _ => trivial⟩
    ·
      refine z_top (y := nI 0) e9 ?_
      refine n_if_eq (tgt := 31) X dX4_firstStep_26 (by decide) (by omega) (fun _ => ?_) (fun c26 => absurd c26 (by decide))
      refine z_iload_n X dX4_firstStep_31 rfl rfl ?_
      refine z_aload_n X dX4_firstStep_32 rfl rfl ?_
      refine z_get X (C := RX4) (T := TX4) (N := 21) (ci := 4) (v := .ref (b 3)) inZ4 0 2 rfl rfl (by decide) q_fl_X4_16 rfl rfl dX4_firstStep_33 ?_
      refine z_iconst (v := nI 1) X dX4_firstStep_36 (by decide) ?_
      refine n_iald (f := S 15) X 3 rfl (by omega) (by decide) dX4_firstStep_37 ?_
      refine z_top (y := nI Yn) (by rw [h15]; rfl) ?_
      refine n_icmp_ge (tgt := 62) X dX4_firstStep_38 (by decide) (by omega) (by omega) (fun c38 => ?_) (fun c38 => ?_)
      ·
        refine z_iload_n X dX4_firstStep_62 rfl rfl ?_
        refine z_aload_n X dX4_firstStep_63 rfl rfl ?_
        refine z_get X (C := RX4) (T := TX4) (N := 21) (ci := 4) (v := .ref (b 3)) inZ4 0 2 rfl rfl (by decide) q_fl_X4_16 rfl rfl dX4_firstStep_64 ?_
        refine z_iconst (v := nI 2) X dX4_firstStep_67 (by decide) ?_
        refine n_iald (f := S 15) X 3 rfl (by omega) (by decide) dX4_firstStep_68 ?_
        refine z_top (y := nI Zn) (by rw [h15]; rfl) ?_
        refine n_icmp_ge (tgt := 93) X dX4_firstStep_69 (by decide) (by omega) (by omega) (fun c69 => ?_) (fun c69 => ?_)
        ·
          refine z_iconst (v := (-1)) X dX4_firstStep_93 (by decide) ?_
          refine z_istore X dX4_firstStep_94 (Nat.le_of_ble_eq_true rfl) ?_
          refine z_lv (lv' := [some (.ref (b 0)), some (.int (nI x)), some (.int (nI y)), some (.int (nI z)), some (.int (nI s)), some (.int (-1)), none, none]) rfl ?_
          refine z_bipush (v := nI 7) X dX4_firstStep_96 (by decide) ?_
          refine z_istore X dX4_firstStep_98 (Nat.le_of_ble_eq_true rfl) ?_
          refine z_lv (lv' := [some (.ref (b 0)), some (.int (nI x)), some (.int (nI y)), some (.int (nI z)), some (.int (nI s)), some (.int (-1)), some (.int (nI 7)), none]) rfl ?_
          have n0 : ¬ LK S Xn Yn Zn G x y z s 0 := (by first | exact fun q => u25 (LK_0.mp q).2 | exact fun q => absurd (LK_0.mp q).1 (by omega))
          have n1 : ¬ LK S Xn Yn Zn G x y z s 1 := (by first | exact fun q => u56 (LK_1.mp q).2 | exact fun q => absurd (LK_1.mp q).1 (by omega))
          have n2 : ¬ LK S Xn Yn Zn G x y z s 2 := (by first | exact fun q => u87 (LK_2.mp q).2 | exact fun q => absurd (LK_2.mp q).1 (by omega))
          refine zl_dn (fun q => ∀ (v : Int32), (q ≤ 8 ∧ ((v = -1 ∧ ∀ m, q ≤ m → m < 8 → ¬ LK S Xn Yn Zn G x y z s (3 + m)) ∨ ∃ j, q ≤ j ∧ j < 8 ∧ v = nI (10 + j) ∧ LK S Xn Yn Zn G x y z s (3 + j) ∧ ∀ m, q ≤ m → m < j → ¬ LK S Xn Yn Zn G x y z s (3 + m))) → Wz E 0 0 100 [some (.ref (b 0)), some (.int (nI x)), some (.int (nI y)), some (.int (nI z)), some (.int (nI s)), some (.int v), some (.int (sv q)), none] [] (wM t b (va_up S 22 f))) ?_ ?_ 8 (-1) (⟨Nat.le_refl 8, Or.inl ⟨rfl, fun m h1 h2 => absurd h1 (by omega)⟩⟩)
          ·
            intro v hv
            obtain ⟨hq8, hv⟩ := hv
            refine z_lv (lv' := [some (.ref (b 0)), some (.int (nI x)), some (.int (nI y)), some (.int (nI z)), some (.int (nI s)), some (.int v), some (.int (-1)), none]) rfl ?_
            refine z_iload X dX4_firstStep_100 rfl ?_
            refine z_if_lt (tgt := 183) X dX4_firstStep_102 (by decide) (fun _ => ?_) (fun c102 => absurd c102 (by decide))
            refine z_iload X dX4_firstStep_183 rfl ?_
            refine z_iret X Z rfl dX4_firstStep_185 ?_
            rcases hv with ⟨-, h⟩ | ⟨j, h1, h2, rfl, h4, h5⟩
            · exfalso
              obtain ⟨k, hk, hK⟩ := LK_some hR hn
              exact lt_3 (j := 8) n0 n1 n2 (fun m hm => h m (Nat.zero_le m) hm) k (by omega) hK
            · exact ⟨(), ⟨3 + j, by rw [cnv_g], lead_k (by omega) h4 (lt_3 n0 n1 n2 (fun m hm => h5 m (Nat.zero_le m) hm))⟩, fun _ _ => trivial⟩
          ·
            intro q ihq v hv
            obtain ⟨hq8, hv⟩ := hv
            refine z_lv (lv' := [some (.ref (b 0)), some (.int (nI x)), some (.int (nI y)), some (.int (nI z)), some (.int (nI s)), some (.int v), some (.int (nI q)), none]) rfl ?_
            refine z_iload X dX4_firstStep_100 rfl ?_
            refine n_if_lt (tgt := 183) X dX4_firstStep_102 (by decide) (by omega) ?_
            have jq1 : ∀ (q1 : Int32), bz q1 (G.testBit q = true ∧ mt S x y z s q) → Wz E 0 0 136 [some (.ref (b 0)), some (.int (nI x)), some (.int (nI y)), some (.int (nI z)), some (.int (nI s)), some (.int v), some (.int (nI q)), none] [.int q1] (wM t b (va_up S 22 f)) := by
              intro q1 hjq1
              refine z_istore X dX4_firstStep_136 (Nat.le_of_ble_eq_true rfl) ?_
              refine z_lv (lv' := [some (.ref (b 0)), some (.int (nI x)), some (.int (nI y)), some (.int (nI z)), some (.int (nI s)), some (.int v), some (.int (nI q)), some (.int q1)]) rfl ?_
              rcases hjq1 with ⟨rfl, hjq1⟩ | ⟨rfl, hjq1⟩
              ·
                refine z_iload X dX4_firstStep_138 rfl ?_
                refine n_if_eq (tgt := 173) X dX4_firstStep_140 (by decide) (by omega) (fun c140 => absurd c140 (by decide)) (fun _ => ?_)
                have hsj := zn_or8 s hs q (by omega)
                have hix := ix_lt hX hx hy hz hsj
                refine z_aload_n X dX4_firstStep_143 rfl rfl ?_
                refine z_get X (C := RX4) (T := TX4) (N := 21) (ci := 4) (v := .ref (b 18)) inZ4 0 19 rfl rfl (by decide) q_fl_X4_61 rfl rfl dX4_firstStep_144 ?_
                refine z_aload_n X dX4_firstStep_147 rfl rfl ?_
                refine z_iload_n X dX4_firstStep_148 rfl rfl ?_
                refine z_iload_n X dX4_firstStep_149 rfl rfl ?_
                refine z_iload_n X dX4_firstStep_150 rfl rfl ?_
                refine z_iload X dX4_firstStep_151 rfl ?_
                refine z_iconst (v := nI 1) X dX4_firstStep_153 (by decide) ?_
                refine z_iload X dX4_firstStep_154 rfl ?_
                refine n_ishl1 X dX4_firstStep_156 (by omega) ?_
                refine n_ior X dX4_firstStep_157 ?_
                refine z_callV1 (k := 0) (n := 0) (st := [.ref (b 18)]) X (c_X4_place l D t b (va_up S 22 f) Xn Yn Zn h15 x y z (s ||| (2 ^ q))) k_X4_place q_ml_X4_142 is19 ⟨by decide, rfl⟩ 0 4 rfl rfl (by decide) rfl rfl rfl (Nat.le_of_ble_eq_true rfl) ⟨Nat.zero_le _, Nat.zero_le _⟩ dX4_firstStep_158 (fun r158 h158 => ?_)
                subst h158
                refine n_zald (f := f) X 18 rfl (by omega) (by decide) dX4_firstStep_161 ?_
                rcases hL x y z (s ||| 2 ^ q) hx hy hz hsj (Nat.zero_le _) with ⟨e9, u162⟩ | ⟨e9, u162⟩
                ·
                  refine z_top (y := nI 1) e9 ?_
                  refine n_if_eq (tgt := 173) X dX4_firstStep_162 (by decide) (by omega) (fun c162 => absurd c162 (by decide)) (fun _ => ?_)
                  refine z_bipush (v := nI 10) X dX4_firstStep_165 (by decide) ?_
                  refine z_iload X dX4_firstStep_167 rfl ?_
                  refine n_iadd X dX4_firstStep_169 ?_
                  refine z_goto (tgt := 175) X dX4_firstStep_170 (by decide) ?_
                  refine z_istore X dX4_firstStep_175 (Nat.le_of_ble_eq_true rfl) ?_
                  refine z_lv (lv' := [some (.ref (b 0)), some (.int (nI x)), some (.int (nI y)), some (.int (nI z)), some (.int (nI s)), some (.int (nI (10 + q))), some (.int (nI q)), some (.int (nI 1))]) rfl ?_
                  refine z_iinc (v := sv q) X dX4_firstStep_177 rfl (sv_m q) ?_
                  refine z_lv (lv' := [some (.ref (b 0)), some (.int (nI x)), some (.int (nI y)), some (.int (nI z)), some (.int (nI s)), some (.int (nI (10 + q))), some (.int (sv q)), some (.int (nI 1))]) rfl ?_
                  refine z_goto (tgt := 100) X dX4_firstStep_180 (by decide) ?_
                  have hI9 : (nI (10 + q) = -1 ∧ ∀ m, q ≤ m → m < 8 → ¬ LK S Xn Yn Zn G x y z s (3 + m)) ∨ ∃ j, q ≤ j ∧ j < 8 ∧ nI (10 + q) = nI (10 + j) ∧ LK S Xn Yn Zn G x y z s (3 + j) ∧ ∀ m, q ≤ m → m < j → ¬ LK S Xn Yn Zn G x y z s (3 + m) := by
                    exact Or.inr ⟨q, Nat.le_refl q, by omega, rfl, (LK_g (by omega)).mpr ⟨hjq1.1, hjq1.2, u162⟩, fun m h1 h2 => absurd h1 (by omega)⟩
                  refine Wz.less (lv' := [some (.ref (b 0)), some (.int (nI x)), some (.int (nI y)), some (.int (nI z)), some (.int (nI s)), some (.int (nI (10 + q))), some (.int (sv q)), none]) (by simp [zle] <;> rfl) ?_
                  exact ihq (nI (10 + q)) (⟨by omega, hI9⟩)
                ·
                  refine z_top (y := nI 0) e9 ?_
                  refine n_if_eq (tgt := 173) X dX4_firstStep_162 (by decide) (by omega) (fun _ => ?_) (fun c162 => absurd c162 (by decide))
                  refine z_iload X dX4_firstStep_173 rfl ?_
                  refine z_istore X dX4_firstStep_175 (Nat.le_of_ble_eq_true rfl) ?_
                  refine z_lv (lv' := [some (.ref (b 0)), some (.int (nI x)), some (.int (nI y)), some (.int (nI z)), some (.int (nI s)), some (.int v), some (.int (nI q)), some (.int (nI 1))]) rfl ?_
                  refine z_iinc (v := sv q) X dX4_firstStep_177 rfl (sv_m q) ?_
                  refine z_lv (lv' := [some (.ref (b 0)), some (.int (nI x)), some (.int (nI y)), some (.int (nI z)), some (.int (nI s)), some (.int v), some (.int (sv q)), some (.int (nI 1))]) rfl ?_
                  refine z_goto (tgt := 100) X dX4_firstStep_180 (by decide) ?_
                  have hI9 : (v = -1 ∧ ∀ m, q ≤ m → m < 8 → ¬ LK S Xn Yn Zn G x y z s (3 + m)) ∨ ∃ j, q ≤ j ∧ j < 8 ∧ v = nI (10 + j) ∧ LK S Xn Yn Zn G x y z s (3 + j) ∧ ∀ m, q ≤ m → m < j → ¬ LK S Xn Yn Zn G x y z s (3 + m) := by
                    have hno : ¬ LK S Xn Yn Zn G x y z s (3 + q) := by first | exact fun p => hjq1 ⟨((LK_g (by omega)).mp p).1, ((LK_g (by omega)).mp p).2.1⟩ | exact fun p => u162 ((LK_g (by omega)).mp p).2.2
                    have hst : ∀ m, q ≤ m → ¬ q + 1 ≤ m → m = q := fun m h1 h2 => by omega
                    rcases hv with ⟨e, h⟩ | ⟨j, h1, h2, h3, h4, h5⟩
                    · refine Or.inl ⟨e, fun m h1 h2 => ?_⟩
                      by_cases hm : q + 1 ≤ m
                      · exact h m hm h2
                      · rw [hst m h1 hm]; exact hno
                    · refine Or.inr ⟨j, by omega, h2, h3, h4, fun m h6 h7 => ?_⟩
                      by_cases hm : q + 1 ≤ m
                      · exact h5 m hm h7
                      · rw [hst m h6 hm]; exact hno
                  refine Wz.less (lv' := [some (.ref (b 0)), some (.int (nI x)), some (.int (nI y)), some (.int (nI z)), some (.int (nI s)), some (.int v), some (.int (sv q)), none]) (by simp [zle] <;> rfl) ?_
                  exact ihq v (⟨by omega, hI9⟩)
              ·
                refine z_iload X dX4_firstStep_138 rfl ?_
                refine n_if_eq (tgt := 173) X dX4_firstStep_140 (by decide) (by omega) (fun _ => ?_) (fun c140 => absurd c140 (by decide))
                refine z_iload X dX4_firstStep_173 rfl ?_
                refine z_istore X dX4_firstStep_175 (Nat.le_of_ble_eq_true rfl) ?_
                refine z_lv (lv' := [some (.ref (b 0)), some (.int (nI x)), some (.int (nI y)), some (.int (nI z)), some (.int (nI s)), some (.int v), some (.int (nI q)), some (.int (nI 0))]) rfl ?_
                refine z_iinc (v := sv q) X dX4_firstStep_177 rfl (sv_m q) ?_
                refine z_lv (lv' := [some (.ref (b 0)), some (.int (nI x)), some (.int (nI y)), some (.int (nI z)), some (.int (nI s)), some (.int v), some (.int (sv q)), some (.int (nI 0))]) rfl ?_
                refine z_goto (tgt := 100) X dX4_firstStep_180 (by decide) ?_
                have hI9 : (v = -1 ∧ ∀ m, q ≤ m → m < 8 → ¬ LK S Xn Yn Zn G x y z s (3 + m)) ∨ ∃ j, q ≤ j ∧ j < 8 ∧ v = nI (10 + j) ∧ LK S Xn Yn Zn G x y z s (3 + j) ∧ ∀ m, q ≤ m → m < j → ¬ LK S Xn Yn Zn G x y z s (3 + m) := by
                  have hno : ¬ LK S Xn Yn Zn G x y z s (3 + q) := by first | exact fun p => hjq1 ⟨((LK_g (by omega)).mp p).1, ((LK_g (by omega)).mp p).2.1⟩ | exact fun p => u162 ((LK_g (by omega)).mp p).2.2
                  have hst : ∀ m, q ≤ m → ¬ q + 1 ≤ m → m = q := fun m h1 h2 => by omega
                  rcases hv with ⟨e, h⟩ | ⟨j, h1, h2, h3, h4, h5⟩
                  · refine Or.inl ⟨e, fun m h1 h2 => ?_⟩
                    by_cases hm : q + 1 ≤ m
                    · exact h m hm h2
                    · rw [hst m h1 hm]; exact hno
                  · refine Or.inr ⟨j, by omega, h2, h3, h4, fun m h6 h7 => ?_⟩
                    by_cases hm : q + 1 ≤ m
                    · exact h5 m hm h7
                    · rw [hst m h6 hm]; exact hno
                refine Wz.less (lv' := [some (.ref (b 0)), some (.int (nI x)), some (.int (nI y)), some (.int (nI z)), some (.int (nI s)), some (.int v), some (.int (sv q)), none]) (by simp [zle] <;> rfl) ?_
                exact ihq v (⟨by omega, hI9⟩)
            refine z_aload_n X dX4_firstStep_105 rfl rfl ?_
            refine z_get X (C := RX4) (T := TX4) (N := 21) (ci := 4) (v := .int (S 18 0)) inZ4 0 4 rfl rfl (by decide) q_fl_X4_111 rfl rfl dX4_firstStep_106 ?_
            refine z_top (y := nI G) (h18) ?_
            refine z_iload X dX4_firstStep_109 rfl ?_
            refine z_callS1 (k := 0) (n := 0) (st := []) X (c_X4_has l D t G q (by omega) (by omega)) k_X4_has q_ml_X4_107 [] ⟨by decide, rfl⟩ (by decide) rfl rfl rfl (Nat.le_of_ble_eq_true rfl) ⟨Nat.zero_le _, Nat.zero_le _⟩ dX4_firstStep_111 (fun r111 h111 => ?_)
            rcases h111 with ⟨rfl, h111⟩ | ⟨rfl, h111⟩
            ·
              refine n_if_eq (tgt := 135) X dX4_firstStep_114 (by decide) (by omega) (fun c114 => absurd c114 (by decide)) (fun _ => ?_)
              refine z_aload_n X dX4_firstStep_117 rfl rfl ?_
              refine z_iload X dX4_firstStep_118 rfl ?_
              refine z_iload_n X dX4_firstStep_120 rfl rfl ?_
              refine z_iload_n X dX4_firstStep_121 rfl rfl ?_
              refine z_iload_n X dX4_firstStep_122 rfl rfl ?_
              refine z_iload X dX4_firstStep_123 rfl ?_
              refine z_callV1 (k := 0) (n := 0) (st := []) X (c_X4_mayTake l D t b (va_up S 22 f) q x y z s (by omega) (by omega) (by omega) hI) k_X4_mayTake q_ml_X4_114 is19 ⟨by decide, rfl⟩ 0 4 rfl rfl (by decide) rfl rfl rfl (Nat.le_of_ble_eq_true rfl) ⟨Nat.zero_le _, Nat.zero_le _⟩ dX4_firstStep_125 (fun r125 h125 => ?_)
              replace h125 : bz r125 (mt S x y z s q) := h125
              rcases h125 with ⟨rfl, h125⟩ | ⟨rfl, h125⟩
              ·
                refine n_if_eq (tgt := 135) X dX4_firstStep_128 (by decide) (by omega) (fun c128 => absurd c128 (by decide)) (fun _ => ?_)
                refine z_iconst (v := nI 1) X dX4_firstStep_131 (by decide) ?_
                refine z_goto (tgt := 136) X dX4_firstStep_132 (by decide) ?_
                exact jq1 (nI 1) (by
                            first
                              | exact bz_t (⟨h111, h125⟩)
                              | exact bz_f (fun p => h111 p.1)
                              | exact bz_f (fun p => h125 p.2))
              ·
                refine n_if_eq (tgt := 135) X dX4_firstStep_128 (by decide) (by omega) (fun _ => ?_) (fun c128 => absurd c128 (by decide))
                refine z_iconst (v := nI 0) X dX4_firstStep_135 (by decide) ?_
                exact jq1 (nI 0) (by
                            first
                              | exact bz_t (⟨h111, h125⟩)
                              | exact bz_f (fun p => h111 p.1)
                              | exact bz_f (fun p => h125 p.2))
            ·
              refine n_if_eq (tgt := 135) X dX4_firstStep_114 (by decide) (by omega) (fun _ => ?_) (fun c114 => absurd c114 (by decide))
              refine z_iconst (v := nI 0) X dX4_firstStep_135 (by decide) ?_
              exact jq1 (nI 0) (by
                            first
                              | exact bz_t (⟨h111, h125⟩)
                              | exact bz_f (fun p => h111 p.1)
                              | exact bz_f (fun p => h125 p.2))
        ·
          refine z_aload_n X dX4_firstStep_72 rfl rfl ?_
          refine z_get X (C := RX4) (T := TX4) (N := 21) (ci := 4) (v := .ref (b 18)) inZ4 0 19 rfl rfl (by decide) q_fl_X4_61 rfl rfl dX4_firstStep_73 ?_
          refine z_aload_n X dX4_firstStep_76 rfl rfl ?_
          refine z_iload_n X dX4_firstStep_77 rfl rfl ?_
          refine z_iload_n X dX4_firstStep_78 rfl rfl ?_
          refine z_iload_n X dX4_firstStep_79 rfl rfl ?_
          refine z_iconst (v := nI 1) X dX4_firstStep_80 (by decide) ?_
          refine n_iadd X dX4_firstStep_81 ?_
          refine z_iload X dX4_firstStep_82 rfl ?_
          refine z_callV1 (k := 0) (n := 0) (st := [.ref (b 18)]) X (c_X4_place l D t b (va_up S 22 f) Xn Yn Zn h15 x y (z + 1) s) k_X4_place q_ml_X4_142 is19 ⟨by decide, rfl⟩ 0 4 rfl rfl (by decide) rfl rfl rfl (Nat.le_of_ble_eq_true rfl) ⟨Nat.zero_le _, Nat.zero_le _⟩ dX4_firstStep_84 (fun r84 h84 => ?_)
          subst h84
          have hix := ix_lt (s := s) hX hx hy (show z + 1 ≤ Zn by omega) hs
          refine n_zald (f := f) X 18 rfl (by omega) (by decide) dX4_firstStep_87 ?_
          rcases hL x y (z + 1) s (by omega) (by omega) (by omega) hs (Nat.zero_le _) with ⟨e9, u87⟩ | ⟨e9, u87⟩
          ·
            refine z_top (y := nI 1) e9 ?_
            refine n_if_eq (tgt := 93) X dX4_firstStep_88 (by decide) (by omega) (fun c88 => absurd c88 (by decide)) (fun _ => ?_)
            refine z_iconst (v := nI 2) X dX4_firstStep_91 (by decide) ?_
            refine z_iret X Z rfl dX4_firstStep_92 ?_
            have n0 : ¬ LK S Xn Yn Zn G x y z s 0 := (by first | exact fun q => u25 (LK_0.mp q).2 | exact fun q => absurd (LK_0.mp q).1 (by omega))
            have n1 : ¬ LK S Xn Yn Zn G x y z s 1 := (by first | exact fun q => u56 (LK_1.mp q).2 | exact fun q => absurd (LK_1.mp q).1 (by omega))
            exact ⟨(), ⟨2, rfl, lead_k (by decide) (LK_2.mpr ⟨c69, u87⟩) (fun i h => by rcases (show i = 0 ∨ i = 1 by omega) with rfl | rfl; exact n0; exact n1)⟩, fun _ _ => trivial⟩
          ·
            refine z_top (y := nI 0) e9 ?_
            refine n_if_eq (tgt := 93) X dX4_firstStep_88 (by decide) (by omega) (fun _ => ?_) (fun c88 => absurd c88 (by decide))
            refine z_iconst (v := (-1)) X dX4_firstStep_93 (by decide) ?_
            refine z_istore X dX4_firstStep_94 (Nat.le_of_ble_eq_true rfl) ?_
            refine z_lv (lv' := [some (.ref (b 0)), some (.int (nI x)), some (.int (nI y)), some (.int (nI z)), some (.int (nI s)), some (.int (-1)), none, none]) rfl ?_
            refine z_bipush (v := nI 7) X dX4_firstStep_96 (by decide) ?_
            refine z_istore X dX4_firstStep_98 (Nat.le_of_ble_eq_true rfl) ?_
            refine z_lv (lv' := [some (.ref (b 0)), some (.int (nI x)), some (.int (nI y)), some (.int (nI z)), some (.int (nI s)), some (.int (-1)), some (.int (nI 7)), none]) rfl ?_
            have n0 : ¬ LK S Xn Yn Zn G x y z s 0 := (by first | exact fun q => u25 (LK_0.mp q).2 | exact fun q => absurd (LK_0.mp q).1 (by omega))
            have n1 : ¬ LK S Xn Yn Zn G x y z s 1 := (by first | exact fun q => u56 (LK_1.mp q).2 | exact fun q => absurd (LK_1.mp q).1 (by omega))
            have n2 : ¬ LK S Xn Yn Zn G x y z s 2 := (by first | exact fun q => u87 (LK_2.mp q).2 | exact fun q => absurd (LK_2.mp q).1 (by omega))
            refine zl_dn (fun q => ∀ (v : Int32), (q ≤ 8 ∧ ((v = -1 ∧ ∀ m, q ≤ m → m < 8 → ¬ LK S Xn Yn Zn G x y z s (3 + m)) ∨ ∃ j, q ≤ j ∧ j < 8 ∧ v = nI (10 + j) ∧ LK S Xn Yn Zn G x y z s (3 + j) ∧ ∀ m, q ≤ m → m < j → ¬ LK S Xn Yn Zn G x y z s (3 + m))) → Wz E 0 0 100 [some (.ref (b 0)), some (.int (nI x)), some (.int (nI y)), some (.int (nI z)), some (.int (nI s)), some (.int v), some (.int (sv q)), none] [] (wM t b (va_up S 22 f))) ?_ ?_ 8 (-1) (⟨Nat.le_refl 8, Or.inl ⟨rfl, fun m h1 h2 => absurd h1 (by omega)⟩⟩)
            ·
              intro v hv
              obtain ⟨hq8, hv⟩ := hv
              refine z_lv (lv' := [some (.ref (b 0)), some (.int (nI x)), some (.int (nI y)), some (.int (nI z)), some (.int (nI s)), some (.int v), some (.int (-1)), none]) rfl ?_
              refine z_iload X dX4_firstStep_100 rfl ?_
              refine z_if_lt (tgt := 183) X dX4_firstStep_102 (by decide) (fun _ => ?_) (fun c102 => absurd c102 (by decide))
              refine z_iload X dX4_firstStep_183 rfl ?_
              refine z_iret X Z rfl dX4_firstStep_185 ?_
              rcases hv with ⟨-, h⟩ | ⟨j, h1, h2, rfl, h4, h5⟩
              · exfalso
                obtain ⟨k, hk, hK⟩ := LK_some hR hn
                exact lt_3 (j := 8) n0 n1 n2 (fun m hm => h m (Nat.zero_le m) hm) k (by omega) hK
              · exact ⟨(), ⟨3 + j, by rw [cnv_g], lead_k (by omega) h4 (lt_3 n0 n1 n2 (fun m hm => h5 m (Nat.zero_le m) hm))⟩, fun _ _ => trivial⟩
            ·
              intro q ihq v hv
              obtain ⟨hq8, hv⟩ := hv
              refine z_lv (lv' := [some (.ref (b 0)), some (.int (nI x)), some (.int (nI y)), some (.int (nI z)), some (.int (nI s)), some (.int v), some (.int (nI q)), none]) rfl ?_
              refine z_iload X dX4_firstStep_100 rfl ?_
              refine n_if_lt (tgt := 183) X dX4_firstStep_102 (by decide) (by omega) ?_
              have jq1 : ∀ (q1 : Int32), bz q1 (G.testBit q = true ∧ mt S x y z s q) → Wz E 0 0 136 [some (.ref (b 0)), some (.int (nI x)), some (.int (nI y)), some (.int (nI z)), some (.int (nI s)), some (.int v), some (.int (nI q)), none] [.int q1] (wM t b (va_up S 22 f)) := by
                intro q1 hjq1
                refine z_istore X dX4_firstStep_136 (Nat.le_of_ble_eq_true rfl) ?_
                refine z_lv (lv' := [some (.ref (b 0)), some (.int (nI x)), some (.int (nI y)), some (.int (nI z)), some (.int (nI s)), some (.int v), some (.int (nI q)), some (.int q1)]) rfl ?_
                rcases hjq1 with ⟨rfl, hjq1⟩ | ⟨rfl, hjq1⟩
                ·
                  refine z_iload X dX4_firstStep_138 rfl ?_
                  refine n_if_eq (tgt := 173) X dX4_firstStep_140 (by decide) (by omega) (fun c140 => absurd c140 (by decide)) (fun _ => ?_)
                  have hsj := zn_or8 s hs q (by omega)
                  have hix := ix_lt hX hx hy hz hsj
                  refine z_aload_n X dX4_firstStep_143 rfl rfl ?_
                  refine z_get X (C := RX4) (T := TX4) (N := 21) (ci := 4) (v := .ref (b 18)) inZ4 0 19 rfl rfl (by decide) q_fl_X4_61 rfl rfl dX4_firstStep_144 ?_
                  refine z_aload_n X dX4_firstStep_147 rfl rfl ?_
                  refine z_iload_n X dX4_firstStep_148 rfl rfl ?_
                  refine z_iload_n X dX4_firstStep_149 rfl rfl ?_
                  refine z_iload_n X dX4_firstStep_150 rfl rfl ?_
                  refine z_iload X dX4_firstStep_151 rfl ?_
                  refine z_iconst (v := nI 1) X dX4_firstStep_153 (by decide) ?_
                  refine z_iload X dX4_firstStep_154 rfl ?_
                  refine n_ishl1 X dX4_firstStep_156 (by omega) ?_
                  refine n_ior X dX4_firstStep_157 ?_
                  refine z_callV1 (k := 0) (n := 0) (st := [.ref (b 18)]) X (c_X4_place l D t b (va_up S 22 f) Xn Yn Zn h15 x y z (s ||| (2 ^ q))) k_X4_place q_ml_X4_142 is19 ⟨by decide, rfl⟩ 0 4 rfl rfl (by decide) rfl rfl rfl (Nat.le_of_ble_eq_true rfl) ⟨Nat.zero_le _, Nat.zero_le _⟩ dX4_firstStep_158 (fun r158 h158 => ?_)
                  subst h158
                  refine n_zald (f := f) X 18 rfl (by omega) (by decide) dX4_firstStep_161 ?_
                  rcases hL x y z (s ||| 2 ^ q) hx hy hz hsj (Nat.zero_le _) with ⟨e9, u162⟩ | ⟨e9, u162⟩
                  ·
                    refine z_top (y := nI 1) e9 ?_
                    refine n_if_eq (tgt := 173) X dX4_firstStep_162 (by decide) (by omega) (fun c162 => absurd c162 (by decide)) (fun _ => ?_)
                    refine z_bipush (v := nI 10) X dX4_firstStep_165 (by decide) ?_
                    refine z_iload X dX4_firstStep_167 rfl ?_
                    refine n_iadd X dX4_firstStep_169 ?_
                    refine z_goto (tgt := 175) X dX4_firstStep_170 (by decide) ?_
                    refine z_istore X dX4_firstStep_175 (Nat.le_of_ble_eq_true rfl) ?_
                    refine z_lv (lv' := [some (.ref (b 0)), some (.int (nI x)), some (.int (nI y)), some (.int (nI z)), some (.int (nI s)), some (.int (nI (10 + q))), some (.int (nI q)), some (.int (nI 1))]) rfl ?_
                    refine z_iinc (v := sv q) X dX4_firstStep_177 rfl (sv_m q) ?_
                    refine z_lv (lv' := [some (.ref (b 0)), some (.int (nI x)), some (.int (nI y)), some (.int (nI z)), some (.int (nI s)), some (.int (nI (10 + q))), some (.int (sv q)), some (.int (nI 1))]) rfl ?_
                    refine z_goto (tgt := 100) X dX4_firstStep_180 (by decide) ?_
                    have hI9 : (nI (10 + q) = -1 ∧ ∀ m, q ≤ m → m < 8 → ¬ LK S Xn Yn Zn G x y z s (3 + m)) ∨ ∃ j, q ≤ j ∧ j < 8 ∧ nI (10 + q) = nI (10 + j) ∧ LK S Xn Yn Zn G x y z s (3 + j) ∧ ∀ m, q ≤ m → m < j → ¬ LK S Xn Yn Zn G x y z s (3 + m) := by
                      exact Or.inr ⟨q, Nat.le_refl q, by omega, rfl, (LK_g (by omega)).mpr ⟨hjq1.1, hjq1.2, u162⟩, fun m h1 h2 => absurd h1 (by omega)⟩
                    refine Wz.less (lv' := [some (.ref (b 0)), some (.int (nI x)), some (.int (nI y)), some (.int (nI z)), some (.int (nI s)), some (.int (nI (10 + q))), some (.int (sv q)), none]) (by simp [zle] <;> rfl) ?_
                    exact ihq (nI (10 + q)) (⟨by omega, hI9⟩)
                  ·
                    refine z_top (y := nI 0) e9 ?_
                    refine n_if_eq (tgt := 173) X dX4_firstStep_162 (by decide) (by omega) (fun _ => ?_) (fun c162 => absurd c162 (by decide))
                    refine z_iload X dX4_firstStep_173 rfl ?_
                    refine z_istore X dX4_firstStep_175 (Nat.le_of_ble_eq_true rfl) ?_
                    refine z_lv (lv' := [some (.ref (b 0)), some (.int (nI x)), some (.int (nI y)), some (.int (nI z)), some (.int (nI s)), some (.int v), some (.int (nI q)), some (.int (nI 1))]) rfl ?_
                    refine z_iinc (v := sv q) X dX4_firstStep_177 rfl (sv_m q) ?_
                    refine z_lv (lv' := [some (.ref (b 0)), some (.int (nI x)), some (.int (nI y)), some (.int (nI z)), some (.int (nI s)), some (.int v), some (.int (sv q)), some (.int (nI 1))]) rfl ?_
                    refine z_goto (tgt := 100) X dX4_firstStep_180 (by decide) ?_
                    have hI9 : (v = -1 ∧ ∀ m, q ≤ m → m < 8 → ¬ LK S Xn Yn Zn G x y z s (3 + m)) ∨ ∃ j, q ≤ j ∧ j < 8 ∧ v = nI (10 + j) ∧ LK S Xn Yn Zn G x y z s (3 + j) ∧ ∀ m, q ≤ m → m < j → ¬ LK S Xn Yn Zn G x y z s (3 + m) := by
                      have hno : ¬ LK S Xn Yn Zn G x y z s (3 + q) := by first | exact fun p => hjq1 ⟨((LK_g (by omega)).mp p).1, ((LK_g (by omega)).mp p).2.1⟩ | exact fun p => u162 ((LK_g (by omega)).mp p).2.2
                      have hst : ∀ m, q ≤ m → ¬ q + 1 ≤ m → m = q := fun m h1 h2 => by omega
                      rcases hv with ⟨e, h⟩ | ⟨j, h1, h2, h3, h4, h5⟩
                      · refine Or.inl ⟨e, fun m h1 h2 => ?_⟩
                        by_cases hm : q + 1 ≤ m
                        · exact h m hm h2
                        · rw [hst m h1 hm]; exact hno
                      · refine Or.inr ⟨j, by omega, h2, h3, h4, fun m h6 h7 => ?_⟩
                        by_cases hm : q + 1 ≤ m
                        · exact h5 m hm h7
                        · rw [hst m h6 hm]; exact hno
                    refine Wz.less (lv' := [some (.ref (b 0)), some (.int (nI x)), some (.int (nI y)), some (.int (nI z)), some (.int (nI s)), some (.int v), some (.int (sv q)), none]) (by simp [zle] <;> rfl) ?_
                    exact ihq v (⟨by omega, hI9⟩)
                ·
                  refine z_iload X dX4_firstStep_138 rfl ?_
                  refine n_if_eq (tgt := 173) X dX4_firstStep_140 (by decide) (by omega) (fun _ => ?_) (fun c140 => absurd c140 (by decide))
                  refine z_iload X dX4_firstStep_173 rfl ?_
                  refine z_istore X dX4_firstStep_175 (Nat.le_of_ble_eq_true rfl) ?_
                  refine z_lv (lv' := [some (.ref (b 0)), some (.int (nI x)), some (.int (nI y)), some (.int (nI z)), some (.int (nI s)), some (.int v), some (.int (nI q)), some (.int (nI 0))]) rfl ?_
                  refine z_iinc (v := sv q) X dX4_firstStep_177 rfl (sv_m q) ?_
                  refine z_lv (lv' := [some (.ref (b 0)), some (.int (nI x)), some (.int (nI y)), some (.int (nI z)), some (.int (nI s)), some (.int v), some (.int (sv q)), some (.int (nI 0))]) rfl ?_
                  refine z_goto (tgt := 100) X dX4_firstStep_180 (by decide) ?_
                  have hI9 : (v = -1 ∧ ∀ m, q ≤ m → m < 8 → ¬ LK S Xn Yn Zn G x y z s (3 + m)) ∨ ∃ j, q ≤ j ∧ j < 8 ∧ v = nI (10 + j) ∧ LK S Xn Yn Zn G x y z s (3 + j) ∧ ∀ m, q ≤ m → m < j → ¬ LK S Xn Yn Zn G x y z s (3 + m) := by
                    have hno : ¬ LK S Xn Yn Zn G x y z s (3 + q) := by first | exact fun p => hjq1 ⟨((LK_g (by omega)).mp p).1, ((LK_g (by omega)).mp p).2.1⟩ | exact fun p => u162 ((LK_g (by omega)).mp p).2.2
                    have hst : ∀ m, q ≤ m → ¬ q + 1 ≤ m → m = q := fun m h1 h2 => by omega
                    rcases hv with ⟨e, h⟩ | ⟨j, h1, h2, h3, h4, h5⟩
                    · refine Or.inl ⟨e, fun m h1 h2 => ?_⟩
                      by_cases hm : q + 1 ≤ m
                      · exact h m hm h2
                      · rw [hst m h1 hm]; exact hno
                    · refine Or.inr ⟨j, by omega, h2, h3, h4, fun m h6 h7 => ?_⟩
                      by_cases hm : q + 1 ≤ m
                      · exact h5 m hm h7
                      · rw [hst m h6 hm]; exact hno
                  refine Wz.less (lv' := [some (.ref (b 0)), some (.int (nI x)), some (.int (nI y)), some (.int (nI z)), some (.int (nI s)), some (.int v), some (.int (sv q)), none]) (by simp [zle] <;> rfl) ?_
                  exact ihq v (⟨by omega, hI9⟩)
              refine z_aload_n X dX4_firstStep_105 rfl rfl ?_
              refine z_get X (C := RX4) (T := TX4) (N := 21) (ci := 4) (v := .int (S 18 0)) inZ4 0 4 rfl rfl (by decide) q_fl_X4_111 rfl rfl dX4_firstStep_106 ?_
              refine z_top (y := nI G) (h18) ?_
              refine z_iload X dX4_firstStep_109 rfl ?_
              refine z_callS1 (k := 0) (n := 0) (st := []) X (c_X4_has l D t G q (by omega) (by omega)) k_X4_has q_ml_X4_107 [] ⟨by decide, rfl⟩ (by decide) rfl rfl rfl (Nat.le_of_ble_eq_true rfl) ⟨Nat.zero_le _, Nat.zero_le _⟩ dX4_firstStep_111 (fun r111 h111 => ?_)
              rcases h111 with ⟨rfl, h111⟩ | ⟨rfl, h111⟩
              ·
                refine n_if_eq (tgt := 135) X dX4_firstStep_114 (by decide) (by omega) (fun c114 => absurd c114 (by decide)) (fun _ => ?_)
                refine z_aload_n X dX4_firstStep_117 rfl rfl ?_
                refine z_iload X dX4_firstStep_118 rfl ?_
                refine z_iload_n X dX4_firstStep_120 rfl rfl ?_
                refine z_iload_n X dX4_firstStep_121 rfl rfl ?_
                refine z_iload_n X dX4_firstStep_122 rfl rfl ?_
                refine z_iload X dX4_firstStep_123 rfl ?_
                refine z_callV1 (k := 0) (n := 0) (st := []) X (c_X4_mayTake l D t b (va_up S 22 f) q x y z s (by omega) (by omega) (by omega) hI) k_X4_mayTake q_ml_X4_114 is19 ⟨by decide, rfl⟩ 0 4 rfl rfl (by decide) rfl rfl rfl (Nat.le_of_ble_eq_true rfl) ⟨Nat.zero_le _, Nat.zero_le _⟩ dX4_firstStep_125 (fun r125 h125 => ?_)
                replace h125 : bz r125 (mt S x y z s q) := h125
                rcases h125 with ⟨rfl, h125⟩ | ⟨rfl, h125⟩
                ·
                  refine n_if_eq (tgt := 135) X dX4_firstStep_128 (by decide) (by omega) (fun c128 => absurd c128 (by decide)) (fun _ => ?_)
                  refine z_iconst (v := nI 1) X dX4_firstStep_131 (by decide) ?_
                  refine z_goto (tgt := 136) X dX4_firstStep_132 (by decide) ?_
                  exact jq1 (nI 1) (by
                              first
                                | exact bz_t (⟨h111, h125⟩)
                                | exact bz_f (fun p => h111 p.1)
                                | exact bz_f (fun p => h125 p.2))
                ·
                  refine n_if_eq (tgt := 135) X dX4_firstStep_128 (by decide) (by omega) (fun _ => ?_) (fun c128 => absurd c128 (by decide))
                  refine z_iconst (v := nI 0) X dX4_firstStep_135 (by decide) ?_
                  exact jq1 (nI 0) (by
                              first
                                | exact bz_t (⟨h111, h125⟩)
                                | exact bz_f (fun p => h111 p.1)
                                | exact bz_f (fun p => h125 p.2))
              ·
                refine n_if_eq (tgt := 135) X dX4_firstStep_114 (by decide) (by omega) (fun _ => ?_) (fun c114 => absurd c114 (by decide))
                refine z_iconst (v := nI 0) X dX4_firstStep_135 (by decide) ?_
                exact jq1 (nI 0) (by
                              first
                                | exact bz_t (⟨h111, h125⟩)
                                | exact bz_f (fun p => h111 p.1)
                                | exact bz_f (fun p => h125 p.2))
      ·
        refine z_aload_n X dX4_firstStep_41 rfl rfl ?_
        refine z_get X (C := RX4) (T := TX4) (N := 21) (ci := 4) (v := .ref (b 18)) inZ4 0 19 rfl rfl (by decide) q_fl_X4_61 rfl rfl dX4_firstStep_42 ?_
        refine z_aload_n X dX4_firstStep_45 rfl rfl ?_
        refine z_iload_n X dX4_firstStep_46 rfl rfl ?_
        refine z_iload_n X dX4_firstStep_47 rfl rfl ?_
        refine z_iconst (v := nI 1) X dX4_firstStep_48 (by decide) ?_
        refine n_iadd X dX4_firstStep_49 ?_
        refine z_iload_n X dX4_firstStep_50 rfl rfl ?_
        refine z_iload X dX4_firstStep_51 rfl ?_
        refine z_callV1 (k := 0) (n := 0) (st := [.ref (b 18)]) X (c_X4_place l D t b (va_up S 22 f) Xn Yn Zn h15 x (y + 1) z s) k_X4_place q_ml_X4_142 is19 ⟨by decide, rfl⟩ 0 4 rfl rfl (by decide) rfl rfl rfl (Nat.le_of_ble_eq_true rfl) ⟨Nat.zero_le _, Nat.zero_le _⟩ dX4_firstStep_53 (fun r53 h53 => ?_)
        subst h53
        have hix := ix_lt (s := s) hX hx (show y + 1 ≤ Yn by omega) hz hs
        refine n_zald (f := f) X 18 rfl (by omega) (by decide) dX4_firstStep_56 ?_
        rcases hL x (y + 1) z s (by omega) (by omega) (by omega) hs (Nat.zero_le _) with ⟨e9, u56⟩ | ⟨e9, u56⟩
        ·
          refine z_top (y := nI 1) e9 ?_
          refine n_if_eq (tgt := 62) X dX4_firstStep_57 (by decide) (by omega) (fun c57 => absurd c57 (by decide)) (fun _ => ?_)
          refine z_iconst (v := nI 1) X dX4_firstStep_60 (by decide) ?_
          refine z_iret X Z rfl dX4_firstStep_61 ?_
          have n0 : ¬ LK S Xn Yn Zn G x y z s 0 := (by first | exact fun q => u25 (LK_0.mp q).2 | exact fun q => absurd (LK_0.mp q).1 (by omega))
          exact ⟨(), ⟨1, rfl, lead_k (by decide) (LK_1.mpr ⟨c38, u56⟩) (fun i h => by rw [show i = 0 by omega]; exact n0)⟩, fun _ _ => trivial⟩
        ·
          refine z_top (y := nI 0) e9 ?_
          refine n_if_eq (tgt := 62) X dX4_firstStep_57 (by decide) (by omega) (fun _ => ?_) (fun c57 => absurd c57 (by decide))
          refine z_iload_n X dX4_firstStep_62 rfl rfl ?_
          refine z_aload_n X dX4_firstStep_63 rfl rfl ?_
          refine z_get X (C := RX4) (T := TX4) (N := 21) (ci := 4) (v := .ref (b 3)) inZ4 0 2 rfl rfl (by decide) q_fl_X4_16 rfl rfl dX4_firstStep_64 ?_
          refine z_iconst (v := nI 2) X dX4_firstStep_67 (by decide) ?_
          refine n_iald (f := S 15) X 3 rfl (by omega) (by decide) dX4_firstStep_68 ?_
          refine z_top (y := nI Zn) (by rw [h15]; rfl) ?_
          refine n_icmp_ge (tgt := 93) X dX4_firstStep_69 (by decide) (by omega) (by omega) (fun c69 => ?_) (fun c69 => ?_)
          ·
            refine z_iconst (v := (-1)) X dX4_firstStep_93 (by decide) ?_
            refine z_istore X dX4_firstStep_94 (Nat.le_of_ble_eq_true rfl) ?_
            refine z_lv (lv' := [some (.ref (b 0)), some (.int (nI x)), some (.int (nI y)), some (.int (nI z)), some (.int (nI s)), some (.int (-1)), none, none]) rfl ?_
            refine z_bipush (v := nI 7) X dX4_firstStep_96 (by decide) ?_
            refine z_istore X dX4_firstStep_98 (Nat.le_of_ble_eq_true rfl) ?_
            refine z_lv (lv' := [some (.ref (b 0)), some (.int (nI x)), some (.int (nI y)), some (.int (nI z)), some (.int (nI s)), some (.int (-1)), some (.int (nI 7)), none]) rfl ?_
            have n0 : ¬ LK S Xn Yn Zn G x y z s 0 := (by first | exact fun q => u25 (LK_0.mp q).2 | exact fun q => absurd (LK_0.mp q).1 (by omega))
            have n1 : ¬ LK S Xn Yn Zn G x y z s 1 := (by first | exact fun q => u56 (LK_1.mp q).2 | exact fun q => absurd (LK_1.mp q).1 (by omega))
            have n2 : ¬ LK S Xn Yn Zn G x y z s 2 := (by first | exact fun q => u87 (LK_2.mp q).2 | exact fun q => absurd (LK_2.mp q).1 (by omega))
            refine zl_dn (fun q => ∀ (v : Int32), (q ≤ 8 ∧ ((v = -1 ∧ ∀ m, q ≤ m → m < 8 → ¬ LK S Xn Yn Zn G x y z s (3 + m)) ∨ ∃ j, q ≤ j ∧ j < 8 ∧ v = nI (10 + j) ∧ LK S Xn Yn Zn G x y z s (3 + j) ∧ ∀ m, q ≤ m → m < j → ¬ LK S Xn Yn Zn G x y z s (3 + m))) → Wz E 0 0 100 [some (.ref (b 0)), some (.int (nI x)), some (.int (nI y)), some (.int (nI z)), some (.int (nI s)), some (.int v), some (.int (sv q)), none] [] (wM t b (va_up S 22 f))) ?_ ?_ 8 (-1) (⟨Nat.le_refl 8, Or.inl ⟨rfl, fun m h1 h2 => absurd h1 (by omega)⟩⟩)
            ·
              intro v hv
              obtain ⟨hq8, hv⟩ := hv
              refine z_lv (lv' := [some (.ref (b 0)), some (.int (nI x)), some (.int (nI y)), some (.int (nI z)), some (.int (nI s)), some (.int v), some (.int (-1)), none]) rfl ?_
              refine z_iload X dX4_firstStep_100 rfl ?_
              refine z_if_lt (tgt := 183) X dX4_firstStep_102 (by decide) (fun _ => ?_) (fun c102 => absurd c102 (by decide))
              refine z_iload X dX4_firstStep_183 rfl ?_
              refine z_iret X Z rfl dX4_firstStep_185 ?_
              rcases hv with ⟨-, h⟩ | ⟨j, h1, h2, rfl, h4, h5⟩
              · exfalso
                obtain ⟨k, hk, hK⟩ := LK_some hR hn
                exact lt_3 (j := 8) n0 n1 n2 (fun m hm => h m (Nat.zero_le m) hm) k (by omega) hK
              · exact ⟨(), ⟨3 + j, by rw [cnv_g], lead_k (by omega) h4 (lt_3 n0 n1 n2 (fun m hm => h5 m (Nat.zero_le m) hm))⟩, fun _ _ => trivial⟩
            ·
              intro q ihq v hv
              obtain ⟨hq8, hv⟩ := hv
              refine z_lv (lv' := [some (.ref (b 0)), some (.int (nI x)), some (.int (nI y)), some (.int (nI z)), some (.int (nI s)), some (.int v), some (.int (nI q)), none]) rfl ?_
              refine z_iload X dX4_firstStep_100 rfl ?_
              refine n_if_lt (tgt := 183) X dX4_firstStep_102 (by decide) (by omega) ?_
              have jq1 : ∀ (q1 : Int32), bz q1 (G.testBit q = true ∧ mt S x y z s q) → Wz E 0 0 136 [some (.ref (b 0)), some (.int (nI x)), some (.int (nI y)), some (.int (nI z)), some (.int (nI s)), some (.int v), some (.int (nI q)), none] [.int q1] (wM t b (va_up S 22 f)) := by
                intro q1 hjq1
                refine z_istore X dX4_firstStep_136 (Nat.le_of_ble_eq_true rfl) ?_
                refine z_lv (lv' := [some (.ref (b 0)), some (.int (nI x)), some (.int (nI y)), some (.int (nI z)), some (.int (nI s)), some (.int v), some (.int (nI q)), some (.int q1)]) rfl ?_
                rcases hjq1 with ⟨rfl, hjq1⟩ | ⟨rfl, hjq1⟩
                ·
                  refine z_iload X dX4_firstStep_138 rfl ?_
                  refine n_if_eq (tgt := 173) X dX4_firstStep_140 (by decide) (by omega) (fun c140 => absurd c140 (by decide)) (fun _ => ?_)
                  have hsj := zn_or8 s hs q (by omega)
                  have hix := ix_lt hX hx hy hz hsj
                  refine z_aload_n X dX4_firstStep_143 rfl rfl ?_
                  refine z_get X (C := RX4) (T := TX4) (N := 21) (ci := 4) (v := .ref (b 18)) inZ4 0 19 rfl rfl (by decide) q_fl_X4_61 rfl rfl dX4_firstStep_144 ?_
                  refine z_aload_n X dX4_firstStep_147 rfl rfl ?_
                  refine z_iload_n X dX4_firstStep_148 rfl rfl ?_
                  refine z_iload_n X dX4_firstStep_149 rfl rfl ?_
                  refine z_iload_n X dX4_firstStep_150 rfl rfl ?_
                  refine z_iload X dX4_firstStep_151 rfl ?_
                  refine z_iconst (v := nI 1) X dX4_firstStep_153 (by decide) ?_
                  refine z_iload X dX4_firstStep_154 rfl ?_
                  refine n_ishl1 X dX4_firstStep_156 (by omega) ?_
                  refine n_ior X dX4_firstStep_157 ?_
                  refine z_callV1 (k := 0) (n := 0) (st := [.ref (b 18)]) X (c_X4_place l D t b (va_up S 22 f) Xn Yn Zn h15 x y z (s ||| (2 ^ q))) k_X4_place q_ml_X4_142 is19 ⟨by decide, rfl⟩ 0 4 rfl rfl (by decide) rfl rfl rfl (Nat.le_of_ble_eq_true rfl) ⟨Nat.zero_le _, Nat.zero_le _⟩ dX4_firstStep_158 (fun r158 h158 => ?_)
                  subst h158
                  refine n_zald (f := f) X 18 rfl (by omega) (by decide) dX4_firstStep_161 ?_
                  rcases hL x y z (s ||| 2 ^ q) hx hy hz hsj (Nat.zero_le _) with ⟨e9, u162⟩ | ⟨e9, u162⟩
                  ·
                    refine z_top (y := nI 1) e9 ?_
                    refine n_if_eq (tgt := 173) X dX4_firstStep_162 (by decide) (by omega) (fun c162 => absurd c162 (by decide)) (fun _ => ?_)
                    refine z_bipush (v := nI 10) X dX4_firstStep_165 (by decide) ?_
                    refine z_iload X dX4_firstStep_167 rfl ?_
                    refine n_iadd X dX4_firstStep_169 ?_
                    refine z_goto (tgt := 175) X dX4_firstStep_170 (by decide) ?_
                    refine z_istore X dX4_firstStep_175 (Nat.le_of_ble_eq_true rfl) ?_
                    refine z_lv (lv' := [some (.ref (b 0)), some (.int (nI x)), some (.int (nI y)), some (.int (nI z)), some (.int (nI s)), some (.int (nI (10 + q))), some (.int (nI q)), some (.int (nI 1))]) rfl ?_
                    refine z_iinc (v := sv q) X dX4_firstStep_177 rfl (sv_m q) ?_
                    refine z_lv (lv' := [some (.ref (b 0)), some (.int (nI x)), some (.int (nI y)), some (.int (nI z)), some (.int (nI s)), some (.int (nI (10 + q))), some (.int (sv q)), some (.int (nI 1))]) rfl ?_
                    refine z_goto (tgt := 100) X dX4_firstStep_180 (by decide) ?_
                    have hI9 : (nI (10 + q) = -1 ∧ ∀ m, q ≤ m → m < 8 → ¬ LK S Xn Yn Zn G x y z s (3 + m)) ∨ ∃ j, q ≤ j ∧ j < 8 ∧ nI (10 + q) = nI (10 + j) ∧ LK S Xn Yn Zn G x y z s (3 + j) ∧ ∀ m, q ≤ m → m < j → ¬ LK S Xn Yn Zn G x y z s (3 + m) := by
                      exact Or.inr ⟨q, Nat.le_refl q, by omega, rfl, (LK_g (by omega)).mpr ⟨hjq1.1, hjq1.2, u162⟩, fun m h1 h2 => absurd h1 (by omega)⟩
                    refine Wz.less (lv' := [some (.ref (b 0)), some (.int (nI x)), some (.int (nI y)), some (.int (nI z)), some (.int (nI s)), some (.int (nI (10 + q))), some (.int (sv q)), none]) (by simp [zle] <;> rfl) ?_
                    exact ihq (nI (10 + q)) (⟨by omega, hI9⟩)
                  ·
                    refine z_top (y := nI 0) e9 ?_
                    refine n_if_eq (tgt := 173) X dX4_firstStep_162 (by decide) (by omega) (fun _ => ?_) (fun c162 => absurd c162 (by decide))
                    refine z_iload X dX4_firstStep_173 rfl ?_
                    refine z_istore X dX4_firstStep_175 (Nat.le_of_ble_eq_true rfl) ?_
                    refine z_lv (lv' := [some (.ref (b 0)), some (.int (nI x)), some (.int (nI y)), some (.int (nI z)), some (.int (nI s)), some (.int v), some (.int (nI q)), some (.int (nI 1))]) rfl ?_
                    refine z_iinc (v := sv q) X dX4_firstStep_177 rfl (sv_m q) ?_
                    refine z_lv (lv' := [some (.ref (b 0)), some (.int (nI x)), some (.int (nI y)), some (.int (nI z)), some (.int (nI s)), some (.int v), some (.int (sv q)), some (.int (nI 1))]) rfl ?_
                    refine z_goto (tgt := 100) X dX4_firstStep_180 (by decide) ?_
                    have hI9 : (v = -1 ∧ ∀ m, q ≤ m → m < 8 → ¬ LK S Xn Yn Zn G x y z s (3 + m)) ∨ ∃ j, q ≤ j ∧ j < 8 ∧ v = nI (10 + j) ∧ LK S Xn Yn Zn G x y z s (3 + j) ∧ ∀ m, q ≤ m → m < j → ¬ LK S Xn Yn Zn G x y z s (3 + m) := by
                      have hno : ¬ LK S Xn Yn Zn G x y z s (3 + q) := by first | exact fun p => hjq1 ⟨((LK_g (by omega)).mp p).1, ((LK_g (by omega)).mp p).2.1⟩ | exact fun p => u162 ((LK_g (by omega)).mp p).2.2
                      have hst : ∀ m, q ≤ m → ¬ q + 1 ≤ m → m = q := fun m h1 h2 => by omega
                      rcases hv with ⟨e, h⟩ | ⟨j, h1, h2, h3, h4, h5⟩
                      · refine Or.inl ⟨e, fun m h1 h2 => ?_⟩
                        by_cases hm : q + 1 ≤ m
                        · exact h m hm h2
                        · rw [hst m h1 hm]; exact hno
                      · refine Or.inr ⟨j, by omega, h2, h3, h4, fun m h6 h7 => ?_⟩
                        by_cases hm : q + 1 ≤ m
                        · exact h5 m hm h7
                        · rw [hst m h6 hm]; exact hno
                    refine Wz.less (lv' := [some (.ref (b 0)), some (.int (nI x)), some (.int (nI y)), some (.int (nI z)), some (.int (nI s)), some (.int v), some (.int (sv q)), none]) (by simp [zle] <;> rfl) ?_
                    exact ihq v (⟨by omega, hI9⟩)
                ·
                  refine z_iload X dX4_firstStep_138 rfl ?_
                  refine n_if_eq (tgt := 173) X dX4_firstStep_140 (by decide) (by omega) (fun _ => ?_) (fun c140 => absurd c140 (by decide))
                  refine z_iload X dX4_firstStep_173 rfl ?_
                  refine z_istore X dX4_firstStep_175 (Nat.le_of_ble_eq_true rfl) ?_
                  refine z_lv (lv' := [some (.ref (b 0)), some (.int (nI x)), some (.int (nI y)), some (.int (nI z)), some (.int (nI s)), some (.int v), some (.int (nI q)), some (.int (nI 0))]) rfl ?_
                  refine z_iinc (v := sv q) X dX4_firstStep_177 rfl (sv_m q) ?_
                  refine z_lv (lv' := [some (.ref (b 0)), some (.int (nI x)), some (.int (nI y)), some (.int (nI z)), some (.int (nI s)), some (.int v), some (.int (sv q)), some (.int (nI 0))]) rfl ?_
                  refine z_goto (tgt := 100) X dX4_firstStep_180 (by decide) ?_
                  have hI9 : (v = -1 ∧ ∀ m, q ≤ m → m < 8 → ¬ LK S Xn Yn Zn G x y z s (3 + m)) ∨ ∃ j, q ≤ j ∧ j < 8 ∧ v = nI (10 + j) ∧ LK S Xn Yn Zn G x y z s (3 + j) ∧ ∀ m, q ≤ m → m < j → ¬ LK S Xn Yn Zn G x y z s (3 + m) := by
                    have hno : ¬ LK S Xn Yn Zn G x y z s (3 + q) := by first | exact fun p => hjq1 ⟨((LK_g (by omega)).mp p).1, ((LK_g (by omega)).mp p).2.1⟩ | exact fun p => u162 ((LK_g (by omega)).mp p).2.2
                    have hst : ∀ m, q ≤ m → ¬ q + 1 ≤ m → m = q := fun m h1 h2 => by omega
                    rcases hv with ⟨e, h⟩ | ⟨j, h1, h2, h3, h4, h5⟩
                    · refine Or.inl ⟨e, fun m h1 h2 => ?_⟩
                      by_cases hm : q + 1 ≤ m
                      · exact h m hm h2
                      · rw [hst m h1 hm]; exact hno
                    · refine Or.inr ⟨j, by omega, h2, h3, h4, fun m h6 h7 => ?_⟩
                      by_cases hm : q + 1 ≤ m
                      · exact h5 m hm h7
                      · rw [hst m h6 hm]; exact hno
                  refine Wz.less (lv' := [some (.ref (b 0)), some (.int (nI x)), some (.int (nI y)), some (.int (nI z)), some (.int (nI s)), some (.int v), some (.int (sv q)), none]) (by simp [zle] <;> rfl) ?_
                  exact ihq v (⟨by omega, hI9⟩)
              refine z_aload_n X dX4_firstStep_105 rfl rfl ?_
              refine z_get X (C := RX4) (T := TX4) (N := 21) (ci := 4) (v := .int (S 18 0)) inZ4 0 4 rfl rfl (by decide) q_fl_X4_111 rfl rfl dX4_firstStep_106 ?_
              refine z_top (y := nI G) (h18) ?_
              refine z_iload X dX4_firstStep_109 rfl ?_
              refine z_callS1 (k := 0) (n := 0) (st := []) X (c_X4_has l D t G q (by omega) (by omega)) k_X4_has q_ml_X4_107 [] ⟨by decide, rfl⟩ (by decide) rfl rfl rfl (Nat.le_of_ble_eq_true rfl) ⟨Nat.zero_le _, Nat.zero_le _⟩ dX4_firstStep_111 (fun r111 h111 => ?_)
              rcases h111 with ⟨rfl, h111⟩ | ⟨rfl, h111⟩
              ·
                refine n_if_eq (tgt := 135) X dX4_firstStep_114 (by decide) (by omega) (fun c114 => absurd c114 (by decide)) (fun _ => ?_)
                refine z_aload_n X dX4_firstStep_117 rfl rfl ?_
                refine z_iload X dX4_firstStep_118 rfl ?_
                refine z_iload_n X dX4_firstStep_120 rfl rfl ?_
                refine z_iload_n X dX4_firstStep_121 rfl rfl ?_
                refine z_iload_n X dX4_firstStep_122 rfl rfl ?_
                refine z_iload X dX4_firstStep_123 rfl ?_
                refine z_callV1 (k := 0) (n := 0) (st := []) X (c_X4_mayTake l D t b (va_up S 22 f) q x y z s (by omega) (by omega) (by omega) hI) k_X4_mayTake q_ml_X4_114 is19 ⟨by decide, rfl⟩ 0 4 rfl rfl (by decide) rfl rfl rfl (Nat.le_of_ble_eq_true rfl) ⟨Nat.zero_le _, Nat.zero_le _⟩ dX4_firstStep_125 (fun r125 h125 => ?_)
                replace h125 : bz r125 (mt S x y z s q) := h125
                rcases h125 with ⟨rfl, h125⟩ | ⟨rfl, h125⟩
                ·
                  refine n_if_eq (tgt := 135) X dX4_firstStep_128 (by decide) (by omega) (fun c128 => absurd c128 (by decide)) (fun _ => ?_)
                  refine z_iconst (v := nI 1) X dX4_firstStep_131 (by decide) ?_
                  refine z_goto (tgt := 136) X dX4_firstStep_132 (by decide) ?_
                  exact jq1 (nI 1) (by
                              first
                                | exact bz_t (⟨h111, h125⟩)
                                | exact bz_f (fun p => h111 p.1)
                                | exact bz_f (fun p => h125 p.2))
                ·
                  refine n_if_eq (tgt := 135) X dX4_firstStep_128 (by decide) (by omega) (fun _ => ?_) (fun c128 => absurd c128 (by decide))
                  refine z_iconst (v := nI 0) X dX4_firstStep_135 (by decide) ?_
                  exact jq1 (nI 0) (by
                              first
                                | exact bz_t (⟨h111, h125⟩)
                                | exact bz_f (fun p => h111 p.1)
                                | exact bz_f (fun p => h125 p.2))
              ·
                refine n_if_eq (tgt := 135) X dX4_firstStep_114 (by decide) (by omega) (fun _ => ?_) (fun c114 => absurd c114 (by decide))
                refine z_iconst (v := nI 0) X dX4_firstStep_135 (by decide) ?_
                exact jq1 (nI 0) (by
                              first
                                | exact bz_t (⟨h111, h125⟩)
                                | exact bz_f (fun p => h111 p.1)
                                | exact bz_f (fun p => h125 p.2))
          ·
            refine z_aload_n X dX4_firstStep_72 rfl rfl ?_
            refine z_get X (C := RX4) (T := TX4) (N := 21) (ci := 4) (v := .ref (b 18)) inZ4 0 19 rfl rfl (by decide) q_fl_X4_61 rfl rfl dX4_firstStep_73 ?_
            refine z_aload_n X dX4_firstStep_76 rfl rfl ?_
            refine z_iload_n X dX4_firstStep_77 rfl rfl ?_
            refine z_iload_n X dX4_firstStep_78 rfl rfl ?_
            refine z_iload_n X dX4_firstStep_79 rfl rfl ?_
            refine z_iconst (v := nI 1) X dX4_firstStep_80 (by decide) ?_
            refine n_iadd X dX4_firstStep_81 ?_
            refine z_iload X dX4_firstStep_82 rfl ?_
            refine z_callV1 (k := 0) (n := 0) (st := [.ref (b 18)]) X (c_X4_place l D t b (va_up S 22 f) Xn Yn Zn h15 x y (z + 1) s) k_X4_place q_ml_X4_142 is19 ⟨by decide, rfl⟩ 0 4 rfl rfl (by decide) rfl rfl rfl (Nat.le_of_ble_eq_true rfl) ⟨Nat.zero_le _, Nat.zero_le _⟩ dX4_firstStep_84 (fun r84 h84 => ?_)
            subst h84
            have hix := ix_lt (s := s) hX hx hy (show z + 1 ≤ Zn by omega) hs
            refine n_zald (f := f) X 18 rfl (by omega) (by decide) dX4_firstStep_87 ?_
            rcases hL x y (z + 1) s (by omega) (by omega) (by omega) hs (Nat.zero_le _) with ⟨e9, u87⟩ | ⟨e9, u87⟩
            ·
              refine z_top (y := nI 1) e9 ?_
              refine n_if_eq (tgt := 93) X dX4_firstStep_88 (by decide) (by omega) (fun c88 => absurd c88 (by decide)) (fun _ => ?_)
              refine z_iconst (v := nI 2) X dX4_firstStep_91 (by decide) ?_
              refine z_iret X Z rfl dX4_firstStep_92 ?_
              have n0 : ¬ LK S Xn Yn Zn G x y z s 0 := (by first | exact fun q => u25 (LK_0.mp q).2 | exact fun q => absurd (LK_0.mp q).1 (by omega))
              have n1 : ¬ LK S Xn Yn Zn G x y z s 1 := (by first | exact fun q => u56 (LK_1.mp q).2 | exact fun q => absurd (LK_1.mp q).1 (by omega))
              exact ⟨(), ⟨2, rfl, lead_k (by decide) (LK_2.mpr ⟨c69, u87⟩) (fun i h => by rcases (show i = 0 ∨ i = 1 by omega) with rfl | rfl; exact n0; exact n1)⟩, fun _ _ => trivial⟩
            ·
              refine z_top (y := nI 0) e9 ?_
              refine n_if_eq (tgt := 93) X dX4_firstStep_88 (by decide) (by omega) (fun _ => ?_) (fun c88 => absurd c88 (by decide))
              refine z_iconst (v := (-1)) X dX4_firstStep_93 (by decide) ?_
              refine z_istore X dX4_firstStep_94 (Nat.le_of_ble_eq_true rfl) ?_
              refine z_lv (lv' := [some (.ref (b 0)), some (.int (nI x)), some (.int (nI y)), some (.int (nI z)), some (.int (nI s)), some (.int (-1)), none, none]) rfl ?_
              refine z_bipush (v := nI 7) X dX4_firstStep_96 (by decide) ?_
              refine z_istore X dX4_firstStep_98 (Nat.le_of_ble_eq_true rfl) ?_
              refine z_lv (lv' := [some (.ref (b 0)), some (.int (nI x)), some (.int (nI y)), some (.int (nI z)), some (.int (nI s)), some (.int (-1)), some (.int (nI 7)), none]) rfl ?_
              have n0 : ¬ LK S Xn Yn Zn G x y z s 0 := (by first | exact fun q => u25 (LK_0.mp q).2 | exact fun q => absurd (LK_0.mp q).1 (by omega))
              have n1 : ¬ LK S Xn Yn Zn G x y z s 1 := (by first | exact fun q => u56 (LK_1.mp q).2 | exact fun q => absurd (LK_1.mp q).1 (by omega))
              have n2 : ¬ LK S Xn Yn Zn G x y z s 2 := (by first | exact fun q => u87 (LK_2.mp q).2 | exact fun q => absurd (LK_2.mp q).1 (by omega))
              refine zl_dn (fun q => ∀ (v : Int32), (q ≤ 8 ∧ ((v = -1 ∧ ∀ m, q ≤ m → m < 8 → ¬ LK S Xn Yn Zn G x y z s (3 + m)) ∨ ∃ j, q ≤ j ∧ j < 8 ∧ v = nI (10 + j) ∧ LK S Xn Yn Zn G x y z s (3 + j) ∧ ∀ m, q ≤ m → m < j → ¬ LK S Xn Yn Zn G x y z s (3 + m))) → Wz E 0 0 100 [some (.ref (b 0)), some (.int (nI x)), some (.int (nI y)), some (.int (nI z)), some (.int (nI s)), some (.int v), some (.int (sv q)), none] [] (wM t b (va_up S 22 f))) ?_ ?_ 8 (-1) (⟨Nat.le_refl 8, Or.inl ⟨rfl, fun m h1 h2 => absurd h1 (by omega)⟩⟩)
              ·
                intro v hv
                obtain ⟨hq8, hv⟩ := hv
                refine z_lv (lv' := [some (.ref (b 0)), some (.int (nI x)), some (.int (nI y)), some (.int (nI z)), some (.int (nI s)), some (.int v), some (.int (-1)), none]) rfl ?_
                refine z_iload X dX4_firstStep_100 rfl ?_
                refine z_if_lt (tgt := 183) X dX4_firstStep_102 (by decide) (fun _ => ?_) (fun c102 => absurd c102 (by decide))
                refine z_iload X dX4_firstStep_183 rfl ?_
                refine z_iret X Z rfl dX4_firstStep_185 ?_
                rcases hv with ⟨-, h⟩ | ⟨j, h1, h2, rfl, h4, h5⟩
                · exfalso
                  obtain ⟨k, hk, hK⟩ := LK_some hR hn
                  exact lt_3 (j := 8) n0 n1 n2 (fun m hm => h m (Nat.zero_le m) hm) k (by omega) hK
                · exact ⟨(), ⟨3 + j, by rw [cnv_g], lead_k (by omega) h4 (lt_3 n0 n1 n2 (fun m hm => h5 m (Nat.zero_le m) hm))⟩, fun _ _ => trivial⟩
              ·
                intro q ihq v hv
                obtain ⟨hq8, hv⟩ := hv
                refine z_lv (lv' := [some (.ref (b 0)), some (.int (nI x)), some (.int (nI y)), some (.int (nI z)), some (.int (nI s)), some (.int v), some (.int (nI q)), none]) rfl ?_
                refine z_iload X dX4_firstStep_100 rfl ?_
                refine n_if_lt (tgt := 183) X dX4_firstStep_102 (by decide) (by omega) ?_
                have jq1 : ∀ (q1 : Int32), bz q1 (G.testBit q = true ∧ mt S x y z s q) → Wz E 0 0 136 [some (.ref (b 0)), some (.int (nI x)), some (.int (nI y)), some (.int (nI z)), some (.int (nI s)), some (.int v), some (.int (nI q)), none] [.int q1] (wM t b (va_up S 22 f)) := by
                  intro q1 hjq1
                  refine z_istore X dX4_firstStep_136 (Nat.le_of_ble_eq_true rfl) ?_
                  refine z_lv (lv' := [some (.ref (b 0)), some (.int (nI x)), some (.int (nI y)), some (.int (nI z)), some (.int (nI s)), some (.int v), some (.int (nI q)), some (.int q1)]) rfl ?_
                  rcases hjq1 with ⟨rfl, hjq1⟩ | ⟨rfl, hjq1⟩
                  ·
                    refine z_iload X dX4_firstStep_138 rfl ?_
                    refine n_if_eq (tgt := 173) X dX4_firstStep_140 (by decide) (by omega) (fun c140 => absurd c140 (by decide)) (fun _ => ?_)
                    have hsj := zn_or8 s hs q (by omega)
                    have hix := ix_lt hX hx hy hz hsj
                    refine z_aload_n X dX4_firstStep_143 rfl rfl ?_
                    refine z_get X (C := RX4) (T := TX4) (N := 21) (ci := 4) (v := .ref (b 18)) inZ4 0 19 rfl rfl (by decide) q_fl_X4_61 rfl rfl dX4_firstStep_144 ?_
                    refine z_aload_n X dX4_firstStep_147 rfl rfl ?_
                    refine z_iload_n X dX4_firstStep_148 rfl rfl ?_
                    refine z_iload_n X dX4_firstStep_149 rfl rfl ?_
                    refine z_iload_n X dX4_firstStep_150 rfl rfl ?_
                    refine z_iload X dX4_firstStep_151 rfl ?_
                    refine z_iconst (v := nI 1) X dX4_firstStep_153 (by decide) ?_
                    refine z_iload X dX4_firstStep_154 rfl ?_
                    refine n_ishl1 X dX4_firstStep_156 (by omega) ?_
                    refine n_ior X dX4_firstStep_157 ?_
                    refine z_callV1 (k := 0) (n := 0) (st := [.ref (b 18)]) X (c_X4_place l D t b (va_up S 22 f) Xn Yn Zn h15 x y z (s ||| (2 ^ q))) k_X4_place q_ml_X4_142 is19 ⟨by decide, rfl⟩ 0 4 rfl rfl (by decide) rfl rfl rfl (Nat.le_of_ble_eq_true rfl) ⟨Nat.zero_le _, Nat.zero_le _⟩ dX4_firstStep_158 (fun r158 h158 => ?_)
                    subst h158
                    refine n_zald (f := f) X 18 rfl (by omega) (by decide) dX4_firstStep_161 ?_
                    rcases hL x y z (s ||| 2 ^ q) hx hy hz hsj (Nat.zero_le _) with ⟨e9, u162⟩ | ⟨e9, u162⟩
                    ·
                      refine z_top (y := nI 1) e9 ?_
                      refine n_if_eq (tgt := 173) X dX4_firstStep_162 (by decide) (by omega) (fun c162 => absurd c162 (by decide)) (fun _ => ?_)
                      refine z_bipush (v := nI 10) X dX4_firstStep_165 (by decide) ?_
                      refine z_iload X dX4_firstStep_167 rfl ?_
                      refine n_iadd X dX4_firstStep_169 ?_
                      refine z_goto (tgt := 175) X dX4_firstStep_170 (by decide) ?_
                      refine z_istore X dX4_firstStep_175 (Nat.le_of_ble_eq_true rfl) ?_
                      refine z_lv (lv' := [some (.ref (b 0)), some (.int (nI x)), some (.int (nI y)), some (.int (nI z)), some (.int (nI s)), some (.int (nI (10 + q))), some (.int (nI q)), some (.int (nI 1))]) rfl ?_
                      refine z_iinc (v := sv q) X dX4_firstStep_177 rfl (sv_m q) ?_
                      refine z_lv (lv' := [some (.ref (b 0)), some (.int (nI x)), some (.int (nI y)), some (.int (nI z)), some (.int (nI s)), some (.int (nI (10 + q))), some (.int (sv q)), some (.int (nI 1))]) rfl ?_
                      refine z_goto (tgt := 100) X dX4_firstStep_180 (by decide) ?_
                      have hI9 : (nI (10 + q) = -1 ∧ ∀ m, q ≤ m → m < 8 → ¬ LK S Xn Yn Zn G x y z s (3 + m)) ∨ ∃ j, q ≤ j ∧ j < 8 ∧ nI (10 + q) = nI (10 + j) ∧ LK S Xn Yn Zn G x y z s (3 + j) ∧ ∀ m, q ≤ m → m < j → ¬ LK S Xn Yn Zn G x y z s (3 + m) := by
                        exact Or.inr ⟨q, Nat.le_refl q, by omega, rfl, (LK_g (by omega)).mpr ⟨hjq1.1, hjq1.2, u162⟩, fun m h1 h2 => absurd h1 (by omega)⟩
                      refine Wz.less (lv' := [some (.ref (b 0)), some (.int (nI x)), some (.int (nI y)), some (.int (nI z)), some (.int (nI s)), some (.int (nI (10 + q))), some (.int (sv q)), none]) (by simp [zle] <;> rfl) ?_
                      exact ihq (nI (10 + q)) (⟨by omega, hI9⟩)
                    ·
                      refine z_top (y := nI 0) e9 ?_
                      refine n_if_eq (tgt := 173) X dX4_firstStep_162 (by decide) (by omega) (fun _ => ?_) (fun c162 => absurd c162 (by decide))
                      refine z_iload X dX4_firstStep_173 rfl ?_
                      refine z_istore X dX4_firstStep_175 (Nat.le_of_ble_eq_true rfl) ?_
                      refine z_lv (lv' := [some (.ref (b 0)), some (.int (nI x)), some (.int (nI y)), some (.int (nI z)), some (.int (nI s)), some (.int v), some (.int (nI q)), some (.int (nI 1))]) rfl ?_
                      refine z_iinc (v := sv q) X dX4_firstStep_177 rfl (sv_m q) ?_
                      refine z_lv (lv' := [some (.ref (b 0)), some (.int (nI x)), some (.int (nI y)), some (.int (nI z)), some (.int (nI s)), some (.int v), some (.int (sv q)), some (.int (nI 1))]) rfl ?_
                      refine z_goto (tgt := 100) X dX4_firstStep_180 (by decide) ?_
                      have hI9 : (v = -1 ∧ ∀ m, q ≤ m → m < 8 → ¬ LK S Xn Yn Zn G x y z s (3 + m)) ∨ ∃ j, q ≤ j ∧ j < 8 ∧ v = nI (10 + j) ∧ LK S Xn Yn Zn G x y z s (3 + j) ∧ ∀ m, q ≤ m → m < j → ¬ LK S Xn Yn Zn G x y z s (3 + m) := by
                        have hno : ¬ LK S Xn Yn Zn G x y z s (3 + q) := by first | exact fun p => hjq1 ⟨((LK_g (by omega)).mp p).1, ((LK_g (by omega)).mp p).2.1⟩ | exact fun p => u162 ((LK_g (by omega)).mp p).2.2
                        have hst : ∀ m, q ≤ m → ¬ q + 1 ≤ m → m = q := fun m h1 h2 => by omega
                        rcases hv with ⟨e, h⟩ | ⟨j, h1, h2, h3, h4, h5⟩
                        · refine Or.inl ⟨e, fun m h1 h2 => ?_⟩
                          by_cases hm : q + 1 ≤ m
                          · exact h m hm h2
                          · rw [hst m h1 hm]; exact hno
                        · refine Or.inr ⟨j, by omega, h2, h3, h4, fun m h6 h7 => ?_⟩
                          by_cases hm : q + 1 ≤ m
                          · exact h5 m hm h7
                          · rw [hst m h6 hm]; exact hno
                      refine Wz.less (lv' := [some (.ref (b 0)), some (.int (nI x)), some (.int (nI y)), some (.int (nI z)), some (.int (nI s)), some (.int v), some (.int (sv q)), none]) (by simp [zle] <;> rfl) ?_
                      exact ihq v (⟨by omega, hI9⟩)
                  ·
                    refine z_iload X dX4_firstStep_138 rfl ?_
                    refine n_if_eq (tgt := 173) X dX4_firstStep_140 (by decide) (by omega) (fun _ => ?_) (fun c140 => absurd c140 (by decide))
                    refine z_iload X dX4_firstStep_173 rfl ?_
                    refine z_istore X dX4_firstStep_175 (Nat.le_of_ble_eq_true rfl) ?_
                    refine z_lv (lv' := [some (.ref (b 0)), some (.int (nI x)), some (.int (nI y)), some (.int (nI z)), some (.int (nI s)), some (.int v), some (.int (nI q)), some (.int (nI 0))]) rfl ?_
                    refine z_iinc (v := sv q) X dX4_firstStep_177 rfl (sv_m q) ?_
                    refine z_lv (lv' := [some (.ref (b 0)), some (.int (nI x)), some (.int (nI y)), some (.int (nI z)), some (.int (nI s)), some (.int v), some (.int (sv q)), some (.int (nI 0))]) rfl ?_
                    refine z_goto (tgt := 100) X dX4_firstStep_180 (by decide) ?_
                    have hI9 : (v = -1 ∧ ∀ m, q ≤ m → m < 8 → ¬ LK S Xn Yn Zn G x y z s (3 + m)) ∨ ∃ j, q ≤ j ∧ j < 8 ∧ v = nI (10 + j) ∧ LK S Xn Yn Zn G x y z s (3 + j) ∧ ∀ m, q ≤ m → m < j → ¬ LK S Xn Yn Zn G x y z s (3 + m) := by
                      have hno : ¬ LK S Xn Yn Zn G x y z s (3 + q) := by first | exact fun p => hjq1 ⟨((LK_g (by omega)).mp p).1, ((LK_g (by omega)).mp p).2.1⟩ | exact fun p => u162 ((LK_g (by omega)).mp p).2.2
                      have hst : ∀ m, q ≤ m → ¬ q + 1 ≤ m → m = q := fun m h1 h2 => by omega
                      rcases hv with ⟨e, h⟩ | ⟨j, h1, h2, h3, h4, h5⟩
                      · refine Or.inl ⟨e, fun m h1 h2 => ?_⟩
                        by_cases hm : q + 1 ≤ m
                        · exact h m hm h2
                        · rw [hst m h1 hm]; exact hno
                      · refine Or.inr ⟨j, by omega, h2, h3, h4, fun m h6 h7 => ?_⟩
                        by_cases hm : q + 1 ≤ m
                        · exact h5 m hm h7
                        · rw [hst m h6 hm]; exact hno
                    refine Wz.less (lv' := [some (.ref (b 0)), some (.int (nI x)), some (.int (nI y)), some (.int (nI z)), some (.int (nI s)), some (.int v), some (.int (sv q)), none]) (by simp [zle] <;> rfl) ?_
                    exact ihq v (⟨by omega, hI9⟩)
                refine z_aload_n X dX4_firstStep_105 rfl rfl ?_
                refine z_get X (C := RX4) (T := TX4) (N := 21) (ci := 4) (v := .int (S 18 0)) inZ4 0 4 rfl rfl (by decide) q_fl_X4_111 rfl rfl dX4_firstStep_106 ?_
                refine z_top (y := nI G) (h18) ?_
                refine z_iload X dX4_firstStep_109 rfl ?_
                refine z_callS1 (k := 0) (n := 0) (st := []) X (c_X4_has l D t G q (by omega) (by omega)) k_X4_has q_ml_X4_107 [] ⟨by decide, rfl⟩ (by decide) rfl rfl rfl (Nat.le_of_ble_eq_true rfl) ⟨Nat.zero_le _, Nat.zero_le _⟩ dX4_firstStep_111 (fun r111 h111 => ?_)
                rcases h111 with ⟨rfl, h111⟩ | ⟨rfl, h111⟩
                ·
                  refine n_if_eq (tgt := 135) X dX4_firstStep_114 (by decide) (by omega) (fun c114 => absurd c114 (by decide)) (fun _ => ?_)
                  refine z_aload_n X dX4_firstStep_117 rfl rfl ?_
                  refine z_iload X dX4_firstStep_118 rfl ?_
                  refine z_iload_n X dX4_firstStep_120 rfl rfl ?_
                  refine z_iload_n X dX4_firstStep_121 rfl rfl ?_
                  refine z_iload_n X dX4_firstStep_122 rfl rfl ?_
                  refine z_iload X dX4_firstStep_123 rfl ?_
                  refine z_callV1 (k := 0) (n := 0) (st := []) X (c_X4_mayTake l D t b (va_up S 22 f) q x y z s (by omega) (by omega) (by omega) hI) k_X4_mayTake q_ml_X4_114 is19 ⟨by decide, rfl⟩ 0 4 rfl rfl (by decide) rfl rfl rfl (Nat.le_of_ble_eq_true rfl) ⟨Nat.zero_le _, Nat.zero_le _⟩ dX4_firstStep_125 (fun r125 h125 => ?_)
                  replace h125 : bz r125 (mt S x y z s q) := h125
                  rcases h125 with ⟨rfl, h125⟩ | ⟨rfl, h125⟩
                  ·
                    refine n_if_eq (tgt := 135) X dX4_firstStep_128 (by decide) (by omega) (fun c128 => absurd c128 (by decide)) (fun _ => ?_)
                    refine z_iconst (v := nI 1) X dX4_firstStep_131 (by decide) ?_
                    refine z_goto (tgt := 136) X dX4_firstStep_132 (by decide) ?_
                    exact jq1 (nI 1) (by
                                first
                                  | exact bz_t (⟨h111, h125⟩)
                                  | exact bz_f (fun p => h111 p.1)
                                  | exact bz_f (fun p => h125 p.2))
                  ·
                    refine n_if_eq (tgt := 135) X dX4_firstStep_128 (by decide) (by omega) (fun _ => ?_) (fun c128 => absurd c128 (by decide))
                    refine z_iconst (v := nI 0) X dX4_firstStep_135 (by decide) ?_
                    exact jq1 (nI 0) (by
                                first
                                  | exact bz_t (⟨h111, h125⟩)
                                  | exact bz_f (fun p => h111 p.1)
                                  | exact bz_f (fun p => h125 p.2))
                ·
                  refine n_if_eq (tgt := 135) X dX4_firstStep_114 (by decide) (by omega) (fun _ => ?_) (fun c114 => absurd c114 (by decide))
                  refine z_iconst (v := nI 0) X dX4_firstStep_135 (by decide) ?_
                  exact jq1 (nI 0) (by
                                first
                                  | exact bz_t (⟨h111, h125⟩)
                                  | exact bz_f (fun p => h111 p.1)
                                  | exact bz_f (fun p => h125 p.2))
