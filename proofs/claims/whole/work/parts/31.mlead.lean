set_option maxHeartbeats 600000 in
set_option maxRecDepth 100000 in
theorem c_X4_leadsOn (l : Launch) (D : va_G) (t : ClassId × ClassId × ClassId) (b : Nat → Nat) (S : zS) (f : Nat → Int32) (Xn Yn Zn G : Nat) (h15 : S 15 = l3 Xn Yn Zn) (hG : G < 256) (hX : Xn + Yn + Zn ≤ 8) (hI : zI S) (x y z s : Nat) (hx : x ≤ Xn) (hy : y ≤ Yn) (hz : z ≤ Zn) (hs : s < 256) (hL : Lb S Xn Yn Zn G f (ix Yn Zn x y z s + 1)) : zM1 l yX4_leadsOn cX4_leadsOn 8 (some .boolean) 2 D t [.ref (b 0), .int (nI x), .int (nI y), .int (nI z), .int (nI s), .int (nI G)] (wM t b (va_up S 22 f)) (fun r => bz r (Rc S Xn Yn Zn G x y z s)) := by
  refine z_m1 (by decide +kernel) (Nat.le_of_ble_eq_true rfl) (by simp [Value.category]) ?_
  intro E X Z
  refine z_lv (lv' := [some (.ref (b 0)), some (.int (nI x)), some (.int (nI y)), some (.int (nI z)), some (.int (nI s)), some (.int (nI G)), none, none]) rfl ?_
  have jq0 : ∀ (q0 : Int32), bz q0 (LO S Xn Yn Zn G x y z s 0) → Wz E 0 0 42 [some (.ref (b 0)), some (.int (nI x)), some (.int (nI y)), some (.int (nI z)), some (.int (nI s)), some (.int (nI G)), none, none] [.int q0] (wM t b (va_up S 22 f)) := by
    intro q0 hjq0
    refine z_istore X dX4_leadsOn_42 (Nat.le_of_ble_eq_true rfl) ?_
    refine z_lv (lv' := [some (.ref (b 0)), some (.int (nI x)), some (.int (nI y)), some (.int (nI z)), some (.int (nI s)), some (.int (nI G)), some (.int q0), none]) rfl ?_
    have jq1 : ∀ (q1 : Int32), bz q1 (LO S Xn Yn Zn G x y z s 1) → Wz E 0 0 83 [some (.ref (b 0)), some (.int (nI x)), some (.int (nI y)), some (.int (nI z)), some (.int (nI s)), some (.int (nI G)), some (.int q0), none] [.int q1] (wM t b (va_up S 22 f)) := by
      intro q1 hjq1
      refine z_istore X dX4_leadsOn_83 (Nat.le_of_ble_eq_true rfl) ?_
      refine z_lv (lv' := [some (.ref (b 0)), some (.int (nI x)), some (.int (nI y)), some (.int (nI z)), some (.int (nI s)), some (.int (nI G)), some (.int q1), none]) rfl ?_
      have jq2 : ∀ (q2 : Int32), bz q2 (LO S Xn Yn Zn G x y z s 2) → Wz E 0 0 124 [some (.ref (b 0)), some (.int (nI x)), some (.int (nI y)), some (.int (nI z)), some (.int (nI s)), some (.int (nI G)), some (.int q1), none] [.int q2] (wM t b (va_up S 22 f)) := by
        intro q2 hjq2
        refine z_istore X dX4_leadsOn_124 (Nat.le_of_ble_eq_true rfl) ?_
        refine z_lv (lv' := [some (.ref (b 0)), some (.int (nI x)), some (.int (nI y)), some (.int (nI z)), some (.int (nI s)), some (.int (nI G)), some (.int q2), none]) rfl ?_
        have jq3 : ∀ (q3 : Int32), bz q3 (LO S Xn Yn Zn G x y z s 3) → Wz E 0 0 165 [some (.ref (b 0)), some (.int (nI x)), some (.int (nI y)), some (.int (nI z)), some (.int (nI s)), some (.int (nI G)), some (.int q2), none] [.int q3] (wM t b (va_up S 22 f)) := by
          intro q3 hjq3
          refine z_istore X dX4_leadsOn_165 (Nat.le_of_ble_eq_true rfl) ?_
          refine z_lv (lv' := [some (.ref (b 0)), some (.int (nI x)), some (.int (nI y)), some (.int (nI z)), some (.int (nI s)), some (.int (nI G)), some (.int q3), none]) rfl ?_
          refine z_iconst (v := nI 0) X dX4_leadsOn_167 (by decide) ?_
          refine z_istore X dX4_leadsOn_168 (Nat.le_of_ble_eq_true rfl) ?_
          refine z_lv (lv' := [some (.ref (b 0)), some (.int (nI x)), some (.int (nI y)), some (.int (nI z)), some (.int (nI s)), some (.int (nI G)), some (.int q3), some (.int (nI 0))]) rfl ?_
          refine zl_up 8 (fun j => ∀ (q9 : Int32), bz q9 (LO S Xn Yn Zn G x y z s (3 + j)) → Wz E 0 0 170 [some (.ref (b 0)), some (.int (nI x)), some (.int (nI y)), some (.int (nI z)), some (.int (nI s)), some (.int (nI G)), some (.int q9), some (.int (nI j))] [] (wM t b (va_up S 22 f))) ?_ ?_ 0 (by omega) q3 hjq3
          ·
            intro q9 hv
            refine z_iload X dX4_leadsOn_170 rfl ?_
            refine z_bipush (v := nI 8) X dX4_leadsOn_172 (by decide) ?_
            refine n_icmp_ge (tgt := 241) X dX4_leadsOn_174 (by decide) (by omega) (by omega) (fun _ => ?_) (fun c174 => absurd c174 (by decide))
            refine z_iload X dX4_leadsOn_241 rfl ?_
            refine z_iret X Z (hv.bool) dX4_leadsOn_243 ?_
            exact ⟨(), hv.iff LO_Rc, fun _ _ => trivial⟩
          ·
            intro j hj ihj q9 hv
            refine z_iload X dX4_leadsOn_170 rfl ?_
            refine z_bipush (v := nI 8) X dX4_leadsOn_172 (by decide) ?_
            refine n_icmp_ge (tgt := 241) X dX4_leadsOn_174 (by decide) (by omega) (by omega) (fun c174 => absurd c174 (by omega)) (fun _ => ?_)
            rcases hv with ⟨rfl, hv⟩ | ⟨rfl, hv⟩
            ·
              refine z_iload X dX4_leadsOn_177 rfl ?_
              refine n_if_ne (tgt := 241) X dX4_leadsOn_179 (by decide) (by omega) (fun _ => ?_) (fun c179 => absurd c179 (by decide))
              refine z_iload X dX4_leadsOn_241 rfl ?_
              refine z_iret X Z (by decide +kernel) dX4_leadsOn_243 ?_
              exact ⟨(), bz_t (LO_Rc.mp (LO_up hv (by omega))), fun _ _ => trivial⟩
            ·
              refine z_iload X dX4_leadsOn_177 rfl ?_
              refine n_if_ne (tgt := 241) X dX4_leadsOn_179 (by decide) (by omega) (fun c179 => absurd c179 (by decide)) (fun _ => ?_)
              refine z_iload X dX4_leadsOn_182 rfl ?_
              refine z_iload X dX4_leadsOn_184 rfl ?_
              refine z_callS1 (k := 0) (n := 0) (st := []) X (c_X4_has l D t G j (by omega) (by omega)) k_X4_has q_ml_X4_107 [] ⟨by decide, rfl⟩ (by decide) rfl rfl rfl (Nat.le_of_ble_eq_true rfl) ⟨Nat.zero_le _, Nat.zero_le _⟩ dX4_leadsOn_186 (fun r186 h186 => ?_)
              rcases h186 with ⟨rfl, h186⟩ | ⟨rfl, h186⟩
              ·
                refine n_if_eq (tgt := 232) X dX4_leadsOn_189 (by decide) (by omega) (fun c189 => absurd c189 (by decide)) (fun _ => ?_)
                refine z_aload_n X dX4_leadsOn_192 rfl rfl ?_
                refine z_iload X dX4_leadsOn_193 rfl ?_
                refine z_iload_n X dX4_leadsOn_195 rfl rfl ?_
                refine z_iload_n X dX4_leadsOn_196 rfl rfl ?_
                refine z_iload_n X dX4_leadsOn_197 rfl rfl ?_
                refine z_iload X dX4_leadsOn_198 rfl ?_
                refine z_callV1 (k := 0) (n := 0) (st := []) X (c_X4_mayTake l D t b (va_up S 22 f) j x y z s (by omega) (by omega) (by omega) hI) k_X4_mayTake q_ml_X4_114 is19 ⟨by decide, rfl⟩ 0 4 rfl rfl (by decide) rfl rfl rfl (Nat.le_of_ble_eq_true rfl) ⟨Nat.zero_le _, Nat.zero_le _⟩ dX4_leadsOn_200 (fun r200 h200 => ?_)
                replace h200 : bz r200 (mt S x y z s j) := h200
                rcases h200 with ⟨rfl, h200⟩ | ⟨rfl, h200⟩
                ·
                  refine n_if_eq (tgt := 232) X dX4_leadsOn_203 (by decide) (by omega) (fun c203 => absurd c203 (by decide)) (fun _ => ?_)
                  refine z_aload_n X dX4_leadsOn_206 rfl rfl ?_
                  have hsj := zn_or8 s hs j hj
                  have hix := ix_lt hX hx hy hz hsj
                  refine z_get X (C := RX4) (T := TX4) (N := 21) (ci := 4) (v := .ref (b 18)) inZ4 0 19 rfl rfl (by decide) q_fl_X4_61 rfl rfl dX4_leadsOn_207 ?_
                  refine z_aload_n X dX4_leadsOn_210 rfl rfl ?_
                  refine z_iload_n X dX4_leadsOn_211 rfl rfl ?_
                  refine z_iload_n X dX4_leadsOn_212 rfl rfl ?_
                  refine z_iload_n X dX4_leadsOn_213 rfl rfl ?_
                  refine z_iload X dX4_leadsOn_214 rfl ?_
                  refine z_iconst (v := nI 1) X dX4_leadsOn_216 (by decide) ?_
                  refine z_iload X dX4_leadsOn_217 rfl ?_
                  refine n_ishl1 X dX4_leadsOn_219 (by omega) ?_
                  refine n_ior X dX4_leadsOn_220 ?_
                  refine z_callV1 (k := 0) (n := 0) (st := [.ref (b 18)]) X (c_X4_place l D t b (va_up S 22 f) Xn Yn Zn h15 x y z (s ||| (2 ^ j))) k_X4_place q_ml_X4_142 is19 ⟨by decide, rfl⟩ 0 4 rfl rfl (by decide) rfl rfl rfl (Nat.le_of_ble_eq_true rfl) ⟨Nat.zero_le _, Nat.zero_le _⟩ dX4_leadsOn_221 (fun r221 h221 => ?_)
                  subst h221
                  refine n_zald (f := f) X 18 rfl (by omega) (by decide) dX4_leadsOn_224 ?_
                  rcases hL x y z (s ||| 2 ^ j) hx hy hz hsj (ix_g h200.1) with ⟨e9, u225⟩ | ⟨e9, u225⟩
                  ·
                    refine z_top (y := nI 1) e9 ?_
                    refine n_if_eq (tgt := 232) X dX4_leadsOn_225 (by decide) (by omega) (fun c225 => absurd c225 (by decide)) (fun _ => ?_)
                    refine z_iconst (v := nI 1) X dX4_leadsOn_228 (by decide) ?_
                    refine z_goto (tgt := 233) X dX4_leadsOn_229 (by decide) ?_
                    refine z_istore X dX4_leadsOn_233 (Nat.le_of_ble_eq_true rfl) ?_
                    refine z_lv (lv' := [some (.ref (b 0)), some (.int (nI x)), some (.int (nI y)), some (.int (nI z)), some (.int (nI s)), some (.int (nI G)), some (.int (nI 1)), some (.int (nI j))]) rfl ?_
                    refine z_iinc (v := nI (j + 1)) X dX4_leadsOn_235 rfl (nI_add j 1) ?_
                    refine z_lv (lv' := [some (.ref (b 0)), some (.int (nI x)), some (.int (nI y)), some (.int (nI z)), some (.int (nI s)), some (.int (nI G)), some (.int (nI 1)), some (.int (nI (j + 1)))]) rfl ?_
                    refine z_goto (tgt := 170) X dX4_leadsOn_238 (by decide) ?_
                    exact ihj (nI 1) (by
                        first
                          | exact bz_t (LO_s.mpr (Or.inr ((LK_g hj).mpr ⟨h186, h200, u225⟩)))
                          | exact bz_f (fun h => (LO_s.mp h).elim hv (fun q => h186 ((LK_g hj).mp q).1))
                          | exact bz_f (fun h => (LO_s.mp h).elim hv (fun q => h200 ((LK_g hj).mp q).2.1))
                          | exact bz_f (fun h => (LO_s.mp h).elim hv (fun q => u225 ((LK_g hj).mp q).2.2)))
                  ·
                    refine z_top (y := nI 0) e9 ?_
                    refine n_if_eq (tgt := 232) X dX4_leadsOn_225 (by decide) (by omega) (fun _ => ?_) (fun c225 => absurd c225 (by decide))
                    refine z_iconst (v := nI 0) X dX4_leadsOn_232 (by decide) ?_
                    refine z_istore X dX4_leadsOn_233 (Nat.le_of_ble_eq_true rfl) ?_
                    refine z_lv (lv' := [some (.ref (b 0)), some (.int (nI x)), some (.int (nI y)), some (.int (nI z)), some (.int (nI s)), some (.int (nI G)), some (.int (nI 0)), some (.int (nI j))]) rfl ?_
                    refine z_iinc (v := nI (j + 1)) X dX4_leadsOn_235 rfl (nI_add j 1) ?_
                    refine z_lv (lv' := [some (.ref (b 0)), some (.int (nI x)), some (.int (nI y)), some (.int (nI z)), some (.int (nI s)), some (.int (nI G)), some (.int (nI 0)), some (.int (nI (j + 1)))]) rfl ?_
                    refine z_goto (tgt := 170) X dX4_leadsOn_238 (by decide) ?_
                    exact ihj (nI 0) (by
                        first
                          | exact bz_t (LO_s.mpr (Or.inr ((LK_g hj).mpr ⟨h186, h200, u225⟩)))
                          | exact bz_f (fun h => (LO_s.mp h).elim hv (fun q => h186 ((LK_g hj).mp q).1))
                          | exact bz_f (fun h => (LO_s.mp h).elim hv (fun q => h200 ((LK_g hj).mp q).2.1))
                          | exact bz_f (fun h => (LO_s.mp h).elim hv (fun q => u225 ((LK_g hj).mp q).2.2)))
                ·
                  refine n_if_eq (tgt := 232) X dX4_leadsOn_203 (by decide) (by omega) (fun _ => ?_) (fun c203 => absurd c203 (by decide))
                  refine z_iconst (v := nI 0) X dX4_leadsOn_232 (by decide) ?_
                  refine z_istore X dX4_leadsOn_233 (Nat.le_of_ble_eq_true rfl) ?_
                  refine z_lv (lv' := [some (.ref (b 0)), some (.int (nI x)), some (.int (nI y)), some (.int (nI z)), some (.int (nI s)), some (.int (nI G)), some (.int (nI 0)), some (.int (nI j))]) rfl ?_
                  refine z_iinc (v := nI (j + 1)) X dX4_leadsOn_235 rfl (nI_add j 1) ?_
                  refine z_lv (lv' := [some (.ref (b 0)), some (.int (nI x)), some (.int (nI y)), some (.int (nI z)), some (.int (nI s)), some (.int (nI G)), some (.int (nI 0)), some (.int (nI (j + 1)))]) rfl ?_
                  refine z_goto (tgt := 170) X dX4_leadsOn_238 (by decide) ?_
                  exact ihj (nI 0) (by
                      first
                        | exact bz_t (LO_s.mpr (Or.inr ((LK_g hj).mpr ⟨h186, h200, u225⟩)))
                        | exact bz_f (fun h => (LO_s.mp h).elim hv (fun q => h186 ((LK_g hj).mp q).1))
                        | exact bz_f (fun h => (LO_s.mp h).elim hv (fun q => h200 ((LK_g hj).mp q).2.1))
                        | exact bz_f (fun h => (LO_s.mp h).elim hv (fun q => u225 ((LK_g hj).mp q).2.2)))
              ·
                refine n_if_eq (tgt := 232) X dX4_leadsOn_189 (by decide) (by omega) (fun _ => ?_) (fun c189 => absurd c189 (by decide))
                refine z_iconst (v := nI 0) X dX4_leadsOn_232 (by decide) ?_
                refine z_istore X dX4_leadsOn_233 (Nat.le_of_ble_eq_true rfl) ?_
                refine z_lv (lv' := [some (.ref (b 0)), some (.int (nI x)), some (.int (nI y)), some (.int (nI z)), some (.int (nI s)), some (.int (nI G)), some (.int (nI 0)), some (.int (nI j))]) rfl ?_
                refine z_iinc (v := nI (j + 1)) X dX4_leadsOn_235 rfl (nI_add j 1) ?_
                refine z_lv (lv' := [some (.ref (b 0)), some (.int (nI x)), some (.int (nI y)), some (.int (nI z)), some (.int (nI s)), some (.int (nI G)), some (.int (nI 0)), some (.int (nI (j + 1)))]) rfl ?_
                refine z_goto (tgt := 170) X dX4_leadsOn_238 (by decide) ?_
                exact ihj (nI 0) (by
                    first
                      | exact bz_t (LO_s.mpr (Or.inr ((LK_g hj).mpr ⟨h186, h200, u225⟩)))
                      | exact bz_f (fun h => (LO_s.mp h).elim hv (fun q => h186 ((LK_g hj).mp q).1))
                      | exact bz_f (fun h => (LO_s.mp h).elim hv (fun q => h200 ((LK_g hj).mp q).2.1))
                      | exact bz_f (fun h => (LO_s.mp h).elim hv (fun q => u225 ((LK_g hj).mp q).2.2)))
        rcases hjq2 with ⟨rfl, hjq2⟩ | ⟨rfl, hjq2⟩
        ·
          refine z_iload X dX4_leadsOn_126 rfl ?_
          refine n_if_ne (tgt := 160) X dX4_leadsOn_128 (by decide) (by omega) (fun _ => ?_) (fun c128 => absurd c128 (by decide))
          refine z_iconst (v := nI 1) X dX4_leadsOn_160 (by decide) ?_
          refine z_goto (tgt := 165) X dX4_leadsOn_161 (by decide) ?_
          exact jq3 (nI 1) (by
                        first
                          | exact bz_t (LO_s.mpr (Or.inl hjq2))
                          | exact bz_t (LO_s.mpr (Or.inr (LK_2.mpr ⟨c138, u157⟩)))
                          | exact bz_f (fun h => (LO_s.mp h).elim hjq2 (fun q => absurd (LK_2.mp q).1 (by omega)))
                          | exact bz_f (fun h => (LO_s.mp h).elim hjq2 (fun q => u157 (LK_2.mp q).2)))
        ·
          refine z_iload X dX4_leadsOn_126 rfl ?_
          refine n_if_ne (tgt := 160) X dX4_leadsOn_128 (by decide) (by omega) (fun c128 => absurd c128 (by decide)) (fun _ => ?_)
          refine z_iload_n X dX4_leadsOn_131 rfl rfl ?_
          refine z_aload_n X dX4_leadsOn_132 rfl rfl ?_
          refine z_get X (C := RX4) (T := TX4) (N := 21) (ci := 4) (v := .ref (b 3)) inZ4 0 2 rfl rfl (by decide) q_fl_X4_16 rfl rfl dX4_leadsOn_133 ?_
          refine z_iconst (v := nI 2) X dX4_leadsOn_136 (by decide) ?_
          refine n_iald (f := S 15) X 3 rfl (by omega) (by decide) dX4_leadsOn_137 ?_
          refine z_top (y := nI Zn) (by rw [h15]; rfl) ?_
          refine n_icmp_ge (tgt := 164) X dX4_leadsOn_138 (by decide) (by omega) (by omega) (fun c138 => ?_) (fun c138 => ?_)
          ·
            refine z_iconst (v := nI 0) X dX4_leadsOn_164 (by decide) ?_
            exact jq3 (nI 0) (by
                        first
                          | exact bz_t (LO_s.mpr (Or.inl hjq2))
                          | exact bz_t (LO_s.mpr (Or.inr (LK_2.mpr ⟨c138, u157⟩)))
                          | exact bz_f (fun h => (LO_s.mp h).elim hjq2 (fun q => absurd (LK_2.mp q).1 (by omega)))
                          | exact bz_f (fun h => (LO_s.mp h).elim hjq2 (fun q => u157 (LK_2.mp q).2)))
          ·
            refine z_aload_n X dX4_leadsOn_141 rfl rfl ?_
            refine z_get X (C := RX4) (T := TX4) (N := 21) (ci := 4) (v := .ref (b 18)) inZ4 0 19 rfl rfl (by decide) q_fl_X4_61 rfl rfl dX4_leadsOn_142 ?_
            refine z_aload_n X dX4_leadsOn_145 rfl rfl ?_
            refine z_iload_n X dX4_leadsOn_146 rfl rfl ?_
            refine z_iload_n X dX4_leadsOn_147 rfl rfl ?_
            refine z_iload_n X dX4_leadsOn_148 rfl rfl ?_
            refine z_iconst (v := nI 1) X dX4_leadsOn_149 (by decide) ?_
            refine n_iadd X dX4_leadsOn_150 ?_
            refine z_iload X dX4_leadsOn_151 rfl ?_
            refine z_callV1 (k := 0) (n := 0) (st := [.ref (b 18)]) X (c_X4_place l D t b (va_up S 22 f) Xn Yn Zn h15 x y (z + 1) s) k_X4_place q_ml_X4_142 is19 ⟨by decide, rfl⟩ 0 4 rfl rfl (by decide) rfl rfl rfl (Nat.le_of_ble_eq_true rfl) ⟨Nat.zero_le _, Nat.zero_le _⟩ dX4_leadsOn_153 (fun r153 h153 => ?_)
            subst h153
            have hix := ix_lt (s := s) hX hx hy (show z + 1 ≤ Zn by omega) hs
            refine n_zald (f := f) X 18 rfl (by omega) (by decide) dX4_leadsOn_156 ?_
            rcases hL x y (z + 1) s (by omega) (by omega) (by omega) hs (ix_z) with ⟨e9, u157⟩ | ⟨e9, u157⟩
            ·
              refine z_top (y := nI 1) e9 ?_
              refine n_if_eq (tgt := 164) X dX4_leadsOn_157 (by decide) (by omega) (fun c157 => absurd c157 (by decide)) (fun _ => ?_)
              refine z_iconst (v := nI 1) X dX4_leadsOn_160 (by decide) ?_
              refine z_goto (tgt := 165) X dX4_leadsOn_161 (by decide) ?_
              exact jq3 (nI 1) (by
                        first
                          | exact bz_t (LO_s.mpr (Or.inl hjq2))
                          | exact bz_t (LO_s.mpr (Or.inr (LK_2.mpr ⟨c138, u157⟩)))
                          | exact bz_f (fun h => (LO_s.mp h).elim hjq2 (fun q => absurd (LK_2.mp q).1 (by omega)))
                          | exact bz_f (fun h => (LO_s.mp h).elim hjq2 (fun q => u157 (LK_2.mp q).2)))
            ·
              refine z_top (y := nI 0) e9 ?_
              refine n_if_eq (tgt := 164) X dX4_leadsOn_157 (by decide) (by omega) (fun _ => ?_) (fun c157 => absurd c157 (by decide))
              refine z_iconst (v := nI 0) X dX4_leadsOn_164 (by decide) ?_
              exact jq3 (nI 0) (by
                        first
                          | exact bz_t (LO_s.mpr (Or.inl hjq2))
                          | exact bz_t (LO_s.mpr (Or.inr (LK_2.mpr ⟨c138, u157⟩)))
                          | exact bz_f (fun h => (LO_s.mp h).elim hjq2 (fun q => absurd (LK_2.mp q).1 (by omega)))
                          | exact bz_f (fun h => (LO_s.mp h).elim hjq2 (fun q => u157 (LK_2.mp q).2)))
      rcases hjq1 with ⟨rfl, hjq1⟩ | ⟨rfl, hjq1⟩
      ·
        refine z_iload X dX4_leadsOn_85 rfl ?_
        refine n_if_ne (tgt := 119) X dX4_leadsOn_87 (by decide) (by omega) (fun _ => ?_) (fun c87 => absurd c87 (by decide))
        refine z_iconst (v := nI 1) X dX4_leadsOn_119 (by decide) ?_
        refine z_goto (tgt := 124) X dX4_leadsOn_120 (by decide) ?_
        exact jq2 (nI 1) (by
                      first
                        | exact bz_t (LO_s.mpr (Or.inl hjq1))
                        | exact bz_t (LO_s.mpr (Or.inr (LK_1.mpr ⟨c97, u116⟩)))
                        | exact bz_f (fun h => (LO_s.mp h).elim hjq1 (fun q => absurd (LK_1.mp q).1 (by omega)))
                        | exact bz_f (fun h => (LO_s.mp h).elim hjq1 (fun q => u116 (LK_1.mp q).2)))
      ·
        refine z_iload X dX4_leadsOn_85 rfl ?_
        refine n_if_ne (tgt := 119) X dX4_leadsOn_87 (by decide) (by omega) (fun c87 => absurd c87 (by decide)) (fun _ => ?_)
        refine z_iload_n X dX4_leadsOn_90 rfl rfl ?_
        refine z_aload_n X dX4_leadsOn_91 rfl rfl ?_
        refine z_get X (C := RX4) (T := TX4) (N := 21) (ci := 4) (v := .ref (b 3)) inZ4 0 2 rfl rfl (by decide) q_fl_X4_16 rfl rfl dX4_leadsOn_92 ?_
        refine z_iconst (v := nI 1) X dX4_leadsOn_95 (by decide) ?_
        refine n_iald (f := S 15) X 3 rfl (by omega) (by decide) dX4_leadsOn_96 ?_
        refine z_top (y := nI Yn) (by rw [h15]; rfl) ?_
        refine n_icmp_ge (tgt := 123) X dX4_leadsOn_97 (by decide) (by omega) (by omega) (fun c97 => ?_) (fun c97 => ?_)
        ·
          refine z_iconst (v := nI 0) X dX4_leadsOn_123 (by decide) ?_
          exact jq2 (nI 0) (by
                      first
                        | exact bz_t (LO_s.mpr (Or.inl hjq1))
                        | exact bz_t (LO_s.mpr (Or.inr (LK_1.mpr ⟨c97, u116⟩)))
                        | exact bz_f (fun h => (LO_s.mp h).elim hjq1 (fun q => absurd (LK_1.mp q).1 (by omega)))
                        | exact bz_f (fun h => (LO_s.mp h).elim hjq1 (fun q => u116 (LK_1.mp q).2)))
        ·
          refine z_aload_n X dX4_leadsOn_100 rfl rfl ?_
          refine z_get X (C := RX4) (T := TX4) (N := 21) (ci := 4) (v := .ref (b 18)) inZ4 0 19 rfl rfl (by decide) q_fl_X4_61 rfl rfl dX4_leadsOn_101 ?_
          refine z_aload_n X dX4_leadsOn_104 rfl rfl ?_
          refine z_iload_n X dX4_leadsOn_105 rfl rfl ?_
          refine z_iload_n X dX4_leadsOn_106 rfl rfl ?_
          refine z_iconst (v := nI 1) X dX4_leadsOn_107 (by decide) ?_
          refine n_iadd X dX4_leadsOn_108 ?_
          refine z_iload_n X dX4_leadsOn_109 rfl rfl ?_
          refine z_iload X dX4_leadsOn_110 rfl ?_
          refine z_callV1 (k := 0) (n := 0) (st := [.ref (b 18)]) X (c_X4_place l D t b (va_up S 22 f) Xn Yn Zn h15 x (y + 1) z s) k_X4_place q_ml_X4_142 is19 ⟨by decide, rfl⟩ 0 4 rfl rfl (by decide) rfl rfl rfl (Nat.le_of_ble_eq_true rfl) ⟨Nat.zero_le _, Nat.zero_le _⟩ dX4_leadsOn_112 (fun r112 h112 => ?_)
          subst h112
          have hix := ix_lt (s := s) hX hx (show y + 1 ≤ Yn by omega) hz hs
          refine n_zald (f := f) X 18 rfl (by omega) (by decide) dX4_leadsOn_115 ?_
          rcases hL x (y + 1) z s (by omega) (by omega) (by omega) hs (ix_y hz hs) with ⟨e9, u116⟩ | ⟨e9, u116⟩
          ·
            refine z_top (y := nI 1) e9 ?_
            refine n_if_eq (tgt := 123) X dX4_leadsOn_116 (by decide) (by omega) (fun c116 => absurd c116 (by decide)) (fun _ => ?_)
            refine z_iconst (v := nI 1) X dX4_leadsOn_119 (by decide) ?_
            refine z_goto (tgt := 124) X dX4_leadsOn_120 (by decide) ?_
            exact jq2 (nI 1) (by
                      first
                        | exact bz_t (LO_s.mpr (Or.inl hjq1))
                        | exact bz_t (LO_s.mpr (Or.inr (LK_1.mpr ⟨c97, u116⟩)))
                        | exact bz_f (fun h => (LO_s.mp h).elim hjq1 (fun q => absurd (LK_1.mp q).1 (by omega)))
                        | exact bz_f (fun h => (LO_s.mp h).elim hjq1 (fun q => u116 (LK_1.mp q).2)))
          ·
            refine z_top (y := nI 0) e9 ?_
            refine n_if_eq (tgt := 123) X dX4_leadsOn_116 (by decide) (by omega) (fun _ => ?_) (fun c116 => absurd c116 (by decide))
            refine z_iconst (v := nI 0) X dX4_leadsOn_123 (by decide) ?_
            exact jq2 (nI 0) (by
                      first
                        | exact bz_t (LO_s.mpr (Or.inl hjq1))
                        | exact bz_t (LO_s.mpr (Or.inr (LK_1.mpr ⟨c97, u116⟩)))
                        | exact bz_f (fun h => (LO_s.mp h).elim hjq1 (fun q => absurd (LK_1.mp q).1 (by omega)))
                        | exact bz_f (fun h => (LO_s.mp h).elim hjq1 (fun q => u116 (LK_1.mp q).2)))
    rcases hjq0 with ⟨rfl, hjq0⟩ | ⟨rfl, hjq0⟩
    ·
      refine z_iload X dX4_leadsOn_44 rfl ?_
      refine n_if_ne (tgt := 78) X dX4_leadsOn_46 (by decide) (by omega) (fun _ => ?_) (fun c46 => absurd c46 (by decide))
      refine z_iconst (v := nI 1) X dX4_leadsOn_78 (by decide) ?_
      refine z_goto (tgt := 83) X dX4_leadsOn_79 (by decide) ?_
      exact jq1 (nI 1) (by
                    first
                      | exact bz_t (LO_s.mpr (Or.inl hjq0))
                      | exact bz_t (LO_s.mpr (Or.inr (LK_0.mpr ⟨c56, u75⟩)))
                      | exact bz_f (fun h => (LO_s.mp h).elim hjq0 (fun q => absurd (LK_0.mp q).1 (by omega)))
                      | exact bz_f (fun h => (LO_s.mp h).elim hjq0 (fun q => u75 (LK_0.mp q).2)))
    ·
      refine z_iload X dX4_leadsOn_44 rfl ?_
      refine n_if_ne (tgt := 78) X dX4_leadsOn_46 (by decide) (by omega) (fun c46 => absurd c46 (by decide)) (fun _ => ?_)
      refine z_iload_n X dX4_leadsOn_49 rfl rfl ?_
      refine z_aload_n X dX4_leadsOn_50 rfl rfl ?_
      refine z_get X (C := RX4) (T := TX4) (N := 21) (ci := 4) (v := .ref (b 3)) inZ4 0 2 rfl rfl (by decide) q_fl_X4_16 rfl rfl dX4_leadsOn_51 ?_
      refine z_iconst (v := nI 0) X dX4_leadsOn_54 (by decide) ?_
      refine n_iald (f := S 15) X 3 rfl (by omega) (by decide) dX4_leadsOn_55 ?_
      refine z_top (y := nI Xn) (by rw [h15]; rfl) ?_
      refine n_icmp_ge (tgt := 82) X dX4_leadsOn_56 (by decide) (by omega) (by omega) (fun c56 => ?_) (fun c56 => ?_)
      ·
        refine z_iconst (v := nI 0) X dX4_leadsOn_82 (by decide) ?_
        exact jq1 (nI 0) (by
                    first
                      | exact bz_t (LO_s.mpr (Or.inl hjq0))
                      | exact bz_t (LO_s.mpr (Or.inr (LK_0.mpr ⟨c56, u75⟩)))
                      | exact bz_f (fun h => (LO_s.mp h).elim hjq0 (fun q => absurd (LK_0.mp q).1 (by omega)))
                      | exact bz_f (fun h => (LO_s.mp h).elim hjq0 (fun q => u75 (LK_0.mp q).2)))
      ·
        refine z_aload_n X dX4_leadsOn_59 rfl rfl ?_
        refine z_get X (C := RX4) (T := TX4) (N := 21) (ci := 4) (v := .ref (b 18)) inZ4 0 19 rfl rfl (by decide) q_fl_X4_61 rfl rfl dX4_leadsOn_60 ?_
        refine z_aload_n X dX4_leadsOn_63 rfl rfl ?_
        refine z_iload_n X dX4_leadsOn_64 rfl rfl ?_
        refine z_iconst (v := nI 1) X dX4_leadsOn_65 (by decide) ?_
        refine n_iadd X dX4_leadsOn_66 ?_
        refine z_iload_n X dX4_leadsOn_67 rfl rfl ?_
        refine z_iload_n X dX4_leadsOn_68 rfl rfl ?_
        refine z_iload X dX4_leadsOn_69 rfl ?_
        refine z_callV1 (k := 0) (n := 0) (st := [.ref (b 18)]) X (c_X4_place l D t b (va_up S 22 f) Xn Yn Zn h15 (x + 1) y z s) k_X4_place q_ml_X4_142 is19 ⟨by decide, rfl⟩ 0 4 rfl rfl (by decide) rfl rfl rfl (Nat.le_of_ble_eq_true rfl) ⟨Nat.zero_le _, Nat.zero_le _⟩ dX4_leadsOn_71 (fun r71 h71 => ?_)
        subst h71
        have hix := ix_lt (s := s) hX (show x + 1 ≤ Xn by omega) hy hz hs
        refine n_zald (f := f) X 18 rfl (by omega) (by decide) dX4_leadsOn_74 ?_
        rcases hL (x + 1) y z s (by omega) (by omega) (by omega) hs (ix_x hy hz hs) with ⟨e9, u75⟩ | ⟨e9, u75⟩
        ·
          refine z_top (y := nI 1) e9 ?_
          refine n_if_eq (tgt := 82) X dX4_leadsOn_75 (by decide) (by omega) (fun c75 => absurd c75 (by decide)) (fun _ => ?_)
          refine z_iconst (v := nI 1) X dX4_leadsOn_78 (by decide) ?_
          refine z_goto (tgt := 83) X dX4_leadsOn_79 (by decide) ?_
          exact jq1 (nI 1) (by
                    first
                      | exact bz_t (LO_s.mpr (Or.inl hjq0))
                      | exact bz_t (LO_s.mpr (Or.inr (LK_0.mpr ⟨c56, u75⟩)))
                      | exact bz_f (fun h => (LO_s.mp h).elim hjq0 (fun q => absurd (LK_0.mp q).1 (by omega)))
                      | exact bz_f (fun h => (LO_s.mp h).elim hjq0 (fun q => u75 (LK_0.mp q).2)))
        ·
          refine z_top (y := nI 0) e9 ?_
          refine n_if_eq (tgt := 82) X dX4_leadsOn_75 (by decide) (by omega) (fun _ => ?_) (fun c75 => absurd c75 (by decide))
          refine z_iconst (v := nI 0) X dX4_leadsOn_82 (by decide) ?_
          exact jq1 (nI 0) (by
                    first
                      | exact bz_t (LO_s.mpr (Or.inl hjq0))
                      | exact bz_t (LO_s.mpr (Or.inr (LK_0.mpr ⟨c56, u75⟩)))
                      | exact bz_f (fun h => (LO_s.mp h).elim hjq0 (fun q => absurd (LK_0.mp q).1 (by omega)))
                      | exact bz_f (fun h => (LO_s.mp h).elim hjq0 (fun q => u75 (LK_0.mp q).2)))
  refine z_iload_n X dX4_leadsOn_0 rfl rfl ?_
  refine z_aload_n X dX4_leadsOn_1 rfl rfl ?_
  refine z_get X (C := RX4) (T := TX4) (N := 21) (ci := 4) (v := .ref (b 3)) inZ4 0 2 rfl rfl (by decide) q_fl_X4_16 rfl rfl dX4_leadsOn_2 ?_
  refine z_iconst (v := nI 0) X dX4_leadsOn_5 (by decide) ?_
  refine n_iald (f := S 15) X 3 rfl (by omega) (by decide) dX4_leadsOn_6 ?_
  refine z_top (y := nI Xn) (by rw [h15]; rfl) ?_
  refine n_icmp_ne (tgt := 41) X dX4_leadsOn_7 (by decide) (by omega) (by omega) (fun c7 => ?_) (fun c7 => ?_)
  ·
    refine z_iconst (v := nI 0) X dX4_leadsOn_41 (by decide) ?_
    exact jq0 (nI 0) (by
                  first
                    | exact bz_t (LO_0.mpr ⟨c7, c17, c27, c34⟩)
                    | exact bz_t (LO_0.mpr ⟨Classical.not_not.mp c7, Classical.not_not.mp c17, Classical.not_not.mp c27, Classical.not_not.mp c34⟩)
                    | exact bz_f (fun h => c7 (LO_0.mp h).1)
                    | exact bz_f (fun h => c17 (LO_0.mp h).2.1)
                    | exact bz_f (fun h => c27 (LO_0.mp h).2.2.1)
                    | exact bz_f (fun h => c34 (LO_0.mp h).2.2.2))
  ·
    refine z_iload_n X dX4_leadsOn_10 rfl rfl ?_
    refine z_aload_n X dX4_leadsOn_11 rfl rfl ?_
    refine z_get X (C := RX4) (T := TX4) (N := 21) (ci := 4) (v := .ref (b 3)) inZ4 0 2 rfl rfl (by decide) q_fl_X4_16 rfl rfl dX4_leadsOn_12 ?_
    refine z_iconst (v := nI 1) X dX4_leadsOn_15 (by decide) ?_
    refine n_iald (f := S 15) X 3 rfl (by omega) (by decide) dX4_leadsOn_16 ?_
    refine z_top (y := nI Yn) (by rw [h15]; rfl) ?_
    refine n_icmp_ne (tgt := 41) X dX4_leadsOn_17 (by decide) (by omega) (by omega) (fun c17 => ?_) (fun c17 => ?_)
    ·
      refine z_iconst (v := nI 0) X dX4_leadsOn_41 (by decide) ?_
      exact jq0 (nI 0) (by
                  first
                    | exact bz_t (LO_0.mpr ⟨c7, c17, c27, c34⟩)
                    | exact bz_t (LO_0.mpr ⟨Classical.not_not.mp c7, Classical.not_not.mp c17, Classical.not_not.mp c27, Classical.not_not.mp c34⟩)
                    | exact bz_f (fun h => c7 (LO_0.mp h).1)
                    | exact bz_f (fun h => c17 (LO_0.mp h).2.1)
                    | exact bz_f (fun h => c27 (LO_0.mp h).2.2.1)
                    | exact bz_f (fun h => c34 (LO_0.mp h).2.2.2))
    ·
      refine z_iload_n X dX4_leadsOn_20 rfl rfl ?_
      refine z_aload_n X dX4_leadsOn_21 rfl rfl ?_
      refine z_get X (C := RX4) (T := TX4) (N := 21) (ci := 4) (v := .ref (b 3)) inZ4 0 2 rfl rfl (by decide) q_fl_X4_16 rfl rfl dX4_leadsOn_22 ?_
      refine z_iconst (v := nI 2) X dX4_leadsOn_25 (by decide) ?_
      refine n_iald (f := S 15) X 3 rfl (by omega) (by decide) dX4_leadsOn_26 ?_
      refine z_top (y := nI Zn) (by rw [h15]; rfl) ?_
      refine n_icmp_ne (tgt := 41) X dX4_leadsOn_27 (by decide) (by omega) (by omega) (fun c27 => ?_) (fun c27 => ?_)
      ·
        refine z_iconst (v := nI 0) X dX4_leadsOn_41 (by decide) ?_
        exact jq0 (nI 0) (by
                  first
                    | exact bz_t (LO_0.mpr ⟨c7, c17, c27, c34⟩)
                    | exact bz_t (LO_0.mpr ⟨Classical.not_not.mp c7, Classical.not_not.mp c17, Classical.not_not.mp c27, Classical.not_not.mp c34⟩)
                    | exact bz_f (fun h => c7 (LO_0.mp h).1)
                    | exact bz_f (fun h => c17 (LO_0.mp h).2.1)
                    | exact bz_f (fun h => c27 (LO_0.mp h).2.2.1)
                    | exact bz_f (fun h => c34 (LO_0.mp h).2.2.2))
      ·
        refine z_iload X dX4_leadsOn_30 rfl ?_
        refine z_iload X dX4_leadsOn_32 rfl ?_
        refine n_icmp_ne (tgt := 41) X dX4_leadsOn_34 (by decide) (by omega) (by omega) (fun c34 => ?_) (fun c34 => ?_)
        ·
          refine z_iconst (v := nI 0) X dX4_leadsOn_41 (by decide) ?_
          exact jq0 (nI 0) (by
                  first
                    | exact bz_t (LO_0.mpr ⟨c7, c17, c27, c34⟩)
                    | exact bz_t (LO_0.mpr ⟨Classical.not_not.mp c7, Classical.not_not.mp c17, Classical.not_not.mp c27, Classical.not_not.mp c34⟩)
                    | exact bz_f (fun h => c7 (LO_0.mp h).1)
                    | exact bz_f (fun h => c17 (LO_0.mp h).2.1)
                    | exact bz_f (fun h => c27 (LO_0.mp h).2.2.1)
                    | exact bz_f (fun h => c34 (LO_0.mp h).2.2.2))
        ·
          refine z_iconst (v := nI 1) X dX4_leadsOn_37 (by decide) ?_
          refine z_goto (tgt := 42) X dX4_leadsOn_38 (by decide) ?_
          exact jq0 (nI 1) (by
                  first
                    | exact bz_t (LO_0.mpr ⟨c7, c17, c27, c34⟩)
                    | exact bz_t (LO_0.mpr ⟨Classical.not_not.mp c7, Classical.not_not.mp c17, Classical.not_not.mp c27, Classical.not_not.mp c34⟩)
                    | exact bz_f (fun h => c7 (LO_0.mp h).1)
                    | exact bz_f (fun h => c17 (LO_0.mp h).2.1)
                    | exact bz_f (fun h => c27 (LO_0.mp h).2.2.1)
                    | exact bz_f (fun h => c34 (LO_0.mp h).2.2.2))
