set_option maxHeartbeats 1000000 in
set_option maxRecDepth 100000 in
theorem c_L_orders (l : Launch) (hfl : l.stackTraces = false) (D : va_G) (t : ClassId × ClassId × ClassId) (sz : Nat) (a b : Nat → Nat) {S : zS} (p p2 : zT) (qb qv qc : Nat) (fB fV fC : Nat → Int32) {sc : Nat → Nat} {x y z G : Nat} (h : zKs S sc x y z G) : zM8 l yL_orders cL_orders 9 (some .boolean) 30 80 480 D t [.ref (a 0), .ref (b 0)] (wA t a b (T6 S p) (T6 S p2) qb qv qc fB fV fC) sz (fun r (u : zT × zT) => r = nI 1 ∧ pq u.1 = pq p ∧ (¬ Rc S x y z G 0 0 0 0 → pq u.2 = pq p2)) (fun u => wA t a b (T6 S u.1) (T6 S u.2) qb qv qc fB fV fC) := by
  have hX := K_X h
  have hG := K_G h
  have hp8 := p8_le G hG
  have hw : wk S (l3 x y z) G < 256 := wkN_lt 64
  have hat := atk_lt hX
  have hT0 : zKs (mvS S 0 0 0 0) sc 0 0 0 0 := K_mv h (by decide) (by decide)
  refine z_m8 (by decide +kernel) (Nat.le_of_ble_eq_true rfl) (by simp [Value.category]) ?_
  intro E X Z V Y
  refine z_lv (lv' := [some (.ref (a 0)), some (.ref (b 0)), none, none, none, none, none, none, none]) rfl ?_
  refine z_aload_n X dL_orders_0 rfl rfl ?_
  refine z_callV2 (k := 0) (n := 0) (st := []) X Y aA_eq (o_isLawful l D t a p h) k_X3_isLawful q_ml_L_112 is24 (fun u => wA t a b (T6 S (p0 u p)) (T6 S p2) qb qv qc fB fV fC) (fun u => ⟨⟨by decide, rfl⟩, ⟨by decide, rfl⟩, rfl, rfl⟩) ⟨by decide, rfl⟩ 0 3 rfl rfl (by decide) rfl rfl rfl (Nat.le_of_ble_eq_true rfl) ⟨by omega, by omega⟩ dL_orders_1 (fun r1 u1 h1 => ?_)
  rcases h1 with ⟨rfl, hR⟩ | ⟨rfl, hR⟩
  ·
    refine z_istore_n X dL_orders_4 rfl (Nat.le_of_ble_eq_true rfl) ?_
    refine z_lv (lv' := [some (.ref (a 0)), some (.ref (b 0)), some (.int (nI 1)), none, none, none, none, none, none]) rfl ?_
    refine z_aload_n X dL_orders_5 rfl rfl ?_
    refine z_w8 (k := 0) (n := 0) (k' := 3) (n' := 18) (st := []) X Y aA_eq V (fun sz => c_L_levels l hfl D t sz a (p0 u1 p) h) k8_levels q_ml_L_96 is24 ⟨by decide, rfl⟩ (fun u => wA t a b (T6 S (p0 u1 p)) (T6 S p2) qb qv qc fB fV fC) (fun u => ⟨⟨by decide, rfl⟩, ⟨by decide, rfl⟩, rfl, rfl⟩) (by decide) (by decide) rfl rfl rfl (Nat.le_of_ble_eq_true rfl) ⟨by omega, by omega⟩ ⟨by omega, by omega⟩ dL_orders_6 (fun r6 u6 h6 => ?_)
    subst h6
    refine z_aload_n X dL_orders_9 rfl rfl ?_
    refine z_callV1 (k := 3) (n := 18) (st := [.int (nI (x + y + z))]) X (o_gifts l D t a (p0 u1 p) h) k_X3_gifts q_ml_L_90 is24 ⟨by decide, rfl⟩ 0 3 rfl rfl (by decide) rfl rfl rfl (Nat.le_of_ble_eq_true rfl) ⟨by omega, by omega⟩ dL_orders_10 (fun r10 h10 => ?_)
    subst h10
    refine z_callS1 (k := 3) (n := 18) (st := [.int (nI (x + y + z))]) X (c_L_many l D t G (by omega)) k_L_many q_ml_L_106 [] ⟨by decide, rfl⟩ (by decide) rfl rfl rfl (Nat.le_of_ble_eq_true rfl) ⟨by omega, by omega⟩ dL_orders_13 (fun r13 h13 => ?_)
    subst h13
    refine n_iadd X dL_orders_16 ?_
    refine z_top (y := nI (x + y + z + p8 G)) (rfl) ?_
    refine z_istore_n X dL_orders_17 rfl (Nat.le_of_ble_eq_true rfl) ?_
    refine z_lv (lv' := [some (.ref (a 0)), some (.ref (b 0)), some (.int (nI 1)), some (.int (nI (x + y + z + p8 G))), none, none, none, none, none]) rfl ?_
    have j49 : ∀ (p3 : zT), pq p3 = pq p → Wz E (4) (24) 49 [some (.ref (a 0)), some (.ref (b 0)), some (.int (nI 1)), some (.int (nI (x + y + z + p8 G))), none, none, none, none, none] [] (wA t a b (T6 S p3) (T6 S p2) qb qv qc fB fV fC) := by
      intro p3 hj49
      refine z_aload_n X dL_orders_49 rfl rfl ?_
      refine z_iconst (v := (-1)) X dL_orders_50 (by decide) ?_
      refine z_w7 (k := 4) (n := 24) (k' := 5) (n' := 30) (st := []) X Y aA_eq V (fun sz => w_stepAt_I l hfl D t a p3 h (by decide) sz) kw_stepAt q_ml_L_118 is24 ⟨by decide, rfl⟩ (fun u => wA t a b (T6 S (pu u p3)) (T6 S p2) qb qv qc fB fV fC) (fun u => ⟨⟨by decide, rfl⟩, ⟨by decide, rfl⟩, rfl, rfl⟩) (by decide) (by decide) rfl rfl rfl (Nat.le_of_ble_eq_true rfl) ⟨by omega, by omega⟩ ⟨by omega, by omega⟩ dL_orders_51 (fun r51 u51 h51 => ?_)
      subst h51
      refine z_ldci X q_k_L_18 dL_orders_54 ?_
      refine z_icmp_eq (tgt := 61) X dL_orders_56 (by decide) (fun _ => ?_) (fun c56 => absurd c56 (by decide))
      refine z_iload_n X dL_orders_61 rfl rfl ?_
      refine n_if_ne (tgt := 92) X dL_orders_62 (by decide) (by omega) (fun _ => ?_) (fun c62 => absurd c62 (by decide))
      refine z_aload_n X dL_orders_92 rfl rfl ?_
      refine z_callV2 (k := 5) (n := 30) (st := []) X Y aA_eq (o_clear l D t b p2 h) k_X3_clear q_ml_L_120 is24t (fun u => wA t a b (T6 S (pu u51 p3)) (T6 (clS S) p2) qb qv qc fB fV fC) (fun u => ⟨⟨by decide, rfl⟩, ⟨by decide, rfl⟩, rfl, rfl⟩) ⟨by decide, rfl⟩ 24 3 rfl rfl (by decide) rfl rfl rfl (Nat.le_of_ble_eq_true rfl) ⟨by omega, by omega⟩ dL_orders_93 (fun r93 u93 h93 => ?_)
      subst h93
      refine Wz.eq (ws' := wA t a b (T6 S (pu u51 p3)) (T6 (mvS S 0 0 0 0) p2) qb qv qc fB fV fC) (rfl) ?_
      refine z_istore X dL_orders_96 (Nat.le_of_ble_eq_true rfl) ?_
      refine z_lv (lv' := [some (.ref (a 0)), some (.ref (b 0)), some (.int (nI 1)), some (.int (nI (x + y + z + p8 G))), none, some (.int (nI (x + y + z + p8 G))), none, none, none]) rfl ?_
      refine z_iload X dL_orders_98 rfl ?_
      refine z_iload_n X dL_orders_100 rfl rfl ?_
      refine n_icmp_ne (tgt := 138) X dL_orders_101 (by decide) (by omega) (by omega) (fun c101 => absurd c101 (by omega)) (fun _ => ?_)
      refine z_aload_n X dL_orders_104 rfl rfl ?_
      refine z_callV1 (k := 5) (n := 30) (st := []) X (o_gifts l D t b p2 hT0) k_X3_gifts q_ml_L_90 is24t ⟨by decide, rfl⟩ 24 3 rfl rfl (by decide) rfl rfl rfl (Nat.le_of_ble_eq_true rfl) ⟨by omega, by omega⟩ dL_orders_105 (fun r105 h105 => ?_)
      subst h105
      refine n_if_ne (tgt := 138) X dL_orders_108 (by decide) (by omega) (fun c108 => absurd c108 (by decide)) (fun _ => ?_)
      refine z_aload_n X dL_orders_111 rfl rfl ?_
      refine z_w8 (k := 5) (n := 30) (k' := 8) (n' := 48) (st := []) X Y aA_eq V (fun sz => c_L_levels l hfl D t sz b p2 hT0) k8_levels q_ml_L_96 is24t ⟨by decide, rfl⟩ (fun u => wA t a b (T6 S (pu u51 p3)) (T6 (mvS S 0 0 0 0) p2) qb qv qc fB fV fC) (fun u => ⟨⟨by decide, rfl⟩, ⟨by decide, rfl⟩, rfl, rfl⟩) (by decide) (by decide) rfl rfl rfl (Nat.le_of_ble_eq_true rfl) ⟨by omega, by omega⟩ ⟨by omega, by omega⟩ dL_orders_112 (fun r112 u112 h112 => ?_)
      subst h112
      refine n_if_ne (tgt := 138) X dL_orders_115 (by decide) (by omega) (fun c115 => absurd c115 (by decide)) (fun _ => ?_)
      refine z_aload_n X dL_orders_118 rfl rfl ?_
      refine z_callV2 (k := 8) (n := 48) (st := []) X Y aA_eq (o_isLawful l D t b p2 hT0) k_X3_isLawful q_ml_L_112 is24t (fun u => wA t a b (T6 S (pu u51 p3)) (T6 (mvS S 0 0 0 0) (p0 u p2)) qb qv qc fB fV fC) (fun u => ⟨⟨by decide, rfl⟩, ⟨by decide, rfl⟩, rfl, rfl⟩) ⟨by decide, rfl⟩ 24 3 rfl rfl (by decide) rfl rfl rfl (Nat.le_of_ble_eq_true rfl) ⟨by omega, by omega⟩ dL_orders_119 (fun r119 u119 h119 => ?_)
      have e119 : r119 = nI 1 := h119.elim (fun q => q.1) (fun q => absurd (Rc_rf : Rc (mvS S 0 0 0 0) 0 0 0 0 0 0 0 0) q.2)
      subst e119
      refine n_if_eq (tgt := 138) X dL_orders_122 (by decide) (by omega) (fun c122 => absurd c122 (by decide)) (fun _ => ?_)
      refine z_aload_n X dL_orders_125 rfl rfl ?_
      refine z_iconst (v := nI 0) X dL_orders_126 (by decide) ?_
      refine z_w7 (k := 8) (n := 48) (k' := 9) (n' := 54) (st := []) X Y aA_eq V (fun sz => w_stepAt_N l hfl D t b (p0 u119 p2) hT0 (by decide) Rc_rf (by decide) sz) kw_stepAt q_ml_L_118 is24t ⟨by decide, rfl⟩ (fun u => wA t a b (T6 S (pu u51 p3)) (T6 (mvS S 0 0 0 0) (pu u (p0 u119 p2))) qb qv qc fB fV fC) (fun u => ⟨⟨by decide, rfl⟩, ⟨by decide, rfl⟩, rfl, rfl⟩) (by decide) (by decide) rfl rfl rfl (Nat.le_of_ble_eq_true rfl) ⟨by omega, by omega⟩ ⟨by omega, by omega⟩ dL_orders_127 (fun r127 u127 h127 => ?_)
      subst h127
      refine z_iconst (v := (-1)) X dL_orders_130 (by decide) ?_
      refine z_icmp_ne (tgt := 138) X dL_orders_131 (by decide) (fun c131 => absurd c131 (by decide)) (fun _ => ?_)
      refine z_iconst (v := nI 1) X dL_orders_134 (by decide) ?_
      refine z_goto (tgt := 139) X dL_orders_135 (by decide) ?_
      refine z_istore X dL_orders_139 (Nat.le_of_ble_eq_true rfl) ?_
      refine z_lv (lv' := [some (.ref (a 0)), some (.ref (b 0)), some (.int (nI 1)), some (.int (nI (x + y + z + p8 G))), none, some (.int (nI (x + y + z + p8 G))), some (.int (nI 1)), none, none]) rfl ?_
      refine z_iconst (v := nI 0) X dL_orders_141 (by decide) ?_
      refine z_istore X dL_orders_142 (Nat.le_of_ble_eq_true rfl) ?_
      refine z_lv (lv' := [some (.ref (a 0)), some (.ref (b 0)), some (.int (nI 1)), some (.int (nI (x + y + z + p8 G))), none, some (.int (nI (x + y + z + p8 G))), some (.int (nI 1)), some (.int (nI 0)), none]) rfl ?_
      refine Wz.wide (k' := 2 * 0 + 9) (n' := 6 * (2 * 0 + 9)) (by omega) (by omega) ?_
      refine Wz.less (lv' := [some (.ref (a 0)), some (.ref (b 0)), some (.int (nI 1)), some (.int (nI (x + y + z + p8 G))), none, none, some (.int (nI 1)), some (.int (nI 0)), none]) (by simp [zle] <;> rfl) ?_
      refine zl_up (x + y + z + p8 G) (fun i => ∀ (c : Nat × Nat × Nat × Nat) (p3 : zT) (p4 : zT), (pth S x y z G i c ∧ pq p3 = pq p) → Wz E (2 * i + 9) (6 * (2 * i + 9)) 144 [some (.ref (a 0)), some (.ref (b 0)), some (.int (nI 1)), some (.int (nI (x + y + z + p8 G))), none, none, some (.int (nI 1)), some (.int (nI i)), none] [] (wA t a b (T6 S p3) (T6 (mvS S c.1 c.2.1 c.2.2.1 c.2.2.2) p4) qb qv qc fB fV fC)) ?_ ?_ 0 (by omega) (0, 0, 0, 0) (pu u51 p3) (pu u127 (p0 u119 p2)) (⟨rfl, hj49⟩)
      ·
        intro c p3 p4 hv_i
        have hce := pth_end hG hv_i.1
        subst hce
        refine z_iload X dL_orders_144 rfl ?_
        refine z_iload_n X dL_orders_146 rfl rfl ?_
        refine n_icmp_ge (tgt := 236) X dL_orders_147 (by decide) (by omega) (by omega) (fun _ => ?_) (fun c147 => absurd c147 (by omega))
        refine Wz.eq (ws' := wA t a b (T6 S p3) (T6 (mvS S x y z G) p4) qb qv qc fB fV fC) rfl ?_
        refine Wz.eq (ws' := wA t a b (T6 S p3) (T6 S p4) qb qv qc fB fV fC) (wA_B (wR_mv h)) ?_
        refine z_iload X dL_orders_236 rfl ?_
        refine n_if_eq (tgt := 275) X dL_orders_238 (by decide) (by omega) (fun c238 => absurd c238 (by decide)) (fun _ => ?_)
        refine z_aload_n X dL_orders_241 rfl rfl ?_
        refine z_iload_n X dL_orders_242 rfl rfl ?_
        refine z_w7 (k := 2 * (x + y + z + p8 G) + 9) (n := 6 * (2 * (x + y + z + p8 G) + 9)) (k' := 2 * (x + y + z + p8 G) + 10) (n' := 6 * (2 * (x + y + z + p8 G) + 10)) (st := []) X Y aA_eq V (fun sz => w_stepAt_N l hfl D t a p3 h (by omega) hR (Nat.le_refl _) sz) kw_stepAt q_ml_L_118 is24 ⟨by decide, rfl⟩ (fun u => wA t a b (T6 S (pu u p3)) (T6 S p4) qb qv qc fB fV fC) (fun u => ⟨⟨by decide, rfl⟩, ⟨by decide, rfl⟩, rfl, rfl⟩) (by decide) (by decide) rfl rfl rfl (Nat.le_of_ble_eq_true rfl) ⟨by omega, by omega⟩ ⟨by omega, by omega⟩ dL_orders_243 (fun r243 u243 h243 => ?_)
        subst h243
        refine z_iconst (v := (-1)) X dL_orders_246 (by decide) ?_
        refine z_icmp_ne (tgt := 275) X dL_orders_247 (by decide) (fun c247 => absurd c247 (by decide)) (fun _ => ?_)
        refine z_aload_n X dL_orders_250 rfl rfl ?_
        refine z_ldci X q_k_L_9 dL_orders_251 ?_
        refine z_top (y := nI 2147483647) (rfl) ?_
        refine z_w7 (k := 2 * (x + y + z + p8 G) + 10) (n := 6 * (2 * (x + y + z + p8 G) + 10)) (k' := 2 * (x + y + z + p8 G) + 11) (n' := 6 * (2 * (x + y + z + p8 G) + 11)) (st := []) X Y aA_eq V (fun sz => w_stepAt_N l hfl D t a (pu u243 p3) h (v := 2147483647) (by decide) hR (by omega) sz) kw_stepAt q_ml_L_118 is24 ⟨by decide, rfl⟩ (fun u => wA t a b (T6 S (pu u (pu u243 p3))) (T6 S p4) qb qv qc fB fV fC) (fun u => ⟨⟨by decide, rfl⟩, ⟨by decide, rfl⟩, rfl, rfl⟩) (by decide) (by decide) rfl rfl rfl (Nat.le_of_ble_eq_true rfl) ⟨by omega, by omega⟩ ⟨by omega, by omega⟩ dL_orders_253 (fun r253 u253 h253 => ?_)
        subst h253
        refine z_iconst (v := (-1)) X dL_orders_256 (by decide) ?_
        refine z_icmp_ne (tgt := 275) X dL_orders_257 (by decide) (fun c257 => absurd c257 (by decide)) (fun _ => ?_)
        refine z_aload_n X dL_orders_260 rfl rfl ?_
        refine z_callV1 (k := 2 * (x + y + z + p8 G) + 11) (n := 6 * (2 * (x + y + z + p8 G) + 11)) (st := []) X (o_gifts l D t b p4 h) k_X3_gifts q_ml_L_90 is24t ⟨by decide, rfl⟩ 24 3 rfl rfl (by decide) rfl rfl rfl (Nat.le_of_ble_eq_true rfl) ⟨by omega, by omega⟩ dL_orders_261 (fun r261 h261 => ?_)
        subst h261
        refine z_aload_n X dL_orders_264 rfl rfl ?_
        refine z_callV1 (k := 2 * (x + y + z + p8 G) + 11) (n := 6 * (2 * (x + y + z + p8 G) + 11)) (st := [.int (nI G)]) X (o_gifts l D t a (pu u253 (pu u243 p3)) h) k_X3_gifts q_ml_L_90 is24 ⟨by decide, rfl⟩ 0 3 rfl rfl (by decide) rfl rfl rfl (Nat.le_of_ble_eq_true rfl) ⟨by omega, by omega⟩ dL_orders_265 (fun r265 h265 => ?_)
        subst h265
        refine n_icmp_ne (tgt := 275) X dL_orders_268 (by decide) (by omega) (by omega) (fun c268 => absurd c268 (by omega)) (fun _ => ?_)
        refine z_iconst (v := nI 1) X dL_orders_271 (by decide) ?_
        refine z_goto (tgt := 276) X dL_orders_272 (by decide) ?_
        refine z_istore X dL_orders_276 (Nat.le_of_ble_eq_true rfl) ?_
        refine z_lv (lv' := [some (.ref (a 0)), some (.ref (b 0)), some (.int (nI 1)), some (.int (nI (x + y + z + p8 G))), none, none, some (.int (nI 1)), some (.int (nI (x + y + z + p8 G))), none]) rfl ?_
        refine z_iconst (v := nI 0) X dL_orders_278 (by decide) ?_
        refine z_istore X dL_orders_279 (Nat.le_of_ble_eq_true rfl) ?_
        refine z_lv (lv' := [some (.ref (a 0)), some (.ref (b 0)), some (.int (nI 1)), some (.int (nI (x + y + z + p8 G))), none, none, some (.int (nI 1)), some (.int (nI 0)), none]) rfl ?_
        refine z_iload X dL_orders_281 rfl ?_
        refine z_iconst (v := nI 3) X dL_orders_283 (by decide) ?_
        refine n_icmp_ge (tgt := 320) X dL_orders_284 (by decide) (by omega) (by omega) (fun c284 => absurd c284 (by decide)) (fun _ => ?_)
        refine z_iload X dL_orders_287 rfl ?_
        refine n_if_eq (tgt := 311) X dL_orders_289 (by decide) (by omega) (fun c289 => absurd c289 (by decide)) (fun _ => ?_)
        refine z_aload_n X dL_orders_292 rfl rfl ?_
        refine z_iload X dL_orders_293 rfl ?_
        refine z_w7 (k := 2 * (x + y + z + p8 G) + 11) (n := 6 * (2 * (x + y + z + p8 G) + 11)) (k' := 2 * (x + y + z + p8 G) + 12) (n' := 6 * (2 * (x + y + z + p8 G) + 12)) (st := []) X Y aA_eq V (fun sz => w_level l hfl D t b p4 h (show 0 < 3 by decide) sz) kw_level q_ml_L_75 is24t ⟨by decide, rfl⟩ (fun u => wA t a b (T6 S (pu u253 (pu u243 p3))) (T6 S p4) qb qv qc fB fV fC) (fun u => ⟨⟨by decide, rfl⟩, ⟨by decide, rfl⟩, rfl, rfl⟩) (by decide) (by decide) rfl rfl rfl (Nat.le_of_ble_eq_true rfl) ⟨by omega, by omega⟩ ⟨by omega, by omega⟩ dL_orders_295 (fun r295 u295 h295 => ?_)
        subst h295
        refine z_aload_n X dL_orders_298 rfl rfl ?_
        refine z_iload X dL_orders_299 rfl ?_
        refine z_w7 (k := 2 * (x + y + z + p8 G) + 12) (n := 6 * (2 * (x + y + z + p8 G) + 12)) (k' := 2 * (x + y + z + p8 G) + 13) (n' := 6 * (2 * (x + y + z + p8 G) + 13)) (st := [.int (nI x)]) X Y aA_eq V (fun sz => w_level l hfl D t a (pu u253 (pu u243 p3)) h (show 0 < 3 by decide) sz) kw_level q_ml_L_75 is24 ⟨by decide, rfl⟩ (fun u => wA t a b (T6 S (pu u253 (pu u243 p3))) (T6 S p4) qb qv qc fB fV fC) (fun u => ⟨⟨by decide, rfl⟩, ⟨by decide, rfl⟩, rfl, rfl⟩) (by decide) (by decide) rfl rfl rfl (Nat.le_of_ble_eq_true rfl) ⟨by omega, by omega⟩ ⟨by omega, by omega⟩ dL_orders_301 (fun r301 u301 h301 => ?_)
        subst h301
        refine n_icmp_ne (tgt := 311) X dL_orders_304 (by decide) (by omega) (by omega) (fun c304 => absurd c304 (by omega)) (fun _ => ?_)
        refine z_iconst (v := nI 1) X dL_orders_307 (by decide) ?_
        refine z_goto (tgt := 312) X dL_orders_308 (by decide) ?_
        refine z_istore X dL_orders_312 (Nat.le_of_ble_eq_true rfl) ?_
        refine z_lv (lv' := [some (.ref (a 0)), some (.ref (b 0)), some (.int (nI 1)), some (.int (nI (x + y + z + p8 G))), none, none, some (.int (nI 1)), some (.int (nI 0)), none]) rfl ?_
        refine z_iinc (v := nI 1) X dL_orders_314 rfl (by decide) ?_
        refine z_lv (lv' := [some (.ref (a 0)), some (.ref (b 0)), some (.int (nI 1)), some (.int (nI (x + y + z + p8 G))), none, none, some (.int (nI 1)), some (.int (nI 1)), none]) rfl ?_
        refine z_goto (tgt := 281) X dL_orders_317 (by decide) ?_
        refine z_iload X dL_orders_281 rfl ?_
        refine z_iconst (v := nI 3) X dL_orders_283 (by decide) ?_
        refine n_icmp_ge (tgt := 320) X dL_orders_284 (by decide) (by omega) (by omega) (fun c284 => absurd c284 (by decide)) (fun _ => ?_)
        refine z_iload X dL_orders_287 rfl ?_
        refine n_if_eq (tgt := 311) X dL_orders_289 (by decide) (by omega) (fun c289 => absurd c289 (by decide)) (fun _ => ?_)
        refine z_aload_n X dL_orders_292 rfl rfl ?_
        refine z_iload X dL_orders_293 rfl ?_
        refine z_w7 (k := 2 * (x + y + z + p8 G) + 13) (n := 6 * (2 * (x + y + z + p8 G) + 13)) (k' := 2 * (x + y + z + p8 G) + 14) (n' := 6 * (2 * (x + y + z + p8 G) + 14)) (st := []) X Y aA_eq V (fun sz => w_level l hfl D t b p4 h (show 1 < 3 by decide) sz) kw_level q_ml_L_75 is24t ⟨by decide, rfl⟩ (fun u => wA t a b (T6 S (pu u253 (pu u243 p3))) (T6 S p4) qb qv qc fB fV fC) (fun u => ⟨⟨by decide, rfl⟩, ⟨by decide, rfl⟩, rfl, rfl⟩) (by decide) (by decide) rfl rfl rfl (Nat.le_of_ble_eq_true rfl) ⟨by omega, by omega⟩ ⟨by omega, by omega⟩ dL_orders_295 (fun r295 u295 h295 => ?_)
        subst h295
        refine z_aload_n X dL_orders_298 rfl rfl ?_
        refine z_iload X dL_orders_299 rfl ?_
        refine z_w7 (k := 2 * (x + y + z + p8 G) + 14) (n := 6 * (2 * (x + y + z + p8 G) + 14)) (k' := 2 * (x + y + z + p8 G) + 15) (n' := 6 * (2 * (x + y + z + p8 G) + 15)) (st := [.int (nI y)]) X Y aA_eq V (fun sz => w_level l hfl D t a (pu u253 (pu u243 p3)) h (show 1 < 3 by decide) sz) kw_level q_ml_L_75 is24 ⟨by decide, rfl⟩ (fun u => wA t a b (T6 S (pu u253 (pu u243 p3))) (T6 S p4) qb qv qc fB fV fC) (fun u => ⟨⟨by decide, rfl⟩, ⟨by decide, rfl⟩, rfl, rfl⟩) (by decide) (by decide) rfl rfl rfl (Nat.le_of_ble_eq_true rfl) ⟨by omega, by omega⟩ ⟨by omega, by omega⟩ dL_orders_301 (fun r301 u301 h301 => ?_)
        subst h301
        refine n_icmp_ne (tgt := 311) X dL_orders_304 (by decide) (by omega) (by omega) (fun c304 => absurd c304 (by omega)) (fun _ => ?_)
        refine z_iconst (v := nI 1) X dL_orders_307 (by decide) ?_
        refine z_goto (tgt := 312) X dL_orders_308 (by decide) ?_
        refine z_istore X dL_orders_312 (Nat.le_of_ble_eq_true rfl) ?_
        refine z_lv (lv' := [some (.ref (a 0)), some (.ref (b 0)), some (.int (nI 1)), some (.int (nI (x + y + z + p8 G))), none, none, some (.int (nI 1)), some (.int (nI 1)), none]) rfl ?_
        refine z_iinc (v := nI 2) X dL_orders_314 rfl (by decide) ?_
        refine z_lv (lv' := [some (.ref (a 0)), some (.ref (b 0)), some (.int (nI 1)), some (.int (nI (x + y + z + p8 G))), none, none, some (.int (nI 1)), some (.int (nI 2)), none]) rfl ?_
        refine z_goto (tgt := 281) X dL_orders_317 (by decide) ?_
        refine z_iload X dL_orders_281 rfl ?_
        refine z_iconst (v := nI 3) X dL_orders_283 (by decide) ?_
        refine n_icmp_ge (tgt := 320) X dL_orders_284 (by decide) (by omega) (by omega) (fun c284 => absurd c284 (by decide)) (fun _ => ?_)
        refine z_iload X dL_orders_287 rfl ?_
        refine n_if_eq (tgt := 311) X dL_orders_289 (by decide) (by omega) (fun c289 => absurd c289 (by decide)) (fun _ => ?_)
        refine z_aload_n X dL_orders_292 rfl rfl ?_
        refine z_iload X dL_orders_293 rfl ?_
        refine z_w7 (k := 2 * (x + y + z + p8 G) + 15) (n := 6 * (2 * (x + y + z + p8 G) + 15)) (k' := 2 * (x + y + z + p8 G) + 16) (n' := 6 * (2 * (x + y + z + p8 G) + 16)) (st := []) X Y aA_eq V (fun sz => w_level l hfl D t b p4 h (show 2 < 3 by decide) sz) kw_level q_ml_L_75 is24t ⟨by decide, rfl⟩ (fun u => wA t a b (T6 S (pu u253 (pu u243 p3))) (T6 S p4) qb qv qc fB fV fC) (fun u => ⟨⟨by decide, rfl⟩, ⟨by decide, rfl⟩, rfl, rfl⟩) (by decide) (by decide) rfl rfl rfl (Nat.le_of_ble_eq_true rfl) ⟨by omega, by omega⟩ ⟨by omega, by omega⟩ dL_orders_295 (fun r295 u295 h295 => ?_)
        subst h295
        refine z_aload_n X dL_orders_298 rfl rfl ?_
        refine z_iload X dL_orders_299 rfl ?_
        refine z_w7 (k := 2 * (x + y + z + p8 G) + 16) (n := 6 * (2 * (x + y + z + p8 G) + 16)) (k' := 2 * (x + y + z + p8 G) + 17) (n' := 6 * (2 * (x + y + z + p8 G) + 17)) (st := [.int (nI z)]) X Y aA_eq V (fun sz => w_level l hfl D t a (pu u253 (pu u243 p3)) h (show 2 < 3 by decide) sz) kw_level q_ml_L_75 is24 ⟨by decide, rfl⟩ (fun u => wA t a b (T6 S (pu u253 (pu u243 p3))) (T6 S p4) qb qv qc fB fV fC) (fun u => ⟨⟨by decide, rfl⟩, ⟨by decide, rfl⟩, rfl, rfl⟩) (by decide) (by decide) rfl rfl rfl (Nat.le_of_ble_eq_true rfl) ⟨by omega, by omega⟩ ⟨by omega, by omega⟩ dL_orders_301 (fun r301 u301 h301 => ?_)
        subst h301
        refine n_icmp_ne (tgt := 311) X dL_orders_304 (by decide) (by omega) (by omega) (fun c304 => absurd c304 (by omega)) (fun _ => ?_)
        refine z_iconst (v := nI 1) X dL_orders_307 (by decide) ?_
        refine z_goto (tgt := 312) X dL_orders_308 (by decide) ?_
        refine z_istore X dL_orders_312 (Nat.le_of_ble_eq_true rfl) ?_
        refine z_lv (lv' := [some (.ref (a 0)), some (.ref (b 0)), some (.int (nI 1)), some (.int (nI (x + y + z + p8 G))), none, none, some (.int (nI 1)), some (.int (nI 2)), none]) rfl ?_
        refine z_iinc (v := nI 3) X dL_orders_314 rfl (by decide) ?_
        refine z_lv (lv' := [some (.ref (a 0)), some (.ref (b 0)), some (.int (nI 1)), some (.int (nI (x + y + z + p8 G))), none, none, some (.int (nI 1)), some (.int (nI 3)), none]) rfl ?_
        refine z_goto (tgt := 281) X dL_orders_317 (by decide) ?_
        refine z_iload X dL_orders_281 rfl ?_
        refine z_iconst (v := nI 3) X dL_orders_283 (by decide) ?_
        refine n_icmp_ge (tgt := 320) X dL_orders_284 (by decide) (by omega) (by omega) (fun _ => ?_) (fun c284 => absurd c284 (by decide))
        refine z_iload X dL_orders_320 rfl ?_
        refine n_if_eq (tgt := 351) X dL_orders_322 (by decide) (by omega) (fun c322 => absurd c322 (by decide)) (fun _ => ?_)
        refine z_aload_n X dL_orders_325 rfl rfl ?_
        refine z_callV1 (k := 2 * (x + y + z + p8 G) + 17) (n := 6 * (2 * (x + y + z + p8 G) + 17)) (st := []) X (o_working l D t b p4 h) k_X3_working q_ml_L_80 is24t ⟨by decide, rfl⟩ 24 3 rfl rfl (by decide) rfl rfl rfl (Nat.le_of_ble_eq_true rfl) ⟨by omega, by omega⟩ dL_orders_326 (fun r326 h326 => ?_)
        subst h326
        refine z_aload_n X dL_orders_329 rfl rfl ?_
        refine z_callV1 (k := 2 * (x + y + z + p8 G) + 17) (n := 6 * (2 * (x + y + z + p8 G) + 17)) (st := [.int (nI (wk S (l3 x y z) G))]) X (o_working l D t a (pu u253 (pu u243 p3)) h) k_X3_working q_ml_L_80 is24 ⟨by decide, rfl⟩ 0 3 rfl rfl (by decide) rfl rfl rfl (Nat.le_of_ble_eq_true rfl) ⟨by omega, by omega⟩ dL_orders_330 (fun r330 h330 => ?_)
        subst h330
        refine n_icmp_ne (tgt := 351) X dL_orders_333 (by decide) (by omega) (by omega) (fun c333 => absurd c333 (by omega)) (fun _ => ?_)
        refine z_aload_n X dL_orders_336 rfl rfl ?_
        refine z_callV1 (k := 2 * (x + y + z + p8 G) + 17) (n := 6 * (2 * (x + y + z + p8 G) + 17)) (st := []) X (o_attack l D t b p4 h) k_X3_attack q_ml_L_109 is24t ⟨by decide, rfl⟩ 24 3 rfl rfl (by decide) rfl rfl rfl (Nat.le_of_ble_eq_true rfl) ⟨by omega, by omega⟩ dL_orders_337 (fun r337 h337 => ?_)
        subst h337
        refine z_aload_n X dL_orders_340 rfl rfl ?_
        refine z_callV1 (k := 2 * (x + y + z + p8 G) + 17) (n := 6 * (2 * (x + y + z + p8 G) + 17)) (st := [.int (nI (atk x y z))]) X (o_attack l D t a (pu u253 (pu u243 p3)) h) k_X3_attack q_ml_L_109 is24 ⟨by decide, rfl⟩ 0 3 rfl rfl (by decide) rfl rfl rfl (Nat.le_of_ble_eq_true rfl) ⟨by omega, by omega⟩ dL_orders_341 (fun r341 h341 => ?_)
        subst h341
        refine n_icmp_ne (tgt := 351) X dL_orders_344 (by decide) (by omega) (by omega) (fun c344 => absurd c344 (by omega)) (fun _ => ?_)
        refine z_iconst (v := nI 1) X dL_orders_347 (by decide) ?_
        refine z_goto (tgt := 352) X dL_orders_348 (by decide) ?_
        refine Wz.wide (k' := 80) (n' := 480) (by omega) (by omega) ?_
        refine z_iret X Z (by decide +kernel) dL_orders_352 ?_
        exact ⟨(pu u253 (pu u243 p3), p4), ⟨rfl, hv_i.2, fun q => absurd hR q⟩, fun q hq => hq⟩
      ·
        intro i hi_i ih_i c p3 p4 hv_i
        obtain ⟨i1, i2, i3⟩ := pth_ok hG _ _ hv_i.1
        have hc8 := sub8_lt i1.2.2.2 hG
        have hX3 : c.1 + c.2.1 + c.2.2.1 ≤ 8 := by have q1 := i1.1; have q2 := i1.2.1; have q3 := i1.2.2.1; omega
        have hT : zKs (mvS S c.1 c.2.1 c.2.2.1 c.2.2.2) sc c.1 c.2.1 c.2.2.1 c.2.2.2 := K_mv h hX3 hc8
        refine z_iload X dL_orders_144 rfl ?_
        refine z_iload_n X dL_orders_146 rfl rfl ?_
        refine n_icmp_ge (tgt := 236) X dL_orders_147 (by decide) (by omega) (by omega) (fun c147 => absurd c147 (by omega)) (fun _ => ?_)
        refine z_iload X dL_orders_150 rfl ?_
        refine n_if_eq (tgt := 236) X dL_orders_152 (by decide) (by omega) (fun c152 => absurd c152 (by decide)) (fun _ => ?_)
        refine z_aload_n X dL_orders_155 rfl rfl ?_
        refine z_iload X dL_orders_156 rfl ?_
        refine z_w7 (k := 2 * i + 9) (n := 6 * (2 * i + 9)) (k' := 2 * i + 10) (n' := 6 * (2 * i + 10)) (st := []) X Y aA_eq V (fun sz => w_stepAt l hfl D t a p3 h (v := i) (by omega) hR hi_i sz) kw_stepAt q_ml_L_118 is24 ⟨by decide, rfl⟩ (fun u => wA t a b (T6 S (pu u p3)) (T6 (mvS S c.1 c.2.1 c.2.2.1 c.2.2.2) p4) qb qv qc fB fV fC) (fun u => ⟨⟨by decide, rfl⟩, ⟨by decide, rfl⟩, rfl, rfl⟩) (by decide) (by decide) rfl rfl rfl (Nat.le_of_ble_eq_true rfl) ⟨by omega, by omega⟩ ⟨by omega, by omega⟩ dL_orders_158 (fun r158 u158 h158 => ?_)
        obtain ⟨c9, k9, h1, h2, e⟩ := h158
        have hc9 : c9 = c := pth_u _ _ _ h1 hv_i.1
        subst hc9
        subst e
        have hR9 := Rc_next h2.1 h2.2.1 i3
        have i4 := (stp_inB h2.2.1).mpr i1
        have hT9 : zKs (mvS S (gx k9 c9.1) (gy k9 c9.2.1) (gz k9 c9.2.2.1) (gs k9 c9.2.2.2)) sc (gx k9 c9.1) (gy k9 c9.2.1) (gz k9 c9.2.2.1) (gs k9 c9.2.2.2) := K_mv h (by have q1 := i4.1; have q2 := i4.2.1; have q3 := i4.2.2.1; omega) (sub8_lt i4.2.2.2 hG)
        have j209 : ∀ (p5 : zT), Wz E (2 * i + 11) (6 * (2 * i + 11)) 209 [some (.ref (a 0)), some (.ref (b 0)), some (.int (nI 1)), some (.int (nI (x + y + z + p8 G))), none, none, some (.int (nI 1)), some (.int (nI i)), none] [.int (nI 1)] (wA t a b (T6 S (pu u158 p3)) (T6 (mvS S (gx k9 c9.1) (gy k9 c9.2.1) (gz k9 c9.2.2.1) (gs k9 c9.2.2.2)) p5) qb qv qc fB fV fC) := by
          intro p5
          refine z_istore X dL_orders_209 (Nat.le_of_ble_eq_true rfl) ?_
          refine z_lv (lv' := [some (.ref (a 0)), some (.ref (b 0)), some (.int (nI 1)), some (.int (nI (x + y + z + p8 G))), none, none, some (.int (nI 1)), some (.int (nI i)), none]) rfl ?_
          refine z_iload X dL_orders_211 rfl ?_
          refine n_if_eq (tgt := 227) X dL_orders_213 (by decide) (by omega) (fun c213 => absurd c213 (by decide)) (fun _ => ?_)
          refine z_aload_n X dL_orders_216 rfl rfl ?_
          refine z_callV2 (k := 2 * i + 11) (n := 6 * (2 * i + 11)) (st := []) X Y aA_eq (o_isLawful l D t b p5 hT9) k_X3_isLawful q_ml_L_112 is24t (fun u => wA t a b (T6 S (pu u158 p3)) (T6 (mvS S (gx k9 c9.1) (gy k9 c9.2.1) (gz k9 c9.2.2.1) (gs k9 c9.2.2.2)) (p0 u p5)) qb qv qc fB fV fC) (fun u => ⟨⟨by decide, rfl⟩, ⟨by decide, rfl⟩, rfl, rfl⟩) ⟨by decide, rfl⟩ 24 3 rfl rfl (by decide) rfl rfl rfl (Nat.le_of_ble_eq_true rfl) ⟨by omega, by omega⟩ dL_orders_217 (fun r217 u217 h217 => ?_)
          have e217 : r217 = nI 1 := h217.elim (fun q => q.1) (fun q => absurd ((Rc_ru Ru_mv).mpr hR9) q.2)
          subst e217
          refine n_if_eq (tgt := 227) X dL_orders_220 (by decide) (by omega) (fun c220 => absurd c220 (by decide)) (fun _ => ?_)
          refine z_iconst (v := nI 1) X dL_orders_223 (by decide) ?_
          refine z_goto (tgt := 228) X dL_orders_224 (by decide) ?_
          refine z_istore X dL_orders_228 (Nat.le_of_ble_eq_true rfl) ?_
          refine z_lv (lv' := [some (.ref (a 0)), some (.ref (b 0)), some (.int (nI 1)), some (.int (nI (x + y + z + p8 G))), none, none, some (.int (nI 1)), some (.int (nI i)), none]) rfl ?_
          refine z_iinc (v := nI (i + 1)) X dL_orders_230 rfl (nI_add i 1) ?_
          refine z_lv (lv' := [some (.ref (a 0)), some (.ref (b 0)), some (.int (nI 1)), some (.int (nI (x + y + z + p8 G))), none, none, some (.int (nI 1)), some (.int (nI (i + 1))), none]) rfl ?_
          refine z_goto (tgt := 144) X dL_orders_233 (by decide) ?_
          refine Wz.wide (k' := 2 * (i + 1) + 9) (n' := 6 * (2 * (i + 1) + 9)) (by omega) (by omega) ?_
          exact ih_i (goc k9 c9) (pu u158 p3) (p0 u217 p5) (⟨⟨c9, k9, hv_i.1, h2, rfl⟩, hv_i.2⟩)
        rcases Nat.lt_or_ge k9 3 with hk | hk
        ·
          refine z_top (y := nI k9) (congrArg nI (if_pos hk)) ?_
          refine z_istore X dL_orders_161 (Nat.le_of_ble_eq_true rfl) ?_
          refine z_lv (lv' := [some (.ref (a 0)), some (.ref (b 0)), some (.int (nI 1)), some (.int (nI (x + y + z + p8 G))), none, none, some (.int (nI 1)), some (.int (nI i)), some (.int (nI k9))]) rfl ?_
          refine z_iload X dL_orders_163 rfl ?_
          refine z_bipush (v := nI 10) X dL_orders_165 (by decide) ?_
          refine n_icmp_ge (tgt := 192) X dL_orders_167 (by decide) (by omega) (by omega) (fun c167 => absurd c167 (by omega)) (fun c167 => ?_)
          refine z_iload X dL_orders_170 rfl ?_
          refine n_if_lt (tgt := 188) X dL_orders_172 (by decide) (by omega) ?_
          refine z_aload_n X dL_orders_175 rfl rfl ?_
          refine z_iload X dL_orders_176 rfl ?_
          refine z_w7 (k := 2 * i + 10) (n := 6 * (2 * i + 10)) (k' := 2 * i + 11) (n' := 6 * (2 * i + 11)) (st := []) X Y aA_eq V (fun sz => w_takeLevel l hfl D t b p4 hT hk (stp_room hX i1 hk h2.2.1) sz) kw_takeLevel q_ml_L_123 is24t ⟨by decide, rfl⟩ (fun u => wA t a b (T6 S (pu u158 p3)) (T6 (tkS (mvS S c9.1 c9.2.1 c9.2.2.1 c9.2.2.2) k9 c9.1 c9.2.1 c9.2.2.1) ((p4).1, (p4).2.1, (p4).2.2.1, (p4).2.2.2.1, (p4).2.2.2.2.1, upd (pq p4) (c9.1 + c9.2.1 + c9.2.2.1) (nI k9))) qb qv qc fB fV fC) (fun u => ⟨⟨by decide, rfl⟩, ⟨by decide, rfl⟩, rfl, rfl⟩) (by decide) (by decide) rfl rfl rfl (Nat.le_of_ble_eq_true rfl) ⟨by omega, by omega⟩ ⟨by omega, by omega⟩ dL_orders_178 (fun r178 u178 h178 => ?_)
          subst h178
          refine Wz.eq (ws' := wA t a b (T6 S (pu u158 p3)) (T6 (mvS S (gx k9 c9.1) (gy k9 c9.2.1) (gz k9 c9.2.2.1) (gs k9 c9.2.2.2)) ((p4).1, (p4).2.1, (p4).2.2.1, (p4).2.2.2.1, (p4).2.2.2.2.1, upd (pq p4) (c9.1 + c9.2.1 + c9.2.2.1) (nI k9))) qb qv qc fB fV fC) (wA_B (wR_tk hk)) ?_
          refine n_if_le (tgt := 188) X dL_orders_181 (by decide) (by omega) (fun c181 => absurd c181 (by omega)) (fun c181 => ?_)
          refine z_iconst (v := nI 1) X dL_orders_184 (by decide) ?_
          refine z_goto (tgt := 209) X dL_orders_185 (by decide) ?_
          refine Wz.less (lv' := [some (.ref (a 0)), some (.ref (b 0)), some (.int (nI 1)), some (.int (nI (x + y + z + p8 G))), none, none, some (.int (nI 1)), some (.int (nI i)), none]) (by simp [zle] <;> rfl) ?_
          exact j209 ((p4).1, (p4).2.1, (p4).2.2.1, (p4).2.2.2.1, (p4).2.2.2.2.1, upd (pq p4) (c9.1 + c9.2.1 + c9.2.2.1) (nI k9))
        ·
          obtain ⟨j, rfl⟩ : ∃ j, k9 = j + 3 := ⟨k9 - 3, by omega⟩
          obtain ⟨hj, hm⟩ := stp_mt h2.2.1
          have hp := p8_or _ hc8 j hj hm.1
          have hp7 := p8_le _ hc8
          refine z_top (y := nI (10 + j)) (congrArg nI ((if_neg (by omega)).trans (by omega))) ?_
          refine z_istore X dL_orders_161 (Nat.le_of_ble_eq_true rfl) ?_
          refine z_lv (lv' := [some (.ref (a 0)), some (.ref (b 0)), some (.int (nI 1)), some (.int (nI (x + y + z + p8 G))), none, none, some (.int (nI 1)), some (.int (nI i)), some (.int (nI (10 + j)))]) rfl ?_
          refine z_iload X dL_orders_163 rfl ?_
          refine z_bipush (v := nI 10) X dL_orders_165 (by decide) ?_
          refine n_icmp_ge (tgt := 192) X dL_orders_167 (by decide) (by omega) (by omega) (fun c167 => ?_) (fun c167 => absurd c167 (by omega))
          refine z_aload_n X dL_orders_192 rfl rfl ?_
          refine z_iload X dL_orders_193 rfl ?_
          refine z_bipush (v := nI 10) X dL_orders_195 (by decide) ?_
          refine n_isub X dL_orders_197 (by omega) ?_
          refine z_top (y := nI j) (congrArg nI (by omega)) ?_
          refine z_w7 (k := 2 * i + 10) (n := 6 * (2 * i + 10)) (k' := 2 * i + 11) (n' := 6 * (2 * i + 11)) (st := []) X Y aA_eq V (fun sz => w_takeGift l hfl D t b p4 hT hj ((mt_ru Ru_mv _ _ _ _ _).mpr hm) sz) kw_takeGift q_ml_L_125 is24t ⟨by decide, rfl⟩ (fun u => wA t a b (T6 S (pu u158 p3)) (T6 (giS (mvS S c9.1 c9.2.1 c9.2.2.1 c9.2.2.2) (c9.2.2.2 ||| 2 ^ j)) p4) qb qv qc fB fV fC) (fun u => ⟨⟨by decide, rfl⟩, ⟨by decide, rfl⟩, rfl, rfl⟩) (by decide) (by decide) rfl rfl rfl (Nat.le_of_ble_eq_true rfl) ⟨by omega, by omega⟩ ⟨by omega, by omega⟩ dL_orders_198 (fun r198 u198 h198 => ?_)
          subst h198
          refine Wz.eq (ws' := wA t a b (T6 S (pu u158 p3)) (T6 (mvS S (gx (j + 3) c9.1) (gy (j + 3) c9.2.1) (gz (j + 3) c9.2.2.1) (gs (j + 3) c9.2.2.2)) p4) qb qv qc fB fV fC) (wA_B wR_gi) ?_
          refine n_if_le (tgt := 208) X dL_orders_201 (by decide) (by omega) (fun c201 => absurd c201 (by omega)) (fun c201 => ?_)
          refine z_iconst (v := nI 1) X dL_orders_204 (by decide) ?_
          refine z_goto (tgt := 209) X dL_orders_205 (by decide) ?_
          refine Wz.less (lv' := [some (.ref (a 0)), some (.ref (b 0)), some (.int (nI 1)), some (.int (nI (x + y + z + p8 G))), none, none, some (.int (nI 1)), some (.int (nI i)), none]) (by simp [zle] <;> rfl) ?_
          exact j209 p4
    rcases Nat.lt_or_ge 8 (x + y + z + p8 G) with h8 | h8
    ·
      refine z_aload_n X dL_orders_18 rfl rfl ?_
      refine z_w7 (k := 3) (n := 18) (k' := 4) (n' := 24) (st := []) X Y aA_eq V (fun sz => w_byOrders_S l hfl D t a (p0 u1 p) h h8 sz) kw_byOrders q_ml_L_115 is24 ⟨by decide, rfl⟩ (fun u => wA t a b (T6 S (p0 u1 p)) (T6 S p2) qb qv qc fB fV fC) (fun u => ⟨⟨by decide, rfl⟩, ⟨by decide, rfl⟩, rfl, rfl⟩) (by decide) (by decide) rfl rfl rfl (Nat.le_of_ble_eq_true rfl) ⟨by omega, by omega⟩ ⟨by omega, by omega⟩ dL_orders_19 (fun r19 u19 h19 => ?_)
      subst h19
      refine z_istore X dL_orders_22 (Nat.le_of_ble_eq_true rfl) ?_
      refine z_lv (lv' := [some (.ref (a 0)), some (.ref (b 0)), some (.int (nI 1)), some (.int (nI (x + y + z + p8 G))), some (.int (-1000003)), none, none, none, none]) rfl ?_
      refine z_iload X dL_orders_24 rfl ?_
      refine z_iload_n X dL_orders_26 rfl rfl ?_
      refine z_bipush (v := nI 8) X dL_orders_27 (by decide) ?_
      refine n_icmp_le (tgt := 37) X dL_orders_29 (by decide) (by omega) (by omega) (fun c29 => absurd c29 (by omega)) (fun c29 => ?_)
      refine z_ldci X q_k_L_40 dL_orders_32 ?_
      refine z_goto (tgt := 46) X dL_orders_34 (by decide) ?_
      refine z_icmp_ne (tgt := 59) X dL_orders_46 (by decide) (fun c46 => absurd c46 (by decide)) (fun _ => ?_)
      refine Wz.less (lv' := [some (.ref (a 0)), some (.ref (b 0)), some (.int (nI 1)), some (.int (nI (x + y + z + p8 G))), none, none, none, none, none]) (by simp [zle] <;> rfl) ?_
      exact j49 (p0 u1 p) rfl
    ·
      refine z_aload_n X dL_orders_18 rfl rfl ?_
      refine z_w7 (k := 3) (n := 18) (k' := 4) (n' := 24) (st := []) X Y aA_eq V (fun sz => w_byOrders l hfl D t a (p0 u1 p) h h8 sz) kw_byOrders q_ml_L_115 is24 ⟨by decide, rfl⟩ (fun u => wA t a b (T6 S (p0 (p0 u1 p).2.2.2.2.1 (p0 u1 p))) (T6 S p2) qb qv qc fB fV fC) (fun u => ⟨⟨by decide, rfl⟩, ⟨by decide, rfl⟩, rfl, rfl⟩) (by decide) (by decide) rfl rfl rfl (Nat.le_of_ble_eq_true rfl) ⟨by omega, by omega⟩ ⟨by omega, by omega⟩ dL_orders_19 (fun r19 u19 h19 => ?_)
      have e19 : r19 = nI 1 := h19.elim (fun q => q.1) (fun q => absurd hR q.2)
      subst e19
      refine z_istore X dL_orders_22 (Nat.le_of_ble_eq_true rfl) ?_
      refine z_lv (lv' := [some (.ref (a 0)), some (.ref (b 0)), some (.int (nI 1)), some (.int (nI (x + y + z + p8 G))), some (.int (nI 1)), none, none, none, none]) rfl ?_
      refine z_iload X dL_orders_24 rfl ?_
      refine z_iload_n X dL_orders_26 rfl rfl ?_
      refine z_bipush (v := nI 8) X dL_orders_27 (by decide) ?_
      refine n_icmp_le (tgt := 37) X dL_orders_29 (by decide) (by omega) (by omega) (fun c29 => ?_) (fun c29 => absurd c29 (by omega))
      refine z_iload_n X dL_orders_37 rfl rfl ?_
      refine n_if_eq (tgt := 45) X dL_orders_38 (by decide) (by omega) (fun c38 => absurd c38 (by decide)) (fun _ => ?_)
      refine z_iconst (v := nI 1) X dL_orders_41 (by decide) ?_
      refine z_goto (tgt := 46) X dL_orders_42 (by decide) ?_
      refine n_icmp_ne (tgt := 59) X dL_orders_46 (by decide) (by omega) (by omega) (fun c46 => absurd c46 (by decide)) (fun _ => ?_)
      refine Wz.less (lv' := [some (.ref (a 0)), some (.ref (b 0)), some (.int (nI 1)), some (.int (nI (x + y + z + p8 G))), none, none, none, none, none]) (by simp [zle] <;> rfl) ?_
      exact j49 (p0 (p0 u1 p).2.2.2.2.1 (p0 u1 p)) rfl
  ·
    refine z_istore_n X dL_orders_4 rfl (Nat.le_of_ble_eq_true rfl) ?_
    refine z_lv (lv' := [some (.ref (a 0)), some (.ref (b 0)), some (.int (nI 0)), none, none, none, none, none, none]) rfl ?_
    refine z_aload_n X dL_orders_5 rfl rfl ?_
    refine z_w8 (k := 0) (n := 0) (k' := 3) (n' := 18) (st := []) X Y aA_eq V (fun sz => c_L_levels l hfl D t sz a (p0 u1 p) h) k8_levels q_ml_L_96 is24 ⟨by decide, rfl⟩ (fun u => wA t a b (T6 S (p0 u1 p)) (T6 S p2) qb qv qc fB fV fC) (fun u => ⟨⟨by decide, rfl⟩, ⟨by decide, rfl⟩, rfl, rfl⟩) (by decide) (by decide) rfl rfl rfl (Nat.le_of_ble_eq_true rfl) ⟨by omega, by omega⟩ ⟨by omega, by omega⟩ dL_orders_6 (fun r6 u6 h6 => ?_)
    subst h6
    refine z_aload_n X dL_orders_9 rfl rfl ?_
    refine z_callV1 (k := 3) (n := 18) (st := [.int (nI (x + y + z))]) X (o_gifts l D t a (p0 u1 p) h) k_X3_gifts q_ml_L_90 is24 ⟨by decide, rfl⟩ 0 3 rfl rfl (by decide) rfl rfl rfl (Nat.le_of_ble_eq_true rfl) ⟨by omega, by omega⟩ dL_orders_10 (fun r10 h10 => ?_)
    subst h10
    refine z_callS1 (k := 3) (n := 18) (st := [.int (nI (x + y + z))]) X (c_L_many l D t G (by omega)) k_L_many q_ml_L_106 [] ⟨by decide, rfl⟩ (by decide) rfl rfl rfl (Nat.le_of_ble_eq_true rfl) ⟨by omega, by omega⟩ dL_orders_13 (fun r13 h13 => ?_)
    subst h13
    refine n_iadd X dL_orders_16 ?_
    refine z_top (y := nI (x + y + z + p8 G)) (rfl) ?_
    refine z_istore_n X dL_orders_17 rfl (Nat.le_of_ble_eq_true rfl) ?_
    refine z_lv (lv' := [some (.ref (a 0)), some (.ref (b 0)), some (.int (nI 0)), some (.int (nI (x + y + z + p8 G))), none, none, none, none, none]) rfl ?_
    have j49 : ∀ (p3 : zT), pq p3 = pq p → Wz E (4) (24) 49 [some (.ref (a 0)), some (.ref (b 0)), some (.int (nI 0)), some (.int (nI (x + y + z + p8 G))), none, none, none, none, none] [] (wA t a b (T6 S p3) (T6 S p2) qb qv qc fB fV fC) := by
      intro p3 hj49
      refine z_aload_n X dL_orders_49 rfl rfl ?_
      refine z_iconst (v := (-1)) X dL_orders_50 (by decide) ?_
      refine z_w7 (k := 4) (n := 24) (k' := 5) (n' := 30) (st := []) X Y aA_eq V (fun sz => w_stepAt_I l hfl D t a p3 h (by decide) sz) kw_stepAt q_ml_L_118 is24 ⟨by decide, rfl⟩ (fun u => wA t a b (T6 S (pu u p3)) (T6 S p2) qb qv qc fB fV fC) (fun u => ⟨⟨by decide, rfl⟩, ⟨by decide, rfl⟩, rfl, rfl⟩) (by decide) (by decide) rfl rfl rfl (Nat.le_of_ble_eq_true rfl) ⟨by omega, by omega⟩ ⟨by omega, by omega⟩ dL_orders_51 (fun r51 u51 h51 => ?_)
      subst h51
      refine z_ldci X q_k_L_18 dL_orders_54 ?_
      refine z_icmp_eq (tgt := 61) X dL_orders_56 (by decide) (fun _ => ?_) (fun c56 => absurd c56 (by decide))
      refine z_iload_n X dL_orders_61 rfl rfl ?_
      refine n_if_ne (tgt := 92) X dL_orders_62 (by decide) (by omega) (fun c62 => absurd c62 (by decide)) (fun _ => ?_)
      refine z_aload_n X dL_orders_65 rfl rfl ?_
      refine z_iconst (v := nI 0) X dL_orders_66 (by decide) ?_
      refine z_w7 (k := 5) (n := 30) (k' := 6) (n' := 36) (st := []) X Y aA_eq V (fun sz => w_stepAt_S l hfl D t a (pu u51 p3) h (by decide) hR sz) kw_stepAt q_ml_L_118 is24 ⟨by decide, rfl⟩ (fun u => wA t a b (T6 S (pu u (pu u51 p3))) (T6 S p2) qb qv qc fB fV fC) (fun u => ⟨⟨by decide, rfl⟩, ⟨by decide, rfl⟩, rfl, rfl⟩) (by decide) (by decide) rfl rfl rfl (Nat.le_of_ble_eq_true rfl) ⟨by omega, by omega⟩ ⟨by omega, by omega⟩ dL_orders_67 (fun r67 u67 h67 => ?_)
      subst h67
      refine z_ldci X q_k_L_40 dL_orders_70 ?_
      refine z_icmp_ne (tgt := 90) X dL_orders_72 (by decide) (fun c72 => absurd c72 (by decide)) (fun _ => ?_)
      refine z_aload_n X dL_orders_75 rfl rfl ?_
      refine z_bipush (v := nI 99) X dL_orders_76 (by decide) ?_
      refine z_w7 (k := 6) (n := 36) (k' := 7) (n' := 42) (st := []) X Y aA_eq V (fun sz => w_stepAt_S l hfl D t a (pu u67 (pu u51 p3)) h (by decide) hR sz) kw_stepAt q_ml_L_118 is24 ⟨by decide, rfl⟩ (fun u => wA t a b (T6 S (pu u (pu u67 (pu u51 p3)))) (T6 S p2) qb qv qc fB fV fC) (fun u => ⟨⟨by decide, rfl⟩, ⟨by decide, rfl⟩, rfl, rfl⟩) (by decide) (by decide) rfl rfl rfl (Nat.le_of_ble_eq_true rfl) ⟨by omega, by omega⟩ ⟨by omega, by omega⟩ dL_orders_78 (fun r78 u78 h78 => ?_)
      subst h78
      refine z_ldci X q_k_L_40 dL_orders_81 ?_
      refine z_icmp_ne (tgt := 90) X dL_orders_83 (by decide) (fun c83 => absurd c83 (by decide)) (fun _ => ?_)
      refine z_iconst (v := nI 1) X dL_orders_86 (by decide) ?_
      refine z_goto (tgt := 91) X dL_orders_87 (by decide) ?_
      refine Wz.wide (k' := 80) (n' := 480) (by omega) (by omega) ?_
      refine z_iret X Z (by decide +kernel) dL_orders_91 ?_
      exact ⟨(pu u78 (pu u67 (pu u51 p3)), p2), ⟨rfl, hj49, fun _ => rfl⟩, fun q hq => hq⟩
    rcases Nat.lt_or_ge 8 (x + y + z + p8 G) with h8 | h8
    ·
      refine z_aload_n X dL_orders_18 rfl rfl ?_
      refine z_w7 (k := 3) (n := 18) (k' := 4) (n' := 24) (st := []) X Y aA_eq V (fun sz => w_byOrders_S l hfl D t a (p0 u1 p) h h8 sz) kw_byOrders q_ml_L_115 is24 ⟨by decide, rfl⟩ (fun u => wA t a b (T6 S (p0 u1 p)) (T6 S p2) qb qv qc fB fV fC) (fun u => ⟨⟨by decide, rfl⟩, ⟨by decide, rfl⟩, rfl, rfl⟩) (by decide) (by decide) rfl rfl rfl (Nat.le_of_ble_eq_true rfl) ⟨by omega, by omega⟩ ⟨by omega, by omega⟩ dL_orders_19 (fun r19 u19 h19 => ?_)
      subst h19
      refine z_istore X dL_orders_22 (Nat.le_of_ble_eq_true rfl) ?_
      refine z_lv (lv' := [some (.ref (a 0)), some (.ref (b 0)), some (.int (nI 0)), some (.int (nI (x + y + z + p8 G))), some (.int (-1000003)), none, none, none, none]) rfl ?_
      refine z_iload X dL_orders_24 rfl ?_
      refine z_iload_n X dL_orders_26 rfl rfl ?_
      refine z_bipush (v := nI 8) X dL_orders_27 (by decide) ?_
      refine n_icmp_le (tgt := 37) X dL_orders_29 (by decide) (by omega) (by omega) (fun c29 => absurd c29 (by omega)) (fun c29 => ?_)
      refine z_ldci X q_k_L_40 dL_orders_32 ?_
      refine z_goto (tgt := 46) X dL_orders_34 (by decide) ?_
      refine z_icmp_ne (tgt := 59) X dL_orders_46 (by decide) (fun c46 => absurd c46 (by decide)) (fun _ => ?_)
      refine Wz.less (lv' := [some (.ref (a 0)), some (.ref (b 0)), some (.int (nI 0)), some (.int (nI (x + y + z + p8 G))), none, none, none, none, none]) (by simp [zle] <;> rfl) ?_
      exact j49 (p0 u1 p) rfl
    ·
      refine z_aload_n X dL_orders_18 rfl rfl ?_
      refine z_w7 (k := 3) (n := 18) (k' := 4) (n' := 24) (st := []) X Y aA_eq V (fun sz => w_byOrders l hfl D t a (p0 u1 p) h h8 sz) kw_byOrders q_ml_L_115 is24 ⟨by decide, rfl⟩ (fun u => wA t a b (T6 S (p0 (p0 u1 p).2.2.2.2.1 (p0 u1 p))) (T6 S p2) qb qv qc fB fV fC) (fun u => ⟨⟨by decide, rfl⟩, ⟨by decide, rfl⟩, rfl, rfl⟩) (by decide) (by decide) rfl rfl rfl (Nat.le_of_ble_eq_true rfl) ⟨by omega, by omega⟩ ⟨by omega, by omega⟩ dL_orders_19 (fun r19 u19 h19 => ?_)
      have e19 : r19 = nI 0 := h19.elim (fun q => absurd q.2 hR) (fun q => q.1)
      subst e19
      refine z_istore X dL_orders_22 (Nat.le_of_ble_eq_true rfl) ?_
      refine z_lv (lv' := [some (.ref (a 0)), some (.ref (b 0)), some (.int (nI 0)), some (.int (nI (x + y + z + p8 G))), some (.int (nI 0)), none, none, none, none]) rfl ?_
      refine z_iload X dL_orders_24 rfl ?_
      refine z_iload_n X dL_orders_26 rfl rfl ?_
      refine z_bipush (v := nI 8) X dL_orders_27 (by decide) ?_
      refine n_icmp_le (tgt := 37) X dL_orders_29 (by decide) (by omega) (by omega) (fun c29 => ?_) (fun c29 => absurd c29 (by omega))
      refine z_iload_n X dL_orders_37 rfl rfl ?_
      refine n_if_eq (tgt := 45) X dL_orders_38 (by decide) (by omega) (fun _ => ?_) (fun c38 => absurd c38 (by decide))
      refine z_iconst (v := nI 0) X dL_orders_45 (by decide) ?_
      refine n_icmp_ne (tgt := 59) X dL_orders_46 (by decide) (by omega) (by omega) (fun c46 => absurd c46 (by decide)) (fun _ => ?_)
      refine Wz.less (lv' := [some (.ref (a 0)), some (.ref (b 0)), some (.int (nI 0)), some (.int (nI (x + y + z + p8 G))), none, none, none, none, none]) (by simp [zle] <;> rfl) ?_
      exact j49 (p0 (p0 u1 p).2.2.2.2.1 (p0 u1 p)) rfl
