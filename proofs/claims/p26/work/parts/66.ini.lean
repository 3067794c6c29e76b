set_option maxHeartbeats 1000000 in
set_option maxRecDepth 100000 in
theorem lw_ini {E : zE} {D : va_G} {t : ClassId × ClassId × ClassId} {l : Launch} {bs L : Nat} {xs : Nat → Int32} (X : zX E RL code 9 (zRm 64 646323 7162802) D t l) (V : zTry E) (hX : va_X bs L xs (zs E) (zs E).heap) (hbl : bs < (zs E).heap.size) (hbA : ¬ zA E bs) (hL : L ≤ 260) (hfl : l.stackTraces = false) (F : ∀ (k n : Nat), k ≤ 646323 → n ≤ 7162802 → ∀ lv ws, Wz E k n 327 lv [.int (nI 1)] ws) {a b : Nat → Nat} {qb qv qc : Nat} (Y : zWr E (aR a ++ aR b ++ [qb, qv, qc]))  : Wz E (200) (1200) 32 [some (.ref bs), some (.ref (a 0)), some (.ref (b 0)), some (.ref qb), some (.ref qv), some (.ref qc), none, none, none] [] (wA t a b (T6 S00 z00) (T6 S00 z00) qb qv qc (fun _ => 0) (fun _ => 0) (fun _ => 0)) := by
  refine z_iconst (v := nI 0) X dL_law_32 (by decide) ?_
  refine z_istore X dL_law_33 (Nat.le_of_ble_eq_true rfl) ?_
  refine z_lv (lv' := [some (.ref bs), some (.ref (a 0)), some (.ref (b 0)), some (.ref qb), some (.ref qv), some (.ref qc), some (.int (nI 0)), none, none]) rfl ?_
  refine zl_up 24 (fun i => ∀ (fB : Nat → Int32) (fV : Nat → Int32), ((∀ j, j < i → iB j (fB j)) ∧ ∀ j, j < i → iV j (fV j)) → Wz E (200) (1200) 35 [some (.ref bs), some (.ref (a 0)), some (.ref (b 0)), some (.ref qb), some (.ref qv), some (.ref qc), some (.int (nI i)), none, none] [] (wA t a b (T6 S00 z00) (T6 S00 z00) qb qv qc fB fV (fun _ => 0))) ?_ ?_ 0 (by omega) (fun _ => 0) (fun _ => 0) (⟨fun j hj => absurd hj (Nat.not_lt_zero j), fun j hj => absurd hj (Nat.not_lt_zero j)⟩)
  ·
    intro fB fV hv_i
    refine z_iload X dL_law_35 rfl ?_
    refine z_bipush (v := nI 24) X dL_law_37 (by decide) ?_
    refine n_icmp_ge (tgt := 81) X dL_law_39 (by decide) (by omega) (by omega) (fun _ => ?_) (fun c39 => absurd c39 (by decide))
    refine z_iconst (v := nI 0) X dL_law_81 (by decide) ?_
    refine z_istore X dL_law_82 (Nat.le_of_ble_eq_true rfl) ?_
    refine z_lv (lv' := [some (.ref bs), some (.ref (a 0)), some (.ref (b 0)), some (.ref qb), some (.ref qv), some (.ref qc), some (.int (nI 0)), none, none]) rfl ?_
    refine zl_up 4 (fun m => ∀ (fC : Nat → Int32), ((∀ j, j < m → fC j = nI 8) ∧ fC 4 = nI 0) → Wz E (200) (1200) 84 [some (.ref bs), some (.ref (a 0)), some (.ref (b 0)), some (.ref qb), some (.ref qv), some (.ref qc), some (.int (nI m)), none, none] [] (wA t a b (T6 S00 z00) (T6 S00 z00) qb qv qc fB fV fC)) ?_ ?_ 0 (by omega) (fun _ => 0) (⟨fun j hj => absurd hj (Nat.not_lt_zero j), rfl⟩)
    ·
      intro fC hv_m
      refine z_iload X dL_law_84 rfl ?_
      refine z_iconst (v := nI 4) X dL_law_86 (by decide) ?_
      refine n_icmp_ge (tgt := 103) X dL_law_87 (by decide) (by omega) (by omega) (fun _ => ?_) (fun c87 => absurd c87 (by decide))
      refine z_aload_n X dL_law_103 rfl rfl ?_
      refine z_callV2 (k := 200) (n := 1200) (st := []) X Y aA_eq (o_isLawful l D t a z00 K_00) k_X3_isLawful q_ml_L_112 is24 (fun u => wA t a b (T6 S00 (p0 u z00)) (T6 S00 z00) qb qv qc fB fV fC) (fun u => ⟨⟨by decide, rfl⟩, ⟨by decide, rfl⟩, rfl, rfl⟩) ⟨by decide, rfl⟩ 0 3 rfl rfl (by decide) rfl rfl rfl (Nat.le_of_ble_eq_true rfl) ⟨by omega, by omega⟩ dL_law_104 (fun r104 u104 h104 => ?_)
      have e104 : r104 = nI 1 := h104.elim (fun q => q.1) (fun q => absurd (Rc_rf : Rc S00 0 0 0 0 0 0 0 0) q.2)
      subst e104
      refine n_if_eq (tgt := 164) X dL_law_107 (by decide) (by omega) (fun c107 => absurd c107 (by decide)) (fun _ => ?_)
      refine z_aload_n X dL_law_110 rfl rfl ?_
      refine z_callV1 (k := 200) (n := 1200) (st := []) X (o_gifts l D t a (p0 u104 z00) K_00) k_X3_gifts q_ml_L_90 is24 ⟨by decide, rfl⟩ 0 3 rfl rfl (by decide) rfl rfl rfl (Nat.le_of_ble_eq_true rfl) ⟨by omega, by omega⟩ dL_law_111 (fun r111 h111 => ?_)
      subst h111
      refine n_if_ne (tgt := 164) X dL_law_114 (by decide) (by omega) (fun c114 => absurd c114 (by decide)) (fun _ => ?_)
      refine z_aload_n X dL_law_117 rfl rfl ?_
      refine z_callV1 (k := 200) (n := 1200) (st := []) X (o_open l D t a (p0 u104 z00) K_00) k_X3_open q_ml_L_93 is24 ⟨by decide, rfl⟩ 0 3 rfl rfl (by decide) rfl rfl rfl (Nat.le_of_ble_eq_true rfl) ⟨by omega, by omega⟩ dL_law_118 (fun r118 h118 => ?_)
      subst h118
      refine z_top (y := nI 255) (congrArg nI opN_00) ?_
      refine z_sipush (v := nI 255) X dL_law_121 (by decide) ?_
      refine n_icmp_ne (tgt := 164) X dL_law_124 (by decide) (by omega) (by omega) (fun c124 => absurd c124 (by decide)) (fun _ => ?_)
      refine z_aload_n X dL_law_127 rfl rfl ?_
      refine z_callV1 (k := 200) (n := 1200) (st := []) X (o_places l D t a (p0 u104 z00) K_00) k_X3_places q_ml_L_100 is24 ⟨by decide, rfl⟩ 0 3 rfl rfl (by decide) rfl rfl rfl (Nat.le_of_ble_eq_true rfl) ⟨by omega, by omega⟩ dL_law_128 (fun r128 h128 => ?_)
      subst h128
      refine z_top (y := nI 1) (rfl) ?_
      refine z_iconst (v := nI 1) X dL_law_131 (by decide) ?_
      refine n_icmp_ne (tgt := 164) X dL_law_132 (by decide) (by omega) (by omega) (fun c132 => absurd c132 (by decide)) (fun _ => ?_)
      refine z_aload_n X dL_law_135 rfl rfl ?_
      refine z_callV1 (k := 200) (n := 1200) (st := []) X (o_points l D t a (p0 u104 z00) K_00) k_X3_points q_ml_L_103 is24 ⟨by decide, rfl⟩ 0 3 rfl rfl (by decide) rfl rfl rfl (Nat.le_of_ble_eq_true rfl) ⟨by omega, by omega⟩ dL_law_136 (fun r136 h136 => ?_)
      subst h136
      refine z_top (y := nI 20) (rfl) ?_
      refine z_bipush (v := nI 20) X dL_law_139 (by decide) ?_
      refine n_icmp_ne (tgt := 164) X dL_law_141 (by decide) (by omega) (by omega) (fun c141 => absurd c141 (by decide)) (fun _ => ?_)
      refine z_aload_n X dL_law_144 rfl rfl ?_
      refine z_w7 (k := 200) (n := 1200) (k' := 201) (n' := 1206) (st := []) X Y aA_eq V (fun sz => w_loseLevel_S l hfl D t a (p0 u104 z00) K_00 (tk := fun _ => 0) (fun j hj => absurd hj (Nat.not_lt_zero j)) rfl sz) kw_loseLevel q_ml_L_150 is24 ⟨by decide, rfl⟩ (fun u => wA t a b (T6 S00 (p0 u104 z00)) (T6 S00 z00) qb qv qc fB fV fC) (fun u => ⟨⟨by decide, rfl⟩, ⟨by decide, rfl⟩, rfl, rfl⟩) (by decide) (by decide) rfl rfl rfl (Nat.le_of_ble_eq_true rfl) ⟨by omega, by omega⟩ ⟨by omega, by omega⟩ dL_law_145 (fun r145 u145 h145 => ?_)
      subst h145
      refine z_ldci X q_k_L_40 dL_law_148 ?_
      refine z_icmp_ne (tgt := 164) X dL_law_150 (by decide) (fun c150 => absurd c150 (by decide)) (fun _ => ?_)
      refine z_aload_n X dL_law_153 rfl rfl ?_
      refine z_callV2 (k := 201) (n := 1206) (st := []) X Y aA_eq (o_clear l D t a (p0 u104 z00) K_00) k_X3_clear q_ml_L_120 is24 (fun u => wA t a b (T6 (clS S00) (p0 u104 z00)) (T6 S00 z00) qb qv qc fB fV fC) (fun u => ⟨⟨by decide, rfl⟩, ⟨by decide, rfl⟩, rfl, rfl⟩) ⟨by decide, rfl⟩ 0 3 rfl rfl (by decide) rfl rfl rfl (Nat.le_of_ble_eq_true rfl) ⟨by omega, by omega⟩ dL_law_154 (fun r154 u154 h154 => ?_)
      subst h154
      refine Wz.eq (ws' := wA t a b (T6 (mvS S00 0 0 0 0) (p0 u104 z00)) (T6 S00 z00) qb qv qc fB fV fC) rfl ?_
      refine z_top (y := nI 0) (by decide) ?_
      refine Wz.eq (ws' := wA t a b (T6 S00 (p0 u104 z00)) (T6 S00 z00) qb qv qc fB fV fC) (wA_A (wR_mv K_00)) ?_
      refine n_if_ne (tgt := 164) X dL_law_157 (by decide) (by omega) (fun c157 => absurd c157 (by decide)) (fun _ => ?_)
      refine z_iconst (v := nI 1) X dL_law_160 (by decide) ?_
      refine z_goto (tgt := 165) X dL_law_161 (by decide) ?_
      refine z_istore X dL_law_165 (Nat.le_of_ble_eq_true rfl) ?_
      refine z_lv (lv' := [some (.ref bs), some (.ref (a 0)), some (.ref (b 0)), some (.ref qb), some (.ref qv), some (.ref qc), some (.int (nI 1)), none, none]) rfl ?_
      refine z_iconst (v := nI 0) X dL_law_167 (by decide) ?_
      refine z_istore X dL_law_168 (Nat.le_of_ble_eq_true rfl) ?_
      refine z_lv (lv' := [some (.ref bs), some (.ref (a 0)), some (.ref (b 0)), some (.ref qb), some (.ref qv), some (.ref qc), some (.int (nI 1)), some (.int (nI 0)), none]) rfl ?_
      refine Wz.wide (k' := 210) (n' := 1260) (by omega) (by omega) ?_
      exact lw_loop X V hX hbl hbA hL hfl F Y (S00, p0 u104 z00, z00, fB, fV, fC) (Gd_00 hv_i.1 hv_i.2 hv_m.1 hv_m.2)
    ·
      intro m hi_m ih_m fC hv_m
      refine z_iload X dL_law_84 rfl ?_
      refine z_iconst (v := nI 4) X dL_law_86 (by decide) ?_
      refine n_icmp_ge (tgt := 103) X dL_law_87 (by decide) (by omega) (by omega) (fun c87 => absurd c87 (by omega)) (fun _ => ?_)
      refine z_aload X dL_law_90 rfl ?_
      refine z_iload X dL_law_92 rfl ?_
      refine z_bipush (v := nI 8) X dL_law_94 (by decide) ?_
      refine n_iast X Y 50 aA_eq rfl (by omega) (by decide) dL_law_96 ?_
      refine Wz.eq (uA_C (f := upd fC m (nI 8))) ?_
      refine z_iinc (v := nI (m + 1)) X dL_law_97 rfl (nI_add m 1) ?_
      refine z_lv (lv' := [some (.ref bs), some (.ref (a 0)), some (.ref (b 0)), some (.ref qb), some (.ref qv), some (.ref qc), some (.int (nI (m + 1))), none, none]) rfl ?_
      refine z_goto (tgt := 84) X dL_law_100 (by decide) ?_
      exact ih_m (upd fC m (nI 8)) (⟨ini_up (P := fun _ v => v = nI 8) hv_m.1 rfl, (if_neg (by omega)).trans hv_m.2⟩)
  ·
    intro i hi_i ih_i fB fV hv_i
    refine z_iload X dL_law_35 rfl ?_
    refine z_bipush (v := nI 24) X dL_law_37 (by decide) ?_
    refine n_icmp_ge (tgt := 81) X dL_law_39 (by decide) (by omega) (by omega) (fun c39 => absurd c39 (by omega)) (fun _ => ?_)
    refine z_aload_n X dL_law_42 rfl rfl ?_
    refine z_iload X dL_law_43 rfl ?_
    refine z_iload X dL_law_45 rfl ?_
    refine z_iconst (v := nI 3) X dL_law_47 (by decide) ?_
    refine n_irem X dL_law_48 (by omega) (by decide) (by decide) ?_
    refine n_if_ne (tgt := 56) X dL_law_49 (by decide) (by omega) (fun c49 => ?_) (fun c49 => ?_)
    ·
      refine z_iconst (v := nI 0) X dL_law_56 (by decide) ?_
      refine n_iast X Y 48 aA_eq rfl (by omega) (by decide) dL_law_57 ?_
      refine Wz.eq (uA_B (f := upd fB i (nI 0))) ?_
      refine z_aload X dL_law_58 rfl ?_
      refine z_iload X dL_law_60 rfl ?_
      refine z_iload X dL_law_62 rfl ?_
      refine z_iconst (v := nI 4) X dL_law_64 (by decide) ?_
      refine n_irem X dL_law_65 (by omega) (by decide) (by decide) ?_
      refine n_if_ne (tgt := 73) X dL_law_66 (by decide) (by omega) (fun c66 => ?_) (fun c66 => ?_)
      ·
        refine z_iconst (v := (-1)) X dL_law_73 (by decide) ?_
        refine n_iast X Y 49 aA_eq rfl (by omega) (by decide) dL_law_74 ?_
        refine Wz.eq (uA_V (f := upd fV i (-1))) ?_
        refine z_iinc (v := nI (i + 1)) X dL_law_75 rfl (nI_add i 1) ?_
        refine z_lv (lv' := [some (.ref bs), some (.ref (a 0)), some (.ref (b 0)), some (.ref qb), some (.ref qv), some (.ref qc), some (.int (nI (i + 1))), none, none]) rfl ?_
        refine z_goto (tgt := 35) X dL_law_78 (by decide) ?_
        exact ih_i (upd fB i (nI 0)) (upd fV i (-1)) (⟨ini_up (P := iB) hv_i.1 ⟨fun q => absurd q c49, fun _ => rfl⟩, ini_up (P := iV) hv_i.2 ⟨fun q => absurd q c66, fun _ => rfl⟩⟩)
      ·
        refine z_iconst (v := nI 0) X dL_law_69 (by decide) ?_
        refine z_goto (tgt := 74) X dL_law_70 (by decide) ?_
        refine n_iast X Y 49 aA_eq rfl (by omega) (by decide) dL_law_74 ?_
        refine Wz.eq (uA_V (f := upd fV i (nI 0))) ?_
        refine z_iinc (v := nI (i + 1)) X dL_law_75 rfl (nI_add i 1) ?_
        refine z_lv (lv' := [some (.ref bs), some (.ref (a 0)), some (.ref (b 0)), some (.ref qb), some (.ref qv), some (.ref qc), some (.int (nI (i + 1))), none, none]) rfl ?_
        refine z_goto (tgt := 35) X dL_law_78 (by decide) ?_
        exact ih_i (upd fB i (nI 0)) (upd fV i (nI 0)) (⟨ini_up (P := iB) hv_i.1 ⟨fun q => absurd q c49, fun _ => rfl⟩, ini_up (P := iV) hv_i.2 ⟨fun _ => rfl, fun q => absurd c66 q⟩⟩)
    ·
      refine z_iconst (v := (-1)) X dL_law_52 (by decide) ?_
      refine z_goto (tgt := 57) X dL_law_53 (by decide) ?_
      refine n_iast X Y 48 aA_eq rfl (by omega) (by decide) dL_law_57 ?_
      refine Wz.eq (uA_B (f := upd fB i (-1))) ?_
      refine z_aload X dL_law_58 rfl ?_
      refine z_iload X dL_law_60 rfl ?_
      refine z_iload X dL_law_62 rfl ?_
      refine z_iconst (v := nI 4) X dL_law_64 (by decide) ?_
      refine n_irem X dL_law_65 (by omega) (by decide) (by decide) ?_
      refine n_if_ne (tgt := 73) X dL_law_66 (by decide) (by omega) (fun c66 => ?_) (fun c66 => ?_)
      ·
        refine z_iconst (v := (-1)) X dL_law_73 (by decide) ?_
        refine n_iast X Y 49 aA_eq rfl (by omega) (by decide) dL_law_74 ?_
        refine Wz.eq (uA_V (f := upd fV i (-1))) ?_
        refine z_iinc (v := nI (i + 1)) X dL_law_75 rfl (nI_add i 1) ?_
        refine z_lv (lv' := [some (.ref bs), some (.ref (a 0)), some (.ref (b 0)), some (.ref qb), some (.ref qv), some (.ref qc), some (.int (nI (i + 1))), none, none]) rfl ?_
        refine z_goto (tgt := 35) X dL_law_78 (by decide) ?_
        exact ih_i (upd fB i (-1)) (upd fV i (-1)) (⟨ini_up (P := iB) hv_i.1 ⟨fun _ => rfl, fun q => absurd c49 q⟩, ini_up (P := iV) hv_i.2 ⟨fun q => absurd q c66, fun _ => rfl⟩⟩)
      ·
        refine z_iconst (v := nI 0) X dL_law_69 (by decide) ?_
        refine z_goto (tgt := 74) X dL_law_70 (by decide) ?_
        refine n_iast X Y 49 aA_eq rfl (by omega) (by decide) dL_law_74 ?_
        refine Wz.eq (uA_V (f := upd fV i (nI 0))) ?_
        refine z_iinc (v := nI (i + 1)) X dL_law_75 rfl (nI_add i 1) ?_
        refine z_lv (lv' := [some (.ref bs), some (.ref (a 0)), some (.ref (b 0)), some (.ref qb), some (.ref qv), some (.ref qc), some (.int (nI (i + 1))), none, none]) rfl ?_
        refine z_goto (tgt := 35) X dL_law_78 (by decide) ?_
        exact ih_i (upd fB i (-1)) (upd fV i (nI 0)) (⟨ini_up (P := iB) hv_i.1 ⟨fun _ => rfl, fun q => absurd c49 q⟩, ini_up (P := iV) hv_i.2 ⟨fun _ => rfl, fun q => absurd c66 q⟩⟩)
