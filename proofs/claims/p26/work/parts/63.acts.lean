set_option maxHeartbeats 1000000 in
set_option maxRecDepth 100000 in
theorem act_takes {E : zE} {D : va_G} {t : ClassId × ClassId × ClassId} {l : Launch} (hfl : l.stackTraces = false) {a b : Nat → Nat} {qb qv qc : Nat} {S : zS} {p p2 : zT} {fB fV fC : Nat → Int32} {sc tk : Nat → Nat} {x y z G : Nat} (v5 v6 : Int32) (k7 g : Nat) (hg : g < 8) (X : zX E RL cL_acts 14 (zRm 34 20 120) D t l) (Z : zEnd E (some .boolean) (va_Qi (fun r (u : zU) => r = nI 1 ∧ Gd u) (fun u q => va_P D vwCl (wG t a b qb qv qc u) q.heap) (zA E)) 20 120) (V : zTry E) (Y : zWr E (aR a ++ aR b ++ [qb, qv, qc])) (hGx : Gx S p p2 fB fV fC sc tk x y z G) : Wz E 0 0 1025 [some (.ref (a 0)), some (.ref (b 0)), some (.ref qb), some (.ref qv), some (.ref qc), some (.int v5), some (.int v6), some (.int (nI k7)), some (.int (nI g)), none, none, none, none, none] [] (wA t a b (T6 S p) (T6 S p2) qb qv qc fB fV fC) := by
  obtain ⟨h, hT1, hT2, hCt, hB, hV, hC⟩ := hGx
  have hX := K_X h
  have hG := K_G h
  have hp8 := p8_le G hG
  have hw : wk S (l3 x y z) G < 256 := wkN_lt 64
  refine z_aload_n X dL_acts_1025 rfl rfl ?_
  refine z_aload_n X dL_acts_1026 rfl rfl ?_
  refine z_iload X dL_acts_1027 rfl ?_
  refine z_bipush (v := nI 8) X dL_acts_1029 (by decide) ?_
  refine z_callS1 (k := 0) (n := 0) (st := [.ref (b 0), .ref (a 0)]) X (c_L_low l D t v6 8 (by decide) (by decide)) k_L_low q_ml_L_129 [] ⟨by decide, rfl⟩ (by decide) rfl rfl rfl (Nat.le_of_ble_eq_true rfl) ⟨by omega, by omega⟩ dL_acts_1031 (fun r1031 h1031 => ?_)
  subst h1031
  have hl1031 : lo v6 8 < 8 := lo_lt (by decide)
  refine z_w8 (k := 0) (n := 0) (k' := 10) (n' := 60) (st := []) X Y aA_eq V (fun sz => c_L_takes l hfl D t sz a b p p2 qb qv qc fB fV fC h (lo_lt (by decide))) k8_takes q_ml_L_146 is51 ⟨by decide, rfl⟩ (fun u => wA t a b (T6 u.1 u.2.1) (T6 u.1 u.2.2) qb qv qc fB fV fC) (fun u => ⟨⟨by decide, rfl⟩, ⟨by decide, rfl⟩, rfl, rfl⟩) (by decide) (by decide) rfl rfl rfl (Nat.le_of_ble_eq_true rfl) ⟨by omega, by omega⟩ ⟨by omega, by omega⟩ dL_acts_1034 (fun r1034 u1034 h1034 => ?_)
  obtain ⟨rfl, ⟨G9, hK⟩, hRu, e1, e2⟩ := h1034
  refine Wz.wide (k' := 20) (n' := 120) (by omega) (by omega) ?_
  refine z_iret X Z (by decide +kernel) dL_acts_1037 ?_
  exact ⟨(u1034.1, u1034.2.1, u1034.2.2, fB, fV, fC), ⟨rfl, sc, tk, x, y, z, G9, hK, by rw [e1]; exact hT1, by rw [e2]; exact hT2, hCt, LB_ru hRu hB, LV_ru hRu hV, hC⟩, fun q hq => hq⟩
set_option maxHeartbeats 1000000 in
set_option maxRecDepth 100000 in
theorem act_exch {E : zE} {D : va_G} {t : ClassId × ClassId × ClassId} {l : Launch} (hfl : l.stackTraces = false) {a b : Nat → Nat} {qb qv qc : Nat} {S : zS} {p p2 : zT} {fB fV fC : Nat → Int32} {sc tk : Nat → Nat} {x y z G : Nat} (v5 v6 : Int32) (k7 g : Nat) (hg : g < 8) (X : zX E RL cL_acts 14 (zRm 34 20 120) D t l) (Z : zEnd E (some .boolean) (va_Qi (fun r (u : zU) => r = nI 1 ∧ Gd u) (fun u q => va_P D vwCl (wG t a b qb qv qc u) q.heap) (zA E)) 20 120) (V : zTry E) (Y : zWr E (aR a ++ aR b ++ [qb, qv, qc])) (hGx : Gx S p p2 fB fV fC sc tk x y z G) : Wz E 0 0 1273 [some (.ref (a 0)), some (.ref (b 0)), some (.ref qb), some (.ref qv), some (.ref qc), some (.int v5), some (.int v6), some (.int (nI k7)), some (.int (nI g)), none, none, none, none, none] [] (wA t a b (T6 S p) (T6 S p2) qb qv qc fB fV fC) := by
  obtain ⟨h, hT1, hT2, hCt, hB, hV, hC⟩ := hGx
  have hX := K_X h
  have hG := K_G h
  have hp8 := p8_le G hG
  have hw : wk S (l3 x y z) G < 256 := wkN_lt 64
  refine z_aload_n X dL_acts_1273 rfl rfl ?_
  refine z_aload_n X dL_acts_1274 rfl rfl ?_
  refine z_iload X dL_acts_1275 rfl ?_
  refine z_bipush (v := nI 8) X dL_acts_1277 (by decide) ?_
  refine z_callS1 (k := 0) (n := 0) (st := [.ref (b 0), .ref (a 0)]) X (c_L_low l D t v6 8 (by decide) (by decide)) k_L_low q_ml_L_129 [] ⟨by decide, rfl⟩ (by decide) rfl rfl rfl (Nat.le_of_ble_eq_true rfl) ⟨by omega, by omega⟩ dL_acts_1279 (fun r1279 h1279 => ?_)
  subst h1279
  have hl1279 : lo v6 8 < 8 := lo_lt (by decide)
  refine z_iload X dL_acts_1282 rfl ?_
  refine z_iconst (v := nI 3) X dL_acts_1284 (by decide) ?_
  refine z_ishr X dL_acts_1285 ?_
  refine z_bipush (v := nI 8) X dL_acts_1286 (by decide) ?_
  refine z_callS1 (k := 0) (n := 0) (st := [.int (nI (lo v6 8)), .ref (b 0), .ref (a 0)]) X (c_L_low l D t (v6 >>> (nI 3 &&& 31)) 8 (by decide) (by decide)) k_L_low q_ml_L_129 [] ⟨by decide, rfl⟩ (by decide) rfl rfl rfl (Nat.le_of_ble_eq_true rfl) ⟨by omega, by omega⟩ dL_acts_1288 (fun r1288 h1288 => ?_)
  subst h1288
  have hl1288 : lo (v6 >>> (nI 3 &&& 31)) 8 < 8 := lo_lt (by decide)
  refine z_w8 (k := 0) (n := 0) (k' := 10) (n' := 60) (st := []) X Y aA_eq V (fun sz => c_L_exchanges l hfl D t sz a b p p2 qb qv qc fB fV fC h (lo_lt (by decide)) (lo_lt (by decide))) k8_exchanges q_ml_L_152 is51 ⟨by decide, rfl⟩ (fun u => wA t a b (T6 u.1 u.2.1) (T6 u.1 u.2.2) qb qv qc fB fV fC) (fun u => ⟨⟨by decide, rfl⟩, ⟨by decide, rfl⟩, rfl, rfl⟩) (by decide) (by decide) rfl rfl rfl (Nat.le_of_ble_eq_true rfl) ⟨by omega, by omega⟩ ⟨by omega, by omega⟩ dL_acts_1291 (fun r1291 u1291 h1291 => ?_)
  obtain ⟨rfl, ⟨G9, hK⟩, hRu, e1, e2⟩ := h1291
  refine Wz.wide (k' := 20) (n' := 120) (by omega) (by omega) ?_
  refine z_iret X Z (by decide +kernel) dL_acts_1294 ?_
  exact ⟨(u1291.1, u1291.2.1, u1291.2.2, fB, fV, fC), ⟨rfl, sc, tk, x, y, z, G9, hK, by rw [e1]; exact hT1, by rw [e2]; exact hT2, hCt, LB_ru hRu hB, LV_ru hRu hV, hC⟩, fun q hq => hq⟩
set_option maxHeartbeats 1000000 in
set_option maxRecDepth 100000 in
theorem act_lose {E : zE} {D : va_G} {t : ClassId × ClassId × ClassId} {l : Launch} (hfl : l.stackTraces = false) {a b : Nat → Nat} {qb qv qc : Nat} {S : zS} {p p2 : zT} {fB fV fC : Nat → Int32} {sc tk : Nat → Nat} {x y z G : Nat} (v5 v6 : Int32) (k7 g : Nat) (hg : g < 8) (X : zX E RL cL_acts 14 (zRm 34 20 120) D t l) (Z : zEnd E (some .boolean) (va_Qi (fun r (u : zU) => r = nI 1 ∧ Gd u) (fun u q => va_P D vwCl (wG t a b qb qv qc u) q.heap) (zA E)) 20 120) (V : zTry E) (Y : zWr E (aR a ++ aR b ++ [qb, qv, qc])) (hGx : Gx S p p2 fB fV fC sc tk x y z G) : Wz E 0 0 1045 [some (.ref (a 0)), some (.ref (b 0)), some (.ref qb), some (.ref qv), some (.ref qc), some (.int v5), some (.int v6), some (.int (nI k7)), some (.int (nI g)), none, none, none, none, none] [] (wA t a b (T6 S p) (T6 S p2) qb qv qc fB fV fC) := by
  obtain ⟨h, hT1, hT2, hCt, hB, hV, hC⟩ := hGx
  have hX := K_X h
  have hG := K_G h
  have hp8 := p8_le G hG
  have hw : wk S (l3 x y z) G < 256 := wkN_lt 64
  refine z_aload_n X dL_acts_1045 rfl rfl ?_
  refine z_iconst (v := nI 0) X dL_acts_1046 (by decide) ?_
  refine z_w7 (k := 0) (n := 0) (k' := 1) (n' := 6) (st := []) X Y aA_eq V (fun sz => w_level l hfl D t a p h (show 0 < 3 by decide) sz) kw_level q_ml_L_75 is24 ⟨by decide, rfl⟩ (fun u => wA t a b (T6 S p) (T6 S p2) qb qv qc fB fV fC) (fun u => ⟨⟨by decide, rfl⟩, ⟨by decide, rfl⟩, rfl, rfl⟩) (by decide) (by decide) rfl rfl rfl (Nat.le_of_ble_eq_true rfl) ⟨by omega, by omega⟩ ⟨by omega, by omega⟩ dL_acts_1047 (fun r1047 u1047 h1047 => ?_)
  subst h1047
  refine z_bipush (v := nI 16) X dL_acts_1050 (by decide) ?_
  refine z_aload_n X dL_acts_1052 rfl rfl ?_
  refine z_iconst (v := nI 1) X dL_acts_1053 (by decide) ?_
  refine z_w7 (k := 1) (n := 6) (k' := 2) (n' := 12) (st := [.int (nI 16), .int (nI x)]) X Y aA_eq V (fun sz => w_level l hfl D t a p h (show 1 < 3 by decide) sz) kw_level q_ml_L_75 is24 ⟨by decide, rfl⟩ (fun u => wA t a b (T6 S p) (T6 S p2) qb qv qc fB fV fC) (fun u => ⟨⟨by decide, rfl⟩, ⟨by decide, rfl⟩, rfl, rfl⟩) (by decide) (by decide) rfl rfl rfl (Nat.le_of_ble_eq_true rfl) ⟨by omega, by omega⟩ ⟨by omega, by omega⟩ dL_acts_1054 (fun r1054 u1054 h1054 => ?_)
  subst h1054
  refine n_imul X dL_acts_1057 ?_
  refine n_iadd X dL_acts_1058 ?_
  refine z_sipush (v := nI 256) X dL_acts_1059 (by decide) ?_
  refine z_aload_n X dL_acts_1062 rfl rfl ?_
  refine z_iconst (v := nI 2) X dL_acts_1063 (by decide) ?_
  refine z_w7 (k := 2) (n := 12) (k' := 3) (n' := 18) (st := [.int (nI 256), .int (nI (x + (16 * y)))]) X Y aA_eq V (fun sz => w_level l hfl D t a p h (show 2 < 3 by decide) sz) kw_level q_ml_L_75 is24 ⟨by decide, rfl⟩ (fun u => wA t a b (T6 S p) (T6 S p2) qb qv qc fB fV fC) (fun u => ⟨⟨by decide, rfl⟩, ⟨by decide, rfl⟩, rfl, rfl⟩) (by decide) (by decide) rfl rfl rfl (Nat.le_of_ble_eq_true rfl) ⟨by omega, by omega⟩ ⟨by omega, by omega⟩ dL_acts_1064 (fun r1064 u1064 h1064 => ?_)
  subst h1064
  refine n_imul X dL_acts_1067 ?_
  refine n_iadd X dL_acts_1068 ?_
  refine z_istore X dL_acts_1069 (Nat.le_of_ble_eq_true rfl) ?_
  refine z_lv (lv' := [some (.ref (a 0)), some (.ref (b 0)), some (.ref qb), some (.ref qv), some (.ref qc), some (.int v5), some (.int v6), some (.int (nI k7)), some (.int (nI g)), some (.int (nI ((x + (16 * y)) + (256 * z)))), none, none, none, none]) rfl ?_
  refine z_aload_n X dL_acts_1071 rfl rfl ?_
  refine z_callV1 (k := 3) (n := 18) (st := []) X (o_gifts l D t a p h) k_X3_gifts q_ml_L_90 is24 ⟨by decide, rfl⟩ 0 3 rfl rfl (by decide) rfl rfl rfl (Nat.le_of_ble_eq_true rfl) ⟨by omega, by omega⟩ dL_acts_1072 (fun r1072 h1072 => ?_)
  subst h1072
  refine z_istore X dL_acts_1075 (Nat.le_of_ble_eq_true rfl) ?_
  refine z_lv (lv' := [some (.ref (a 0)), some (.ref (b 0)), some (.ref qb), some (.ref qv), some (.ref qc), some (.int v5), some (.int v6), some (.int (nI k7)), some (.int (nI g)), some (.int (nI ((x + (16 * y)) + (256 * z)))), some (.int (nI G)), none, none, none]) rfl ?_
  rcases Nat.eq_zero_or_pos (x + y + z) with hm | hm
  ·
    refine z_aload_n X dL_acts_1077 rfl rfl ?_
    refine z_w7 (k := 3) (n := 18) (k' := 4) (n' := 24) (st := []) X Y aA_eq V (fun sz => w_loseLevel_S l hfl D t a p h hT1 hm sz) kw_loseLevel q_ml_L_150 is24 ⟨by decide, rfl⟩ (fun u => wA t a b (T6 S p) (T6 S p2) qb qv qc fB fV fC) (fun u => ⟨⟨by decide, rfl⟩, ⟨by decide, rfl⟩, rfl, rfl⟩) (by decide) (by decide) rfl rfl rfl (Nat.le_of_ble_eq_true rfl) ⟨by omega, by omega⟩ ⟨by omega, by omega⟩ dL_acts_1078 (fun r1078 u1078 h1078 => ?_)
    subst h1078
    refine z_istore X dL_acts_1081 (Nat.le_of_ble_eq_true rfl) ?_
    refine z_lv (lv' := [some (.ref (a 0)), some (.ref (b 0)), some (.ref qb), some (.ref qv), some (.ref qc), some (.int v5), some (.int v6), some (.int (nI k7)), some (.int (nI g)), some (.int (nI ((x + (16 * y)) + (256 * z)))), some (.int (nI G)), some (.int (-1000003)), none, none]) rfl ?_
    refine z_aload_n X dL_acts_1083 rfl rfl ?_
    refine z_w7 (k := 4) (n := 24) (k' := 5) (n' := 30) (st := []) X Y aA_eq V (fun sz => w_loseLevel_S l hfl D t b p2 h hT2 hm sz) kw_loseLevel q_ml_L_150 is24t ⟨by decide, rfl⟩ (fun u => wA t a b (T6 S p) (T6 S p2) qb qv qc fB fV fC) (fun u => ⟨⟨by decide, rfl⟩, ⟨by decide, rfl⟩, rfl, rfl⟩) (by decide) (by decide) rfl rfl rfl (Nat.le_of_ble_eq_true rfl) ⟨by omega, by omega⟩ ⟨by omega, by omega⟩ dL_acts_1084 (fun r1084 u1084 h1084 => ?_)
    subst h1084
    refine z_iload X dL_acts_1087 rfl ?_
    refine z_icmp_ne (tgt := 1124) X dL_acts_1089 (by decide) (fun c1089 => absurd c1089 (by decide)) (fun _ => ?_)
    refine z_iload X dL_acts_1092 rfl ?_
    refine z_aload X dL_acts_1094 rfl ?_
    refine z_iconst (v := nI 4) X dL_acts_1096 (by decide) ?_
    refine n_iald (f := fC) X 50 rfl (by omega) (by decide) dL_acts_1097 ?_
    refine z_top (y := nI (x + y + z)) (hC.2) ?_
    refine n_if_ne (tgt := 1106) X dL_acts_1098 (by decide) (by omega) (fun c1098 => absurd hm c1098) (fun c1098 => ?_)
    refine z_ldci X q_k_L_40 dL_acts_1101 ?_
    refine z_goto (tgt := 1108) X dL_acts_1103 (by decide) ?_
    refine z_icmp_ne (tgt := 1124) X dL_acts_1108 (by decide) (fun c1108 => absurd c1108 (by decide)) (fun _ => ?_)
    refine z_aload_n X dL_acts_1111 rfl rfl ?_
    refine z_callV1 (k := 5) (n := 30) (st := []) X (o_gifts l D t a p h) k_X3_gifts q_ml_L_90 is24 ⟨by decide, rfl⟩ 0 3 rfl rfl (by decide) rfl rfl rfl (Nat.le_of_ble_eq_true rfl) ⟨by omega, by omega⟩ dL_acts_1112 (fun r1112 h1112 => ?_)
    subst h1112
    refine z_iload X dL_acts_1115 rfl ?_
    refine n_icmp_ne (tgt := 1124) X dL_acts_1117 (by decide) (by omega) (by omega) (fun c1117 => absurd c1117 (by omega)) (fun _ => ?_)
    refine z_iconst (v := nI 1) X dL_acts_1120 (by decide) ?_
    refine z_goto (tgt := 1125) X dL_acts_1121 (by decide) ?_
    refine z_istore X dL_acts_1125 (Nat.le_of_ble_eq_true rfl) ?_
    refine z_lv (lv' := [some (.ref (a 0)), some (.ref (b 0)), some (.ref qb), some (.ref qv), some (.ref qc), some (.int v5), some (.int v6), some (.int (nI k7)), some (.int (nI g)), some (.int (nI ((x + (16 * y)) + (256 * z)))), some (.int (nI G)), some (.int (-1000003)), some (.int (nI 1)), none]) rfl ?_
    refine z_aload X dL_acts_1127 rfl ?_
    refine z_iconst (v := nI 4) X dL_acts_1129 (by decide) ?_
    refine z_dup2 X dL_acts_1130 rfl rfl ?_
    refine n_iald (f := fC) X 50 rfl (by omega) (by decide) dL_acts_1131 ?_
    refine z_top (y := nI (x + y + z)) (hC.2) ?_
    refine z_aload X dL_acts_1132 rfl ?_
    refine z_iconst (v := nI 4) X dL_acts_1134 (by decide) ?_
    refine n_iald (f := fC) X 50 rfl (by omega) (by decide) dL_acts_1135 ?_
    refine z_top (y := nI (x + y + z)) (hC.2) ?_
    refine n_if_le (tgt := 1143) X dL_acts_1136 (by decide) (by omega) (fun c1136 => ?_) (fun c1136 => absurd c1136 (by omega))
    refine z_iconst (v := nI 0) X dL_acts_1143 (by decide) ?_
    refine n_isub X dL_acts_1144 (by omega) ?_
    refine n_iast X Y 50 aA_eq rfl (by omega) (by decide) dL_acts_1145 ?_
    refine Wz.eq (uA_C (f := upd fC 4 (nI ((x + y + z) - 0)))) ?_
    refine z_iload X dL_acts_1146 rfl ?_
    refine n_if_eq (tgt := 1196) X dL_acts_1148 (by decide) (by omega) (fun c1148 => absurd c1148 (by decide)) (fun _ => ?_)
    refine z_iload X dL_acts_1151 rfl ?_
    refine z_if_lt (tgt := 1192) X dL_acts_1153 (by decide) (fun _ => ?_) (fun c1153 => absurd c1153 (by decide))
    refine z_iconst (v := nI 1) X dL_acts_1192 (by decide) ?_
    refine z_goto (tgt := 1197) X dL_acts_1193 (by decide) ?_
    refine Wz.wide (k' := 20) (n' := 120) (by omega) (by omega) ?_
    refine z_iret X Z (by decide +kernel) dL_acts_1197 ?_
    exact ⟨(S, p, p2, fB, fV, upd fC 4 (nI ((x + y + z) - 0))), ⟨rfl, sc, tk, x, y, z, G, h, hT1, hT2, hCt, hB, hV, LC_m hC⟩, fun q hq => hq⟩
  ·
    obtain ⟨x7, y7, z7, k9, hk9, hx, hy, hz, hs, htk, hCt7⟩ := lose_ex hT1 hCt hm
    have hK : zKs (lvS S x7 y7 z7) sc x7 y7 z7 G := K_lv h (by omega)
    refine z_aload_n X dL_acts_1077 rfl rfl ?_
    refine z_w7 (k := 3) (n := 18) (k' := 4) (n' := 24) (st := []) X Y aA_eq V (fun sz => w_loseLevel l hfl D t a p h hT1 hk9 hx hy hz hs htk sz) kw_loseLevel q_ml_L_150 is24 ⟨by decide, rfl⟩ (fun u => wA t a b (T6 (lvS S x7 y7 z7) p) (T6 S p2) qb qv qc fB fV fC) (fun u => ⟨⟨by decide, rfl⟩, ⟨by decide, rfl⟩, rfl, rfl⟩) (by decide) (by decide) rfl rfl rfl (Nat.le_of_ble_eq_true rfl) ⟨by omega, by omega⟩ ⟨by omega, by omega⟩ dL_acts_1078 (fun r1078 u1078 h1078 => ?_)
    subst h1078
    refine z_istore X dL_acts_1081 (Nat.le_of_ble_eq_true rfl) ?_
    refine z_lv (lv' := [some (.ref (a 0)), some (.ref (b 0)), some (.ref qb), some (.ref qv), some (.ref qc), some (.int v5), some (.int v6), some (.int (nI k7)), some (.int (nI g)), some (.int (nI ((x + (16 * y)) + (256 * z)))), some (.int (nI G)), some (.int (nI k9)), none, none]) rfl ?_
    refine z_aload_n X dL_acts_1083 rfl rfl ?_
    refine z_w7 (k := 4) (n := 24) (k' := 5) (n' := 30) (st := []) X Y aA_eq V (fun sz => w_loseLevel l hfl D t b p2 h hT2 hk9 hx hy hz hs htk sz) kw_loseLevel q_ml_L_150 is24t ⟨by decide, rfl⟩ (fun u => wA t a b (T6 (lvS S x7 y7 z7) p) (T6 (lvS S x7 y7 z7) p2) qb qv qc fB fV fC) (fun u => ⟨⟨by decide, rfl⟩, ⟨by decide, rfl⟩, rfl, rfl⟩) (by decide) (by decide) rfl rfl rfl (Nat.le_of_ble_eq_true rfl) ⟨by omega, by omega⟩ ⟨by omega, by omega⟩ dL_acts_1084 (fun r1084 u1084 h1084 => ?_)
    subst h1084
    refine z_iload X dL_acts_1087 rfl ?_
    refine n_icmp_ne (tgt := 1124) X dL_acts_1089 (by decide) (by omega) (by omega) (fun c1089 => absurd c1089 (by omega)) (fun _ => ?_)
    refine z_iload X dL_acts_1092 rfl ?_
    refine z_aload X dL_acts_1094 rfl ?_
    refine z_iconst (v := nI 4) X dL_acts_1096 (by decide) ?_
    refine n_iald (f := fC) X 50 rfl (by omega) (by decide) dL_acts_1097 ?_
    refine z_top (y := nI (x + y + z)) (hC.2) ?_
    refine n_if_ne (tgt := 1106) X dL_acts_1098 (by decide) (by omega) (fun c1098 => ?_) (fun c1098 => absurd c1098 (by omega))
    refine z_iload X dL_acts_1106 rfl ?_
    refine n_icmp_ne (tgt := 1124) X dL_acts_1108 (by decide) (by omega) (by omega) (fun c1108 => absurd c1108 (by omega)) (fun _ => ?_)
    refine z_aload_n X dL_acts_1111 rfl rfl ?_
    refine z_callV1 (k := 5) (n := 30) (st := []) X (o_gifts l D t a p hK) k_X3_gifts q_ml_L_90 is24 ⟨by decide, rfl⟩ 0 3 rfl rfl (by decide) rfl rfl rfl (Nat.le_of_ble_eq_true rfl) ⟨by omega, by omega⟩ dL_acts_1112 (fun r1112 h1112 => ?_)
    subst h1112
    refine z_iload X dL_acts_1115 rfl ?_
    refine n_icmp_ne (tgt := 1124) X dL_acts_1117 (by decide) (by omega) (by omega) (fun c1117 => absurd c1117 (by omega)) (fun _ => ?_)
    refine z_iconst (v := nI 1) X dL_acts_1120 (by decide) ?_
    refine z_goto (tgt := 1125) X dL_acts_1121 (by decide) ?_
    refine z_istore X dL_acts_1125 (Nat.le_of_ble_eq_true rfl) ?_
    refine z_lv (lv' := [some (.ref (a 0)), some (.ref (b 0)), some (.ref qb), some (.ref qv), some (.ref qc), some (.int v5), some (.int v6), some (.int (nI k7)), some (.int (nI g)), some (.int (nI ((x + (16 * y)) + (256 * z)))), some (.int (nI G)), some (.int (nI k9)), some (.int (nI 1)), none]) rfl ?_
    refine z_aload X dL_acts_1127 rfl ?_
    refine z_iconst (v := nI 4) X dL_acts_1129 (by decide) ?_
    refine z_dup2 X dL_acts_1130 rfl rfl ?_
    refine n_iald (f := fC) X 50 rfl (by omega) (by decide) dL_acts_1131 ?_
    refine z_top (y := nI (x + y + z)) (hC.2) ?_
    refine z_aload X dL_acts_1132 rfl ?_
    refine z_iconst (v := nI 4) X dL_acts_1134 (by decide) ?_
    refine n_iald (f := fC) X 50 rfl (by omega) (by decide) dL_acts_1135 ?_
    refine z_top (y := nI (x + y + z)) (hC.2) ?_
    refine n_if_le (tgt := 1143) X dL_acts_1136 (by decide) (by omega) (fun c1136 => absurd c1136 (by omega)) (fun c1136 => ?_)
    refine z_iconst (v := nI 1) X dL_acts_1139 (by decide) ?_
    refine z_goto (tgt := 1144) X dL_acts_1140 (by decide) ?_
    refine n_isub X dL_acts_1144 (by omega) ?_
    refine n_iast X Y 50 aA_eq rfl (by omega) (by decide) dL_acts_1145 ?_
    refine Wz.eq (uA_C (f := upd fC 4 (nI ((x + y + z) - 1)))) ?_
    refine z_iload X dL_acts_1146 rfl ?_
    refine n_if_eq (tgt := 1196) X dL_acts_1148 (by decide) (by omega) (fun c1148 => absurd c1148 (by decide)) (fun _ => ?_)
    refine z_iload X dL_acts_1151 rfl ?_
    refine n_if_lt (tgt := 1192) X dL_acts_1153 (by decide) (by omega) ?_
    refine z_aload_n X dL_acts_1156 rfl rfl ?_
    refine z_iconst (v := nI 0) X dL_acts_1157 (by decide) ?_
    refine z_w7 (k := 5) (n := 30) (k' := 6) (n' := 36) (st := []) X Y aA_eq V (fun sz => w_level l hfl D t a p hK (show 0 < 3 by decide) sz) kw_level q_ml_L_75 is24 ⟨by decide, rfl⟩ (fun u => wA t a b (T6 (lvS S x7 y7 z7) p) (T6 (lvS S x7 y7 z7) p2) qb qv qc fB fV (upd fC 4 (nI ((x + y + z) - 1)))) (fun u => ⟨⟨by decide, rfl⟩, ⟨by decide, rfl⟩, rfl, rfl⟩) (by decide) (by decide) rfl rfl rfl (Nat.le_of_ble_eq_true rfl) ⟨by omega, by omega⟩ ⟨by omega, by omega⟩ dL_acts_1158 (fun r1158 u1158 h1158 => ?_)
    subst h1158
    refine z_bipush (v := nI 16) X dL_acts_1161 (by decide) ?_
    refine z_aload_n X dL_acts_1163 rfl rfl ?_
    refine z_iconst (v := nI 1) X dL_acts_1164 (by decide) ?_
    refine z_w7 (k := 6) (n := 36) (k' := 7) (n' := 42) (st := [.int (nI 16), .int (nI x7)]) X Y aA_eq V (fun sz => w_level l hfl D t a p hK (show 1 < 3 by decide) sz) kw_level q_ml_L_75 is24 ⟨by decide, rfl⟩ (fun u => wA t a b (T6 (lvS S x7 y7 z7) p) (T6 (lvS S x7 y7 z7) p2) qb qv qc fB fV (upd fC 4 (nI ((x + y + z) - 1)))) (fun u => ⟨⟨by decide, rfl⟩, ⟨by decide, rfl⟩, rfl, rfl⟩) (by decide) (by decide) rfl rfl rfl (Nat.le_of_ble_eq_true rfl) ⟨by omega, by omega⟩ ⟨by omega, by omega⟩ dL_acts_1165 (fun r1165 u1165 h1165 => ?_)
    subst h1165
    refine n_imul X dL_acts_1168 ?_
    refine n_iadd X dL_acts_1169 ?_
    refine z_sipush (v := nI 256) X dL_acts_1170 (by decide) ?_
    refine z_aload_n X dL_acts_1173 rfl rfl ?_
    refine z_iconst (v := nI 2) X dL_acts_1174 (by decide) ?_
    refine z_w7 (k := 7) (n := 42) (k' := 8) (n' := 48) (st := [.int (nI 256), .int (nI (x7 + (16 * y7)))]) X Y aA_eq V (fun sz => w_level l hfl D t a p hK (show 2 < 3 by decide) sz) kw_level q_ml_L_75 is24 ⟨by decide, rfl⟩ (fun u => wA t a b (T6 (lvS S x7 y7 z7) p) (T6 (lvS S x7 y7 z7) p2) qb qv qc fB fV (upd fC 4 (nI ((x + y + z) - 1)))) (fun u => ⟨⟨by decide, rfl⟩, ⟨by decide, rfl⟩, rfl, rfl⟩) (by decide) (by decide) rfl rfl rfl (Nat.le_of_ble_eq_true rfl) ⟨by omega, by omega⟩ ⟨by omega, by omega⟩ dL_acts_1175 (fun r1175 u1175 h1175 => ?_)
    subst h1175
    refine n_imul X dL_acts_1178 ?_
    refine n_iadd X dL_acts_1179 ?_
    refine z_iload X dL_acts_1180 rfl ?_
    refine z_iconst (v := nI 1) X dL_acts_1182 (by decide) ?_
    refine z_iconst (v := nI 4) X dL_acts_1183 (by decide) ?_
    refine z_iload X dL_acts_1184 rfl ?_
    refine n_imul X dL_acts_1186 ?_
    refine n_ishl1 X dL_acts_1187 (by omega) ?_
    refine z_isub X dL_acts_1188 ?_
    refine z_top (y := nI ((x7 + (16 * y7)) + (256 * z7))) (lose_num hk9 hx hy hz) ?_
    refine n_icmp_ne (tgt := 1196) X dL_acts_1189 (by decide) (by omega) (by omega) (fun c1189 => absurd c1189 (by omega)) (fun _ => ?_)
    refine z_iconst (v := nI 1) X dL_acts_1192 (by decide) ?_
    refine z_goto (tgt := 1197) X dL_acts_1193 (by decide) ?_
    refine Wz.wide (k' := 20) (n' := 120) (by omega) (by omega) ?_
    refine z_iret X Z (by decide +kernel) dL_acts_1197 ?_
    exact ⟨(lvS S x7 y7 z7, p, p2, fB, fV, upd fC 4 (nI ((x + y + z) - 1))), ⟨rfl, sc, tk, x7, y7, z7, G, hK, fun j hj => hT1 j (by omega), fun j hj => hT2 j (by omega), hCt7, LB_ru Ru_lv hB, LV_ru Ru_lv hV, by rw [show x + y + z - 1 = x7 + y7 + z7 by omega]; exact LC_m hC⟩, fun q hq => hq⟩
set_option maxHeartbeats 1000000 in
set_option maxRecDepth 100000 in
theorem act_clear {E : zE} {D : va_G} {t : ClassId × ClassId × ClassId} {l : Launch} (hfl : l.stackTraces = false) {a b : Nat → Nat} {qb qv qc : Nat} {S : zS} {p p2 : zT} {fB fV fC : Nat → Int32} {sc tk : Nat → Nat} {x y z G : Nat} (v5 v6 : Int32) (k7 g : Nat) (hg : g < 8) (X : zX E RL cL_acts 14 (zRm 34 20 120) D t l) (Z : zEnd E (some .boolean) (va_Qi (fun r (u : zU) => r = nI 1 ∧ Gd u) (fun u q => va_P D vwCl (wG t a b qb qv qc u) q.heap) (zA E)) 20 120) (V : zTry E) (Y : zWr E (aR a ++ aR b ++ [qb, qv, qc])) (hGx : Gx S p p2 fB fV fC sc tk x y z G) : Wz E 0 0 1205 [some (.ref (a 0)), some (.ref (b 0)), some (.ref qb), some (.ref qv), some (.ref qc), some (.int v5), some (.int v6), some (.int (nI k7)), some (.int (nI g)), none, none, none, none, none] [] (wA t a b (T6 S p) (T6 S p2) qb qv qc fB fV fC) := by
  obtain ⟨h, hT1, hT2, hCt, hB, hV, hC⟩ := hGx
  have hX := K_X h
  have hG := K_G h
  have hp8 := p8_le G hG
  have hw : wk S (l3 x y z) G < 256 := wkN_lt 64
  refine z_aload X dL_acts_1205 rfl ?_
  refine z_iconst (v := nI 4) X dL_acts_1207 (by decide) ?_
  refine n_iald (f := fC) X 50 rfl (by omega) (by decide) dL_acts_1208 ?_
  refine z_top (y := nI (x + y + z)) (hC.2) ?_
  refine z_aload_n X dL_acts_1209 rfl rfl ?_
  refine z_callV1 (k := 0) (n := 0) (st := [.int (nI (x + y + z))]) X (o_gifts l D t a p h) k_X3_gifts q_ml_L_90 is24 ⟨by decide, rfl⟩ 0 3 rfl rfl (by decide) rfl rfl rfl (Nat.le_of_ble_eq_true rfl) ⟨by omega, by omega⟩ dL_acts_1210 (fun r1210 h1210 => ?_)
  subst h1210
  refine z_callS1 (k := 0) (n := 0) (st := [.int (nI (x + y + z))]) X (c_L_many l D t G (by omega)) k_L_many q_ml_L_106 [] ⟨by decide, rfl⟩ (by decide) rfl rfl rfl (Nat.le_of_ble_eq_true rfl) ⟨by omega, by omega⟩ dL_acts_1213 (fun r1213 h1213 => ?_)
  subst h1213
  refine n_iadd X dL_acts_1216 ?_
  refine z_top (y := nI (x + y + z + p8 G)) (rfl) ?_
  refine z_istore X dL_acts_1217 (Nat.le_of_ble_eq_true rfl) ?_
  refine z_lv (lv' := [some (.ref (a 0)), some (.ref (b 0)), some (.ref qb), some (.ref qv), some (.ref qc), some (.int v5), some (.int v6), some (.int (nI k7)), some (.int (nI g)), some (.int (nI (x + y + z + p8 G))), none, none, none, none]) rfl ?_
  refine z_aload X dL_acts_1219 rfl ?_
  refine z_iconst (v := nI 4) X dL_acts_1221 (by decide) ?_
  refine z_iload X dL_acts_1222 rfl ?_
  refine z_iconst (v := nI 4) X dL_acts_1224 (by decide) ?_
  refine z_callS1 (k := 0) (n := 0) (st := [.int (nI 4), .ref qc]) X (c_L_low l D t v6 4 (by decide) (by decide)) k_L_low q_ml_L_129 [] ⟨by decide, rfl⟩ (by decide) rfl rfl rfl (Nat.le_of_ble_eq_true rfl) ⟨by omega, by omega⟩ dL_acts_1225 (fun r1225 h1225 => ?_)
  subst h1225
  have hl1225 : lo v6 4 < 4 := lo_lt (by decide)
  refine n_if_ne (tgt := 1235) X dL_acts_1228 (by decide) (by omega) (fun c1228 => ?_) (fun c1228 => ?_)
  ·
    refine z_aload X dL_acts_1235 rfl ?_
    refine z_iconst (v := nI 4) X dL_acts_1237 (by decide) ?_
    refine n_iald (f := fC) X 50 rfl (by omega) (by decide) dL_acts_1238 ?_
    refine z_top (y := nI (x + y + z)) (hC.2) ?_
    refine n_iast X Y 50 aA_eq rfl (by omega) (by decide) dL_acts_1239 ?_
    refine Wz.eq (uA_C (f := upd fC 4 (nI (x + y + z)))) ?_
    refine z_iload X dL_acts_1240 rfl ?_
    refine z_iconst (v := nI 4) X dL_acts_1242 (by decide) ?_
    refine z_callS1 (k := 0) (n := 0) (st := []) X (c_L_low l D t v6 4 (by decide) (by decide)) k_L_low q_ml_L_129 [] ⟨by decide, rfl⟩ (by decide) rfl rfl rfl (Nat.le_of_ble_eq_true rfl) ⟨by omega, by omega⟩ dL_acts_1243 (fun r1243 h1243 => ?_)
    subst h1243
    have hl1243 : lo v6 4 < 4 := lo_lt (by decide)
    refine n_if_gt (tgt := 1267) X dL_acts_1246 (by decide) (by omega) (fun c1246 => ?_) (fun c1246 => absurd c1246 c1228)
    refine z_iconst (v := nI 1) X dL_acts_1267 (by decide) ?_
    refine z_goto (tgt := 1272) X dL_acts_1268 (by decide) ?_
    refine Wz.wide (k' := 20) (n' := 120) (by omega) (by omega) ?_
    refine z_iret X Z (by decide +kernel) dL_acts_1272 ?_
    exact ⟨(S, p, p2, fB, fV, upd fC 4 (nI (x + y + z))), ⟨rfl, sc, tk, x, y, z, G, h, hT1, hT2, hCt, hB, hV, LC_m hC⟩, fun q hq => hq⟩
  ·
    refine z_iconst (v := nI 0) X dL_acts_1231 (by decide) ?_
    refine z_goto (tgt := 1239) X dL_acts_1232 (by decide) ?_
    refine n_iast X Y 50 aA_eq rfl (by omega) (by decide) dL_acts_1239 ?_
    refine Wz.eq (uA_C (f := upd fC 4 (nI 0))) ?_
    refine z_iload X dL_acts_1240 rfl ?_
    refine z_iconst (v := nI 4) X dL_acts_1242 (by decide) ?_
    refine z_callS1 (k := 0) (n := 0) (st := []) X (c_L_low l D t v6 4 (by decide) (by decide)) k_L_low q_ml_L_129 [] ⟨by decide, rfl⟩ (by decide) rfl rfl rfl (Nat.le_of_ble_eq_true rfl) ⟨by omega, by omega⟩ dL_acts_1243 (fun r1243 h1243 => ?_)
    subst h1243
    have hl1243 : lo v6 4 < 4 := lo_lt (by decide)
    refine n_if_gt (tgt := 1267) X dL_acts_1246 (by decide) (by omega) (fun c1246 => absurd c1246 (by omega)) (fun c1246 => ?_)
    refine z_aload_n X dL_acts_1249 rfl rfl ?_
    refine z_callV2 (k := 0) (n := 0) (st := []) X Y aA_eq (o_clear l D t a p h) k_X3_clear q_ml_L_120 is24 (fun u => wA t a b (T6 (clS S) p) (T6 S p2) qb qv qc fB fV (upd fC 4 (nI 0))) (fun u => ⟨⟨by decide, rfl⟩, ⟨by decide, rfl⟩, rfl, rfl⟩) ⟨by decide, rfl⟩ 0 3 rfl rfl (by decide) rfl rfl rfl (Nat.le_of_ble_eq_true rfl) ⟨by omega, by omega⟩ dL_acts_1250 (fun r1250 u1250 h1250 => ?_)
    subst h1250
    refine z_iload X dL_acts_1253 rfl ?_
    refine n_icmp_ne (tgt := 1271) X dL_acts_1255 (by decide) (by omega) (by omega) (fun c1255 => absurd c1255 (by omega)) (fun _ => ?_)
    refine z_aload_n X dL_acts_1258 rfl rfl ?_
    refine z_callV2 (k := 0) (n := 0) (st := []) X Y aA_eq (o_clear l D t b p2 h) k_X3_clear q_ml_L_120 is24t (fun u => wA t a b (T6 (clS S) p) (T6 (clS S) p2) qb qv qc fB fV (upd fC 4 (nI 0))) (fun u => ⟨⟨by decide, rfl⟩, ⟨by decide, rfl⟩, rfl, rfl⟩) ⟨by decide, rfl⟩ 24 3 rfl rfl (by decide) rfl rfl rfl (Nat.le_of_ble_eq_true rfl) ⟨by omega, by omega⟩ dL_acts_1259 (fun r1259 u1259 h1259 => ?_)
    subst h1259
    refine z_iload X dL_acts_1262 rfl ?_
    refine n_icmp_ne (tgt := 1271) X dL_acts_1264 (by decide) (by omega) (by omega) (fun c1264 => absurd c1264 (by omega)) (fun _ => ?_)
    refine z_iconst (v := nI 1) X dL_acts_1267 (by decide) ?_
    refine z_goto (tgt := 1272) X dL_acts_1268 (by decide) ?_
    refine Wz.wide (k' := 20) (n' := 120) (by omega) (by omega) ?_
    refine z_iret X Z (by decide +kernel) dL_acts_1272 ?_
    exact ⟨(clS S, p, p2, fB, fV, upd fC 4 (nI 0)), ⟨rfl, sc, tk, 0, 0, 0, 0, K_clear h, fun j hj => absurd hj (Nat.not_lt_zero j), fun j hj => absurd hj (Nat.not_lt_zero j), ⟨rfl, rfl, rfl⟩, hB, hV, LC_m hC⟩, fun q hq => hq⟩
