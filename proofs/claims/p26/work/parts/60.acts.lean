set_option maxHeartbeats 1000000 in
set_option maxRecDepth 100000 in
theorem act_needs {E : zE} {D : va_G} {t : ClassId × ClassId × ClassId} {l : Launch} (hfl : l.stackTraces = false) {a b : Nat → Nat} {qb qv qc : Nat} {S : zS} {p p2 : zT} {fB fV fC : Nat → Int32} {sc tk : Nat → Nat} {x y z G : Nat} (v5 v6 : Int32) (k7 g : Nat) (hg : g < 8) (X : zX E RL cL_acts 14 (zRm 34 20 120) D t l) (Z : zEnd E (some .boolean) (va_Qi (fun r (u : zU) => r = nI 1 ∧ Gd u) (fun u q => va_P D vwCl (wG t a b qb qv qc u) q.heap) (zA E)) 20 120) (V : zTry E) (Y : zWr E (aR a ++ aR b ++ [qb, qv, qc])) (hGx : Gx S p p2 fB fV fC sc tk x y z G) : Wz E 0 0 26 [some (.ref (a 0)), some (.ref (b 0)), some (.ref qb), some (.ref qv), some (.ref qc), some (.int v5), some (.int v6), some (.int (nI k7)), some (.int (nI g)), none, none, none, none, none] [] (wA t a b (T6 S p) (T6 S p2) qb qv qc fB fV fC) := by
  obtain ⟨h, hT1, hT2, hCt, hB, hV, hC⟩ := hGx
  have hX := K_X h
  have hG := K_G h
  have hp8 := p8_le G hG
  have hw : wk S (l3 x y z) G < 256 := wkN_lt 64
  have j47 : ∀ (v9 : Int32), zo v9 4 → Wz E (0) (0) 47 [some (.ref (a 0)), some (.ref (b 0)), some (.ref qb), some (.ref qv), some (.ref qc), some (.int v5), some (.int v6), some (.int (nI k7)), some (.int (nI g)), none, none, none, none, none] [.int v9] (wA t a b (T6 S p) (T6 S p2) qb qv qc fB fV fC) := by
    intro v9 hj47
    refine z_istore X dL_acts_47 (Nat.le_of_ble_eq_true rfl) ?_
    refine z_lv (lv' := [some (.ref (a 0)), some (.ref (b 0)), some (.ref qb), some (.ref qv), some (.ref qc), some (.int v5), some (.int v6), some (.int (nI k7)), some (.int (nI g)), some (.int v9), none, none, none, none]) rfl ?_
    refine z_bipush (v := nI 8) X dL_acts_49 (by decide) ?_
    refine z_iload X dL_acts_51 rfl ?_
    refine z_iconst (v := nI 4) X dL_acts_53 (by decide) ?_
    refine z_ishr X dL_acts_54 ?_
    refine z_bipush (v := nI 9) X dL_acts_55 (by decide) ?_
    refine z_callS1 (k := 0) (n := 0) (st := [.int (nI 8)]) X (c_L_low l D t (v6 >>> (nI 4 &&& 31)) 9 (by decide) (by decide)) k_L_low q_ml_L_129 [] ⟨by decide, rfl⟩ (by decide) rfl rfl rfl (Nat.le_of_ble_eq_true rfl) ⟨by omega, by omega⟩ dL_acts_57 (fun r57 h57 => ?_)
    subst h57
    have hl57 : lo (v6 >>> (nI 4 &&& 31)) 9 < 9 := lo_lt (by decide)
    refine n_iadd X dL_acts_60 ?_
    refine z_istore X dL_acts_61 (Nat.le_of_ble_eq_true rfl) ?_
    refine z_lv (lv' := [some (.ref (a 0)), some (.ref (b 0)), some (.ref qb), some (.ref qv), some (.ref qc), some (.int v5), some (.int v6), some (.int (nI k7)), some (.int (nI g)), some (.int v9), some (.int (nI (8 + (lo (v6 >>> (nI 4 &&& 31)) 9)))), none, none, none]) rfl ?_
    have j88 : ∀ (v11 : Int32), zo v11 3 → Wz E (0) (0) 88 [some (.ref (a 0)), some (.ref (b 0)), some (.ref qb), some (.ref qv), some (.ref qc), some (.int v5), some (.int v6), some (.int (nI k7)), some (.int (nI g)), some (.int v9), some (.int (nI (8 + (lo (v6 >>> (nI 4 &&& 31)) 9)))), none, none, none] [.int v11] (wA t a b (T6 S p) (T6 S p2) qb qv qc fB fV fC) := by
      intro v11 hj88
      refine z_istore X dL_acts_88 (Nat.le_of_ble_eq_true rfl) ?_
      refine z_lv (lv' := [some (.ref (a 0)), some (.ref (b 0)), some (.ref qb), some (.ref qv), some (.ref qc), some (.int v5), some (.int v6), some (.int (nI k7)), some (.int (nI g)), some (.int v9), some (.int (nI (8 + (lo (v6 >>> (nI 4 &&& 31)) 9)))), some (.int v11), none, none]) rfl ?_
      refine z_iconst (v := nI 1) X dL_acts_90 (by decide) ?_
      refine z_iload X dL_acts_91 rfl ?_
      refine z_bipush (v := nI 11) X dL_acts_93 (by decide) ?_
      refine z_ishr X dL_acts_95 ?_
      refine z_iconst (v := nI 4) X dL_acts_96 (by decide) ?_
      refine z_callS1 (k := 0) (n := 0) (st := [.int (nI 1)]) X (c_L_low l D t (v6 >>> (nI 11 &&& 31)) 4 (by decide) (by decide)) k_L_low q_ml_L_129 [] ⟨by decide, rfl⟩ (by decide) rfl rfl rfl (Nat.le_of_ble_eq_true rfl) ⟨by omega, by omega⟩ dL_acts_97 (fun r97 h97 => ?_)
      subst h97
      have hl97 : lo (v6 >>> (nI 11 &&& 31)) 4 < 4 := lo_lt (by decide)
      refine n_iadd X dL_acts_100 ?_
      refine z_istore X dL_acts_101 (Nat.le_of_ble_eq_true rfl) ?_
      refine z_lv (lv' := [some (.ref (a 0)), some (.ref (b 0)), some (.ref qb), some (.ref qv), some (.ref qc), some (.int v5), some (.int v6), some (.int (nI k7)), some (.int (nI g)), some (.int v9), some (.int (nI (8 + (lo (v6 >>> (nI 4 &&& 31)) 9)))), some (.int v11), some (.int (nI (1 + (lo (v6 >>> (nI 11 &&& 31)) 4)))), none]) rfl ?_
      have j129 : ∀ (v13 : Int32), zo v13 8 → Wz E (0) (0) 129 [some (.ref (a 0)), some (.ref (b 0)), some (.ref qb), some (.ref qv), some (.ref qc), some (.int v5), some (.int v6), some (.int (nI k7)), some (.int (nI g)), some (.int v9), some (.int (nI (8 + (lo (v6 >>> (nI 4 &&& 31)) 9)))), some (.int v11), some (.int (nI (1 + (lo (v6 >>> (nI 11 &&& 31)) 4)))), none] [.int v13] (wA t a b (T6 S p) (T6 S p2) qb qv qc fB fV fC) := by
        intro v13 hj129
        refine z_istore X dL_acts_129 (Nat.le_of_ble_eq_true rfl) ?_
        refine z_lv (lv' := [some (.ref (a 0)), some (.ref (b 0)), some (.ref qb), some (.ref qv), some (.ref qc), some (.int v5), some (.int v6), some (.int (nI k7)), some (.int (nI g)), some (.int v9), some (.int (nI (8 + (lo (v6 >>> (nI 4 &&& 31)) 9)))), some (.int v11), some (.int (nI (1 + (lo (v6 >>> (nI 11 &&& 31)) 4)))), some (.int v13)]) rfl ?_
        have h1 : nd1 (nI g) v9 v11 v13 := ⟨am_n hg, hj47, hj88, hj129⟩
        have b1 := lo_lt (v := v6 >>> (nI 4 &&& 31)) (n := 9) (by decide)
        have b2 := lo_lt (v := v6 >>> (nI 11 &&& 31)) (n := 4) (by decide)
        have h2 : nd2 v9 (nI (8 + (lo (v6 >>> (nI 4 &&& 31)) 9))) v11 (nI (1 + (lo (v6 >>> (nI 11 &&& 31)) 4))) := ⟨Or.inr (rg_of (by omega) (by omega) (by decide) rfl), Or.inr (rg_of (by omega) (by omega) (by decide) rfl)⟩
        have hK : zKs (ndS S g v9 (nI (8 + (lo (v6 >>> (nI 4 &&& 31)) 9))) v11 (nI (1 + (lo (v6 >>> (nI 11 &&& 31)) 4))) v13) sc x y z G := K_nd h h1
        refine z_aload_n X dL_acts_131 rfl rfl ?_
        refine z_iload X dL_acts_132 rfl ?_
        refine z_iload X dL_acts_134 rfl ?_
        refine z_iload X dL_acts_136 rfl ?_
        refine z_iload X dL_acts_138 rfl ?_
        refine z_iload X dL_acts_140 rfl ?_
        refine z_iload X dL_acts_142 rfl ?_
        refine z_w7 (k := 0) (n := 0) (k' := 1) (n' := 6) (st := []) X Y aA_eq V (fun sz => w_setNeeds l hfl D t a p hg h1 h2 sz) kw_setNeeds q_ml_L_132 is24 ⟨by decide, rfl⟩ (fun u => wA t a b (T6 (ndS S g v9 (nI (8 + (lo (v6 >>> (nI 4 &&& 31)) 9))) v11 (nI (1 + (lo (v6 >>> (nI 11 &&& 31)) 4))) v13) p) (T6 S p2) qb qv qc fB fV fC) (fun u => ⟨⟨by decide, rfl⟩, ⟨by decide, rfl⟩, rfl, rfl⟩) (by decide) (by decide) rfl rfl rfl (Nat.le_of_ble_eq_true rfl) ⟨by omega, by omega⟩ ⟨by omega, by omega⟩ dL_acts_144 (fun r144 u144 h144 => ?_)
        subst h144
        refine n_if_ne (tgt := 241) X dL_acts_147 (by decide) (by omega) (fun c147 => absurd c147 (by decide)) (fun _ => ?_)
        refine z_aload_n X dL_acts_150 rfl rfl ?_
        refine z_iload X dL_acts_151 rfl ?_
        refine z_iload X dL_acts_153 rfl ?_
        refine z_iload X dL_acts_155 rfl ?_
        refine z_iload X dL_acts_157 rfl ?_
        refine z_iload X dL_acts_159 rfl ?_
        refine z_iload X dL_acts_161 rfl ?_
        refine z_w7 (k := 1) (n := 6) (k' := 2) (n' := 12) (st := []) X Y aA_eq V (fun sz => w_setNeeds l hfl D t b p2 hg h1 h2 sz) kw_setNeeds q_ml_L_132 is24t ⟨by decide, rfl⟩ (fun u => wA t a b (T6 (ndS S g v9 (nI (8 + (lo (v6 >>> (nI 4 &&& 31)) 9))) v11 (nI (1 + (lo (v6 >>> (nI 11 &&& 31)) 4))) v13) p) (T6 (ndS S g v9 (nI (8 + (lo (v6 >>> (nI 4 &&& 31)) 9))) v11 (nI (1 + (lo (v6 >>> (nI 11 &&& 31)) 4))) v13) p2) qb qv qc fB fV fC) (fun u => ⟨⟨by decide, rfl⟩, ⟨by decide, rfl⟩, rfl, rfl⟩) (by decide) (by decide) rfl rfl rfl (Nat.le_of_ble_eq_true rfl) ⟨by omega, by omega⟩ ⟨by omega, by omega⟩ dL_acts_163 (fun r163 u163 h163 => ?_)
        subst h163
        refine n_if_ne (tgt := 241) X dL_acts_166 (by decide) (by omega) (fun c166 => absurd c166 (by decide)) (fun _ => ?_)
        refine z_aload_n X dL_acts_169 rfl rfl ?_
        refine z_iload X dL_acts_170 rfl ?_
        refine z_iconst (v := nI 0) X dL_acts_172 (by decide) ?_
        refine z_bipush (v := nI 7) X dL_acts_173 (by decide) ?_
        refine z_iconst (v := (-1)) X dL_acts_175 (by decide) ?_
        refine z_iconst (v := nI 0) X dL_acts_176 (by decide) ?_
        refine z_iconst (v := (-1)) X dL_acts_177 (by decide) ?_
        refine z_w7 (k := 2) (n := 12) (k' := 3) (n' := 18) (st := []) X Y aA_eq V (fun sz => w_setNeeds_A l hfl D t a p ⟨am_n hg, zo_n (by decide), Or.inl rfl, Or.inl rfl⟩ (by unfold nd2; decide +kernel) sz) kw_setNeeds q_ml_L_132 is24 ⟨by decide, rfl⟩ (fun u => wA t a b (T6 (ndS S g v9 (nI (8 + (lo (v6 >>> (nI 4 &&& 31)) 9))) v11 (nI (1 + (lo (v6 >>> (nI 11 &&& 31)) 4))) v13) p) (T6 (ndS S g v9 (nI (8 + (lo (v6 >>> (nI 4 &&& 31)) 9))) v11 (nI (1 + (lo (v6 >>> (nI 11 &&& 31)) 4))) v13) p2) qb qv qc fB fV fC) (fun u => ⟨⟨by decide, rfl⟩, ⟨by decide, rfl⟩, rfl, rfl⟩) (by decide) (by decide) rfl rfl rfl (Nat.le_of_ble_eq_true rfl) ⟨by omega, by omega⟩ ⟨by omega, by omega⟩ dL_acts_178 (fun r178 u178 h178 => ?_)
        subst h178
        refine z_ldci X q_k_L_21 dL_acts_181 ?_
        refine z_icmp_ne (tgt := 241) X dL_acts_183 (by decide) (fun c183 => absurd c183 (by decide)) (fun _ => ?_)
        refine z_aload_n X dL_acts_186 rfl rfl ?_
        refine z_iload X dL_acts_187 rfl ?_
        refine z_iconst (v := (-1)) X dL_acts_189 (by decide) ?_
        refine z_iconst (v := nI 0) X dL_acts_190 (by decide) ?_
        refine z_iconst (v := nI 0) X dL_acts_191 (by decide) ?_
        refine z_bipush (v := nI 9) X dL_acts_192 (by decide) ?_
        refine z_iconst (v := (-1)) X dL_acts_194 (by decide) ?_
        refine z_w7 (k := 3) (n := 18) (k' := 4) (n' := 24) (st := []) X Y aA_eq V (fun sz => w_setNeeds_A l hfl D t a p ⟨am_n hg, Or.inl rfl, zo_n (by decide), Or.inl rfl⟩ (by unfold nd2; decide +kernel) sz) kw_setNeeds q_ml_L_132 is24 ⟨by decide, rfl⟩ (fun u => wA t a b (T6 (ndS S g v9 (nI (8 + (lo (v6 >>> (nI 4 &&& 31)) 9))) v11 (nI (1 + (lo (v6 >>> (nI 11 &&& 31)) 4))) v13) p) (T6 (ndS S g v9 (nI (8 + (lo (v6 >>> (nI 4 &&& 31)) 9))) v11 (nI (1 + (lo (v6 >>> (nI 11 &&& 31)) 4))) v13) p2) qb qv qc fB fV fC) (fun u => ⟨⟨by decide, rfl⟩, ⟨by decide, rfl⟩, rfl, rfl⟩) (by decide) (by decide) rfl rfl rfl (Nat.le_of_ble_eq_true rfl) ⟨by omega, by omega⟩ ⟨by omega, by omega⟩ dL_acts_195 (fun r195 u195 h195 => ?_)
        subst h195
        refine z_ldci X q_k_L_21 dL_acts_198 ?_
        refine z_icmp_ne (tgt := 241) X dL_acts_200 (by decide) (fun c200 => absurd c200 (by decide)) (fun _ => ?_)
        refine z_aload_n X dL_acts_203 rfl rfl ?_
        refine z_iload X dL_acts_204 rfl ?_
        refine z_iconst (v := nI 4) X dL_acts_206 (by decide) ?_
        refine z_iconst (v := nI 0) X dL_acts_207 (by decide) ?_
        refine z_iconst (v := nI 0) X dL_acts_208 (by decide) ?_
        refine z_iconst (v := nI 0) X dL_acts_209 (by decide) ?_
        refine z_iconst (v := nI 0) X dL_acts_210 (by decide) ?_
        refine z_w7 (k := 4) (n := 24) (k' := 5) (n' := 30) (st := []) X Y aA_eq V (fun sz => w_setNeeds_I l hfl D t a p (fun q => zo_no (by decide) (by decide) (by decide) q.2.1) sz) kw_setNeeds q_ml_L_132 is24 ⟨by decide, rfl⟩ (fun u => wA t a b (T6 (ndS S g v9 (nI (8 + (lo (v6 >>> (nI 4 &&& 31)) 9))) v11 (nI (1 + (lo (v6 >>> (nI 11 &&& 31)) 4))) v13) p) (T6 (ndS S g v9 (nI (8 + (lo (v6 >>> (nI 4 &&& 31)) 9))) v11 (nI (1 + (lo (v6 >>> (nI 11 &&& 31)) 4))) v13) p2) qb qv qc fB fV fC) (fun u => ⟨⟨by decide, rfl⟩, ⟨by decide, rfl⟩, rfl, rfl⟩) (by decide) (by decide) rfl rfl rfl (Nat.le_of_ble_eq_true rfl) ⟨by omega, by omega⟩ ⟨by omega, by omega⟩ dL_acts_211 (fun r211 u211 h211 => ?_)
        subst h211
        refine z_ldci X q_k_L_18 dL_acts_214 ?_
        refine z_icmp_ne (tgt := 241) X dL_acts_216 (by decide) (fun c216 => absurd c216 (by decide)) (fun _ => ?_)
        refine z_aload_n X dL_acts_219 rfl rfl ?_
        refine z_iload X dL_acts_220 rfl ?_
        refine z_bipush (v := (-2)) X dL_acts_222 (by decide) ?_
        refine z_bipush (v := nI 8) X dL_acts_224 (by decide) ?_
        refine z_iconst (v := nI 0) X dL_acts_226 (by decide) ?_
        refine z_iconst (v := nI 1) X dL_acts_227 (by decide) ?_
        refine z_iconst (v := nI 0) X dL_acts_228 (by decide) ?_
        refine z_w7 (k := 5) (n := 30) (k' := 6) (n' := 36) (st := []) X Y aA_eq V (fun sz => w_setNeeds_I l hfl D t a p (fun q => zo_m2 (by decide) q.2.1) sz) kw_setNeeds q_ml_L_132 is24 ⟨by decide, rfl⟩ (fun u => wA t a b (T6 (ndS S g v9 (nI (8 + (lo (v6 >>> (nI 4 &&& 31)) 9))) v11 (nI (1 + (lo (v6 >>> (nI 11 &&& 31)) 4))) v13) p) (T6 (ndS S g v9 (nI (8 + (lo (v6 >>> (nI 4 &&& 31)) 9))) v11 (nI (1 + (lo (v6 >>> (nI 11 &&& 31)) 4))) v13) p2) qb qv qc fB fV fC) (fun u => ⟨⟨by decide, rfl⟩, ⟨by decide, rfl⟩, rfl, rfl⟩) (by decide) (by decide) rfl rfl rfl (Nat.le_of_ble_eq_true rfl) ⟨by omega, by omega⟩ ⟨by omega, by omega⟩ dL_acts_229 (fun r229 u229 h229 => ?_)
        subst h229
        refine z_ldci X q_k_L_18 dL_acts_232 ?_
        refine z_icmp_ne (tgt := 241) X dL_acts_234 (by decide) (fun c234 => absurd c234 (by decide)) (fun _ => ?_)
        refine z_iconst (v := nI 1) X dL_acts_237 (by decide) ?_
        refine z_goto (tgt := 242) X dL_acts_238 (by decide) ?_
        refine Wz.wide (k' := 20) (n' := 120) (by omega) (by omega) ?_
        refine z_iret X Z (by decide +kernel) dL_acts_242 ?_
        exact ⟨(ndS S g v9 (nI (8 + (lo (v6 >>> (nI 4 &&& 31)) 9))) v11 (nI (1 + (lo (v6 >>> (nI 11 &&& 31)) 4))) v13, p, p2, fB, fV, fC), ⟨rfl, sc, tk, x, y, z, G, hK, hT1, hT2, hCt, LB_nd hB, LV_nd hV, hC⟩, fun q hq => hq⟩
      refine z_iload X dL_acts_103 rfl ?_
      refine z_bipush (v := nI 13) X dL_acts_105 (by decide) ?_
      refine z_ishr X dL_acts_107 ?_
      refine z_iconst (v := nI 3) X dL_acts_108 (by decide) ?_
      refine z_callS1 (k := 0) (n := 0) (st := []) X (c_L_low l D t (v6 >>> (nI 13 &&& 31)) 3 (by decide) (by decide)) k_L_low q_ml_L_129 [] ⟨by decide, rfl⟩ (by decide) rfl rfl rfl (Nat.le_of_ble_eq_true rfl) ⟨by omega, by omega⟩ dL_acts_109 (fun r109 h109 => ?_)
      subst h109
      have hl109 : lo (v6 >>> (nI 13 &&& 31)) 3 < 3 := lo_lt (by decide)
      refine n_if_ne (tgt := 128) X dL_acts_112 (by decide) (by omega) (fun c112 => ?_) (fun c112 => ?_)
      ·
        refine z_iconst (v := (-1)) X dL_acts_128 (by decide) ?_
        exact j129 (-1) (Or.inl rfl)
      ·
        refine z_iload X dL_acts_115 rfl ?_
        refine z_bipush (v := nI 15) X dL_acts_117 (by decide) ?_
        refine z_ishr X dL_acts_119 ?_
        refine z_bipush (v := nI 8) X dL_acts_120 (by decide) ?_
        refine z_callS1 (k := 0) (n := 0) (st := []) X (c_L_low l D t (v6 >>> (nI 15 &&& 31)) 8 (by decide) (by decide)) k_L_low q_ml_L_129 [] ⟨by decide, rfl⟩ (by decide) rfl rfl rfl (Nat.le_of_ble_eq_true rfl) ⟨by omega, by omega⟩ dL_acts_122 (fun r122 h122 => ?_)
        subst h122
        have hl122 : lo (v6 >>> (nI 15 &&& 31)) 8 < 8 := lo_lt (by decide)
        refine z_goto (tgt := 129) X dL_acts_125 (by decide) ?_
        exact j129 (nI (lo (v6 >>> (nI 15 &&& 31)) 8)) (zo_n (lo_lt (by decide)))
    refine z_iload X dL_acts_63 rfl ?_
    refine z_bipush (v := nI 8) X dL_acts_65 (by decide) ?_
    refine z_ishr X dL_acts_67 ?_
    refine z_iconst (v := nI 2) X dL_acts_68 (by decide) ?_
    refine z_callS1 (k := 0) (n := 0) (st := []) X (c_L_low l D t (v6 >>> (nI 8 &&& 31)) 2 (by decide) (by decide)) k_L_low q_ml_L_129 [] ⟨by decide, rfl⟩ (by decide) rfl rfl rfl (Nat.le_of_ble_eq_true rfl) ⟨by omega, by omega⟩ dL_acts_69 (fun r69 h69 => ?_)
    subst h69
    have hl69 : lo (v6 >>> (nI 8 &&& 31)) 2 < 2 := lo_lt (by decide)
    refine n_if_ne (tgt := 87) X dL_acts_72 (by decide) (by omega) (fun c72 => ?_) (fun c72 => ?_)
    ·
      refine z_iconst (v := (-1)) X dL_acts_87 (by decide) ?_
      exact j88 (-1) (Or.inl rfl)
    ·
      refine z_iload X dL_acts_75 rfl ?_
      refine z_bipush (v := nI 9) X dL_acts_77 (by decide) ?_
      refine z_ishr X dL_acts_79 ?_
      refine z_iconst (v := nI 3) X dL_acts_80 (by decide) ?_
      refine z_callS1 (k := 0) (n := 0) (st := []) X (c_L_low l D t (v6 >>> (nI 9 &&& 31)) 3 (by decide) (by decide)) k_L_low q_ml_L_129 [] ⟨by decide, rfl⟩ (by decide) rfl rfl rfl (Nat.le_of_ble_eq_true rfl) ⟨by omega, by omega⟩ dL_acts_81 (fun r81 h81 => ?_)
      subst h81
      have hl81 : lo (v6 >>> (nI 9 &&& 31)) 3 < 3 := lo_lt (by decide)
      refine z_goto (tgt := 88) X dL_acts_84 (by decide) ?_
      exact j88 (nI (lo (v6 >>> (nI 9 &&& 31)) 3)) (zo_n (lo_lt (by decide)))
  refine z_iload X dL_acts_26 rfl ?_
  refine z_iconst (v := nI 3) X dL_acts_28 (by decide) ?_
  refine z_callS1 (k := 0) (n := 0) (st := []) X (c_L_low l D t v6 3 (by decide) (by decide)) k_L_low q_ml_L_129 [] ⟨by decide, rfl⟩ (by decide) rfl rfl rfl (Nat.le_of_ble_eq_true rfl) ⟨by omega, by omega⟩ dL_acts_29 (fun r29 h29 => ?_)
  subst h29
  have hl29 : lo v6 3 < 3 := lo_lt (by decide)
  refine n_if_ne (tgt := 46) X dL_acts_32 (by decide) (by omega) (fun c32 => ?_) (fun c32 => ?_)
  ·
    refine z_iconst (v := (-1)) X dL_acts_46 (by decide) ?_
    exact j47 (-1) (Or.inl rfl)
  ·
    refine z_iload X dL_acts_35 rfl ?_
    refine z_iconst (v := nI 2) X dL_acts_37 (by decide) ?_
    refine z_ishr X dL_acts_38 ?_
    refine z_iconst (v := nI 4) X dL_acts_39 (by decide) ?_
    refine z_callS1 (k := 0) (n := 0) (st := []) X (c_L_low l D t (v6 >>> (nI 2 &&& 31)) 4 (by decide) (by decide)) k_L_low q_ml_L_129 [] ⟨by decide, rfl⟩ (by decide) rfl rfl rfl (Nat.le_of_ble_eq_true rfl) ⟨by omega, by omega⟩ dL_acts_40 (fun r40 h40 => ?_)
    subst h40
    have hl40 : lo (v6 >>> (nI 2 &&& 31)) 4 < 4 := lo_lt (by decide)
    refine z_goto (tgt := 47) X dL_acts_43 (by decide) ?_
    exact j47 (nI (lo (v6 >>> (nI 2 &&& 31)) 4)) (zo_n (lo_lt (by decide)))
set_option maxHeartbeats 1000000 in
set_option maxRecDepth 100000 in
theorem act_bar {E : zE} {D : va_G} {t : ClassId × ClassId × ClassId} {l : Launch} (hfl : l.stackTraces = false) {a b : Nat → Nat} {qb qv qc : Nat} {S : zS} {p p2 : zT} {fB fV fC : Nat → Int32} {sc tk : Nat → Nat} {x y z G : Nat} (v5 v6 : Int32) (k7 g : Nat) (hg : g < 8) (X : zX E RL cL_acts 14 (zRm 34 20 120) D t l) (Z : zEnd E (some .boolean) (va_Qi (fun r (u : zU) => r = nI 1 ∧ Gd u) (fun u q => va_P D vwCl (wG t a b qb qv qc u) q.heap) (zA E)) 20 120) (V : zTry E) (Y : zWr E (aR a ++ aR b ++ [qb, qv, qc])) (hGx : Gx S p p2 fB fV fC sc tk x y z G) : Wz E 0 0 249 [some (.ref (a 0)), some (.ref (b 0)), some (.ref qb), some (.ref qv), some (.ref qc), some (.int v5), some (.int v6), some (.int (nI k7)), some (.int (nI g)), none, none, none, none, none] [] (wA t a b (T6 S p) (T6 S p2) qb qv qc fB fV fC) := by
  obtain ⟨h, hT1, hT2, hCt, hB, hV, hC⟩ := hGx
  have hX := K_X h
  have hG := K_G h
  have hp8 := p8_le G hG
  have hw : wk S (l3 x y z) G < 256 := wkN_lt 64
  refine z_iload X dL_acts_249 rfl ?_
  refine z_iconst (v := nI 4) X dL_acts_251 (by decide) ?_
  refine z_callS1 (k := 0) (n := 0) (st := []) X (c_L_low l D t v6 4 (by decide) (by decide)) k_L_low q_ml_L_129 [] ⟨by decide, rfl⟩ (by decide) rfl rfl rfl (Nat.le_of_ble_eq_true rfl) ⟨by omega, by omega⟩ dL_acts_252 (fun r252 h252 => ?_)
  subst h252
  have hl252 : lo v6 4 < 4 := lo_lt (by decide)
  refine z_iconst (v := nI 1) X dL_acts_255 (by decide) ?_
  refine z_isub X dL_acts_256 ?_
  refine z_istore X dL_acts_257 (Nat.le_of_ble_eq_true rfl) ?_
  refine z_lv (lv' := [some (.ref (a 0)), some (.ref (b 0)), some (.ref qb), some (.ref qv), some (.ref qc), some (.int v5), some (.int v6), some (.int (nI k7)), some (.int (nI g)), some (.int (nI (lo v6 4) - nI 1)), none, none, none, none]) rfl ?_
  refine z_iload X dL_acts_259 rfl ?_
  refine z_iconst (v := nI 3) X dL_acts_261 (by decide) ?_
  refine z_ishr X dL_acts_262 ?_
  refine z_iconst (v := nI 4) X dL_acts_263 (by decide) ?_
  refine z_callS1 (k := 0) (n := 0) (st := []) X (c_L_low l D t (v6 >>> (nI 3 &&& 31)) 4 (by decide) (by decide)) k_L_low q_ml_L_129 [] ⟨by decide, rfl⟩ (by decide) rfl rfl rfl (Nat.le_of_ble_eq_true rfl) ⟨by omega, by omega⟩ dL_acts_264 (fun r264 h264 => ?_)
  subst h264
  have hl264 : lo (v6 >>> (nI 3 &&& 31)) 4 < 4 := lo_lt (by decide)
  refine z_istore X dL_acts_267 (Nat.le_of_ble_eq_true rfl) ?_
  refine z_lv (lv' := [some (.ref (a 0)), some (.ref (b 0)), some (.ref qb), some (.ref qv), some (.ref qc), some (.int v5), some (.int v6), some (.int (nI k7)), some (.int (nI g)), some (.int (nI (lo v6 4) - nI 1)), some (.int (nI (lo (v6 >>> (nI 3 &&& 31)) 4))), none, none, none]) rfl ?_
  have h1 : br1 (nI g) (nI (lo v6 4) - nI 1) := ⟨am_n hg, zo_sub1 (lo_lt (by decide))⟩
  have b2 := lo_lt (v := v6 >>> (nI 3 &&& 31)) (n := 4) (by decide)
  have h2 : br2 (nI (lo v6 4) - nI 1) (nI (lo (v6 >>> (nI 3 &&& 31)) 4)) := Or.inr (rg_of (by omega) (by omega) (by decide) rfl)
  have hK : zKs (brS S g (nI (lo v6 4) - nI 1) (nI (lo (v6 >>> (nI 3 &&& 31)) 4))) sc x y z G := K_br h h1
  refine z_aload_n X dL_acts_269 rfl rfl ?_
  refine z_iload X dL_acts_270 rfl ?_
  refine z_iload X dL_acts_272 rfl ?_
  refine z_iload X dL_acts_274 rfl ?_
  refine z_w7 (k := 0) (n := 0) (k' := 1) (n' := 6) (st := []) X Y aA_eq V (fun sz => w_bar l hfl D t a p hg h1 h2 sz) kw_bar q_ml_L_135 is24 ⟨by decide, rfl⟩ (fun u => wA t a b (T6 (brS S g (nI (lo v6 4) - nI 1) (nI (lo (v6 >>> (nI 3 &&& 31)) 4))) p) (T6 S p2) qb qv qc fB fV fC) (fun u => ⟨⟨by decide, rfl⟩, ⟨by decide, rfl⟩, rfl, rfl⟩) (by decide) (by decide) rfl rfl rfl (Nat.le_of_ble_eq_true rfl) ⟨by omega, by omega⟩ ⟨by omega, by omega⟩ dL_acts_276 (fun r276 u276 h276 => ?_)
  subst h276
  refine n_if_ne (tgt := 327) X dL_acts_279 (by decide) (by omega) (fun c279 => absurd c279 (by decide)) (fun _ => ?_)
  refine z_aload_n X dL_acts_282 rfl rfl ?_
  refine z_iload X dL_acts_283 rfl ?_
  refine z_iload X dL_acts_285 rfl ?_
  refine z_iload X dL_acts_287 rfl ?_
  refine z_w7 (k := 1) (n := 6) (k' := 2) (n' := 12) (st := []) X Y aA_eq V (fun sz => w_bar l hfl D t b p2 hg h1 h2 sz) kw_bar q_ml_L_135 is24t ⟨by decide, rfl⟩ (fun u => wA t a b (T6 (brS S g (nI (lo v6 4) - nI 1) (nI (lo (v6 >>> (nI 3 &&& 31)) 4))) p) (T6 (brS S g (nI (lo v6 4) - nI 1) (nI (lo (v6 >>> (nI 3 &&& 31)) 4))) p2) qb qv qc fB fV fC) (fun u => ⟨⟨by decide, rfl⟩, ⟨by decide, rfl⟩, rfl, rfl⟩) (by decide) (by decide) rfl rfl rfl (Nat.le_of_ble_eq_true rfl) ⟨by omega, by omega⟩ ⟨by omega, by omega⟩ dL_acts_289 (fun r289 u289 h289 => ?_)
  subst h289
  refine n_if_ne (tgt := 327) X dL_acts_292 (by decide) (by omega) (fun c292 => absurd c292 (by decide)) (fun _ => ?_)
  refine z_aload_n X dL_acts_295 rfl rfl ?_
  refine z_iload X dL_acts_296 rfl ?_
  refine z_iconst (v := nI 0) X dL_acts_298 (by decide) ?_
  refine z_bipush (v := nI 8) X dL_acts_299 (by decide) ?_
  refine z_w7 (k := 2) (n := 12) (k' := 3) (n' := 18) (st := []) X Y aA_eq V (fun sz => w_bar_A l hfl D t a p ⟨am_n hg, zo_n (by decide)⟩ (by unfold br2; decide +kernel) sz) kw_bar q_ml_L_135 is24 ⟨by decide, rfl⟩ (fun u => wA t a b (T6 (brS S g (nI (lo v6 4) - nI 1) (nI (lo (v6 >>> (nI 3 &&& 31)) 4))) p) (T6 (brS S g (nI (lo v6 4) - nI 1) (nI (lo (v6 >>> (nI 3 &&& 31)) 4))) p2) qb qv qc fB fV fC) (fun u => ⟨⟨by decide, rfl⟩, ⟨by decide, rfl⟩, rfl, rfl⟩) (by decide) (by decide) rfl rfl rfl (Nat.le_of_ble_eq_true rfl) ⟨by omega, by omega⟩ ⟨by omega, by omega⟩ dL_acts_301 (fun r301 u301 h301 => ?_)
  subst h301
  refine z_ldci X q_k_L_21 dL_acts_304 ?_
  refine z_icmp_ne (tgt := 327) X dL_acts_306 (by decide) (fun c306 => absurd c306 (by decide)) (fun _ => ?_)
  refine z_aload_n X dL_acts_309 rfl rfl ?_
  refine z_iload X dL_acts_310 rfl ?_
  refine z_iconst (v := nI 3) X dL_acts_312 (by decide) ?_
  refine z_bipush (v := nI 9) X dL_acts_313 (by decide) ?_
  refine z_w7 (k := 3) (n := 18) (k' := 4) (n' := 24) (st := []) X Y aA_eq V (fun sz => w_bar_I l hfl D t a p (fun q => zo_no (by decide) (by decide) (by decide) q.2) sz) kw_bar q_ml_L_135 is24 ⟨by decide, rfl⟩ (fun u => wA t a b (T6 (brS S g (nI (lo v6 4) - nI 1) (nI (lo (v6 >>> (nI 3 &&& 31)) 4))) p) (T6 (brS S g (nI (lo v6 4) - nI 1) (nI (lo (v6 >>> (nI 3 &&& 31)) 4))) p2) qb qv qc fB fV fC) (fun u => ⟨⟨by decide, rfl⟩, ⟨by decide, rfl⟩, rfl, rfl⟩) (by decide) (by decide) rfl rfl rfl (Nat.le_of_ble_eq_true rfl) ⟨by omega, by omega⟩ ⟨by omega, by omega⟩ dL_acts_315 (fun r315 u315 h315 => ?_)
  subst h315
  refine z_ldci X q_k_L_18 dL_acts_318 ?_
  refine z_icmp_ne (tgt := 327) X dL_acts_320 (by decide) (fun c320 => absurd c320 (by decide)) (fun _ => ?_)
  refine z_iconst (v := nI 1) X dL_acts_323 (by decide) ?_
  refine z_goto (tgt := 328) X dL_acts_324 (by decide) ?_
  refine Wz.wide (k' := 20) (n' := 120) (by omega) (by omega) ?_
  refine z_iret X Z (by decide +kernel) dL_acts_328 ?_
  exact ⟨(brS S g (nI (lo v6 4) - nI 1) (nI (lo (v6 >>> (nI 3 &&& 31)) 4)), p, p2, fB, fV, fC), ⟨rfl, sc, tk, x, y, z, G, hK, hT1, hT2, hCt, LB_br hB, LV_br hV, hC⟩, fun q hq => hq⟩
