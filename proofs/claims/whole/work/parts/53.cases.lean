section ZC6
variable {E : zE} {k n i : Nat} {D : va_G} {t : ClassId × ClassId × ClassId} {l : Launch} {a b : Nat → Nat} {o bs L : Nat} {xs : Nat → Int32}
set_option maxHeartbeats 4000000 in
set_option maxRecDepth 10000 in
theorem lw_setNeeds (X : zX E RL code 7 (zRm 64 601024 7293034) D t l) (Y : zWr E (aR a ++ aM b ++ [o])) (V : zTry E) (hX : va_X bs L xs (zs E) (zs E).heap) (hbl : bs < (zs E).heap.size) (hbA : ¬ zA E bs) (hL : L ≤ 3584) (hi : i + 6 < L) (hfl : l.stackTraces = false) (hk : k + 1 ≤ 601024) (hn : n + 6 ≤ 7293034) (kk : HL E t a b o bs (k + 1) (n + 6) 1208 i) : HL E t a b o bs k n 148 i := by
  intro S sc tk m G x y z s e f g q hI
  obtain ⟨h1, h2, h3, h4, h5, h6, h7, h8, h9⟩ := id hI
  have hX3 := ctk_sum m (fun j hj => (h8 j hj).1)
  refine Wz.eq (ws' := wN t a b o (T3 S x y z s e) (va_up (va_up S 22 f) 23 g) q) rfl ?_
  refine z_aload_n X dL_law_148 rfl rfl ?_
  refine z_arg (j := 1) X hX hbl hbA hL rfl rfl (by omega) rfl dL_law_149 dL_law_150 dL_law_152 dL_law_153 dL_law_154 ?_
  refine z_arg (j := 2) X hX hbl hbA hL rfl rfl (by omega) rfl dL_law_155 dL_law_156 dL_law_158 dL_law_159 dL_law_160 ?_
  refine z_arg (j := 3) X hX hbl hbA hL rfl rfl (by omega) rfl dL_law_161 dL_law_162 dL_law_164 dL_law_165 dL_law_166 ?_
  refine z_arg (j := 4) X hX hbl hbA hL rfl rfl (by omega) rfl dL_law_167 dL_law_168 dL_law_170 dL_law_171 dL_law_172 ?_
  refine z_arg (j := 5) X hX hbl hbA hL rfl rfl (by omega) rfl dL_law_173 dL_law_174 dL_law_176 dL_law_177 dL_law_178 ?_
  refine z_arg6 (j := 6) X hX hbl hbA hL rfl rfl (by omega) rfl dL_law_179 dL_law_180 dL_law_182 dL_law_184 dL_law_185 ?_
  refine z_callW (np := 7) X Y nN V (fun sz => c_L_setNeeds l hfl D t sz a (T3 S x y z s e) (xs (i + 1)) (xs (i + 2)) (xs (i + 3)) (xs (i + 4)) (xs (i + 5)) (xs (i + 6))) q_st_L_setNeeds q_in_L q_cw_L_setNeeds (by decide +kernel) (by decide) q_ml_L_73 is24 lpNR (fun w9 => wN t a b o w9 (va_up (va_up S 22 f) 23 g) q) (fun w9 => lsNR) (by decide) rfl rfl rfl (Nat.le_of_ble_eq_true rfl) ⟨hk, hn⟩ dL_law_186 (fun r1 w8 e1 => ?_)
  dsimp only at e1
  refine z_istore X dL_law_189 (by decide : 5 < 7) ?_
  refine z_lv (lv' := [some (.ref bs), some (.ref (a 0)), some (.ref (b 0)), some (.ref o), some (.int (nI i)), some (.int r1), none]) rfl ?_
  refine z_aload_n X dL_law_191 rfl rfl ?_
  refine z_arg (j := 1) X hX hbl hbA hL rfl rfl (by omega) rfl dL_law_192 dL_law_193 dL_law_195 dL_law_196 dL_law_197 ?_
  refine z_arg (j := 2) X hX hbl hbA hL rfl rfl (by omega) rfl dL_law_198 dL_law_199 dL_law_201 dL_law_202 dL_law_203 ?_
  refine z_arg (j := 3) X hX hbl hbA hL rfl rfl (by omega) rfl dL_law_204 dL_law_205 dL_law_207 dL_law_208 dL_law_209 ?_
  refine z_arg (j := 4) X hX hbl hbA hL rfl rfl (by omega) rfl dL_law_210 dL_law_211 dL_law_213 dL_law_214 dL_law_215 ?_
  refine z_arg (j := 5) X hX hbl hbA hL rfl rfl (by omega) rfl dL_law_216 dL_law_217 dL_law_219 dL_law_220 dL_law_221 ?_
  refine z_arg6 (j := 6) X hX hbl hbA hL rfl rfl (by omega) rfl dL_law_222 dL_law_223 dL_law_225 dL_law_227 dL_law_228 ?_
  refine z_callV3 X Y nN (c_X4_setNeeds l D t b (va_up (va_up S 22 f) 23 g) (xs (i + 1)) (xs (i + 2)) (xs (i + 3)) (xs (i + 4)) (xs (i + 5)) (xs (i + 6))) k_X4_setNeeds q_ml_L_78 [24, 25, 26, 27, 28, 29, 30, 31, 32, 33, 34, 35, 36, 37, 38, 39, 40, 41, 42] (fun u => wN t a b o w8 u q) (fun u => lsNM) lpNM 24 4 rfl rfl (by decide) rfl rfl rfl (Nat.le_of_ble_eq_true rfl) ⟨hk, hn⟩ dL_law_229 (fun u e2 => ?_)
  have fin : u 23 0 = r1 ∧ FinOk t a b w8 u := by
    rcases e1 with ⟨k1, u1, ⟨hu, hg, p1, p2⟩, rfl⟩ | ⟨C, u1, hc, k1, rfl⟩
    · rcases e2 with ⟨k2, hk2, hg2, q1, q2, rfl⟩ | ⟨m1, rfl⟩ | ⟨q1, m2, rfl⟩
      · have ek := zn_inj (by omega) (by omega) (hg2.symm.trans hg)
        subst ek
        exact ⟨k1.symm, (ndS S k2 (xs (i + 2)) (xs (i + 3)) (xs (i + 4)) (xs (i + 5)) (xs (i + 6))), sc, tk, m, G, x, y, z, s, e, f, fun _ => nI 0, Iv_nd hI p1, fun _ _ _ _ h => h⟩
      · exact absurd p1 m1
      · exact absurd p2 m2
    · rcases hc with ⟨rfl, n1⟩ | ⟨rfl, p1, n2⟩
      · rcases e2 with ⟨k2, hk2, hg2, q1, q2, rfl⟩ | ⟨m1, rfl⟩ | ⟨q1, m2, rfl⟩
        · exact absurd q1 n1
        · exact ⟨ifC_I.symm.trans k1.symm, S, sc, tk, m, G, x, y, z, s, e, f, fun _ => nI 1, hI, fun _ _ _ _ h => h⟩
        · exact absurd q1 n1
      · rcases e2 with ⟨k2, hk2, hg2, q1, q2, rfl⟩ | ⟨m1, rfl⟩ | ⟨q1, m2, rfl⟩
        · exact absurd q2 n2
        · exact absurd p1 m1
        · exact ⟨ifC_A.symm.trans k1.symm, S, sc, tk, m, G, x, y, z, s, e, f, fun _ => nI 2, hI, fun _ _ _ _ h => h⟩
  refine lw_endV X hk hn dL_law_232 dL_law_233 dL_law_236 dL_law_238 fin.1 ?_
  exact z_goto (tgt := 1208) X dL_law_243 (by decide) (fin.2.go kk)
set_option maxHeartbeats 4000000 in
set_option maxRecDepth 10000 in
theorem lw_bar (X : zX E RL code 7 (zRm 64 601024 7293034) D t l) (Y : zWr E (aR a ++ aM b ++ [o])) (V : zTry E) (hX : va_X bs L xs (zs E) (zs E).heap) (hbl : bs < (zs E).heap.size) (hbA : ¬ zA E bs) (hL : L ≤ 3584) (hi : i + 6 < L) (hfl : l.stackTraces = false) (hk : k + 1 ≤ 601024) (hn : n + 6 ≤ 7293034) (kk : HL E t a b o bs (k + 1) (n + 6) 1208 i) : HL E t a b o bs k n 246 i := by
  intro S sc tk m G x y z s e f g q hI
  obtain ⟨h1, h2, h3, h4, h5, h6, h7, h8, h9⟩ := id hI
  have hX3 := ctk_sum m (fun j hj => (h8 j hj).1)
  refine Wz.eq (ws' := wN t a b o (T3 S x y z s e) (va_up (va_up S 22 f) 23 g) q) rfl ?_
  refine z_aload_n X dL_law_246 rfl rfl ?_
  refine z_arg (j := 1) X hX hbl hbA hL rfl rfl (by omega) rfl dL_law_247 dL_law_248 dL_law_250 dL_law_251 dL_law_252 ?_
  refine z_arg (j := 2) X hX hbl hbA hL rfl rfl (by omega) rfl dL_law_253 dL_law_254 dL_law_256 dL_law_257 dL_law_258 ?_
  refine z_arg (j := 3) X hX hbl hbA hL rfl rfl (by omega) rfl dL_law_259 dL_law_260 dL_law_262 dL_law_263 dL_law_264 ?_
  refine z_callW (np := 4) X Y nN V (fun sz => c_L_bar l hfl D t sz a (T3 S x y z s e) (xs (i + 1)) (xs (i + 2)) (xs (i + 3))) q_st_L_bar q_in_L q_cw_L_bar (by decide +kernel) (by decide) q_ml_L_82 is24 lpNR (fun w9 => wN t a b o w9 (va_up (va_up S 22 f) 23 g) q) (fun w9 => lsNR) (by decide) rfl rfl rfl (Nat.le_of_ble_eq_true rfl) ⟨hk, hn⟩ dL_law_265 (fun r1 w8 e1 => ?_)
  dsimp only at e1
  refine z_istore X dL_law_268 (by decide : 5 < 7) ?_
  refine z_lv (lv' := [some (.ref bs), some (.ref (a 0)), some (.ref (b 0)), some (.ref o), some (.int (nI i)), some (.int r1), none]) rfl ?_
  refine z_aload_n X dL_law_270 rfl rfl ?_
  refine z_arg (j := 1) X hX hbl hbA hL rfl rfl (by omega) rfl dL_law_271 dL_law_272 dL_law_274 dL_law_275 dL_law_276 ?_
  refine z_arg (j := 2) X hX hbl hbA hL rfl rfl (by omega) rfl dL_law_277 dL_law_278 dL_law_280 dL_law_281 dL_law_282 ?_
  refine z_arg (j := 3) X hX hbl hbA hL rfl rfl (by omega) rfl dL_law_283 dL_law_284 dL_law_286 dL_law_287 dL_law_288 ?_
  refine z_callV3 X Y nN (c_X4_bar l D t b (va_up (va_up S 22 f) 23 g) (xs (i + 1)) (xs (i + 2)) (xs (i + 3))) k_X4_bar q_ml_L_85 [24, 25, 26, 27, 28, 29, 30, 31, 32, 33, 34, 35, 36, 37, 38, 39, 40, 41, 42] (fun u => wN t a b o w8 u q) (fun u => lsNM) lpNM 24 4 rfl rfl (by decide) rfl rfl rfl (Nat.le_of_ble_eq_true rfl) ⟨hk, hn⟩ dL_law_289 (fun u e2 => ?_)
  have fin : u 23 0 = r1 ∧ FinOk t a b w8 u := by
    rcases e1 with ⟨k1, u1, ⟨hu, hg, p1, p2⟩, rfl⟩ | ⟨C, u1, hc, k1, rfl⟩
    · rcases e2 with ⟨k2, hk2, hg2, q1, q2, rfl⟩ | ⟨m1, rfl⟩ | ⟨q1, m2, rfl⟩
      · have ek := zn_inj (by omega) (by omega) (hg2.symm.trans hg)
        subst ek
        exact ⟨k1.symm, (brS S k2 (xs (i + 2)) (xs (i + 3))), sc, tk, m, G, x, y, z, s, e, f, fun _ => nI 0, Iv_br hI p1, fun _ _ _ _ h => h⟩
      · exact absurd p1 m1
      · exact absurd p2 m2
    · rcases hc with ⟨rfl, n1⟩ | ⟨rfl, p1, n2⟩
      · rcases e2 with ⟨k2, hk2, hg2, q1, q2, rfl⟩ | ⟨m1, rfl⟩ | ⟨q1, m2, rfl⟩
        · exact absurd q1 n1
        · exact ⟨ifC_I.symm.trans k1.symm, S, sc, tk, m, G, x, y, z, s, e, f, fun _ => nI 1, hI, fun _ _ _ _ h => h⟩
        · exact absurd q1 n1
      · rcases e2 with ⟨k2, hk2, hg2, q1, q2, rfl⟩ | ⟨m1, rfl⟩ | ⟨q1, m2, rfl⟩
        · exact absurd q2 n2
        · exact absurd p1 m1
        · exact ⟨ifC_A.symm.trans k1.symm, S, sc, tk, m, G, x, y, z, s, e, f, fun _ => nI 2, hI, fun _ _ _ _ h => h⟩
  refine lw_endV X hk hn dL_law_292 dL_law_293 dL_law_296 dL_law_298 fin.1 ?_
  exact z_goto (tgt := 1208) X dL_law_303 (by decide) (fin.2.go kk)
set_option maxHeartbeats 4000000 in
set_option maxRecDepth 10000 in
theorem lw_setBonus (X : zX E RL code 7 (zRm 64 601024 7293034) D t l) (Y : zWr E (aR a ++ aM b ++ [o])) (V : zTry E) (hX : va_X bs L xs (zs E) (zs E).heap) (hbl : bs < (zs E).heap.size) (hbA : ¬ zA E bs) (hL : L ≤ 3584) (hi : i + 6 < L) (hfl : l.stackTraces = false) (hk : k + 1 ≤ 601024) (hn : n + 6 ≤ 7293034) (kk : HL E t a b o bs (k + 1) (n + 6) 1208 i) : HL E t a b o bs k n 306 i := by
  intro S sc tk m G x y z s e f g q hI
  obtain ⟨h1, h2, h3, h4, h5, h6, h7, h8, h9⟩ := id hI
  have hX3 := ctk_sum m (fun j hj => (h8 j hj).1)
  refine Wz.eq (ws' := wN t a b o (T3 S x y z s e) (va_up (va_up S 22 f) 23 g) q) rfl ?_
  refine z_aload_n X dL_law_306 rfl rfl ?_
  refine z_arg (j := 1) X hX hbl hbA hL rfl rfl (by omega) rfl dL_law_307 dL_law_308 dL_law_310 dL_law_311 dL_law_312 ?_
  refine z_arg (j := 2) X hX hbl hbA hL rfl rfl (by omega) rfl dL_law_313 dL_law_314 dL_law_316 dL_law_317 dL_law_318 ?_
  refine z_arg (j := 3) X hX hbl hbA hL rfl rfl (by omega) rfl dL_law_319 dL_law_320 dL_law_322 dL_law_323 dL_law_324 ?_
  refine z_arg (j := 4) X hX hbl hbA hL rfl rfl (by omega) rfl dL_law_325 dL_law_326 dL_law_328 dL_law_329 dL_law_330 ?_
  refine z_callW (np := 5) X Y nN V (fun sz => c_L_setBonus l hfl D t sz a (T3 S x y z s e) (xs (i + 1)) (xs (i + 2)) (xs (i + 3)) (xs (i + 4))) q_st_L_setBonus q_in_L q_cw_L_setBonus (by decide +kernel) (by decide) q_ml_L_86 is24 lpNR (fun w9 => wN t a b o w9 (va_up (va_up S 22 f) 23 g) q) (fun w9 => lsNR) (by decide) rfl rfl rfl (Nat.le_of_ble_eq_true rfl) ⟨hk, hn⟩ dL_law_331 (fun r1 w8 e1 => ?_)
  dsimp only at e1
  refine z_istore X dL_law_334 (by decide : 5 < 7) ?_
  refine z_lv (lv' := [some (.ref bs), some (.ref (a 0)), some (.ref (b 0)), some (.ref o), some (.int (nI i)), some (.int r1), none]) rfl ?_
  refine z_aload_n X dL_law_336 rfl rfl ?_
  refine z_arg (j := 1) X hX hbl hbA hL rfl rfl (by omega) rfl dL_law_337 dL_law_338 dL_law_340 dL_law_341 dL_law_342 ?_
  refine z_arg (j := 2) X hX hbl hbA hL rfl rfl (by omega) rfl dL_law_343 dL_law_344 dL_law_346 dL_law_347 dL_law_348 ?_
  refine z_arg (j := 3) X hX hbl hbA hL rfl rfl (by omega) rfl dL_law_349 dL_law_350 dL_law_352 dL_law_353 dL_law_354 ?_
  refine z_arg (j := 4) X hX hbl hbA hL rfl rfl (by omega) rfl dL_law_355 dL_law_356 dL_law_358 dL_law_359 dL_law_360 ?_
  refine z_callV3 X Y nN (c_X4_setBonus l D t b (va_up (va_up S 22 f) 23 g) (xs (i + 1)) (xs (i + 2)) (xs (i + 3)) (xs (i + 4))) k_X4_setBonus q_ml_L_89 [24, 25, 26, 27, 28, 29, 30, 31, 32, 33, 34, 35, 36, 37, 38, 39, 40, 41, 42] (fun u => wN t a b o w8 u q) (fun u => lsNM) lpNM 24 4 rfl rfl (by decide) rfl rfl rfl (Nat.le_of_ble_eq_true rfl) ⟨hk, hn⟩ dL_law_361 (fun u e2 => ?_)
  have fin : u 23 0 = r1 ∧ FinOk t a b w8 u := by
    rcases e1 with ⟨k1, ⟨u1, u2⟩, ⟨hu, hg, hu2, hd, p1, p2⟩, rfl⟩ | ⟨C, u1, hc, k1, rfl⟩
    · rcases e2 with ⟨k2, j2, hk2, hg2, hj2, hd2, q1, q2, rfl⟩ | ⟨m1, rfl⟩ | ⟨q1, m2, rfl⟩
      · dsimp only at hu hg hu2 hd
        have ek := zn_inj (by omega) (by omega) (hg2.symm.trans hg)
        subst ek
        have ej := zn_inj (by omega) (by omega) (hd2.symm.trans hd)
        subst ej
        exact ⟨k1.symm, (boS S k2 (xs (i + 2)) (nI j2) (xs (i + 4))), sc, tk, m, G, x, y, z, s, e, f, fun _ => nI 0, Iv_bo hI p1, fun _ _ _ _ h => h⟩
      · exact absurd p1 m1
      · exact absurd p2 m2
    · rcases hc with ⟨rfl, n1⟩ | ⟨rfl, p1, n2⟩
      · rcases e2 with ⟨k2, j2, hk2, hg2, hj2, hd2, q1, q2, rfl⟩ | ⟨m1, rfl⟩ | ⟨q1, m2, rfl⟩
        · exact absurd q1 n1
        · exact ⟨ifC_I.symm.trans k1.symm, S, sc, tk, m, G, x, y, z, s, e, f, fun _ => nI 1, hI, fun _ _ _ _ h => h⟩
        · exact absurd q1 n1
      · rcases e2 with ⟨k2, j2, hk2, hg2, hj2, hd2, q1, q2, rfl⟩ | ⟨m1, rfl⟩ | ⟨q1, m2, rfl⟩
        · exact absurd q2 n2
        · exact absurd p1 m1
        · exact ⟨ifC_A.symm.trans k1.symm, S, sc, tk, m, G, x, y, z, s, e, f, fun _ => nI 2, hI, fun _ _ _ _ h => h⟩
  refine lw_endV X hk hn dL_law_364 dL_law_365 dL_law_368 dL_law_370 fin.1 ?_
  exact z_goto (tgt := 1208) X dL_law_375 (by decide) (fin.2.go kk)
set_option maxHeartbeats 4000000 in
set_option maxRecDepth 10000 in
theorem lw_setValue (X : zX E RL code 7 (zRm 64 601024 7293034) D t l) (Y : zWr E (aR a ++ aM b ++ [o])) (V : zTry E) (hX : va_X bs L xs (zs E) (zs E).heap) (hbl : bs < (zs E).heap.size) (hbA : ¬ zA E bs) (hL : L ≤ 3584) (hi : i + 6 < L) (hfl : l.stackTraces = false) (hk : k + 1 ≤ 601024) (hn : n + 6 ≤ 7293034) (kk : HL E t a b o bs (k + 1) (n + 6) 1208 i) : HL E t a b o bs k n 378 i := by
  intro S sc tk m G x y z s e f g q hI
  obtain ⟨h1, h2, h3, h4, h5, h6, h7, h8, h9⟩ := id hI
  have hX3 := ctk_sum m (fun j hj => (h8 j hj).1)
  refine Wz.eq (ws' := wN t a b o (T3 S x y z s e) (va_up (va_up S 22 f) 23 g) q) rfl ?_
  refine z_aload_n X dL_law_378 rfl rfl ?_
  refine z_arg (j := 1) X hX hbl hbA hL rfl rfl (by omega) rfl dL_law_379 dL_law_380 dL_law_382 dL_law_383 dL_law_384 ?_
  refine z_arg (j := 2) X hX hbl hbA hL rfl rfl (by omega) rfl dL_law_385 dL_law_386 dL_law_388 dL_law_389 dL_law_390 ?_
  refine z_arg (j := 3) X hX hbl hbA hL rfl rfl (by omega) rfl dL_law_391 dL_law_392 dL_law_394 dL_law_395 dL_law_396 ?_
  refine z_arg (j := 4) X hX hbl hbA hL rfl rfl (by omega) rfl dL_law_397 dL_law_398 dL_law_400 dL_law_401 dL_law_402 ?_
  refine z_arg (j := 5) X hX hbl hbA hL rfl rfl (by omega) rfl dL_law_403 dL_law_404 dL_law_406 dL_law_407 dL_law_408 ?_
  refine z_callW (np := 6) X Y nN V (fun sz => c_L_setValue l hfl D t sz a (T3 S x y z s e) (xs (i + 1)) (xs (i + 2)) (xs (i + 3)) (xs (i + 4)) (xs (i + 5))) q_st_L_setValue q_in_L q_cw_L_setValue (by decide +kernel) (by decide) q_ml_L_90 is24 lpNR (fun w9 => wN t a b o w9 (va_up (va_up S 22 f) 23 g) q) (fun w9 => lsNR) (by decide) rfl rfl rfl (Nat.le_of_ble_eq_true rfl) ⟨hk, hn⟩ dL_law_409 (fun r1 w8 e1 => ?_)
  dsimp only at e1
  refine z_istore X dL_law_412 (by decide : 5 < 7) ?_
  refine z_lv (lv' := [some (.ref bs), some (.ref (a 0)), some (.ref (b 0)), some (.ref o), some (.int (nI i)), some (.int r1), none]) rfl ?_
  refine z_aload_n X dL_law_414 rfl rfl ?_
  refine z_arg (j := 1) X hX hbl hbA hL rfl rfl (by omega) rfl dL_law_415 dL_law_416 dL_law_418 dL_law_419 dL_law_420 ?_
  refine z_arg (j := 2) X hX hbl hbA hL rfl rfl (by omega) rfl dL_law_421 dL_law_422 dL_law_424 dL_law_425 dL_law_426 ?_
  refine z_arg (j := 3) X hX hbl hbA hL rfl rfl (by omega) rfl dL_law_427 dL_law_428 dL_law_430 dL_law_431 dL_law_432 ?_
  refine z_arg (j := 4) X hX hbl hbA hL rfl rfl (by omega) rfl dL_law_433 dL_law_434 dL_law_436 dL_law_437 dL_law_438 ?_
  refine z_arg (j := 5) X hX hbl hbA hL rfl rfl (by omega) rfl dL_law_439 dL_law_440 dL_law_442 dL_law_443 dL_law_444 ?_
  refine z_callV3 X Y nN (c_X4_setValue l D t b (va_up (va_up S 22 f) 23 g) (xs (i + 1)) (xs (i + 2)) (xs (i + 3)) (xs (i + 4)) (xs (i + 5))) k_X4_setValue q_ml_L_93 [24, 25, 26, 27, 28, 29, 30, 31, 32, 33, 34, 35, 36, 37, 38, 39, 40, 41, 42] (fun u => wN t a b o w8 u q) (fun u => lsNM) lpNM 24 4 rfl rfl (by decide) rfl rfl rfl (Nat.le_of_ble_eq_true rfl) ⟨hk, hn⟩ dL_law_445 (fun u e2 => ?_)
  have fin : u 23 0 = r1 ∧ FinOk t a b w8 u := by
    rcases e1 with ⟨k1, u1, ⟨hu, hg, p1, p2⟩, rfl⟩ | ⟨C, u1, hc, k1, rfl⟩
    · rcases e2 with ⟨k2, hk2, hg2, q1, q2, rfl⟩ | ⟨m1, rfl⟩ | ⟨q1, m2, rfl⟩
      · have ek := zn_inj (by omega) (by omega) (hg2.symm.trans hg)
        subst ek
        exact ⟨k1.symm, (vaS S k2 (xs (i + 2)) (xs (i + 3)) (xs (i + 4)) (xs (i + 5))), sc, tk, m, G, x, y, z, s, e, f, fun _ => nI 0, Iv_va hI p1, fun _ _ _ _ h => h⟩
      · exact absurd p1 m1
      · exact absurd p2 m2
    · rcases hc with ⟨rfl, n1⟩ | ⟨rfl, p1, n2⟩
      · rcases e2 with ⟨k2, hk2, hg2, q1, q2, rfl⟩ | ⟨m1, rfl⟩ | ⟨q1, m2, rfl⟩
        · exact absurd q1 n1
        · exact ⟨ifC_I.symm.trans k1.symm, S, sc, tk, m, G, x, y, z, s, e, f, fun _ => nI 1, hI, fun _ _ _ _ h => h⟩
        · exact absurd q1 n1
      · rcases e2 with ⟨k2, hk2, hg2, q1, q2, rfl⟩ | ⟨m1, rfl⟩ | ⟨q1, m2, rfl⟩
        · exact absurd q2 n2
        · exact absurd p1 m1
        · exact ⟨ifC_A.symm.trans k1.symm, S, sc, tk, m, G, x, y, z, s, e, f, fun _ => nI 2, hI, fun _ _ _ _ h => h⟩
  refine lw_endV X hk hn dL_law_448 dL_law_449 dL_law_452 dL_law_454 fin.1 ?_
  exact z_goto (tgt := 1208) X dL_law_459 (by decide) (fin.2.go kk)
end ZC6
