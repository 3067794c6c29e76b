set_option maxHeartbeats 1000000 in
set_option maxRecDepth 100000 in
theorem act_bonus {E : zE} {D : va_G} {t : ClassId × ClassId × ClassId} {l : Launch} (hfl : l.stackTraces = false) {a b : Nat → Nat} {qb qv qc : Nat} {S : zS} {p p2 : zT} {fB fV fC : Nat → Int32} {sc tk : Nat → Nat} {x y z G : Nat} (v5 v6 : Int32) (k7 g : Nat) (hg : g < 8) (X : zX E RL cL_acts 14 (zRm 34 20 120) D t l) (Z : zEnd E (some .boolean) (va_Qi (fun r (u : zU) => r = nI 1 ∧ Gd u) (fun u q => va_P D vwCl (wG t a b qb qv qc u) q.heap) (zA E)) 20 120) (V : zTry E) (Y : zWr E (aR a ++ aR b ++ [qb, qv, qc])) (hGx : Gx S p p2 fB fV fC sc tk x y z G) : Wz E 0 0 336 [some (.ref (a 0)), some (.ref (b 0)), some (.ref qb), some (.ref qv), some (.ref qc), some (.int v5), some (.int v6), some (.int (nI k7)), some (.int (nI g)), none, none, none, none, none] [] (wA t a b (T6 S p) (T6 S p2) qb qv qc fB fV fC) := by
  obtain ⟨h, hT1, hT2, hCt, hB, hV, hC⟩ := hGx
  have hX := K_X h
  have hG := K_G h
  have hp8 := p8_le G hG
  have hw : wk S (l3 x y z) G < 256 := wkN_lt 64
  refine z_aload_n X dL_acts_336 rfl rfl ?_
  refine z_iconst (v := nI 3) X dL_acts_337 (by decide) ?_
  refine z_iload X dL_acts_338 rfl ?_
  refine n_imul X dL_acts_340 ?_
  have j366 : ∀ (v9 : Int32), zo v9 6 → Wz E (0) (0) 366 [some (.ref (a 0)), some (.ref (b 0)), some (.ref qb), some (.ref qv), some (.ref qc), some (.int v5), some (.int v6), some (.int (nI k7)), some (.int (nI g)), none, none, none, none, none] [.int v9, .int (nI (3 * g)), .ref qb] (wA t a b (T6 S p) (T6 S p2) qb qv qc fB fV fC) := by
    intro v9 hj366
    refine n_iast X Y 48 aA_eq rfl (by omega) (by decide) dL_acts_366 ?_
    refine Wz.eq (uA_B (f := upd fB (3 * g) v9)) ?_
    refine z_aload_n X dL_acts_367 rfl rfl ?_
    refine z_iconst (v := nI 3) X dL_acts_368 (by decide) ?_
    refine z_iload X dL_acts_369 rfl ?_
    refine n_imul X dL_acts_371 ?_
    refine z_iconst (v := nI 1) X dL_acts_372 (by decide) ?_
    refine n_iadd X dL_acts_373 ?_
    refine z_iload X dL_acts_374 rfl ?_
    refine z_iconst (v := nI 4) X dL_acts_376 (by decide) ?_
    refine z_ishr X dL_acts_377 ?_
    refine z_iconst (v := nI 4) X dL_acts_378 (by decide) ?_
    refine z_callS1 (k := 0) (n := 0) (st := [.int (nI ((3 * g) + 1)), .ref qb]) X (c_L_low l D t (v6 >>> (nI 4 &&& 31)) 4 (by decide) (by decide)) k_L_low q_ml_L_129 [] ⟨by decide, rfl⟩ (by decide) rfl rfl rfl (Nat.le_of_ble_eq_true rfl) ⟨by omega, by omega⟩ dL_acts_379 (fun r379 h379 => ?_)
    subst h379
    have hl379 : lo (v6 >>> (nI 4 &&& 31)) 4 < 4 := lo_lt (by decide)
    refine n_iast X Y 48 aA_eq rfl (by omega) (by decide) dL_acts_382 ?_
    refine Wz.eq (uA_B (f := upd (upd fB (3 * g) v9) ((3 * g) + 1) (nI (lo (v6 >>> (nI 4 &&& 31)) 4)))) ?_
    refine z_aload_n X dL_acts_383 rfl rfl ?_
    refine z_iconst (v := nI 3) X dL_acts_384 (by decide) ?_
    refine z_iload X dL_acts_385 rfl ?_
    refine n_imul X dL_acts_387 ?_
    refine z_iconst (v := nI 2) X dL_acts_388 (by decide) ?_
    refine n_iadd X dL_acts_389 ?_
    refine z_iload X dL_acts_390 rfl ?_
    refine z_bipush (v := nI 6) X dL_acts_392 (by decide) ?_
    refine z_ishr X dL_acts_394 ?_
    refine z_bipush (v := nI 19) X dL_acts_395 (by decide) ?_
    refine z_callS1 (k := 0) (n := 0) (st := [.int (nI ((3 * g) + 2)), .ref qb]) X (c_L_low l D t (v6 >>> (nI 6 &&& 31)) 19 (by decide) (by decide)) k_L_low q_ml_L_129 [] ⟨by decide, rfl⟩ (by decide) rfl rfl rfl (Nat.le_of_ble_eq_true rfl) ⟨by omega, by omega⟩ dL_acts_397 (fun r397 h397 => ?_)
    subst h397
    have hl397 : lo (v6 >>> (nI 6 &&& 31)) 19 < 19 := lo_lt (by decide)
    refine z_bipush (v := nI 9) X dL_acts_400 (by decide) ?_
    refine z_isub X dL_acts_402 ?_
    refine n_iast X Y 48 aA_eq rfl (by omega) (by decide) dL_acts_403 ?_
    refine Wz.eq (uA_B (f := upd (upd (upd fB (3 * g) v9) ((3 * g) + 1) (nI (lo (v6 >>> (nI 4 &&& 31)) 4))) ((3 * g) + 2) (nI (lo (v6 >>> (nI 6 &&& 31)) 19) - nI 9))) ?_
    refine Wz.eq (ws' := wA t a b (T6 S p) (T6 S p2) qb qv qc (bo3 fB g v9 (nI (lo (v6 >>> (nI 4 &&& 31)) 4)) (nI (lo (v6 >>> (nI 6 &&& 31)) 19) - nI 9)) fV fC) rfl ?_
    have h1 : bo1 (nI g) v9 := ⟨am_n hg, hj366⟩
    have h2 : bo2 (nI (lo (v6 >>> (nI 4 &&& 31)) 4)) (nI (lo (v6 >>> (nI 6 &&& 31)) 19) - nI 9) := ⟨am_n (lo_lt (by decide)), rg_9 _ (lo_lt (by decide))⟩
    have hK : zKs (boS S g v9 (nI (lo (v6 >>> (nI 4 &&& 31)) 4)) (nI (lo (v6 >>> (nI 6 &&& 31)) 19) - nI 9)) sc x y z G := K_bo h h1
    refine z_aload_n X dL_acts_404 rfl rfl ?_
    refine z_iload X dL_acts_405 rfl ?_
    refine z_aload_n X dL_acts_407 rfl rfl ?_
    refine z_iconst (v := nI 3) X dL_acts_408 (by decide) ?_
    refine z_iload X dL_acts_409 rfl ?_
    refine n_imul X dL_acts_411 ?_
    refine n_iald (f := bo3 fB g v9 (nI (lo (v6 >>> (nI 4 &&& 31)) 4)) (nI (lo (v6 >>> (nI 6 &&& 31)) 19) - nI 9)) X 48 rfl (by omega) (by decide) dL_acts_412 ?_
    refine z_top (y := v9) (bo3_0) ?_
    refine z_aload_n X dL_acts_413 rfl rfl ?_
    refine z_iconst (v := nI 3) X dL_acts_414 (by decide) ?_
    refine z_iload X dL_acts_415 rfl ?_
    refine n_imul X dL_acts_417 ?_
    refine z_iconst (v := nI 1) X dL_acts_418 (by decide) ?_
    refine n_iadd X dL_acts_419 ?_
    refine n_iald (f := bo3 fB g v9 (nI (lo (v6 >>> (nI 4 &&& 31)) 4)) (nI (lo (v6 >>> (nI 6 &&& 31)) 19) - nI 9)) X 48 rfl (by omega) (by decide) dL_acts_420 ?_
    refine z_top (y := nI (lo (v6 >>> (nI 4 &&& 31)) 4)) (bo3_1) ?_
    refine z_aload_n X dL_acts_421 rfl rfl ?_
    refine z_iconst (v := nI 3) X dL_acts_422 (by decide) ?_
    refine z_iload X dL_acts_423 rfl ?_
    refine n_imul X dL_acts_425 ?_
    refine z_iconst (v := nI 2) X dL_acts_426 (by decide) ?_
    refine n_iadd X dL_acts_427 ?_
    refine n_iald (f := bo3 fB g v9 (nI (lo (v6 >>> (nI 4 &&& 31)) 4)) (nI (lo (v6 >>> (nI 6 &&& 31)) 19) - nI 9)) X 48 rfl (by omega) (by decide) dL_acts_428 ?_
    refine z_top (y := nI (lo (v6 >>> (nI 6 &&& 31)) 19) - nI 9) (bo3_2) ?_
    refine z_w7 (k := 0) (n := 0) (k' := 1) (n' := 6) (st := []) X Y aA_eq V (fun sz => w_setBonus l hfl D t a p hg h1 h2 sz) kw_setBonus q_ml_L_138 is24 ⟨by decide, rfl⟩ (fun u => wA t a b (T6 (boS S g v9 (nI (lo (v6 >>> (nI 4 &&& 31)) 4)) (nI (lo (v6 >>> (nI 6 &&& 31)) 19) - nI 9)) p) (T6 S p2) qb qv qc (bo3 fB g v9 (nI (lo (v6 >>> (nI 4 &&& 31)) 4)) (nI (lo (v6 >>> (nI 6 &&& 31)) 19) - nI 9)) fV fC) (fun u => ⟨⟨by decide, rfl⟩, ⟨by decide, rfl⟩, rfl, rfl⟩) (by decide) (by decide) rfl rfl rfl (Nat.le_of_ble_eq_true rfl) ⟨by omega, by omega⟩ ⟨by omega, by omega⟩ dL_acts_429 (fun r429 u429 h429 => ?_)
    subst h429
    refine n_if_ne (tgt := 514) X dL_acts_432 (by decide) (by omega) (fun c432 => absurd c432 (by decide)) (fun _ => ?_)
    refine z_aload_n X dL_acts_435 rfl rfl ?_
    refine z_iload X dL_acts_436 rfl ?_
    refine z_aload_n X dL_acts_438 rfl rfl ?_
    refine z_iconst (v := nI 3) X dL_acts_439 (by decide) ?_
    refine z_iload X dL_acts_440 rfl ?_
    refine n_imul X dL_acts_442 ?_
    refine n_iald (f := bo3 fB g v9 (nI (lo (v6 >>> (nI 4 &&& 31)) 4)) (nI (lo (v6 >>> (nI 6 &&& 31)) 19) - nI 9)) X 48 rfl (by omega) (by decide) dL_acts_443 ?_
    refine z_top (y := v9) (bo3_0) ?_
    refine z_aload_n X dL_acts_444 rfl rfl ?_
    refine z_iconst (v := nI 3) X dL_acts_445 (by decide) ?_
    refine z_iload X dL_acts_446 rfl ?_
    refine n_imul X dL_acts_448 ?_
    refine z_iconst (v := nI 1) X dL_acts_449 (by decide) ?_
    refine n_iadd X dL_acts_450 ?_
    refine n_iald (f := bo3 fB g v9 (nI (lo (v6 >>> (nI 4 &&& 31)) 4)) (nI (lo (v6 >>> (nI 6 &&& 31)) 19) - nI 9)) X 48 rfl (by omega) (by decide) dL_acts_451 ?_
    refine z_top (y := nI (lo (v6 >>> (nI 4 &&& 31)) 4)) (bo3_1) ?_
    refine z_aload_n X dL_acts_452 rfl rfl ?_
    refine z_iconst (v := nI 3) X dL_acts_453 (by decide) ?_
    refine z_iload X dL_acts_454 rfl ?_
    refine n_imul X dL_acts_456 ?_
    refine z_iconst (v := nI 2) X dL_acts_457 (by decide) ?_
    refine n_iadd X dL_acts_458 ?_
    refine n_iald (f := bo3 fB g v9 (nI (lo (v6 >>> (nI 4 &&& 31)) 4)) (nI (lo (v6 >>> (nI 6 &&& 31)) 19) - nI 9)) X 48 rfl (by omega) (by decide) dL_acts_459 ?_
    refine z_top (y := nI (lo (v6 >>> (nI 6 &&& 31)) 19) - nI 9) (bo3_2) ?_
    refine z_w7 (k := 1) (n := 6) (k' := 2) (n' := 12) (st := []) X Y aA_eq V (fun sz => w_setBonus l hfl D t b p2 hg h1 h2 sz) kw_setBonus q_ml_L_138 is24t ⟨by decide, rfl⟩ (fun u => wA t a b (T6 (boS S g v9 (nI (lo (v6 >>> (nI 4 &&& 31)) 4)) (nI (lo (v6 >>> (nI 6 &&& 31)) 19) - nI 9)) p) (T6 (boS S g v9 (nI (lo (v6 >>> (nI 4 &&& 31)) 4)) (nI (lo (v6 >>> (nI 6 &&& 31)) 19) - nI 9)) p2) qb qv qc (bo3 fB g v9 (nI (lo (v6 >>> (nI 4 &&& 31)) 4)) (nI (lo (v6 >>> (nI 6 &&& 31)) 19) - nI 9)) fV fC) (fun u => ⟨⟨by decide, rfl⟩, ⟨by decide, rfl⟩, rfl, rfl⟩) (by decide) (by decide) rfl rfl rfl (Nat.le_of_ble_eq_true rfl) ⟨by omega, by omega⟩ ⟨by omega, by omega⟩ dL_acts_460 (fun r460 u460 h460 => ?_)
    subst h460
    refine n_if_ne (tgt := 514) X dL_acts_463 (by decide) (by omega) (fun c463 => absurd c463 (by decide)) (fun _ => ?_)
    refine z_aload_n X dL_acts_466 rfl rfl ?_
    refine z_iload X dL_acts_467 rfl ?_
    refine z_iconst (v := (-1)) X dL_acts_469 (by decide) ?_
    refine z_iconst (v := nI 4) X dL_acts_470 (by decide) ?_
    refine z_iconst (v := nI 0) X dL_acts_471 (by decide) ?_
    refine z_w7 (k := 2) (n := 12) (k' := 3) (n' := 18) (st := []) X Y aA_eq V (fun sz => w_setBonus_A l hfl D t a p ⟨am_n hg, Or.inl rfl⟩ (fun q => am_no (by decide) (by decide) (by decide) q.1) sz) kw_setBonus q_ml_L_138 is24 ⟨by decide, rfl⟩ (fun u => wA t a b (T6 (boS S g v9 (nI (lo (v6 >>> (nI 4 &&& 31)) 4)) (nI (lo (v6 >>> (nI 6 &&& 31)) 19) - nI 9)) p) (T6 (boS S g v9 (nI (lo (v6 >>> (nI 4 &&& 31)) 4)) (nI (lo (v6 >>> (nI 6 &&& 31)) 19) - nI 9)) p2) qb qv qc (bo3 fB g v9 (nI (lo (v6 >>> (nI 4 &&& 31)) 4)) (nI (lo (v6 >>> (nI 6 &&& 31)) 19) - nI 9)) fV fC) (fun u => ⟨⟨by decide, rfl⟩, ⟨by decide, rfl⟩, rfl, rfl⟩) (by decide) (by decide) rfl rfl rfl (Nat.le_of_ble_eq_true rfl) ⟨by omega, by omega⟩ ⟨by omega, by omega⟩ dL_acts_472 (fun r472 u472 h472 => ?_)
    subst h472
    refine z_ldci X q_k_L_21 dL_acts_475 ?_
    refine z_icmp_ne (tgt := 514) X dL_acts_477 (by decide) (fun c477 => absurd c477 (by decide)) (fun _ => ?_)
    refine z_aload_n X dL_acts_480 rfl rfl ?_
    refine z_iload X dL_acts_481 rfl ?_
    refine z_iconst (v := nI 0) X dL_acts_483 (by decide) ?_
    refine z_iconst (v := nI 0) X dL_acts_484 (by decide) ?_
    refine z_bipush (v := nI 10) X dL_acts_485 (by decide) ?_
    refine z_w7 (k := 3) (n := 18) (k' := 4) (n' := 24) (st := []) X Y aA_eq V (fun sz => w_setBonus_A l hfl D t a p ⟨am_n hg, zo_n (by decide)⟩ (fun q => absurd q.2.2 (by decide)) sz) kw_setBonus q_ml_L_138 is24 ⟨by decide, rfl⟩ (fun u => wA t a b (T6 (boS S g v9 (nI (lo (v6 >>> (nI 4 &&& 31)) 4)) (nI (lo (v6 >>> (nI 6 &&& 31)) 19) - nI 9)) p) (T6 (boS S g v9 (nI (lo (v6 >>> (nI 4 &&& 31)) 4)) (nI (lo (v6 >>> (nI 6 &&& 31)) 19) - nI 9)) p2) qb qv qc (bo3 fB g v9 (nI (lo (v6 >>> (nI 4 &&& 31)) 4)) (nI (lo (v6 >>> (nI 6 &&& 31)) 19) - nI 9)) fV fC) (fun u => ⟨⟨by decide, rfl⟩, ⟨by decide, rfl⟩, rfl, rfl⟩) (by decide) (by decide) rfl rfl rfl (Nat.le_of_ble_eq_true rfl) ⟨by omega, by omega⟩ ⟨by omega, by omega⟩ dL_acts_487 (fun r487 u487 h487 => ?_)
    subst h487
    refine z_ldci X q_k_L_21 dL_acts_490 ?_
    refine z_icmp_ne (tgt := 514) X dL_acts_492 (by decide) (fun c492 => absurd c492 (by decide)) (fun _ => ?_)
    refine z_aload_n X dL_acts_495 rfl rfl ?_
    refine z_bipush (v := nI 8) X dL_acts_496 (by decide) ?_
    refine z_iconst (v := nI 0) X dL_acts_498 (by decide) ?_
    refine z_bipush (v := nI 9) X dL_acts_499 (by decide) ?_
    refine z_iconst (v := nI 0) X dL_acts_501 (by decide) ?_
    refine z_w7 (k := 4) (n := 24) (k' := 5) (n' := 30) (st := []) X Y aA_eq V (fun sz => w_setBonus_I l hfl D t a p (fun q => am_no (by decide) (by decide) (by decide) q.1) sz) kw_setBonus q_ml_L_138 is24 ⟨by decide, rfl⟩ (fun u => wA t a b (T6 (boS S g v9 (nI (lo (v6 >>> (nI 4 &&& 31)) 4)) (nI (lo (v6 >>> (nI 6 &&& 31)) 19) - nI 9)) p) (T6 (boS S g v9 (nI (lo (v6 >>> (nI 4 &&& 31)) 4)) (nI (lo (v6 >>> (nI 6 &&& 31)) 19) - nI 9)) p2) qb qv qc (bo3 fB g v9 (nI (lo (v6 >>> (nI 4 &&& 31)) 4)) (nI (lo (v6 >>> (nI 6 &&& 31)) 19) - nI 9)) fV fC) (fun u => ⟨⟨by decide, rfl⟩, ⟨by decide, rfl⟩, rfl, rfl⟩) (by decide) (by decide) rfl rfl rfl (Nat.le_of_ble_eq_true rfl) ⟨by omega, by omega⟩ ⟨by omega, by omega⟩ dL_acts_502 (fun r502 u502 h502 => ?_)
    subst h502
    refine z_ldci X q_k_L_18 dL_acts_505 ?_
    refine z_icmp_ne (tgt := 514) X dL_acts_507 (by decide) (fun c507 => absurd c507 (by decide)) (fun _ => ?_)
    refine z_iconst (v := nI 1) X dL_acts_510 (by decide) ?_
    refine z_goto (tgt := 515) X dL_acts_511 (by decide) ?_
    refine Wz.wide (k' := 20) (n' := 120) (by omega) (by omega) ?_
    refine z_iret X Z (by decide +kernel) dL_acts_515 ?_
    exact ⟨(boS S g v9 (nI (lo (v6 >>> (nI 4 &&& 31)) 4)) (nI (lo (v6 >>> (nI 6 &&& 31)) 19) - nI 9), p, p2, bo3 fB g v9 (nI (lo (v6 >>> (nI 4 &&& 31)) 4)) (nI (lo (v6 >>> (nI 6 &&& 31)) 19) - nI 9), fV, fC), ⟨rfl, sc, tk, x, y, z, G, hK, hT1, hT2, hCt, LB_bo hB, LV_bo hV, hC⟩, fun q hq => hq⟩
  refine z_iload X dL_acts_341 rfl ?_
  refine z_bipush (v := nI 9) X dL_acts_343 (by decide) ?_
  refine z_callS1 (k := 0) (n := 0) (st := [.int (nI (3 * g)), .ref qb]) X (c_L_low l D t v6 9 (by decide) (by decide)) k_L_low q_ml_L_129 [] ⟨by decide, rfl⟩ (by decide) rfl rfl rfl (Nat.le_of_ble_eq_true rfl) ⟨by omega, by omega⟩ dL_acts_345 (fun r345 h345 => ?_)
  subst h345
  have hl345 : lo v6 9 < 9 := lo_lt (by decide)
  refine z_bipush (v := nI 6) X dL_acts_348 (by decide) ?_
  refine n_icmp_ge (tgt := 365) X dL_acts_350 (by decide) (by omega) (by omega) (fun c350 => ?_) (fun c350 => ?_)
  ·
    refine z_iconst (v := (-1)) X dL_acts_365 (by decide) ?_
    exact j366 (-1) (Or.inl rfl)
  ·
    refine z_iload X dL_acts_353 rfl ?_
    refine z_bipush (v := nI 9) X dL_acts_355 (by decide) ?_
    refine z_callS1 (k := 0) (n := 0) (st := [.int (nI (3 * g)), .ref qb]) X (c_L_low l D t v6 9 (by decide) (by decide)) k_L_low q_ml_L_129 [] ⟨by decide, rfl⟩ (by decide) rfl rfl rfl (Nat.le_of_ble_eq_true rfl) ⟨by omega, by omega⟩ dL_acts_357 (fun r357 h357 => ?_)
    subst h357
    have hl357 : lo v6 9 < 9 := lo_lt (by decide)
    refine z_iconst (v := nI 3) X dL_acts_360 (by decide) ?_
    refine n_irem X dL_acts_361 (by omega) (by decide) (by decide) ?_
    refine z_goto (tgt := 366) X dL_acts_362 (by decide) ?_
    exact j366 (nI ((lo v6 9) % 3)) (zo_n (Nat.lt_trans (Nat.mod_lt _ (by decide)) (by decide)))
set_option maxHeartbeats 1000000 in
set_option maxRecDepth 100000 in
theorem act_value {E : zE} {D : va_G} {t : ClassId × ClassId × ClassId} {l : Launch} (hfl : l.stackTraces = false) {a b : Nat → Nat} {qb qv qc : Nat} {S : zS} {p p2 : zT} {fB fV fC : Nat → Int32} {sc tk : Nat → Nat} {x y z G : Nat} (v5 v6 : Int32) (k7 g : Nat) (hg : g < 8) (X : zX E RL cL_acts 14 (zRm 34 20 120) D t l) (Z : zEnd E (some .boolean) (va_Qi (fun r (u : zU) => r = nI 1 ∧ Gd u) (fun u q => va_P D vwCl (wG t a b qb qv qc u) q.heap) (zA E)) 20 120) (V : zTry E) (Y : zWr E (aR a ++ aR b ++ [qb, qv, qc])) (hGx : Gx S p p2 fB fV fC sc tk x y z G) : Wz E 0 0 523 [some (.ref (a 0)), some (.ref (b 0)), some (.ref qb), some (.ref qv), some (.ref qc), some (.int v5), some (.int v6), some (.int (nI k7)), some (.int (nI g)), none, none, none, none, none] [] (wA t a b (T6 S p) (T6 S p2) qb qv qc fB fV fC) := by
  obtain ⟨h, hT1, hT2, hCt, hB, hV, hC⟩ := hGx
  have hX := K_X h
  have hG := K_G h
  have hp8 := p8_le G hG
  have hw : wk S (l3 x y z) G < 256 := wkN_lt 64
  refine z_iload X dL_acts_523 rfl ?_
  refine z_bipush (v := nI 6) X dL_acts_525 (by decide) ?_
  refine z_callS1 (k := 0) (n := 0) (st := []) X (c_L_low l D t v6 6 (by decide) (by decide)) k_L_low q_ml_L_129 [] ⟨by decide, rfl⟩ (by decide) rfl rfl rfl (Nat.le_of_ble_eq_true rfl) ⟨by omega, by omega⟩ dL_acts_527 (fun r527 h527 => ?_)
  subst h527
  have hl527 : lo v6 6 < 6 := lo_lt (by decide)
  obtain ⟨w9, hw9, e9⟩ : ∃ w9, w9 < 6 ∧ lo v6 6 = w9 := ⟨_, lo_lt (by decide), rfl⟩
  refine z_top (y := nI w9) (congrArg nI e9) ?_
  refine z_istore X dL_acts_530 (Nat.le_of_ble_eq_true rfl) ?_
  refine z_lv (lv' := [some (.ref (a 0)), some (.ref (b 0)), some (.ref qb), some (.ref qv), some (.ref qc), some (.int v5), some (.int v6), some (.int (nI k7)), some (.int (nI g)), some (.int (nI w9)), none, none, none, none]) rfl ?_
  refine z_aload_n X dL_acts_532 rfl rfl ?_
  refine z_iconst (v := nI 4) X dL_acts_533 (by decide) ?_
  refine z_iload X dL_acts_534 rfl ?_
  refine n_imul X dL_acts_536 ?_
  refine z_iload X dL_acts_537 rfl ?_
  refine z_iconst (v := nI 3) X dL_acts_539 (by decide) ?_
  refine z_ishr X dL_acts_540 ?_
  refine z_bipush (v := nI 101) X dL_acts_541 (by decide) ?_
  refine z_callS1 (k := 0) (n := 0) (st := [.int (nI (4 * w9)), .ref qv]) X (c_L_low l D t (v6 >>> (nI 3 &&& 31)) 101 (by decide) (by decide)) k_L_low q_ml_L_129 [] ⟨by decide, rfl⟩ (by decide) rfl rfl rfl (Nat.le_of_ble_eq_true rfl) ⟨by omega, by omega⟩ dL_acts_543 (fun r543 h543 => ?_)
  subst h543
  have hl543 : lo (v6 >>> (nI 3 &&& 31)) 101 < 101 := lo_lt (by decide)
  refine z_bipush (v := nI 50) X dL_acts_546 (by decide) ?_
  refine z_isub X dL_acts_548 ?_
  refine n_iast X Y 49 aA_eq rfl (by omega) (by decide) dL_acts_549 ?_
  refine Wz.eq (uA_V (f := upd fV (4 * w9) (nI (lo (v6 >>> (nI 3 &&& 31)) 101) - nI 50))) ?_
  refine z_aload_n X dL_acts_550 rfl rfl ?_
  refine z_iconst (v := nI 4) X dL_acts_551 (by decide) ?_
  refine z_iload X dL_acts_552 rfl ?_
  refine n_imul X dL_acts_554 ?_
  refine z_iconst (v := nI 1) X dL_acts_555 (by decide) ?_
  refine n_iadd X dL_acts_556 ?_
  refine z_iload X dL_acts_557 rfl ?_
  refine z_bipush (v := nI 9) X dL_acts_559 (by decide) ?_
  refine z_ishr X dL_acts_561 ?_
  refine z_iconst (v := nI 5) X dL_acts_562 (by decide) ?_
  refine z_callS1 (k := 0) (n := 0) (st := [.int (nI ((4 * w9) + 1)), .ref qv]) X (c_L_low l D t (v6 >>> (nI 9 &&& 31)) 5 (by decide) (by decide)) k_L_low q_ml_L_129 [] ⟨by decide, rfl⟩ (by decide) rfl rfl rfl (Nat.le_of_ble_eq_true rfl) ⟨by omega, by omega⟩ dL_acts_563 (fun r563 h563 => ?_)
  subst h563
  have hl563 : lo (v6 >>> (nI 9 &&& 31)) 5 < 5 := lo_lt (by decide)
  refine z_iconst (v := nI 1) X dL_acts_566 (by decide) ?_
  refine z_isub X dL_acts_567 ?_
  refine n_iast X Y 49 aA_eq rfl (by omega) (by decide) dL_acts_568 ?_
  refine Wz.eq (uA_V (f := upd (upd fV (4 * w9) (nI (lo (v6 >>> (nI 3 &&& 31)) 101) - nI 50)) ((4 * w9) + 1) (nI (lo (v6 >>> (nI 9 &&& 31)) 5) - nI 1))) ?_
  refine z_aload_n X dL_acts_569 rfl rfl ?_
  refine z_iconst (v := nI 4) X dL_acts_570 (by decide) ?_
  refine z_iload X dL_acts_571 rfl ?_
  refine n_imul X dL_acts_573 ?_
  refine z_iconst (v := nI 2) X dL_acts_574 (by decide) ?_
  refine n_iadd X dL_acts_575 ?_
  refine z_iload X dL_acts_576 rfl ?_
  refine z_bipush (v := nI 12) X dL_acts_578 (by decide) ?_
  refine z_ishr X dL_acts_580 ?_
  refine z_iconst (v := nI 4) X dL_acts_581 (by decide) ?_
  refine z_callS1 (k := 0) (n := 0) (st := [.int (nI ((4 * w9) + 2)), .ref qv]) X (c_L_low l D t (v6 >>> (nI 12 &&& 31)) 4 (by decide) (by decide)) k_L_low q_ml_L_129 [] ⟨by decide, rfl⟩ (by decide) rfl rfl rfl (Nat.le_of_ble_eq_true rfl) ⟨by omega, by omega⟩ dL_acts_582 (fun r582 h582 => ?_)
  subst h582
  have hl582 : lo (v6 >>> (nI 12 &&& 31)) 4 < 4 := lo_lt (by decide)
  refine z_iconst (v := nI 1) X dL_acts_585 (by decide) ?_
  refine z_isub X dL_acts_586 ?_
  refine n_iast X Y 49 aA_eq rfl (by omega) (by decide) dL_acts_587 ?_
  refine Wz.eq (uA_V (f := upd (upd (upd fV (4 * w9) (nI (lo (v6 >>> (nI 3 &&& 31)) 101) - nI 50)) ((4 * w9) + 1) (nI (lo (v6 >>> (nI 9 &&& 31)) 5) - nI 1)) ((4 * w9) + 2) (nI (lo (v6 >>> (nI 12 &&& 31)) 4) - nI 1))) ?_
  refine z_aload_n X dL_acts_588 rfl rfl ?_
  refine z_iconst (v := nI 4) X dL_acts_589 (by decide) ?_
  refine z_iload X dL_acts_590 rfl ?_
  refine n_imul X dL_acts_592 ?_
  refine z_iconst (v := nI 3) X dL_acts_593 (by decide) ?_
  refine n_iadd X dL_acts_594 ?_
  refine z_iload X dL_acts_595 rfl ?_
  refine z_bipush (v := nI 14) X dL_acts_597 (by decide) ?_
  refine z_ishr X dL_acts_599 ?_
  refine z_bipush (v := nI 7) X dL_acts_600 (by decide) ?_
  refine z_callS1 (k := 0) (n := 0) (st := [.int (nI ((4 * w9) + 3)), .ref qv]) X (c_L_low l D t (v6 >>> (nI 14 &&& 31)) 7 (by decide) (by decide)) k_L_low q_ml_L_129 [] ⟨by decide, rfl⟩ (by decide) rfl rfl rfl (Nat.le_of_ble_eq_true rfl) ⟨by omega, by omega⟩ dL_acts_602 (fun r602 h602 => ?_)
  subst h602
  have hl602 : lo (v6 >>> (nI 14 &&& 31)) 7 < 7 := lo_lt (by decide)
  refine z_iconst (v := nI 1) X dL_acts_605 (by decide) ?_
  refine z_isub X dL_acts_606 ?_
  refine n_iast X Y 49 aA_eq rfl (by omega) (by decide) dL_acts_607 ?_
  refine Wz.eq (uA_V (f := upd (upd (upd (upd fV (4 * w9) (nI (lo (v6 >>> (nI 3 &&& 31)) 101) - nI 50)) ((4 * w9) + 1) (nI (lo (v6 >>> (nI 9 &&& 31)) 5) - nI 1)) ((4 * w9) + 2) (nI (lo (v6 >>> (nI 12 &&& 31)) 4) - nI 1)) ((4 * w9) + 3) (nI (lo (v6 >>> (nI 14 &&& 31)) 7) - nI 1))) ?_
  refine Wz.eq (ws' := wA t a b (T6 S p) (T6 S p2) qb qv qc fB (va4 fV w9 (nI (lo (v6 >>> (nI 3 &&& 31)) 101) - nI 50) (nI (lo (v6 >>> (nI 9 &&& 31)) 5) - nI 1) (nI (lo (v6 >>> (nI 12 &&& 31)) 4) - nI 1) (nI (lo (v6 >>> (nI 14 &&& 31)) 7) - nI 1)) fC) rfl ?_
  have h1 : va1 (nI w9) (nI (lo (v6 >>> (nI 9 &&& 31)) 5) - nI 1) (nI (lo (v6 >>> (nI 12 &&& 31)) 4) - nI 1) (nI (lo (v6 >>> (nI 14 &&& 31)) 7) - nI 1) := ⟨am_n hw9, zo_sub1 (lo_lt (by decide)), zo_sub1 (lo_lt (by decide)), zo_sub1 (lo_lt (by decide))⟩
  have h2 : va2 (nI (lo (v6 >>> (nI 3 &&& 31)) 101) - nI 50) := rg_50 _ (lo_lt (by decide))
  have hK : zKs (vaS S w9 (nI (lo (v6 >>> (nI 3 &&& 31)) 101) - nI 50) (nI (lo (v6 >>> (nI 9 &&& 31)) 5) - nI 1) (nI (lo (v6 >>> (nI 12 &&& 31)) 4) - nI 1) (nI (lo (v6 >>> (nI 14 &&& 31)) 7) - nI 1)) sc x y z G := K_va h h1
  refine z_aload_n X dL_acts_608 rfl rfl ?_
  refine z_iload X dL_acts_609 rfl ?_
  refine z_aload_n X dL_acts_611 rfl rfl ?_
  refine z_iconst (v := nI 4) X dL_acts_612 (by decide) ?_
  refine z_iload X dL_acts_613 rfl ?_
  refine n_imul X dL_acts_615 ?_
  refine n_iald (f := va4 fV w9 (nI (lo (v6 >>> (nI 3 &&& 31)) 101) - nI 50) (nI (lo (v6 >>> (nI 9 &&& 31)) 5) - nI 1) (nI (lo (v6 >>> (nI 12 &&& 31)) 4) - nI 1) (nI (lo (v6 >>> (nI 14 &&& 31)) 7) - nI 1)) X 49 rfl (by omega) (by decide) dL_acts_616 ?_
  refine z_top (y := nI (lo (v6 >>> (nI 3 &&& 31)) 101) - nI 50) (va4_0) ?_
  refine z_aload_n X dL_acts_617 rfl rfl ?_
  refine z_iconst (v := nI 4) X dL_acts_618 (by decide) ?_
  refine z_iload X dL_acts_619 rfl ?_
  refine n_imul X dL_acts_621 ?_
  refine z_iconst (v := nI 1) X dL_acts_622 (by decide) ?_
  refine n_iadd X dL_acts_623 ?_
  refine n_iald (f := va4 fV w9 (nI (lo (v6 >>> (nI 3 &&& 31)) 101) - nI 50) (nI (lo (v6 >>> (nI 9 &&& 31)) 5) - nI 1) (nI (lo (v6 >>> (nI 12 &&& 31)) 4) - nI 1) (nI (lo (v6 >>> (nI 14 &&& 31)) 7) - nI 1)) X 49 rfl (by omega) (by decide) dL_acts_624 ?_
  refine z_top (y := nI (lo (v6 >>> (nI 9 &&& 31)) 5) - nI 1) (va4_1) ?_
  refine z_aload_n X dL_acts_625 rfl rfl ?_
  refine z_iconst (v := nI 4) X dL_acts_626 (by decide) ?_
  refine z_iload X dL_acts_627 rfl ?_
  refine n_imul X dL_acts_629 ?_
  refine z_iconst (v := nI 2) X dL_acts_630 (by decide) ?_
  refine n_iadd X dL_acts_631 ?_
  refine n_iald (f := va4 fV w9 (nI (lo (v6 >>> (nI 3 &&& 31)) 101) - nI 50) (nI (lo (v6 >>> (nI 9 &&& 31)) 5) - nI 1) (nI (lo (v6 >>> (nI 12 &&& 31)) 4) - nI 1) (nI (lo (v6 >>> (nI 14 &&& 31)) 7) - nI 1)) X 49 rfl (by omega) (by decide) dL_acts_632 ?_
  refine z_top (y := nI (lo (v6 >>> (nI 12 &&& 31)) 4) - nI 1) (va4_2) ?_
  refine z_aload_n X dL_acts_633 rfl rfl ?_
  refine z_iconst (v := nI 4) X dL_acts_634 (by decide) ?_
  refine z_iload X dL_acts_635 rfl ?_
  refine n_imul X dL_acts_637 ?_
  refine z_iconst (v := nI 3) X dL_acts_638 (by decide) ?_
  refine n_iadd X dL_acts_639 ?_
  refine n_iald (f := va4 fV w9 (nI (lo (v6 >>> (nI 3 &&& 31)) 101) - nI 50) (nI (lo (v6 >>> (nI 9 &&& 31)) 5) - nI 1) (nI (lo (v6 >>> (nI 12 &&& 31)) 4) - nI 1) (nI (lo (v6 >>> (nI 14 &&& 31)) 7) - nI 1)) X 49 rfl (by omega) (by decide) dL_acts_640 ?_
  refine z_top (y := nI (lo (v6 >>> (nI 14 &&& 31)) 7) - nI 1) (va4_3) ?_
  refine z_w7 (k := 0) (n := 0) (k' := 1) (n' := 6) (st := []) X Y aA_eq V (fun sz => w_setValue l hfl D t a p hw9 h1 h2 sz) kw_setValue q_ml_L_141 is24 ⟨by decide, rfl⟩ (fun u => wA t a b (T6 (vaS S w9 (nI (lo (v6 >>> (nI 3 &&& 31)) 101) - nI 50) (nI (lo (v6 >>> (nI 9 &&& 31)) 5) - nI 1) (nI (lo (v6 >>> (nI 12 &&& 31)) 4) - nI 1) (nI (lo (v6 >>> (nI 14 &&& 31)) 7) - nI 1)) p) (T6 S p2) qb qv qc fB (va4 fV w9 (nI (lo (v6 >>> (nI 3 &&& 31)) 101) - nI 50) (nI (lo (v6 >>> (nI 9 &&& 31)) 5) - nI 1) (nI (lo (v6 >>> (nI 12 &&& 31)) 4) - nI 1) (nI (lo (v6 >>> (nI 14 &&& 31)) 7) - nI 1)) fC) (fun u => ⟨⟨by decide, rfl⟩, ⟨by decide, rfl⟩, rfl, rfl⟩) (by decide) (by decide) rfl rfl rfl (Nat.le_of_ble_eq_true rfl) ⟨by omega, by omega⟩ ⟨by omega, by omega⟩ dL_acts_641 (fun r641 u641 h641 => ?_)
  subst h641
  refine n_if_ne (tgt := 722) X dL_acts_644 (by decide) (by omega) (fun c644 => absurd c644 (by decide)) (fun _ => ?_)
  refine z_aload_n X dL_acts_647 rfl rfl ?_
  refine z_iload X dL_acts_648 rfl ?_
  refine z_aload_n X dL_acts_650 rfl rfl ?_
  refine z_iconst (v := nI 4) X dL_acts_651 (by decide) ?_
  refine z_iload X dL_acts_652 rfl ?_
  refine n_imul X dL_acts_654 ?_
  refine n_iald (f := va4 fV w9 (nI (lo (v6 >>> (nI 3 &&& 31)) 101) - nI 50) (nI (lo (v6 >>> (nI 9 &&& 31)) 5) - nI 1) (nI (lo (v6 >>> (nI 12 &&& 31)) 4) - nI 1) (nI (lo (v6 >>> (nI 14 &&& 31)) 7) - nI 1)) X 49 rfl (by omega) (by decide) dL_acts_655 ?_
  refine z_top (y := nI (lo (v6 >>> (nI 3 &&& 31)) 101) - nI 50) (va4_0) ?_
  refine z_aload_n X dL_acts_656 rfl rfl ?_
  refine z_iconst (v := nI 4) X dL_acts_657 (by decide) ?_
  refine z_iload X dL_acts_658 rfl ?_
  refine n_imul X dL_acts_660 ?_
  refine z_iconst (v := nI 1) X dL_acts_661 (by decide) ?_
  refine n_iadd X dL_acts_662 ?_
  refine n_iald (f := va4 fV w9 (nI (lo (v6 >>> (nI 3 &&& 31)) 101) - nI 50) (nI (lo (v6 >>> (nI 9 &&& 31)) 5) - nI 1) (nI (lo (v6 >>> (nI 12 &&& 31)) 4) - nI 1) (nI (lo (v6 >>> (nI 14 &&& 31)) 7) - nI 1)) X 49 rfl (by omega) (by decide) dL_acts_663 ?_
  refine z_top (y := nI (lo (v6 >>> (nI 9 &&& 31)) 5) - nI 1) (va4_1) ?_
  refine z_aload_n X dL_acts_664 rfl rfl ?_
  refine z_iconst (v := nI 4) X dL_acts_665 (by decide) ?_
  refine z_iload X dL_acts_666 rfl ?_
  refine n_imul X dL_acts_668 ?_
  refine z_iconst (v := nI 2) X dL_acts_669 (by decide) ?_
  refine n_iadd X dL_acts_670 ?_
  refine n_iald (f := va4 fV w9 (nI (lo (v6 >>> (nI 3 &&& 31)) 101) - nI 50) (nI (lo (v6 >>> (nI 9 &&& 31)) 5) - nI 1) (nI (lo (v6 >>> (nI 12 &&& 31)) 4) - nI 1) (nI (lo (v6 >>> (nI 14 &&& 31)) 7) - nI 1)) X 49 rfl (by omega) (by decide) dL_acts_671 ?_
  refine z_top (y := nI (lo (v6 >>> (nI 12 &&& 31)) 4) - nI 1) (va4_2) ?_
  refine z_aload_n X dL_acts_672 rfl rfl ?_
  refine z_iconst (v := nI 4) X dL_acts_673 (by decide) ?_
  refine z_iload X dL_acts_674 rfl ?_
  refine n_imul X dL_acts_676 ?_
  refine z_iconst (v := nI 3) X dL_acts_677 (by decide) ?_
  refine n_iadd X dL_acts_678 ?_
  refine n_iald (f := va4 fV w9 (nI (lo (v6 >>> (nI 3 &&& 31)) 101) - nI 50) (nI (lo (v6 >>> (nI 9 &&& 31)) 5) - nI 1) (nI (lo (v6 >>> (nI 12 &&& 31)) 4) - nI 1) (nI (lo (v6 >>> (nI 14 &&& 31)) 7) - nI 1)) X 49 rfl (by omega) (by decide) dL_acts_679 ?_
  refine z_top (y := nI (lo (v6 >>> (nI 14 &&& 31)) 7) - nI 1) (va4_3) ?_
  refine z_w7 (k := 1) (n := 6) (k' := 2) (n' := 12) (st := []) X Y aA_eq V (fun sz => w_setValue l hfl D t b p2 hw9 h1 h2 sz) kw_setValue q_ml_L_141 is24t ⟨by decide, rfl⟩ (fun u => wA t a b (T6 (vaS S w9 (nI (lo (v6 >>> (nI 3 &&& 31)) 101) - nI 50) (nI (lo (v6 >>> (nI 9 &&& 31)) 5) - nI 1) (nI (lo (v6 >>> (nI 12 &&& 31)) 4) - nI 1) (nI (lo (v6 >>> (nI 14 &&& 31)) 7) - nI 1)) p) (T6 (vaS S w9 (nI (lo (v6 >>> (nI 3 &&& 31)) 101) - nI 50) (nI (lo (v6 >>> (nI 9 &&& 31)) 5) - nI 1) (nI (lo (v6 >>> (nI 12 &&& 31)) 4) - nI 1) (nI (lo (v6 >>> (nI 14 &&& 31)) 7) - nI 1)) p2) qb qv qc fB (va4 fV w9 (nI (lo (v6 >>> (nI 3 &&& 31)) 101) - nI 50) (nI (lo (v6 >>> (nI 9 &&& 31)) 5) - nI 1) (nI (lo (v6 >>> (nI 12 &&& 31)) 4) - nI 1) (nI (lo (v6 >>> (nI 14 &&& 31)) 7) - nI 1)) fC) (fun u => ⟨⟨by decide, rfl⟩, ⟨by decide, rfl⟩, rfl, rfl⟩) (by decide) (by decide) rfl rfl rfl (Nat.le_of_ble_eq_true rfl) ⟨by omega, by omega⟩ ⟨by omega, by omega⟩ dL_acts_680 (fun r680 u680 h680 => ?_)
  subst h680
  refine n_if_ne (tgt := 722) X dL_acts_683 (by decide) (by omega) (fun c683 => absurd c683 (by decide)) (fun _ => ?_)
  refine z_aload_n X dL_acts_686 rfl rfl ?_
  refine z_iload X dL_acts_687 rfl ?_
  refine z_bipush (v := nI 51) X dL_acts_689 (by decide) ?_
  refine z_iconst (v := (-1)) X dL_acts_691 (by decide) ?_
  refine z_iconst (v := (-1)) X dL_acts_692 (by decide) ?_
  refine z_iconst (v := (-1)) X dL_acts_693 (by decide) ?_
  refine z_w7 (k := 2) (n := 12) (k' := 3) (n' := 18) (st := []) X Y aA_eq V (fun sz => w_setValue_A l hfl D t a p ⟨am_n hw9, Or.inl rfl, Or.inl rfl, Or.inl rfl⟩ (by unfold va2; decide +kernel) sz) kw_setValue q_ml_L_141 is24 ⟨by decide, rfl⟩ (fun u => wA t a b (T6 (vaS S w9 (nI (lo (v6 >>> (nI 3 &&& 31)) 101) - nI 50) (nI (lo (v6 >>> (nI 9 &&& 31)) 5) - nI 1) (nI (lo (v6 >>> (nI 12 &&& 31)) 4) - nI 1) (nI (lo (v6 >>> (nI 14 &&& 31)) 7) - nI 1)) p) (T6 (vaS S w9 (nI (lo (v6 >>> (nI 3 &&& 31)) 101) - nI 50) (nI (lo (v6 >>> (nI 9 &&& 31)) 5) - nI 1) (nI (lo (v6 >>> (nI 12 &&& 31)) 4) - nI 1) (nI (lo (v6 >>> (nI 14 &&& 31)) 7) - nI 1)) p2) qb qv qc fB (va4 fV w9 (nI (lo (v6 >>> (nI 3 &&& 31)) 101) - nI 50) (nI (lo (v6 >>> (nI 9 &&& 31)) 5) - nI 1) (nI (lo (v6 >>> (nI 12 &&& 31)) 4) - nI 1) (nI (lo (v6 >>> (nI 14 &&& 31)) 7) - nI 1)) fC) (fun u => ⟨⟨by decide, rfl⟩, ⟨by decide, rfl⟩, rfl, rfl⟩) (by decide) (by decide) rfl rfl rfl (Nat.le_of_ble_eq_true rfl) ⟨by omega, by omega⟩ ⟨by omega, by omega⟩ dL_acts_694 (fun r694 u694 h694 => ?_)
  subst h694
  refine z_ldci X q_k_L_21 dL_acts_697 ?_
  refine z_icmp_ne (tgt := 722) X dL_acts_699 (by decide) (fun c699 => absurd c699 (by decide)) (fun _ => ?_)
  refine z_aload_n X dL_acts_702 rfl rfl ?_
  refine z_iload X dL_acts_703 rfl ?_
  refine z_bipush (v := nI 51) X dL_acts_705 (by decide) ?_
  refine z_iconst (v := (-1)) X dL_acts_707 (by decide) ?_
  refine z_iconst (v := nI 3) X dL_acts_708 (by decide) ?_
  refine z_iconst (v := (-1)) X dL_acts_709 (by decide) ?_
  refine z_w7 (k := 3) (n := 18) (k' := 4) (n' := 24) (st := []) X Y aA_eq V (fun sz => w_setValue_I l hfl D t a p (fun q => zo_no (by decide) (by decide) (by decide) q.2.2.1) sz) kw_setValue q_ml_L_141 is24 ⟨by decide, rfl⟩ (fun u => wA t a b (T6 (vaS S w9 (nI (lo (v6 >>> (nI 3 &&& 31)) 101) - nI 50) (nI (lo (v6 >>> (nI 9 &&& 31)) 5) - nI 1) (nI (lo (v6 >>> (nI 12 &&& 31)) 4) - nI 1) (nI (lo (v6 >>> (nI 14 &&& 31)) 7) - nI 1)) p) (T6 (vaS S w9 (nI (lo (v6 >>> (nI 3 &&& 31)) 101) - nI 50) (nI (lo (v6 >>> (nI 9 &&& 31)) 5) - nI 1) (nI (lo (v6 >>> (nI 12 &&& 31)) 4) - nI 1) (nI (lo (v6 >>> (nI 14 &&& 31)) 7) - nI 1)) p2) qb qv qc fB (va4 fV w9 (nI (lo (v6 >>> (nI 3 &&& 31)) 101) - nI 50) (nI (lo (v6 >>> (nI 9 &&& 31)) 5) - nI 1) (nI (lo (v6 >>> (nI 12 &&& 31)) 4) - nI 1) (nI (lo (v6 >>> (nI 14 &&& 31)) 7) - nI 1)) fC) (fun u => ⟨⟨by decide, rfl⟩, ⟨by decide, rfl⟩, rfl, rfl⟩) (by decide) (by decide) rfl rfl rfl (Nat.le_of_ble_eq_true rfl) ⟨by omega, by omega⟩ ⟨by omega, by omega⟩ dL_acts_710 (fun r710 u710 h710 => ?_)
  subst h710
  refine z_ldci X q_k_L_18 dL_acts_713 ?_
  refine z_icmp_ne (tgt := 722) X dL_acts_715 (by decide) (fun c715 => absurd c715 (by decide)) (fun _ => ?_)
  refine z_iconst (v := nI 1) X dL_acts_718 (by decide) ?_
  refine z_goto (tgt := 723) X dL_acts_719 (by decide) ?_
  refine Wz.wide (k' := 20) (n' := 120) (by omega) (by omega) ?_
  refine z_iret X Z (by decide +kernel) dL_acts_723 ?_
  exact ⟨(vaS S w9 (nI (lo (v6 >>> (nI 3 &&& 31)) 101) - nI 50) (nI (lo (v6 >>> (nI 9 &&& 31)) 5) - nI 1) (nI (lo (v6 >>> (nI 12 &&& 31)) 4) - nI 1) (nI (lo (v6 >>> (nI 14 &&& 31)) 7) - nI 1), p, p2, fB, va4 fV w9 (nI (lo (v6 >>> (nI 3 &&& 31)) 101) - nI 50) (nI (lo (v6 >>> (nI 9 &&& 31)) 5) - nI 1) (nI (lo (v6 >>> (nI 12 &&& 31)) 4) - nI 1) (nI (lo (v6 >>> (nI 14 &&& 31)) 7) - nI 1), fC), ⟨rfl, sc, tk, x, y, z, G, hK, hT1, hT2, hCt, LB_va hB, LV_va hV, hC⟩, fun q hq => hq⟩
