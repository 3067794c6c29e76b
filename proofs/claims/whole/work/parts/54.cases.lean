theorem ex1 {n : Nat} {g : Int32} {Q : Nat → Prop} (h : ∃ k, k < n ∧ g = nI k ∧ Q k) : am g n := by
  obtain ⟨k, hk, hg, -⟩ := h
  exact ⟨k, hk, hg⟩
theorem ex2 {n : Nat} {g o : Int32} {Q : Nat → Nat → Prop} (h : ∃ k j, k < n ∧ j < n ∧ g = nI k ∧ o = nI j ∧ Q k j) : am g n ∧ am o n := by
  obtain ⟨k, j, hk, hj, hg, ho, -⟩ := h
  exact ⟨⟨k, hk, hg⟩, ⟨j, hj, ho⟩⟩
theorem sc1 {g v : Int32} {Q : Nat → Nat → Prop} (h : ∃ k j, k < 4 ∧ g = nI k ∧ 8 ≤ j ∧ j ≤ 16 ∧ v = nI j ∧ Q k j) : am g 4 := by
  obtain ⟨k, j, hk, hg, -⟩ := h
  exact ⟨k, hk, hg⟩
theorem sc2 {g v : Int32} {Q : Nat → Nat → Prop} (h : ∃ k j, k < 4 ∧ g = nI k ∧ 8 ≤ j ∧ j ≤ 16 ∧ v = nI j ∧ Q k j) : rg v (nI 8) (nI 16) := by
  obtain ⟨k, j, hk, hg, h8, h16, hv, -⟩ := h
  exact rg_of h8 h16 (by decide) hv
theorem sc3 {g v : Int32} {sc : Nat → Nat} (h : ∃ k j, k < 4 ∧ g = nI k ∧ 8 ≤ j ∧ j ≤ 16 ∧ v = nI j ∧ 20 < cs4 (scU sc k j)) : ¬ ∃ k j, k < 4 ∧ g = nI k ∧ 8 ≤ j ∧ j ≤ 16 ∧ v = nI j ∧ cs4 (scU sc k j) ≤ 20 := by
  rintro ⟨k, j, hk, hg, h8, h16, hv, hc⟩
  obtain ⟨k2, j2, hk2, hg2, h82, h162, hv2, hc2⟩ := h
  have ek : k = k2 := zn_inj (by omega) (by omega) (hg.symm.trans hg2)
  have ej : j = j2 := zn_inj (by omega) (by omega) (hv.symm.trans hv2)
  subst ek ej
  omega
theorem neg0 {w : Nat} {v : Int32} (hw : w < 2 ^ 31) (hv : v = nI w) : ¬ v < 0 := by rw [hv]; exact nI_pos hw
theorem chR {S : zS} {x y z s : Nat} {e : Nat → Int32} {v : Int32} (h : ∃ k, k < 6 ∧ v = nI k ∧ ¬ ch (T3 S x y z s e) (nI k) 6 = -1) : ¬ ∃ k, k < 6 ∧ v = nI k ∧ ch S (nI k) 6 = -1 := by
  refine exn (Q := fun k => ch S (nI k) 6 = -1) (by decide) ?_
  obtain ⟨k, hk, hv, h⟩ := h
  exact ⟨k, hk, hv, fun q => h ((ch_ag Ag_T3 _ _).trans q)⟩
theorem chM {S : zS} {f g : Nat → Int32} {v : Int32} (h : ∃ k, k < 6 ∧ v = nI k ∧ ¬ ch (va_up (va_up S 22 f) 23 g) (nI k) 6 = -1) : ¬ ∃ k, k < 6 ∧ v = nI k ∧ ch S (nI k) 6 = -1 := by
  refine exn (Q := fun k => ch S (nI k) 6 = -1) (by decide) ?_
  obtain ⟨k, hk, hv, h⟩ := h
  exact ⟨k, hk, hv, fun q => h ((ch_ag Ag_M2 _ _).trans q)⟩
theorem exn2M {S : zS} {f g : Nat → Int32} {v v2 : Int32} {X Y Z G : Nat} (h : ∃ k j, k < 8 ∧ j < 8 ∧ v = nI k ∧ v2 = nI j ∧ ¬ (G.testBit k = true ∧ G.testBit j = false ∧ Rc (va_up (va_up S 22 f) 23 g) X Y Z (exN G k j) 0 0 0 0)) : ¬ ∃ k j, k < 8 ∧ j < 8 ∧ v = nI k ∧ v2 = nI j ∧ G.testBit k = true ∧ G.testBit j = false ∧ Rc S X Y Z (exN G k j) 0 0 0 0 := by
  refine exn2 (Q := fun k j => G.testBit k = true ∧ G.testBit j = false ∧ Rc S X Y Z (exN G k j) 0 0 0 0) (by decide) ?_
  obtain ⟨k, j, hk, hj, hv, hv2, h⟩ := h
  exact ⟨k, j, hk, hj, hv, hv2, fun q => h ⟨q.1, q.2.1, (Rc_mt (mt_ag Ag_M2)).mpr q.2.2⟩⟩
theorem stp_eq {S S2 : zS} {X Y Z G w N : Nat} {r r2 : Int32} (h : ∀ x y z s j, mt S2 x y z s j ↔ mt S x y z s j) (d1 : (N ≤ w ∧ r = -1) ∨ (w < N ∧ ∃ c k, pth S X Y Z G w c ∧ lead S X Y Z G c k ∧ r = nI (cnv k))) (d2 : (N ≤ w ∧ r2 = -1) ∨ (w < N ∧ ∃ c k, pth S2 X Y Z G w c ∧ lead S2 X Y Z G c k ∧ r2 = nI (cnv k))) : r = r2 := by
  rcases d1 with ⟨h1, e1⟩ | ⟨h1, c, k, p1, l1, e1⟩ <;> rcases d2 with ⟨h2, e2⟩ | ⟨h2, c2, k2, p2, l2, e2⟩
  · rw [e1, e2]
  · omega
  · omega
  · have ec := pth_u w c c2 p1 (pth_mt h w c2 p2)
    subst ec
    have ek := lead_u l1 (lead_mt h l2)
    subst ek
    rw [e1, e2]
section ZC6
variable {E : zE} {k n i : Nat} {D : va_G} {t : ClassId × ClassId × ClassId} {l : Launch} {a b : Nat → Nat} {o bs L : Nat} {xs : Nat → Int32}
set_option maxHeartbeats 4000000 in
set_option maxRecDepth 10000 in
theorem lw_setScore (X : zX E RL code 7 (zRm 64 601024 7293034) D t l) (Y : zWr E (aR a ++ aM b ++ [o])) (V : zTry E) (hX : va_X bs L xs (zs E) (zs E).heap) (hbl : bs < (zs E).heap.size) (hbA : ¬ zA E bs) (hL : L ≤ 3584) (hi : i + 6 < L) (hfl : l.stackTraces = false) (hk : k + 1 ≤ 601024) (hn : n + 6 ≤ 7293034) (kk : HL E t a b o bs (k + 1) (n + 6) 1208 i) : HL E t a b o bs k n 462 i := by
  intro S sc tk m G x y z s e f g q hI
  obtain ⟨h1, h2, h3, h4, h5, h6, h7, h8, h9⟩ := id hI
  have hX3 := ctk_sum m (fun j hj => (h8 j hj).1)
  refine Wz.eq (ws' := wN t a b o (T3 S x y z s e) (va_up (va_up S 22 f) 23 g) q) rfl ?_
  refine z_aload_n X dL_law_462 rfl rfl ?_
  refine z_arg (j := 1) X hX hbl hbA hL rfl rfl (by omega) rfl dL_law_463 dL_law_464 dL_law_466 dL_law_467 dL_law_468 ?_
  refine z_arg (j := 2) X hX hbl hbA hL rfl rfl (by omega) rfl dL_law_469 dL_law_470 dL_law_472 dL_law_473 dL_law_474 ?_
  refine z_aload_n X dL_law_475 rfl rfl ?_
  refine z_callW (np := 4) X Y nN V (fun sz => c_L_setScore l hfl D t sz a (T3 S x y z s e) sc (xs (i + 1)) (xs (i + 2)) h2 h3 o q) q_st_L_setScore q_in_L q_cw_L_setScore (by decide +kernel) (by decide) q_ml_L_94 [0, 1, 2, 3, 4, 5, 6, 7, 8, 9, 10, 11, 12, 13, 14, 15, 16, 17, 18, 19, 20, 21, 22, 23, 43] lpNo (fun w9 => wN t a b o w9.1 (va_up (va_up S 22 f) 23 g) w9.2) (fun w9 => lsNo) (by decide) rfl rfl rfl (Nat.le_of_ble_eq_true rfl) ⟨hk, hn⟩ dL_law_476 (fun r1 w9 e1 => ?_)
  obtain ⟨w8, q8⟩ := w9
  dsimp only at e1
  refine z_istore X dL_law_479 (by decide : 5 < 7) ?_
  refine z_lv (lv' := [some (.ref bs), some (.ref (a 0)), some (.ref (b 0)), some (.ref o), some (.int (nI i)), some (.int r1), none]) rfl ?_
  refine z_aload_n X dL_law_481 rfl rfl ?_
  refine z_arg (j := 1) X hX hbl hbA hL rfl rfl (by omega) rfl dL_law_482 dL_law_483 dL_law_485 dL_law_486 dL_law_487 ?_
  refine z_arg (j := 2) X hX hbl hbA hL rfl rfl (by omega) rfl dL_law_488 dL_law_489 dL_law_491 dL_law_492 dL_law_493 ?_
  refine z_callV2 X Y nN (c_X4_setScore l D t b (va_up (va_up S 22 f) 23 g) sc (xs (i + 1)) (xs (i + 2)) h2 h3) k_X4_setScore q_ml_L_97 [24, 25, 26, 27, 28, 29, 30, 31, 32, 33, 34, 35, 36, 37, 38, 39, 40, 41, 42] (fun u => wN t a b o w8 u q8) (fun u => lsNM) lpNM 24 4 rfl rfl (by decide) rfl rfl rfl (Nat.le_of_ble_eq_true rfl) ⟨hk, hn⟩ dL_law_494 (fun r2 u e2 => ?_)
  refine z_istore X dL_law_497 (by decide : 6 < 7) ?_
  refine z_lv (lv' := [some (.ref bs), some (.ref (a 0)), some (.ref (b 0)), some (.ref o), some (.int (nI i)), some (.int r1), some (.int r2)]) rfl ?_
  have fin : u 23 0 = r1 ∧ (r1 = 0 → q8 0 = r2.toInt64) ∧ FinOk t a b w8 u := by
    rcases e1 with ⟨k1, r9, ⟨u1, u2⟩, ⟨hu, hg, h8, h16, hv, hc9, hr9⟩, rfl, rfl⟩ | ⟨C, u1, hc, k1, rfl, rfl⟩
    · rcases e2 with ⟨k2, j2, hk2, hg2, hj8, hj16, hv2, hc2, hr2, rfl⟩ | ⟨m1, rfl⟩ | ⟨q1, m2, rfl⟩ | ⟨m3, rfl⟩
      · dsimp only at hu hg h8 h16 hv hc9 hr9
        have ek := zn_inj (by omega) (by omega) (hg2.symm.trans hg)
        subst ek
        have ej := zn_inj (by omega) (by omega) (hv2.symm.trans hv)
        subst ej
        exact ⟨k1.symm, fun _ => updL0.trans (by rw [hr9, hr2]), va_up S 14 (upd (S 14) k2 (nI j2)), scU sc k2 j2, tk, m, G, x, y, z, s, e, f, fun _ => nI 0, Iv_sc hI h8 h16 hc9, fun _ _ _ _ h => h⟩
      · exact absurd ⟨_, hu, hg⟩ m1
      · exact absurd (rg_of h8 h16 (by decide) hv) m2
      · exact absurd ⟨_, _, hu, hg, h8, h16, hv, hc9⟩ (sc3 m3)
    · rcases hc with ⟨rfl, n1⟩ | ⟨rfl, p1, n2⟩ | ⟨rfl, n3⟩
      · rcases e2 with ⟨k2, j2, hk2, hg2, hj8, hj16, hv2, hc2, hr2, rfl⟩ | ⟨m1, rfl⟩ | ⟨q1, m2, rfl⟩ | ⟨m3, rfl⟩
        · exact absurd ⟨_, hk2, hg2⟩ n1
        · exact ⟨ifD_I.symm.trans k1.symm, fun h0 => absurd (h0.symm.trans (k1.trans ifD_I)) (by decide +kernel), S, sc, tk, m, G, x, y, z, s, e, f, fun _ => nI 1, hI, fun _ _ _ _ h => h⟩
        · exact absurd q1 n1
        · exact absurd (sc1 m3) n1
      · rcases e2 with ⟨k2, j2, hk2, hg2, hj8, hj16, hv2, hc2, hr2, rfl⟩ | ⟨m1, rfl⟩ | ⟨q1, m2, rfl⟩ | ⟨m3, rfl⟩
        · exact absurd (rg_of hj8 hj16 (by decide) hv2) n2
        · exact absurd p1 m1
        · exact ⟨ifD_A.symm.trans k1.symm, fun h0 => absurd (h0.symm.trans (k1.trans ifD_A)) (by decide +kernel), S, sc, tk, m, G, x, y, z, s, e, f, fun _ => nI 2, hI, fun _ _ _ _ h => h⟩
        · exact absurd (sc2 m3) n2
      · rcases e2 with ⟨k2, j2, hk2, hg2, hj8, hj16, hv2, hc2, hr2, rfl⟩ | ⟨m1, rfl⟩ | ⟨q1, m2, rfl⟩ | ⟨m3, rfl⟩
        · exact absurd ⟨_, _, hk2, hg2, hj8, hj16, hv2, hc2⟩ (sc3 n3)
        · exact absurd (sc1 n3) m1
        · exact absurd (sc2 n3) m2
        · exact ⟨ifD_S.symm.trans k1.symm, fun h0 => absurd (h0.symm.trans (k1.trans ifD_S)) (by decide +kernel), S, sc, tk, m, G, x, y, z, s, e, f, fun _ => nI 3, hI, fun _ _ _ _ h => h⟩
  refine lw_endV X hk hn dL_law_499 dL_law_500 dL_law_503 dL_law_505 fin.1 ?_
  exact lw_endI X dL_law_510 dL_law_512 dL_law_515 dL_law_516 dL_law_517 dL_law_518 dL_law_520 dL_law_521 dL_law_522 dL_law_527 (by decide) fin.2.1 fin.2.2 kk
set_option maxHeartbeats 4000000 in
set_option maxRecDepth 10000 in
theorem lw_takeLevel (X : zX E RL code 7 (zRm 64 601024 7293034) D t l) (Y : zWr E (aR a ++ aM b ++ [o])) (V : zTry E) (hX : va_X bs L xs (zs E) (zs E).heap) (hbl : bs < (zs E).heap.size) (hbA : ¬ zA E bs) (hL : L ≤ 3584) (hi : i + 6 < L) (hfl : l.stackTraces = false) (hk : k + 1 ≤ 601024) (hn : n + 6 ≤ 7293034) (kk : HL E t a b o bs (k + 1) (n + 6) 1208 i) : HL E t a b o bs k n 530 i := by
  intro S sc tk m G x y z s e f g q hI
  obtain ⟨h1, h2, h3, h4, h5, h6, h7, h8, h9⟩ := id hI
  have hX3 := ctk_sum m (fun j hj => (h8 j hj).1)
  refine Wz.eq (ws' := wN t a b o (T3 S x y z s e) (va_up (va_up S 22 f) 23 g) q) rfl ?_
  refine z_aload_n X dL_law_530 rfl rfl ?_
  refine z_arg (j := 1) X hX hbl hbA hL rfl rfl (by omega) rfl dL_law_531 dL_law_532 dL_law_534 dL_law_535 dL_law_536 ?_
  refine z_aload_n X dL_law_537 rfl rfl ?_
  refine z_callW (np := 3) X Y nN V (fun sz => c_L_takeLevel l hfl D t sz a (T3 S x y z s e) m (xs (i + 1)) h4 h5 o q) q_st_L_takeLevel q_in_L q_cw_L_takeLevel (by decide +kernel) (by decide) q_ml_L_98 [0, 1, 2, 3, 4, 5, 6, 7, 8, 9, 10, 11, 12, 13, 14, 15, 16, 17, 18, 19, 20, 21, 22, 23, 43] lpNo (fun w9 => wN t a b o w9.1 (va_up (va_up S 22 f) 23 g) w9.2) (fun w9 => lsNo) (by decide) rfl rfl rfl (Nat.le_of_ble_eq_true rfl) ⟨hk, hn⟩ dL_law_538 (fun r1 w9 e1 => ?_)
  obtain ⟨w8, q8⟩ := w9
  dsimp only at e1
  refine z_istore X dL_law_541 (by decide : 5 < 7) ?_
  refine z_lv (lv' := [some (.ref bs), some (.ref (a 0)), some (.ref (b 0)), some (.ref o), some (.int (nI i)), some (.int r1), none]) rfl ?_
  refine z_aload_n X dL_law_543 rfl rfl ?_
  refine z_arg (j := 1) X hX hbl hbA hL rfl rfl (by omega) rfl dL_law_544 dL_law_545 dL_law_547 dL_law_548 dL_law_549 ?_
  refine z_callV2 X Y nN (c_X4_takeLevel l D t b (va_up (va_up S 22 f) 23 g) m (xs (i + 1)) h4 h5) k_X4_takeLevel q_ml_L_101 [24, 25, 26, 27, 28, 29, 30, 31, 32, 33, 34, 35, 36, 37, 38, 39, 40, 41, 42] (fun u => wN t a b o w8 u q8) (fun u => lsNM) lpNM 24 4 rfl rfl (by decide) rfl rfl rfl (Nat.le_of_ble_eq_true rfl) ⟨hk, hn⟩ dL_law_550 (fun r2 u e2 => ?_)
  refine z_istore X dL_law_553 (by decide : 6 < 7) ?_
  refine z_lv (lv' := [some (.ref bs), some (.ref (a 0)), some (.ref (b 0)), some (.ref o), some (.int (nI i)), some (.int r1), some (.int r2)]) rfl ?_
  have fin : u 23 0 = r1 ∧ (r1 = 0 → q8 0 = r2.toInt64) ∧ FinOk t a b w8 u := by
    rcases e1 with ⟨k1, r9, u1, ⟨hu, hg, hm, hr9⟩, rfl, rfl⟩ | ⟨C, u1, hc, k1, rfl, rfl⟩
    · rcases e2 with ⟨k2, hk2, hg2, hm2, hr2, rfl⟩ | ⟨m1, rfl⟩ | ⟨q1, m2, rfl⟩
      · have ek := zn_inj (by omega) (by omega) (hg2.symm.trans hg)
        subst ek
        have hl : ∀ j, j < 3 → upd (S 15) k2 (S 15 k2 + nI 1) j = l3 (ctk tk m 0 + if k2 = 0 then 1 else 0) (ctk tk m 1 + if k2 = 1 then 1 else 0) (ctk tk m 2 + if k2 = 2 then 1 else 0) j := by rw [h9]; exact l3_up hk2
        exact ⟨k1.symm, fun _ => updL0.trans (by rw [hr9, hr2]), va_up (va_up (va_up S 16 (upd (S 16) m (nI k2))) 17 (fun _ => nI (m + 1))) 15 (l3 (ctk tk m 0 + if k2 = 0 then 1 else 0) (ctk tk m 1 + if k2 = 1 then 1 else 0) (ctk tk m 2 + if k2 = 2 then 1 else 0)), sc, (fun j => if j = m then k2 else tk j), m + 1, G, x, y, z, s, e, f, fun _ => nI 0, Iv_take hI hm hk2, fun _ _ _ _ h => zPset (p := 27) rfl hl (zPset (p := 22) rfl hl h)⟩
      · exact absurd ⟨_, hu, hg⟩ m1
      · exact absurd hm (by omega)
    · rcases hc with ⟨rfl, n1⟩ | ⟨rfl, p1, n2⟩
      · rcases e2 with ⟨k2, hk2, hg2, hm2, hr2, rfl⟩ | ⟨m1, rfl⟩ | ⟨q1, m2, rfl⟩
        · exact absurd ⟨_, hk2, hg2⟩ n1
        · exact ⟨ifC_I.symm.trans k1.symm, fun h0 => absurd (h0.symm.trans (k1.trans ifC_I)) (by decide +kernel), S, sc, tk, m, G, x, y, z, s, e, f, fun _ => nI 1, hI, fun _ _ _ _ h => h⟩
        · exact absurd q1 n1
      · rcases e2 with ⟨k2, hk2, hg2, hm2, hr2, rfl⟩ | ⟨m1, rfl⟩ | ⟨q1, m2, rfl⟩
        · exact absurd hm2 (by omega)
        · exact absurd p1 m1
        · exact ⟨ifC_S.symm.trans k1.symm, fun h0 => absurd (h0.symm.trans (k1.trans ifC_S)) (by decide +kernel), S, sc, tk, m, G, x, y, z, s, e, f, fun _ => nI 2, hI, fun _ _ _ _ h => h⟩
  refine lw_endV X hk hn dL_law_555 dL_law_556 dL_law_559 dL_law_561 fin.1 ?_
  exact lw_endI X dL_law_566 dL_law_568 dL_law_571 dL_law_572 dL_law_573 dL_law_574 dL_law_576 dL_law_577 dL_law_578 dL_law_583 (by decide) fin.2.1 fin.2.2 kk
set_option maxHeartbeats 4000000 in
set_option maxRecDepth 10000 in
theorem lw_takeGift (X : zX E RL code 7 (zRm 64 601024 7293034) D t l) (Y : zWr E (aR a ++ aM b ++ [o])) (V : zTry E) (hX : va_X bs L xs (zs E) (zs E).heap) (hbl : bs < (zs E).heap.size) (hbA : ¬ zA E bs) (hL : L ≤ 3584) (hi : i + 6 < L) (hfl : l.stackTraces = false) (hk : k + 1 ≤ 601024) (hn : n + 6 ≤ 7293034) (kk : HL E t a b o bs (k + 1) (n + 6) 1208 i) : HL E t a b o bs k n 586 i := by
  intro S sc tk m G x y z s e f g q hI
  obtain ⟨h1, h2, h3, h4, h5, h6, h7, h8, h9⟩ := id hI
  have hX3 := ctk_sum m (fun j hj => (h8 j hj).1)
  refine Wz.eq (ws' := wN t a b o (T3 S x y z s e) (va_up (va_up S 22 f) 23 g) q) rfl ?_
  refine z_aload_n X dL_law_586 rfl rfl ?_
  refine z_arg (j := 1) X hX hbl hbA hL rfl rfl (by omega) rfl dL_law_587 dL_law_588 dL_law_590 dL_law_591 dL_law_592 ?_
  refine z_aload_n X dL_law_593 rfl rfl ?_
  refine z_callW (np := 3) X Y nN V (fun sz => c_L_takeGift l hfl D t sz a (T3 S x y z s e) (ctk tk m 0) (ctk tk m 1) (ctk tk m 2) G h9 h6 h7 (by omega) h1 (xs (i + 1)) o q) q_st_L_takeGift q_in_L q_cw_L_takeGift (by decide +kernel) (by decide) q_ml_L_102 [0, 1, 2, 3, 4, 5, 6, 7, 8, 9, 10, 11, 12, 13, 14, 15, 16, 17, 18, 19, 20, 21, 22, 23, 43] lpNo (fun w9 => wN t a b o w9.1 (va_up (va_up S 22 f) 23 g) w9.2) (fun w9 => lsNo) (by decide) rfl rfl rfl (Nat.le_of_ble_eq_true rfl) ⟨hk, hn⟩ dL_law_594 (fun r1 w9 e1 => ?_)
  obtain ⟨w8, q8⟩ := w9
  dsimp only at e1
  refine z_istore X dL_law_597 (by decide : 5 < 7) ?_
  refine z_lv (lv' := [some (.ref bs), some (.ref (a 0)), some (.ref (b 0)), some (.ref o), some (.int (nI i)), some (.int r1), none]) rfl ?_
  refine z_aload_n X dL_law_599 rfl rfl ?_
  refine z_arg (j := 1) X hX hbl hbA hL rfl rfl (by omega) rfl dL_law_600 dL_law_601 dL_law_603 dL_law_604 dL_law_605 ?_
  refine z_callV2 X Y nN (c_X4_takeGift l D t b (va_up (va_up S 22 f) 23 g) (ctk tk m 0) (ctk tk m 1) (ctk tk m 2) G h9 h6 h7 (by omega) h1 (xs (i + 1))) k_X4_takeGift q_ml_L_104 [24, 25, 26, 27, 28, 29, 30, 31, 32, 33, 34, 35, 36, 37, 38, 39, 40, 41, 42] (fun u => wN t a b o w8 u q8) (fun u => lsNM) lpNM 24 4 rfl rfl (by decide) rfl rfl rfl (Nat.le_of_ble_eq_true rfl) ⟨hk, hn⟩ dL_law_606 (fun r2 u e2 => ?_)
  refine z_istore X dL_law_609 (by decide : 6 < 7) ?_
  refine z_lv (lv' := [some (.ref bs), some (.ref (a 0)), some (.ref (b 0)), some (.ref o), some (.int (nI i)), some (.int r1), some (.int r2)]) rfl ?_
  have fin : u 23 0 = r1 ∧ (r1 = 0 → q8 0 = r2.toInt64) ∧ FinOk t a b w8 u := by
    rcases e1 with ⟨k1, r9, u1, ⟨hu, hg, hm, hr9⟩, rfl, rfl⟩ | ⟨C, u1, hc, k1, rfl, rfl⟩
    · rcases e2 with ⟨k2, hk2, hg2, hm2, hr2, rfl⟩ | ⟨m1, rfl⟩ | ⟨m2, rfl⟩
      · have ek := zn_inj (by omega) (by omega) (hg2.symm.trans hg)
        subst ek
        exact ⟨k1.symm, fun _ => updL0.trans (by rw [hr9, hr2]), va_up S 18 (fun _ => nI (G ||| 2 ^ k2)), sc, tk, m, G ||| 2 ^ k2, x, y, z, s, e, f, fun _ => nI 0, Iv_gift hI (zn_or8 G h7 k2 hk2), fun _ _ _ _ h => h⟩
      · exact absurd ⟨_, hu, hg⟩ m1
      · exact absurd (⟨_, hu, hg, hm⟩ : ∃ k, k < 8 ∧ xs (i + 1) = nI k ∧ mt S (ctk tk m 0) (ctk tk m 1) (ctk tk m 2) G k) (exn (by decide) m2)
    · rcases hc with ⟨rfl, n1⟩ | ⟨rfl, n2⟩
      · rcases e2 with ⟨k2, hk2, hg2, hm2, hr2, rfl⟩ | ⟨m1, rfl⟩ | ⟨m2, rfl⟩
        · exact absurd ⟨_, hk2, hg2⟩ n1
        · exact ⟨ifC_I.symm.trans k1.symm, fun h0 => absurd (h0.symm.trans (k1.trans ifC_I)) (by decide +kernel), S, sc, tk, m, G, x, y, z, s, e, f, fun _ => nI 1, hI, fun _ _ _ _ h => h⟩
        · exact absurd (ex1 m2) n1
      · rcases e2 with ⟨k2, hk2, hg2, hm2, hr2, rfl⟩ | ⟨m1, rfl⟩ | ⟨m2, rfl⟩
        · exact absurd (⟨_, hk2, hg2, hm2⟩ : ∃ k, k < 8 ∧ xs (i + 1) = nI k ∧ mt S (ctk tk m 0) (ctk tk m 1) (ctk tk m 2) G k) (exn (by decide) n2)
        · exact absurd (ex1 n2) m1
        · exact ⟨ifC_S.symm.trans k1.symm, fun h0 => absurd (h0.symm.trans (k1.trans ifC_S)) (by decide +kernel), S, sc, tk, m, G, x, y, z, s, e, f, fun _ => nI 2, hI, fun _ _ _ _ h => h⟩
  refine lw_endV X hk hn dL_law_611 dL_law_612 dL_law_615 dL_law_617 fin.1 ?_
  exact lw_endI X dL_law_622 dL_law_624 dL_law_627 dL_law_628 dL_law_629 dL_law_630 dL_law_632 dL_law_633 dL_law_634 dL_law_639 (by decide) fin.2.1 fin.2.2 kk
set_option maxHeartbeats 4000000 in
set_option maxRecDepth 10000 in
theorem lw_loseLevel (X : zX E RL code 7 (zRm 64 601024 7293034) D t l) (Y : zWr E (aR a ++ aM b ++ [o])) (V : zTry E) (hX : va_X bs L xs (zs E) (zs E).heap) (hbl : bs < (zs E).heap.size) (hbA : ¬ zA E bs) (hL : L ≤ 3584) (hi : i + 6 < L) (hfl : l.stackTraces = false) (hk : k + 1 ≤ 601024) (hn : n + 6 ≤ 7293034) (kk : HL E t a b o bs (k + 1) (n + 6) 1208 i) : HL E t a b o bs k n 642 i := by
  intro S sc tk m G x y z s e f g q hI
  obtain ⟨h1, h2, h3, h4, h5, h6, h7, h8, h9⟩ := id hI
  have hX3 := ctk_sum m (fun j hj => (h8 j hj).1)
  refine Wz.eq (ws' := wN t a b o (T3 S x y z s e) (va_up (va_up S 22 f) 23 g) q) rfl ?_
  refine z_aload_n X dL_law_642 rfl rfl ?_
  refine z_aload_n X dL_law_643 rfl rfl ?_
  refine z_callW (np := 2) X Y nN V (fun sz => c_L_loseLevel l hfl D t sz a (T3 S x y z s e) m tk h4 h5 h8 o q) q_st_L_loseLevel q_in_L q_cw_L_loseLevel (by decide +kernel) (by decide) q_ml_L_105 [0, 1, 2, 3, 4, 5, 6, 7, 8, 9, 10, 11, 12, 13, 14, 15, 16, 17, 18, 19, 20, 21, 22, 23, 43] lpNo (fun w9 => wN t a b o w9.1 (va_up (va_up S 22 f) 23 g) w9.2) (fun w9 => lsNo) (by decide) rfl rfl rfl (Nat.le_of_ble_eq_true rfl) ⟨hk, hn⟩ dL_law_644 (fun r1 w9 e1 => ?_)
  obtain ⟨w8, q8⟩ := w9
  dsimp only at e1
  refine z_istore X dL_law_647 (by decide : 5 < 7) ?_
  refine z_lv (lv' := [some (.ref bs), some (.ref (a 0)), some (.ref (b 0)), some (.ref o), some (.int (nI i)), some (.int r1), none]) rfl ?_
  refine z_aload_n X dL_law_649 rfl rfl ?_
  refine z_callV2 X Y nN (c_X4_loseLevel l D t b (va_up (va_up S 22 f) 23 g) m tk h4 h5 h8) k_X4_loseLevel q_ml_L_108 [24, 25, 26, 27, 28, 29, 30, 31, 32, 33, 34, 35, 36, 37, 38, 39, 40, 41, 42] (fun u => wN t a b o w8 u q8) (fun u => lsNM) lpNM 24 4 rfl rfl (by decide) rfl rfl rfl (Nat.le_of_ble_eq_true rfl) ⟨hk, hn⟩ dL_law_650 (fun r2 u e2 => ?_)
  refine z_istore X dL_law_653 (by decide : 6 < 7) ?_
  refine z_lv (lv' := [some (.ref bs), some (.ref (a 0)), some (.ref (b 0)), some (.ref o), some (.int (nI i)), some (.int r1), some (.int r2)]) rfl ?_
  have fin : u 23 0 = r1 ∧ (r1 = 0 → q8 0 = r2.toInt64) ∧ FinOk t a b w8 u := by
    rcases e1 with ⟨k1, r9, u1, ⟨hm, hr9⟩, rfl, rfl⟩ | ⟨C, u1, hc, k1, rfl, rfl⟩
    · rcases e2 with ⟨hm2, hr2, rfl⟩ | ⟨m1, rfl⟩
      · obtain ⟨m9, rfl⟩ : ∃ m9, m = m9 + 1 := ⟨m - 1, by omega⟩
        have hl : ∀ j, j < 3 → upd (S 15) (tk m9) (S 15 (tk m9) + (-1)) j = l3 (ctk tk m9 0) (ctk tk m9 1) (ctk tk m9 2) j := by rw [h9]; exact l3_dn (h8 m9 (Nat.lt_succ_self _)).1 rfl rfl rfl
        exact ⟨k1.symm, fun _ => updL0.trans (by rw [hr9, hr2]), va_up (va_up S 17 (fun _ => nI m9)) 15 (l3 (ctk tk m9 0) (ctk tk m9 1) (ctk tk m9 2)), sc, tk, m9, G, x, y, z, s, e, f, fun _ => nI 0, Iv_lose hI hm, fun _ _ _ _ h => zPset (p := 27) rfl hl (zPset (p := 22) rfl hl h)⟩
      · exact absurd hm (by omega)
    · obtain ⟨rfl, n1⟩ := hc
      rcases e2 with ⟨hm2, hr2, rfl⟩ | ⟨m1, rfl⟩
      · exact absurd hm2 (by omega)
      · exact ⟨k1.symm, fun h0 => absurd (h0.symm.trans k1) (by decide +kernel), S, sc, tk, m, G, x, y, z, s, e, f, fun _ => nI 1, hI, fun _ _ _ _ h => h⟩
  refine lw_endV X hk hn dL_law_655 dL_law_656 dL_law_659 dL_law_661 fin.1 ?_
  exact lw_endI X dL_law_666 dL_law_668 dL_law_671 dL_law_672 dL_law_673 dL_law_674 dL_law_676 dL_law_677 dL_law_678 dL_law_683 (by decide) fin.2.1 fin.2.2 kk
set_option maxHeartbeats 4000000 in
set_option maxRecDepth 10000 in
theorem lw_exchange (X : zX E RL code 7 (zRm 64 601024 7293034) D t l) (Y : zWr E (aR a ++ aM b ++ [o])) (V : zTry E) (hX : va_X bs L xs (zs E) (zs E).heap) (hbl : bs < (zs E).heap.size) (hbA : ¬ zA E bs) (hL : L ≤ 3584) (hi : i + 6 < L) (hfl : l.stackTraces = false) (hk : k + 1 ≤ 601024) (hn : n + 6 ≤ 7293034) (kk : HL E t a b o bs (k + 1) (n + 6) 1208 i) : HL E t a b o bs k n 686 i := by
  intro S sc tk m G x y z s e f g q hI
  obtain ⟨h1, h2, h3, h4, h5, h6, h7, h8, h9⟩ := id hI
  have hX3 := ctk_sum m (fun j hj => (h8 j hj).1)
  refine Wz.eq (ws' := wN t a b o (T3 S x y z s e) (va_up (va_up S 22 f) 23 g) q) rfl ?_
  refine z_aload_n X dL_law_686 rfl rfl ?_
  refine z_arg (j := 1) X hX hbl hbA hL rfl rfl (by omega) rfl dL_law_687 dL_law_688 dL_law_690 dL_law_691 dL_law_692 ?_
  refine z_arg (j := 2) X hX hbl hbA hL rfl rfl (by omega) rfl dL_law_693 dL_law_694 dL_law_696 dL_law_697 dL_law_698 ?_
  refine z_aload_n X dL_law_699 rfl rfl ?_
  refine z_callW (np := 4) X Y nN V (fun sz => c_L_exchange l hfl D t sz a S (ctk tk m 0) (ctk tk m 1) (ctk tk m 2) G h9 h6 h7 (by omega) h1 (by rw [hX3]; exact h4) x y z s e (xs (i + 1)) (xs (i + 2)) o q) q_st_L_exchange q_in_L q_cw_L_exchange (by decide +kernel) (by decide) q_ml_L_109 [0, 1, 2, 3, 4, 5, 6, 7, 8, 9, 10, 11, 12, 13, 14, 15, 16, 17, 18, 19, 20, 21, 22, 23, 43] lpNo (fun w9 => wN t a b o w9.1 (va_up (va_up S 22 f) 23 g) w9.2) (fun w9 => lsNo) (by decide) rfl rfl rfl (Nat.le_of_ble_eq_true rfl) ⟨hk, hn⟩ dL_law_700 (fun r1 w9 e1 => ?_)
  obtain ⟨w8, q8⟩ := w9
  dsimp only at e1
  refine z_istore X dL_law_703 (by decide : 5 < 7) ?_
  refine z_lv (lv' := [some (.ref bs), some (.ref (a 0)), some (.ref (b 0)), some (.ref o), some (.int (nI i)), some (.int r1), none]) rfl ?_
  refine z_aload_n X dL_law_705 rfl rfl ?_
  refine z_arg (j := 1) X hX hbl hbA hL rfl rfl (by omega) rfl dL_law_706 dL_law_707 dL_law_709 dL_law_710 dL_law_711 ?_
  refine z_arg (j := 2) X hX hbl hbA hL rfl rfl (by omega) rfl dL_law_712 dL_law_713 dL_law_715 dL_law_716 dL_law_717 ?_
  refine z_callV2 X Y nN (c_X4_exchange l D t b (va_up (va_up S 22 f) 23 g) (ctk tk m 0) (ctk tk m 1) (ctk tk m 2) G h9 h6 h7 (by omega) h1 (xs (i + 1)) (xs (i + 2))) k_X4_exchange q_ml_L_111 [24, 25, 26, 27, 28, 29, 30, 31, 32, 33, 34, 35, 36, 37, 38, 39, 40, 41, 42] (fun u => wN t a b o w8 u q8) (fun u => lsNM) lpNM 24 4 rfl rfl (by decide) rfl rfl rfl (Nat.le_of_ble_eq_true rfl) ⟨hk, hn⟩ dL_law_718 (fun r2 u e2 => ?_)
  refine z_istore X dL_law_721 (by decide : 6 < 7) ?_
  refine z_lv (lv' := [some (.ref bs), some (.ref (a 0)), some (.ref (b 0)), some (.ref o), some (.int (nI i)), some (.int r1), some (.int r2)]) rfl ?_
  have fin : u 23 0 = r1 ∧ (r1 = 0 → q8 0 = r2.toInt64) ∧ FinOk t a b w8 u := by
    rcases e1 with ⟨k1, r9, ⟨u1, u2, u3⟩, ⟨hu, hu2, hg, ho, ht1, ht2, hR, hr9⟩, rfl, rfl⟩ | ⟨C, u1, hc, k1, rfl, rfl⟩
    · rcases e2 with ⟨k2, j2, hk2, hj2, hg2, ho2, ht12, ht22, hR2, hr2, f2, rfl⟩ | ⟨m1, rfl⟩ | ⟨m2, f2, rfl⟩
      · dsimp only at hu hu2 hg ho ht1 ht2 hR hr9
        have ek := zn_inj (by omega) (by omega) (hg2.symm.trans hg)
        subst ek
        have ej := zn_inj (by omega) (by omega) (ho2.symm.trans ho)
        subst ej
        exact ⟨k1.symm, fun _ => updL0.trans (by rw [hr9, hr2, faN_ag (S := va_up (va_up S 22 f) 23 g) (S' := S) Ag_M2]; rfl), va_up S 18 (fun _ => nI (exN G k2 j2)), sc, tk, m, exN G k2 j2, 0, 0, 0, 0, u3, f2, fun _ => nI 0, Iv_gift hI (exN_lt h7 hj2), fun _ _ _ _ h => h⟩
      · exact absurd ⟨⟨_, hu, hg⟩, ⟨_, hu2, ho⟩⟩ m1
      · exact absurd (⟨_, _, hu, hu2, hg, ho, ht1, ht2, hR⟩ : ∃ k j, k < 8 ∧ j < 8 ∧ xs (i + 1) = nI k ∧ xs (i + 2) = nI j ∧ G.testBit k = true ∧ G.testBit j = false ∧ Rc S (ctk tk m 0) (ctk tk m 1) (ctk tk m 2) (exN G k j) 0 0 0 0) (exn2M m2)
    · rcases hc with ⟨rfl, n1⟩ | ⟨rfl, n2⟩
      · rcases e2 with ⟨k2, j2, hk2, hj2, hg2, ho2, ht12, ht22, hR2, hr2, f2, rfl⟩ | ⟨m1, rfl⟩ | ⟨m2, f2, rfl⟩
        · exact absurd ⟨⟨_, hk2, hg2⟩, ⟨_, hj2, ho2⟩⟩ n1
        · exact ⟨ifC_I.symm.trans k1.symm, fun h0 => absurd (h0.symm.trans (k1.trans ifC_I)) (by decide +kernel), S, sc, tk, m, G, u1.1, u1.2.1, u1.2.2.1, u1.2.2.2.1, u1.2.2.2.2, f, fun _ => nI 1, hI, fun _ _ _ _ h => h⟩
        · exact absurd (ex2 m2) n1
      · rcases e2 with ⟨k2, j2, hk2, hj2, hg2, ho2, ht12, ht22, hR2, hr2, f2, rfl⟩ | ⟨m1, rfl⟩ | ⟨m2, f2, rfl⟩
        · exact absurd (⟨_, _, hk2, hj2, hg2, ho2, ht12, ht22, ((Rc_mt (mt_ag Ag_M2)).mp hR2)⟩ : ∃ k j, k < 8 ∧ j < 8 ∧ xs (i + 1) = nI k ∧ xs (i + 2) = nI j ∧ G.testBit k = true ∧ G.testBit j = false ∧ Rc S (ctk tk m 0) (ctk tk m 1) (ctk tk m 2) (exN G k j) 0 0 0 0) (exn2 (Q := fun k j => G.testBit k = true ∧ G.testBit j = false ∧ Rc S (ctk tk m 0) (ctk tk m 1) (ctk tk m 2) (exN G k j) 0 0 0 0) (by decide) n2)
        · exact absurd (ex2 n2) m1
        · exact ⟨ifC_S.symm.trans k1.symm, fun h0 => absurd (h0.symm.trans (k1.trans ifC_S)) (by decide +kernel), S, sc, tk, m, G, u1.1, u1.2.1, u1.2.2.1, u1.2.2.2.1, u1.2.2.2.2, f2, fun _ => nI 2, hI, fun _ _ _ _ h => h⟩
  refine lw_endV X hk hn dL_law_723 dL_law_724 dL_law_727 dL_law_729 fin.1 ?_
  exact lw_endI X dL_law_734 dL_law_736 dL_law_739 dL_law_740 dL_law_741 dL_law_742 dL_law_744 dL_law_745 dL_law_746 dL_law_751 (by decide) fin.2.1 fin.2.2 kk
end ZC6
