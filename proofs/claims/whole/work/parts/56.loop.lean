/-! the law's loop -/
theorem sub7 (L : Nat) (h : L < 3585) : (nI L - nI 7).toInt = (L : Int) - 7 := by
  rw [Int32.toInt_sub, nI_toInt (by omega), nI_toInt (by omega)]
  unfold Int.bmod
  dsimp only
  split <;> omega
section ZL7
variable {E : zE} {k n i : Nat} {D : va_G} {t : ClassId × ClassId × ClassId} {l : Launch} {a b : Nat → Nat} {o bs L : Nat} {xs : Nat → Int32}
set_option maxHeartbeats 1000000 in
/-- a turn, from the switch's start -/
theorem lw_turn (X : zX E RL code 7 (zRm 64 601024 7293034) D t l) (Y : zWr E (aR a ++ aM b ++ [o])) (V : zTry E) (hX : va_X bs L xs (zs E) (zs E).heap) (hbl : bs < (zs E).heap.size) (hbA : ¬ zA E bs) (hL : L ≤ 3584) (hi : i + 6 < L) (hfl : l.stackTraces = false) (hk : k + 1 ≤ 601024) (hn : n + 6 ≤ 7293034) (kk : HL E t a b o bs (k + 1) (n + 6) 1208 i) : HL E t a b o bs k n 33 i := by
  have kw : HL E t a b o bs k n 1208 i := HL.wide (by omega) (by omega) kk
  have hk0 : k ≤ 601024 := by omega
  have hn0 : n ≤ 7293034 := by omega
  intro S sc tk m G x y z s e f g q hI
  refine z_aload_n X dL_law_33 rfl rfl ?_
  refine z_iload X dL_law_34 rfl ?_
  refine z_sld X hX hbl hbA (by omega : i < L) (by omega) dL_law_36 ?_
  refine z_bipush (v := nI 31) X dL_law_37 (by decide +kernel) ?_
  refine z_iand X dL_law_39 ?_
  obtain ⟨c, hc, e9⟩ := and31 (xs i)
  refine z_top e9 ?_
  rcases (show c = 0 ∨ c = 1 ∨ c = 2 ∨ c = 3 ∨ c = 4 ∨ c = 5 ∨ c = 6 ∨ c = 7 ∨ c = 8 ∨ c = 9 ∨ c = 10 ∨ c = 11 ∨ c = 12 ∨ c = 13 ∨ c = 14 ∨ c = 15 ∨ c = 16 ∨ c = 17 ∨ c = 18 ∨ c = 19 ∨ c = 20 ∨ c = 21 ∨ c = 22 ∨ 23 ≤ c by omega) with rfl | rfl | rfl | rfl | rfl | rfl | rfl | rfl | rfl | rfl | rfl | rfl | rfl | rfl | rfl | rfl | rfl | rfl | rfl | rfl | rfl | rfl | rfl | h23
  · refine z_tswI (off := 108) (tgt := 148) X dL_law_40 (by decide +kernel) (by decide +kernel) (by decide +kernel) (by decide) ?_
    exact lw_setNeeds X Y V hX hbl hbA hL hi hfl hk hn kk S sc tk m G x y z s e f g q hI
  · refine z_tswI (off := 206) (tgt := 246) X dL_law_40 (by decide +kernel) (by decide +kernel) (by decide +kernel) (by decide) ?_
    exact lw_bar X Y V hX hbl hbA hL hi hfl hk hn kk S sc tk m G x y z s e f g q hI
  · refine z_tswI (off := 266) (tgt := 306) X dL_law_40 (by decide +kernel) (by decide +kernel) (by decide +kernel) (by decide) ?_
    exact lw_setBonus X Y V hX hbl hbA hL hi hfl hk hn kk S sc tk m G x y z s e f g q hI
  · refine z_tswI (off := 338) (tgt := 378) X dL_law_40 (by decide +kernel) (by decide +kernel) (by decide +kernel) (by decide) ?_
    exact lw_setValue X Y V hX hbl hbA hL hi hfl hk hn kk S sc tk m G x y z s e f g q hI
  · refine z_tswI (off := 422) (tgt := 462) X dL_law_40 (by decide +kernel) (by decide +kernel) (by decide +kernel) (by decide) ?_
    exact lw_setScore X Y V hX hbl hbA hL hi hfl hk hn kk S sc tk m G x y z s e f g q hI
  · refine z_tswI (off := 490) (tgt := 530) X dL_law_40 (by decide +kernel) (by decide +kernel) (by decide +kernel) (by decide) ?_
    exact lw_takeLevel X Y V hX hbl hbA hL hi hfl hk hn kk S sc tk m G x y z s e f g q hI
  · refine z_tswI (off := 546) (tgt := 586) X dL_law_40 (by decide +kernel) (by decide +kernel) (by decide +kernel) (by decide) ?_
    exact lw_takeGift X Y V hX hbl hbA hL hi hfl hk hn kk S sc tk m G x y z s e f g q hI
  · refine z_tswI (off := 602) (tgt := 642) X dL_law_40 (by decide +kernel) (by decide +kernel) (by decide +kernel) (by decide) ?_
    exact lw_loseLevel X Y V hX hbl hbA hL hi hfl hk hn kk S sc tk m G x y z s e f g q hI
  · refine z_tswI (off := 646) (tgt := 686) X dL_law_40 (by decide +kernel) (by decide +kernel) (by decide +kernel) (by decide) ?_
    exact lw_exchange X Y V hX hbl hbA hL hi hfl hk hn kk S sc tk m G x y z s e f g q hI
  · refine z_tswI (off := 714) (tgt := 754) X dL_law_40 (by decide +kernel) (by decide +kernel) (by decide +kernel) (by decide) ?_
    exact lw_clear X Y hk0 hn0 kw S sc tk m G x y z s e f g q hI
  · refine z_tswI (off := 727) (tgt := 767) X dL_law_40 (by decide +kernel) (by decide +kernel) (by decide +kernel) (by decide) ?_
    exact lw_level X Y V hX hbl hbA hL hi hfl hk hn kk S sc tk m G x y z s e f g q hI
  · refine z_tswI (off := 783) (tgt := 823) X dL_law_40 (by decide +kernel) (by decide +kernel) (by decide +kernel) (by decide) ?_
    exact lw_gifts X Y hk0 hn0 kw S sc tk m G x y z s e f g q hI
  · refine z_tswI (off := 796) (tgt := 836) X dL_law_40 (by decide +kernel) (by decide +kernel) (by decide +kernel) (by decide) ?_
    exact lw_c12 X Y hk0 hn0 kw S sc tk m G x y z s e f g q hI
  · refine z_tswI (off := 809) (tgt := 849) X dL_law_40 (by decide +kernel) (by decide +kernel) (by decide +kernel) (by decide) ?_
    exact lw_open X Y hk0 hn0 kw S sc tk m G x y z s e f g q hI
  · refine z_tswI (off := 822) (tgt := 862) X dL_law_40 (by decide +kernel) (by decide +kernel) (by decide +kernel) (by decide) ?_
    exact lw_places X Y hk0 hn0 kw S sc tk m G x y z s e f g q hI
  · refine z_tswI (off := 835) (tgt := 875) X dL_law_40 (by decide +kernel) (by decide +kernel) (by decide +kernel) (by decide) ?_
    exact lw_points X Y hk0 hn0 kw S sc tk m G x y z s e f g q hI
  · refine z_tswI (off := 848) (tgt := 888) X dL_law_40 (by decide +kernel) (by decide +kernel) (by decide +kernel) (by decide) ?_
    exact lw_value X Y V hX hbl hbA hL hi hfl hk hn kk S sc tk m G x y z s e f g q hI
  · refine z_tswI (off := 904) (tgt := 944) X dL_law_40 (by decide +kernel) (by decide +kernel) (by decide +kernel) (by decide) ?_
    exact lw_bonus X Y V hX hbl hbA hL hi hfl hk hn kk S sc tk m G x y z s e f g q hI
  · refine z_tswI (off := 972) (tgt := 1012) X dL_law_40 (by decide +kernel) (by decide +kernel) (by decide +kernel) (by decide) ?_
    exact lw_isRing X Y V hX hbl hbA hL hi hfl hk hn kk S sc tk m G x y z s e f g q hI
  · refine z_tswI (off := 1035) (tgt := 1075) X dL_law_40 (by decide +kernel) (by decide +kernel) (by decide +kernel) (by decide) ?_
    exact lw_attack X Y hk0 hn0 kw S sc tk m G x y z s e f g q hI
  · refine z_tswI (off := 1048) (tgt := 1088) X dL_law_40 (by decide +kernel) (by decide +kernel) (by decide +kernel) (by decide) ?_
    exact lw_isLawful X Y hk0 hn0 kw S sc tk m G x y z s e f g q hI
  · refine z_tswI (off := 1061) (tgt := 1101) X dL_law_40 (by decide +kernel) (by decide +kernel) (by decide +kernel) (by decide) ?_
    exact lw_isLawfulByOrders X Y V hX hbl hbA hL hi hfl hk hn kk S sc tk m G x y z s e f g q hI
  · refine z_tswI (off := 1112) (tgt := 1152) X dL_law_40 (by decide +kernel) (by decide +kernel) (by decide +kernel) (by decide) ?_
    exact lw_stepAt X Y V hX hbl hbA hL hi hfl hk hn kk S sc tk m G x y z s e f g q hI
  · refine z_tswO (tgt := 1208) X dL_law_40 (Or.inr (by rw [toInt31 c hc]; omega)) (by decide) ?_
    exact kw S sc tk m G x y z s e f g q hI
/-- the loop: behind it at 1214 -/
theorem lw_loop (X : zX E RL code 7 (zRm 64 601024 7293034) D t l) (Y : zWr E (aR a ++ aM b ++ [o])) (V : zTry E) (hX : va_X bs L xs (zs E) (zs E).heap) (hbl : bs < (zs E).heap.size) (hbA : ¬ zA E bs) (hL : L ≤ 3584) (hfl : l.stackTraces = false) (fin : ∀ (k n i : Nat), k ≤ 601024 → n ≤ 7293034 → HL E t a b o bs k n 1214 i) : ∀ (d i k n : Nat), L ≤ i + 7 * d + 6 → i ≤ 3584 → k + d ≤ 601024 → n + 6 * d ≤ 7293034 → HL E t a b o bs k n 23 i := by
  have head : ∀ (i k n : Nat), i ≤ 3584 → (i + 6 < L → HL E t a b o bs k n 33 i) → (k ≤ 601024 ∧ n ≤ 7293034) → HL E t a b o bs k n 23 i := by
    intro i k n hi kb hkn S sc tk m G x y z s e f g q hI
    refine z_iload X dL_law_23 rfl ?_
    refine z_aload_n X dL_law_25 rfl rfl ?_
    refine z_slen X hX hbl hbA dL_law_26 ?_
    refine z_bipush (v := nI 7) X dL_law_27 (by decide +kernel) ?_
    refine z_isub X dL_law_29 ?_
    refine z_icmp_gt (tgt := 1214) X dL_law_30 (by decide) (fun _ => fin k n i hkn.1 hkn.2 S sc tk m G x y z s e f g q hI) (fun h => kb ?_ S sc tk m G x y z s e f g q hI)
    rw [Int32.lt_iff_toInt_lt, sub7 L (by omega), nI_toInt (by omega)] at h
    omega
  intro d
  induction d with
  | zero => exact fun i k n h1 h2 h3 h4 => head i k n h2 (fun h => absurd h (by omega)) ⟨by omega, by omega⟩
  | succ d ih => exact fun i k n h1 h2 h3 h4 => head i k n h2 (fun h => lw_turn X Y V hX hbl hbA hL h hfl (by omega) (by omega) (lw_next X (ih (i + 7) (k + 1) (n + 6) (by omega) (by omega) (by omega) (by omega)))) ⟨by omega, by omega⟩
end ZL7
