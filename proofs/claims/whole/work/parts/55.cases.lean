section ZC6
variable {E : zE} {k n i : Nat} {D : va_G} {t : ClassId × ClassId × ClassId} {l : Launch} {a b : Nat → Nat} {o bs L : Nat} {xs : Nat → Int32}
set_option maxHeartbeats 4000000 in
set_option maxRecDepth 10000 in
theorem lw_level (X : zX E RL code 7 (zRm 64 601024 7293034) D t l) (Y : zWr E (aR a ++ aM b ++ [o])) (V : zTry E) (hX : va_X bs L xs (zs E) (zs E).heap) (hbl : bs < (zs E).heap.size) (hbA : ¬ zA E bs) (hL : L ≤ 3584) (hi : i + 6 < L) (hfl : l.stackTraces = false) (hk : k + 1 ≤ 601024) (hn : n + 6 ≤ 7293034) (kk : HL E t a b o bs (k + 1) (n + 6) 1208 i) : HL E t a b o bs k n 767 i := by
  intro S sc tk m G x y z s e f g q hI
  obtain ⟨h1, h2, h3, h4, h5, h6, h7, h8, h9⟩ := id hI
  have hX3 := ctk_sum m (fun j hj => (h8 j hj).1)
  refine Wz.eq (ws' := wN t a b o (T3 S x y z s e) (va_up (va_up S 22 f) 23 g) q) rfl ?_
  refine z_aload_n X dL_law_767 rfl rfl ?_
  refine z_arg (j := 1) X hX hbl hbA hL rfl rfl (by omega) rfl dL_law_768 dL_law_769 dL_law_771 dL_law_772 dL_law_773 ?_
  refine z_aload_n X dL_law_774 rfl rfl ?_
  refine z_callW (np := 3) X Y nN V (fun sz => c_L_level l hfl D t sz a (T3 S x y z s e) (xs (i + 1)) o q) q_st_L_level q_in_L q_cw_L_level (by decide +kernel) (by decide) q_ml_L_116 [0, 1, 2, 3, 4, 5, 6, 7, 8, 9, 10, 11, 12, 13, 14, 15, 16, 17, 18, 19, 20, 21, 22, 23, 43] lpNo (fun w9 => wN t a b o w9.1 (va_up (va_up S 22 f) 23 g) w9.2) (fun w9 => lsNo) (by decide) rfl rfl rfl (Nat.le_of_ble_eq_true rfl) ⟨hk, hn⟩ dL_law_775 (fun r1 w9 e1 => ?_)
  obtain ⟨w8, q8⟩ := w9
  dsimp only at e1
  refine z_istore X dL_law_778 (by decide : 5 < 7) ?_
  refine z_lv (lv' := [some (.ref bs), some (.ref (a 0)), some (.ref (b 0)), some (.ref o), some (.int (nI i)), some (.int r1), none]) rfl ?_
  refine z_aload_n X dL_law_780 rfl rfl ?_
  refine z_arg (j := 1) X hX hbl hbA hL rfl rfl (by omega) rfl dL_law_781 dL_law_782 dL_law_784 dL_law_785 dL_law_786 ?_
  refine z_callV2 X Y nN (c_X4_level l D t b (va_up (va_up S 22 f) 23 g) (xs (i + 1))) k_X4_level q_ml_L_118 [24, 25, 26, 27, 28, 29, 30, 31, 32, 33, 34, 35, 36, 37, 38, 39, 40, 41, 42] (fun u => wN t a b o w8 u q8) (fun u => lsNM) lpNM 24 4 rfl rfl (by decide) rfl rfl rfl (Nat.le_of_ble_eq_true rfl) ⟨hk, hn⟩ dL_law_787 (fun r2 u e2 => ?_)
  refine z_istore X dL_law_790 (by decide : 6 < 7) ?_
  refine z_lv (lv' := [some (.ref bs), some (.ref (a 0)), some (.ref (b 0)), some (.ref o), some (.int (nI i)), some (.int r1), some (.int r2)]) rfl ?_
  have fin : u 23 0 = r1 ∧ (r1 = 0 → q8 0 = r2.toInt64) ∧ FinOk t a b w8 u := by
    rcases e1 with ⟨k1, r9, u1, ⟨hu, hg, hr9⟩, rfl, rfl⟩ | ⟨C, u1, hc, k1, rfl, rfl⟩
    · rcases e2 with ⟨k2, hk2, hg2, hr2, rfl⟩ | ⟨m1, rfl⟩
      · have ek := zn_inj (by omega) (by omega) (hg2.symm.trans hg)
        subst ek
        exact ⟨k1.symm, fun _ => updL0.trans (by rw [hr9, hr2]; rfl), S, sc, tk, m, G, x, y, z, s, e, f, fun _ => nI 0, hI, fun _ _ _ _ h => h⟩
      · exact absurd ⟨_, hu, hg⟩ m1
    · obtain ⟨rfl, n1⟩ := hc
      rcases e2 with ⟨k2, hk2, hg2, hr2, rfl⟩ | ⟨m1, rfl⟩
      · exact absurd ⟨_, hk2, hg2⟩ n1
      · exact ⟨k1.symm, fun h0 => absurd (h0.symm.trans k1) (by decide +kernel), S, sc, tk, m, G, x, y, z, s, e, f, fun _ => nI 1, hI, fun _ _ _ _ h => h⟩
  refine lw_endV X hk hn dL_law_792 dL_law_793 dL_law_796 dL_law_798 fin.1 ?_
  exact lw_endI X dL_law_803 dL_law_805 dL_law_808 dL_law_809 dL_law_810 dL_law_811 dL_law_813 dL_law_814 dL_law_815 dL_law_820 (by decide) fin.2.1 fin.2.2 kk
set_option maxHeartbeats 4000000 in
set_option maxRecDepth 10000 in
theorem lw_value (X : zX E RL code 7 (zRm 64 601024 7293034) D t l) (Y : zWr E (aR a ++ aM b ++ [o])) (V : zTry E) (hX : va_X bs L xs (zs E) (zs E).heap) (hbl : bs < (zs E).heap.size) (hbA : ¬ zA E bs) (hL : L ≤ 3584) (hi : i + 6 < L) (hfl : l.stackTraces = false) (hk : k + 1 ≤ 601024) (hn : n + 6 ≤ 7293034) (kk : HL E t a b o bs (k + 1) (n + 6) 1208 i) : HL E t a b o bs k n 888 i := by
  intro S sc tk m G x y z s e f g q hI
  obtain ⟨h1, h2, h3, h4, h5, h6, h7, h8, h9⟩ := id hI
  have hX3 := ctk_sum m (fun j hj => (h8 j hj).1)
  refine Wz.eq (ws' := wN t a b o (T3 S x y z s e) (va_up (va_up S 22 f) 23 g) q) rfl ?_
  refine z_aload_n X dL_law_888 rfl rfl ?_
  refine z_arg (j := 1) X hX hbl hbA hL rfl rfl (by omega) rfl dL_law_889 dL_law_890 dL_law_892 dL_law_893 dL_law_894 ?_
  refine z_aload_n X dL_law_895 rfl rfl ?_
  refine z_callW (np := 3) X Y nN V (fun sz => c_L_value l hfl D t sz a (T3 S x y z s e) (xs (i + 1)) G h6 h7 h1 o q) q_st_L_value q_in_L q_cw_L_value (by decide +kernel) (by decide) q_ml_L_139 [0, 1, 2, 3, 4, 5, 6, 7, 8, 9, 10, 11, 12, 13, 14, 15, 16, 17, 18, 19, 20, 21, 22, 23, 43] lpNo (fun w9 => wN t a b o w9.1 (va_up (va_up S 22 f) 23 g) w9.2) (fun w9 => lsNo) (by decide) rfl rfl rfl (Nat.le_of_ble_eq_true rfl) ⟨hk, hn⟩ dL_law_896 (fun r1 w9 e1 => ?_)
  obtain ⟨w8, q8⟩ := w9
  dsimp only at e1
  refine z_istore X dL_law_899 (by decide : 5 < 7) ?_
  refine z_lv (lv' := [some (.ref bs), some (.ref (a 0)), some (.ref (b 0)), some (.ref o), some (.int (nI i)), some (.int r1), none]) rfl ?_
  refine z_aload_n X dL_law_901 rfl rfl ?_
  refine z_arg (j := 1) X hX hbl hbA hL rfl rfl (by omega) rfl dL_law_902 dL_law_903 dL_law_905 dL_law_906 dL_law_907 ?_
  refine z_callV2 X Y nN (c_X4_value l D t b (va_up (va_up S 22 f) 23 g) G h6 h7 h1 (xs (i + 1))) k_X4_value q_ml_L_141 [24, 25, 26, 27, 28, 29, 30, 31, 32, 33, 34, 35, 36, 37, 38, 39, 40, 41, 42] (fun u => wN t a b o w8 u q8) (fun u => lsNM) lpNM 24 4 rfl rfl (by decide) rfl rfl rfl (Nat.le_of_ble_eq_true rfl) ⟨hk, hn⟩ dL_law_908 (fun r2 u e2 => ?_)
  refine z_istore X dL_law_911 (by decide : 6 < 7) ?_
  refine z_lv (lv' := [some (.ref bs), some (.ref (a 0)), some (.ref (b 0)), some (.ref o), some (.int (nI i)), some (.int r1), some (.int r2)]) rfl ?_
  have fin : u 23 0 = r1 ∧ (r1 = 0 → q8 0 = r2.toInt64) ∧ FinOk t a b w8 u := by
    rcases e1 with ⟨k1, r9, u1, ⟨hu, hg, hc9, hr9⟩, rfl, rfl⟩ | ⟨C, u1, hc, k1, rfl, rfl⟩
    · rcases e2 with ⟨k2, hk2, hg2, hc2, hr2, rfl⟩ | ⟨m1, rfl⟩ | ⟨m2, rfl⟩
      · have ek := zn_inj (by omega) (by omega) (hg2.symm.trans hg)
        subst ek
        exact ⟨k1.symm, fun _ => updL0.trans (congrArg Int32.toInt64 (hr9.trans (((congrArg (fun w => vl (T3 S x y z s e) (S 15) w 6 (nI k2)) (wk_ag Ag_T3 _ _ _)).trans (vl_ag Ag_T3 _ _ _ _)).trans (hr2.trans ((congrArg (fun w => vl (va_up (va_up S 22 f) 23 g) (S 15) w 6 (nI k2)) (wk_ag Ag_M2 _ _ _)).trans (vl_ag Ag_M2 _ _ _ _))).symm))), S, sc, tk, m, G, x, y, z, s, e, f, fun _ => nI 0, hI, fun _ _ _ _ h => h⟩
      · exact absurd ⟨_, hu, hg⟩ m1
      · exact absurd (⟨_, hu, hg, ((ch_ag Ag_T3 _ _).symm.trans hc9)⟩ : ∃ k, k < 6 ∧ xs (i + 1) = nI k ∧ ch S (nI k) 6 = -1) (chM m2)
    · rcases hc with ⟨rfl, n1⟩ | ⟨rfl, n2⟩
      · rcases e2 with ⟨k2, hk2, hg2, hc2, hr2, rfl⟩ | ⟨m1, rfl⟩ | ⟨m2, rfl⟩
        · exact absurd ⟨_, hk2, hg2⟩ n1
        · exact ⟨ifC_I.symm.trans k1.symm, fun h0 => absurd (h0.symm.trans (k1.trans ifC_I)) (by decide +kernel), S, sc, tk, m, G, x, y, z, s, e, f, fun _ => nI 1, hI, fun _ _ _ _ h => h⟩
        · exact absurd (ex1 m2) n1
      · rcases e2 with ⟨k2, hk2, hg2, hc2, hr2, rfl⟩ | ⟨m1, rfl⟩ | ⟨m2, rfl⟩
        · exact absurd (⟨_, hk2, hg2, ((ch_ag Ag_M2 _ _).symm.trans hc2)⟩ : ∃ k, k < 6 ∧ xs (i + 1) = nI k ∧ ch S (nI k) 6 = -1) (chR n2)
        · exact absurd (ex1 n2) m1
        · exact ⟨ifC_S.symm.trans k1.symm, fun h0 => absurd (h0.symm.trans (k1.trans ifC_S)) (by decide +kernel), S, sc, tk, m, G, x, y, z, s, e, f, fun _ => nI 2, hI, fun _ _ _ _ h => h⟩
  refine lw_endV X hk hn dL_law_913 dL_law_914 dL_law_917 dL_law_919 fin.1 ?_
  exact lw_endI X dL_law_924 dL_law_926 dL_law_929 dL_law_930 dL_law_931 dL_law_932 dL_law_934 dL_law_935 dL_law_936 dL_law_941 (by decide) fin.2.1 fin.2.2 kk
set_option maxHeartbeats 4000000 in
set_option maxRecDepth 10000 in
theorem lw_bonus (X : zX E RL code 7 (zRm 64 601024 7293034) D t l) (Y : zWr E (aR a ++ aM b ++ [o])) (V : zTry E) (hX : va_X bs L xs (zs E) (zs E).heap) (hbl : bs < (zs E).heap.size) (hbA : ¬ zA E bs) (hL : L ≤ 3584) (hi : i + 6 < L) (hfl : l.stackTraces = false) (hk : k + 1 ≤ 601024) (hn : n + 6 ≤ 7293034) (kk : HL E t a b o bs (k + 1) (n + 6) 1208 i) : HL E t a b o bs k n 944 i := by
  intro S sc tk m G x y z s e f g q hI
  obtain ⟨h1, h2, h3, h4, h5, h6, h7, h8, h9⟩ := id hI
  have hX3 := ctk_sum m (fun j hj => (h8 j hj).1)
  refine Wz.eq (ws' := wN t a b o (T3 S x y z s e) (va_up (va_up S 22 f) 23 g) q) rfl ?_
  refine z_aload_n X dL_law_944 rfl rfl ?_
  refine z_arg (j := 1) X hX hbl hbA hL rfl rfl (by omega) rfl dL_law_945 dL_law_946 dL_law_948 dL_law_949 dL_law_950 ?_
  refine z_arg (j := 2) X hX hbl hbA hL rfl rfl (by omega) rfl dL_law_951 dL_law_952 dL_law_954 dL_law_955 dL_law_956 ?_
  refine z_aload_n X dL_law_957 rfl rfl ?_
  refine z_callW (np := 4) X Y nN V (fun sz => c_L_bonus l hfl D t sz a (T3 S x y z s e) (xs (i + 1)) (xs (i + 2)) G h6 h7 h1 o q) q_st_L_bonus q_in_L q_cw_L_bonus (by decide +kernel) (by decide) q_ml_L_142 [0, 1, 2, 3, 4, 5, 6, 7, 8, 9, 10, 11, 12, 13, 14, 15, 16, 17, 18, 19, 20, 21, 22, 23, 43] lpNo (fun w9 => wN t a b o w9.1 (va_up (va_up S 22 f) 23 g) w9.2) (fun w9 => lsNo) (by decide) rfl rfl rfl (Nat.le_of_ble_eq_true rfl) ⟨hk, hn⟩ dL_law_958 (fun r1 w9 e1 => ?_)
  obtain ⟨w8, q8⟩ := w9
  dsimp only at e1
  refine z_istore X dL_law_961 (by decide : 5 < 7) ?_
  refine z_lv (lv' := [some (.ref bs), some (.ref (a 0)), some (.ref (b 0)), some (.ref o), some (.int (nI i)), some (.int r1), none]) rfl ?_
  refine z_aload_n X dL_law_963 rfl rfl ?_
  refine z_arg (j := 1) X hX hbl hbA hL rfl rfl (by omega) rfl dL_law_964 dL_law_965 dL_law_967 dL_law_968 dL_law_969 ?_
  refine z_arg (j := 2) X hX hbl hbA hL rfl rfl (by omega) rfl dL_law_970 dL_law_971 dL_law_973 dL_law_974 dL_law_975 ?_
  refine z_callV2 X Y nN (c_X4_bonus l D t b (va_up (va_up S 22 f) 23 g) G h6 h7 h1 (xs (i + 1)) (xs (i + 2))) k_X4_bonus q_ml_L_144 [24, 25, 26, 27, 28, 29, 30, 31, 32, 33, 34, 35, 36, 37, 38, 39, 40, 41, 42] (fun u => wN t a b o w8 u q8) (fun u => lsNM) lpNM 24 4 rfl rfl (by decide) rfl rfl rfl (Nat.le_of_ble_eq_true rfl) ⟨hk, hn⟩ dL_law_976 (fun r2 u e2 => ?_)
  refine z_istore X dL_law_979 (by decide : 6 < 7) ?_
  refine z_lv (lv' := [some (.ref bs), some (.ref (a 0)), some (.ref (b 0)), some (.ref o), some (.int (nI i)), some (.int r1), some (.int r2)]) rfl ?_
  have fin : u 23 0 = r1 ∧ (r1 = 0 → q8 0 = r2.toInt64) ∧ FinOk t a b w8 u := by
    rcases e1 with ⟨k1, r9, u1, ⟨p1, p2, hr9⟩, rfl, rfl⟩ | ⟨C, u1, hc, k1, rfl, rfl⟩
    · rcases e2 with ⟨q1, q2, hr2, rfl⟩ | ⟨m1, rfl⟩ | ⟨q1, m2, rfl⟩
      · exact ⟨k1.symm, fun _ => updL0.trans (congrArg Int32.toInt64 (hr9.trans (((congrArg (fun w => bn (T3 S x y z s e) w (xs (i + 1)) (xs (i + 2))) (wk_ag Ag_T3 _ _ _)).trans (bn_ag Ag_T3 _ _ _)).trans (hr2.trans ((congrArg (fun w => bn (va_up (va_up S 22 f) 23 g) w (xs (i + 1)) (xs (i + 2))) (wk_ag Ag_M2 _ _ _)).trans (bn_ag Ag_M2 _ _ _))).symm))), S, sc, tk, m, G, x, y, z, s, e, f, fun _ => nI 0, hI, fun _ _ _ _ h => h⟩
      · exact absurd p1 m1
      · exact absurd p2 m2
    · rcases hc with ⟨rfl, n1⟩ | ⟨rfl, p1, n2⟩
      · rcases e2 with ⟨q1, q2, hr2, rfl⟩ | ⟨m1, rfl⟩ | ⟨q1, m2, rfl⟩
        · exact absurd q1 n1
        · exact ⟨ifC_I.symm.trans k1.symm, fun h0 => absurd (h0.symm.trans (k1.trans ifC_I)) (by decide +kernel), S, sc, tk, m, G, x, y, z, s, e, f, fun _ => nI 1, hI, fun _ _ _ _ h => h⟩
        · exact absurd q1 n1
      · rcases e2 with ⟨q1, q2, hr2, rfl⟩ | ⟨m1, rfl⟩ | ⟨q1, m2, rfl⟩
        · exact absurd q2 n2
        · exact absurd p1 m1
        · exact ⟨ifC_A.symm.trans k1.symm, fun h0 => absurd (h0.symm.trans (k1.trans ifC_A)) (by decide +kernel), S, sc, tk, m, G, x, y, z, s, e, f, fun _ => nI 2, hI, fun _ _ _ _ h => h⟩
  refine lw_endV X hk hn dL_law_981 dL_law_982 dL_law_985 dL_law_987 fin.1 ?_
  exact lw_endI X dL_law_992 dL_law_994 dL_law_997 dL_law_998 dL_law_999 dL_law_1000 dL_law_1002 dL_law_1003 dL_law_1004 dL_law_1009 (by decide) fin.2.1 fin.2.2 kk
set_option maxHeartbeats 4000000 in
set_option maxRecDepth 10000 in
theorem lw_isRing (X : zX E RL code 7 (zRm 64 601024 7293034) D t l) (Y : zWr E (aR a ++ aM b ++ [o])) (V : zTry E) (hX : va_X bs L xs (zs E) (zs E).heap) (hbl : bs < (zs E).heap.size) (hbA : ¬ zA E bs) (hL : L ≤ 3584) (hi : i + 6 < L) (hfl : l.stackTraces = false) (hk : k + 1 ≤ 601024) (hn : n + 6 ≤ 7293034) (kk : HL E t a b o bs (k + 1) (n + 6) 1208 i) : HL E t a b o bs k n 1012 i := by
  intro S sc tk m G x y z s e f g q hI
  obtain ⟨h1, h2, h3, h4, h5, h6, h7, h8, h9⟩ := id hI
  have hX3 := ctk_sum m (fun j hj => (h8 j hj).1)
  refine Wz.eq (ws' := wN t a b o (T3 S x y z s e) (va_up (va_up S 22 f) 23 g) q) rfl ?_
  refine z_aload_n X dL_law_1012 rfl rfl ?_
  refine z_arg (j := 1) X hX hbl hbA hL rfl rfl (by omega) rfl dL_law_1013 dL_law_1014 dL_law_1016 dL_law_1017 dL_law_1018 ?_
  refine z_aload_n X dL_law_1019 rfl rfl ?_
  refine z_callW (np := 3) X Y nN V (fun sz => c_L_isRing l hfl D t sz a (T3 S x y z s e) (xs (i + 1)) h1 o q) q_st_L_isRing q_in_L q_cw_L_isRing (by decide +kernel) (by decide) q_ml_L_145 [0, 1, 2, 3, 4, 5, 6, 7, 8, 9, 10, 11, 12, 13, 14, 15, 16, 17, 18, 19, 20, 21, 22, 23, 43] lpNo (fun w9 => wN t a b o w9.1 (va_up (va_up S 22 f) 23 g) w9.2) (fun w9 => lsNo) (by decide) rfl rfl rfl (Nat.le_of_ble_eq_true rfl) ⟨hk, hn⟩ dL_law_1020 (fun r1 w9 e1 => ?_)
  obtain ⟨w8, q8⟩ := w9
  dsimp only at e1
  refine z_istore X dL_law_1023 (by decide : 5 < 7) ?_
  refine z_lv (lv' := [some (.ref bs), some (.ref (a 0)), some (.ref (b 0)), some (.ref o), some (.int (nI i)), some (.int r1), none]) rfl ?_
  refine z_aload_n X dL_law_1025 rfl rfl ?_
  refine z_arg (j := 1) X hX hbl hbA hL rfl rfl (by omega) rfl dL_law_1026 dL_law_1027 dL_law_1029 dL_law_1030 dL_law_1031 ?_
  refine z_callV2 X Y nN (c_X4_isRing l D t b (va_up (va_up S 22 f) 23 g) h1 (xs (i + 1))) k_X4_isRing q_ml_L_147 [24, 25, 26, 27, 28, 29, 30, 31, 32, 33, 34, 35, 36, 37, 38, 39, 40, 41, 42] (fun u => wN t a b o w8 u q8) (fun u => lsNM) lpNM 24 4 rfl rfl (by decide) rfl rfl rfl (Nat.le_of_ble_eq_true rfl) ⟨hk, hn⟩ dL_law_1032 (fun r2 u e2 => ?_)
  refine z_istore X dL_law_1035 (by decide : 6 < 7) ?_
  refine z_lv (lv' := [some (.ref bs), some (.ref (a 0)), some (.ref (b 0)), some (.ref o), some (.int (nI i)), some (.int r1), some (.int r2)]) rfl ?_
  have fin : u 23 0 = r1 ∧ (r1 = 0 → (r2 = nI 1 ∧ q8 0 = 1) ∨ (r2 = nI 0 ∧ q8 0 = 0)) ∧ FinOk t a b w8 u := by
    rcases e1 with ⟨k1, r9, u1, ⟨hu, hg, hr9⟩, rfl, rfl⟩ | ⟨C, u1, hc, k1, rfl, rfl⟩
    · rcases e2 with ⟨k2, hk2, hg2, hr2, rfl⟩ | ⟨m1, rfl⟩
      · have ek := zn_inj (by omega) (by omega) (hg2.symm.trans hg)
        subst ek
        exact ⟨k1.symm, fun _ => bz64 hr9 hr2 (by rw [ch_ag (S := T3 S x y z s e) Ag_T3, ch_ag (S := va_up (va_up S 22 f) 23 g) Ag_M2]), S, sc, tk, m, G, x, y, z, s, e, f, fun _ => nI 0, hI, fun _ _ _ _ h => h⟩
      · exact absurd ⟨_, hu, hg⟩ m1
    · obtain ⟨rfl, n1⟩ := hc
      rcases e2 with ⟨k2, hk2, hg2, hr2, rfl⟩ | ⟨m1, rfl⟩
      · exact absurd ⟨_, hk2, hg2⟩ n1
      · exact ⟨k1.symm, fun h0 => absurd (h0.symm.trans k1) (by decide +kernel), S, sc, tk, m, G, x, y, z, s, e, f, fun _ => nI 1, hI, fun _ _ _ _ h => h⟩
  refine lw_endV X hk hn dL_law_1037 dL_law_1038 dL_law_1041 dL_law_1043 fin.1 ?_
  exact lw_endZ X dL_law_1048 dL_law_1050 dL_law_1053 dL_law_1054 dL_law_1055 dL_law_1056 dL_law_1058 dL_law_1061 dL_law_1062 dL_law_1065 dL_law_1066 dL_law_1067 dL_law_1072 (by decide) fin.2.1 fin.2.2 kk
set_option maxHeartbeats 4000000 in
set_option maxRecDepth 10000 in
theorem lw_isLawfulByOrders (X : zX E RL code 7 (zRm 64 601024 7293034) D t l) (Y : zWr E (aR a ++ aM b ++ [o])) (V : zTry E) (hX : va_X bs L xs (zs E) (zs E).heap) (hbl : bs < (zs E).heap.size) (hbA : ¬ zA E bs) (hL : L ≤ 3584) (hi : i + 6 < L) (hfl : l.stackTraces = false) (hk : k + 1 ≤ 601024) (hn : n + 6 ≤ 7293034) (kk : HL E t a b o bs (k + 1) (n + 6) 1208 i) : HL E t a b o bs k n 1101 i := by
  intro S sc tk m G x y z s e f g q hI
  obtain ⟨h1, h2, h3, h4, h5, h6, h7, h8, h9⟩ := id hI
  have hX3 := ctk_sum m (fun j hj => (h8 j hj).1)
  refine Wz.eq (ws' := wN t a b o (T3 S x y z s e) (va_up (va_up S 22 f) 23 g) q) rfl ?_
  refine z_aload_n X dL_law_1101 rfl rfl ?_
  refine z_aload_n X dL_law_1102 rfl rfl ?_
  refine z_callW (np := 2) X Y nN V (fun sz => c_L_isLawfulByOrders l hfl D t sz a S (ctk tk m 0) (ctk tk m 1) (ctk tk m 2) G h9 h6 h7 (by omega) h1 (by rw [hX3]; exact h4) x y z s e o q) q_st_L_isLawfulByOrders q_in_L q_cw_L_isLawfulByOrders (by decide +kernel) (by decide) q_ml_L_156 [0, 1, 2, 3, 4, 5, 6, 7, 8, 9, 10, 11, 12, 13, 14, 15, 16, 17, 18, 19, 20, 21, 22, 23, 43] lpNo (fun w9 => wN t a b o w9.1 (va_up (va_up S 22 f) 23 g) w9.2) (fun w9 => lsNo) (by decide) rfl rfl rfl (Nat.le_of_ble_eq_true rfl) ⟨hk, hn⟩ dL_law_1103 (fun r1 w9 e1 => ?_)
  obtain ⟨w8, q8⟩ := w9
  dsimp only at e1
  refine z_istore X dL_law_1106 (by decide : 5 < 7) ?_
  refine z_lv (lv' := [some (.ref bs), some (.ref (a 0)), some (.ref (b 0)), some (.ref o), some (.int (nI i)), some (.int r1), none]) rfl ?_
  refine z_aload_n X dL_law_1108 rfl rfl ?_
  refine z_callV2 X Y nN (c_X4_isLawfulByOrders l D t b (va_up (va_up S 22 f) 23 g) (ctk tk m 0) (ctk tk m 1) (ctk tk m 2) G h9 h6 h7 (by omega) h1 (by rw [hX3]; exact h4)) k_X4_isLawfulByOrders q_ml_L_158 [24, 25, 26, 27, 28, 29, 30, 31, 32, 33, 34, 35, 36, 37, 38, 39, 40, 41, 42] (fun u => wN t a b o w8 u q8) (fun u => lsNM) lpNM 24 4 rfl rfl (by decide) rfl rfl rfl (Nat.le_of_ble_eq_true rfl) ⟨hk, hn⟩ dL_law_1109 (fun r2 u e2 => ?_)
  refine z_istore X dL_law_1112 (by decide : 6 < 7) ?_
  refine z_lv (lv' := [some (.ref bs), some (.ref (a 0)), some (.ref (b 0)), some (.ref o), some (.int (nI i)), some (.int r1), some (.int r2)]) rfl ?_
  have fin : u 23 0 = r1 ∧ (r1 = 0 → (r2 = nI 1 ∧ q8 0 = 1) ∨ (r2 = nI 0 ∧ q8 0 = 0)) ∧ FinOk t a b w8 u := by
    rcases e1 with ⟨k1, r9, u1, ⟨hr9, hm⟩, rfl, rfl⟩ | ⟨C, u1, hc, k1, rfl, rfl⟩
    · rcases e2 with ⟨hm2, hr2, f2, rfl⟩ | ⟨m1, rfl⟩
      · exact ⟨k1.symm, fun _ => bz64 hr9 hr2 (Rc_mt (mt_ag Ag_M2)).symm, S, sc, tk, m, G, 0, 0, 0, 0, e, f2, fun _ => nI 0, hI, fun _ _ _ _ h => h⟩
      · exact absurd hm (by omega)
    · obtain ⟨rfl, n1⟩ := hc
      rcases e2 with ⟨hm2, hr2, f2, rfl⟩ | ⟨m1, rfl⟩
      · exact absurd hm2 (by omega)
      · exact ⟨k1.symm, fun h0 => absurd (h0.symm.trans k1) (by decide +kernel), S, sc, tk, m, G, x, y, z, s, e, f, fun _ => nI 1, hI, fun _ _ _ _ h => h⟩
  refine lw_endV X hk hn dL_law_1114 dL_law_1115 dL_law_1118 dL_law_1120 fin.1 ?_
  exact lw_endZ X dL_law_1125 dL_law_1127 dL_law_1130 dL_law_1131 dL_law_1132 dL_law_1133 dL_law_1135 dL_law_1138 dL_law_1139 dL_law_1142 dL_law_1143 dL_law_1144 dL_law_1149 (by decide) fin.2.1 fin.2.2 kk
set_option maxHeartbeats 4000000 in
set_option maxRecDepth 10000 in
theorem lw_stepAt (X : zX E RL code 7 (zRm 64 601024 7293034) D t l) (Y : zWr E (aR a ++ aM b ++ [o])) (V : zTry E) (hX : va_X bs L xs (zs E) (zs E).heap) (hbl : bs < (zs E).heap.size) (hbA : ¬ zA E bs) (hL : L ≤ 3584) (hi : i + 6 < L) (hfl : l.stackTraces = false) (hk : k + 1 ≤ 601024) (hn : n + 6 ≤ 7293034) (kk : HL E t a b o bs (k + 1) (n + 6) 1208 i) : HL E t a b o bs k n 1152 i := by
  intro S sc tk m G x y z s e f g q hI
  obtain ⟨h1, h2, h3, h4, h5, h6, h7, h8, h9⟩ := id hI
  have hX3 := ctk_sum m (fun j hj => (h8 j hj).1)
  refine Wz.eq (ws' := wN t a b o (T3 S x y z s e) (va_up (va_up S 22 f) 23 g) q) rfl ?_
  refine z_aload_n X dL_law_1152 rfl rfl ?_
  refine z_arg (j := 1) X hX hbl hbA hL rfl rfl (by omega) rfl dL_law_1153 dL_law_1154 dL_law_1156 dL_law_1157 dL_law_1158 ?_
  refine z_aload_n X dL_law_1159 rfl rfl ?_
  refine z_callW (np := 3) X Y nN V (fun sz => c_L_stepAt l hfl D t sz a S (ctk tk m 0) (ctk tk m 1) (ctk tk m 2) G h9 h6 h7 (by omega) h1 (by rw [hX3]; exact h4) x y z s e (xs (i + 1)) o q) q_st_L_stepAt q_in_L q_cw_L_stepAt (by decide +kernel) (by decide) q_ml_L_159 [0, 1, 2, 3, 4, 5, 6, 7, 8, 9, 10, 11, 12, 13, 14, 15, 16, 17, 18, 19, 20, 21, 22, 23, 43] lpNo (fun w9 => wN t a b o w9.1 (va_up (va_up S 22 f) 23 g) w9.2) (fun w9 => lsNo) (by decide) rfl rfl rfl (Nat.le_of_ble_eq_true rfl) ⟨hk, hn⟩ dL_law_1160 (fun r1 w9 e1 => ?_)
  obtain ⟨w8, q8⟩ := w9
  dsimp only at e1
  refine z_istore X dL_law_1163 (by decide : 5 < 7) ?_
  refine z_lv (lv' := [some (.ref bs), some (.ref (a 0)), some (.ref (b 0)), some (.ref o), some (.int (nI i)), some (.int r1), none]) rfl ?_
  refine z_aload_n X dL_law_1165 rfl rfl ?_
  refine z_arg (j := 1) X hX hbl hbA hL rfl rfl (by omega) rfl dL_law_1166 dL_law_1167 dL_law_1169 dL_law_1170 dL_law_1171 ?_
  refine z_callV2 X Y nN (c_X4_stepAt l D t b (va_up (va_up S 22 f) 23 g) (ctk tk m 0) (ctk tk m 1) (ctk tk m 2) G h9 h6 h7 (by omega) h1 (by rw [hX3]; exact h4) (xs (i + 1))) k_X4_stepAt q_ml_L_161 [24, 25, 26, 27, 28, 29, 30, 31, 32, 33, 34, 35, 36, 37, 38, 39, 40, 41, 42] (fun u => wN t a b o w8 u q8) (fun u => lsNM) lpNM 24 4 rfl rfl (by decide) rfl rfl rfl (Nat.le_of_ble_eq_true rfl) ⟨hk, hn⟩ dL_law_1172 (fun r2 u e2 => ?_)
  refine z_istore X dL_law_1175 (by decide : 6 < 7) ?_
  refine z_lv (lv' := [some (.ref bs), some (.ref (a 0)), some (.ref (b 0)), some (.ref o), some (.int (nI i)), some (.int r1), some (.int r2)]) rfl ?_
  have fin : u 23 0 = r1 ∧ (r1 = 0 → q8 0 = r2.toInt64) ∧ FinOk t a b w8 u := by
    rcases e1 with ⟨k1, r9, u1, ⟨w9, hw9, hv, hR, hr9⟩, rfl, rfl⟩ | ⟨C, u1, hc, k1, rfl, rfl⟩
    · rcases e2 with ⟨w2, hw2, hv2, hR2, hr2, f2, rfl⟩ | ⟨m1, f2, rfl⟩ | ⟨q1, m2, f2, rfl⟩
      · have ek := zn_inj hw2 hw9 (hv2.symm.trans hv)
        subst ek
        exact ⟨k1.symm, fun _ => updL0.trans (congrArg Int32.toInt64 (stp_eq (mt_ag Ag_M2) hr9 hr2)), S, sc, tk, m, G, u1.1, u1.2.1, u1.2.2.1, u1.2.2.2.1, u1.2.2.2.2, f2, fun _ => nI 0, hI, fun _ _ _ _ h => h⟩
      · exact absurd (neg0 hw9 hv) (not_not_intro m1)
      · exact absurd hR (fun z9 => m2 ((Rc_mt (mt_ag Ag_M2)).mpr z9))
    · rcases hc with ⟨rfl, n1⟩ | ⟨rfl, p1, n2⟩
      · rcases e2 with ⟨w2, hw2, hv2, hR2, hr2, f2, rfl⟩ | ⟨m1, f2, rfl⟩ | ⟨q1, m2, f2, rfl⟩
        · exact absurd (neg0 hw2 hv2) (not_not_intro n1)
        · exact ⟨ifC_I.symm.trans k1.symm, fun h0 => absurd (h0.symm.trans (k1.trans ifC_I)) (by decide +kernel), S, sc, tk, m, G, u1.1, u1.2.1, u1.2.2.1, u1.2.2.2.1, u1.2.2.2.2, f2, fun _ => nI 1, hI, fun _ _ _ _ h => h⟩
        · exact absurd q1 (not_not_intro n1)
      · rcases e2 with ⟨w2, hw2, hv2, hR2, hr2, f2, rfl⟩ | ⟨m1, f2, rfl⟩ | ⟨q1, m2, f2, rfl⟩
        · exact absurd ((Rc_mt (mt_ag Ag_M2)).mp hR2) n2
        · exact absurd p1 (not_not_intro m1)
        · exact ⟨ifC_S.symm.trans k1.symm, fun h0 => absurd (h0.symm.trans (k1.trans ifC_S)) (by decide +kernel), S, sc, tk, m, G, u1.1, u1.2.1, u1.2.2.1, u1.2.2.2.1, u1.2.2.2.2, f2, fun _ => nI 2, hI, fun _ _ _ _ h => h⟩
  refine lw_endV X hk hn dL_law_1177 dL_law_1178 dL_law_1181 dL_law_1183 fin.1 ?_
  exact lw_endI X dL_law_1188 dL_law_1190 dL_law_1193 dL_law_1194 dL_law_1195 dL_law_1196 dL_law_1198 dL_law_1199 dL_law_1200 dL_law_1205 (by decide) fin.2.1 fin.2.2 kk
end ZC6
