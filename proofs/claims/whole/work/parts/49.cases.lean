section ZC2
variable {E : zE} {k n i : Nat} {D : va_G} {t : ClassId × ClassId × ClassId} {l : Launch} {a b : Nat → Nat} {o bs : Nat}
set_option maxHeartbeats 1000000 in
theorem lw_gifts (X : zX E RL code 7 (zRm 64 601024 7293034) D t l) (Y : zWr E (aR a ++ aM b ++ [o])) (hk : k ≤ 601024) (hn : n ≤ 7293034) (kk : HL E t a b o bs k n 1208 i) : HL E t a b o bs k n 823 i := by
  intro S sc tk m G x y z s e f g q hI
  obtain ⟨h1, h2, h3, h4, h5, h6, h7, h8, h9⟩ := id hI
  have hX := ctk_sum m (fun j hj => (h8 j hj).1)
  refine z_aload_n X dL_law_823 rfl rfl ?_
  refine z_callV1 X (c_X3_gifts l D t a (T3 S x y z s e) ) k_X3_gifts q_ml_L_119 is24 lpR 0 3 rfl rfl (by decide) rfl rfl rfl (Nat.le_of_ble_eq_true rfl) ⟨hk, hn⟩ dL_law_824 (fun r1 e1 => ?_)
  refine z_aload_n X dL_law_827 rfl rfl ?_
  refine z_callV2 X Y rfl (c_X4_gifts l D t b (va_up (va_up S 22 f) 23 g) ) k_X4_gifts q_ml_L_122 [24, 25, 26, 27, 28, 29, 30, 31, 32, 33, 34, 35, 36, 37, 38, 39, 40, 41, 42] (fun _ => wL t a b o S x y z s e f (fun _ => nI 0) q) (fun _ => ⟨lpM, ⟨by decide, rfl⟩, rfl, rfl⟩) lpM 24 4 rfl rfl (by decide) rfl rfl rfl (Nat.le_of_ble_eq_true rfl) ⟨hk, hn⟩ dL_law_828 (fun r2 u e2 => ?_)
  have e3 : r1 = r2 := by
    rw [e1, e2]
    rfl
  refine z_icmp_eq (tgt := 1208) X dL_law_831 (by decide) (fun _ => ?_) (fun c => absurd e3 c)
  exact kk S sc tk m G x y z s e f _ q hI
set_option maxHeartbeats 1000000 in
theorem lw_open (X : zX E RL code 7 (zRm 64 601024 7293034) D t l) (Y : zWr E (aR a ++ aM b ++ [o])) (hk : k ≤ 601024) (hn : n ≤ 7293034) (kk : HL E t a b o bs k n 1208 i) : HL E t a b o bs k n 849 i := by
  intro S sc tk m G x y z s e f g q hI
  obtain ⟨h1, h2, h3, h4, h5, h6, h7, h8, h9⟩ := id hI
  have hX := ctk_sum m (fun j hj => (h8 j hj).1)
  refine z_aload_n X dL_law_849 rfl rfl ?_
  refine z_callV1 X (c_X3_open l D t a (T3 S x y z s e) (ctk tk m 0) (ctk tk m 1) (ctk tk m 2) G h9 h6 h7 (by omega) h1) k_X3_open q_ml_L_127 is24 lpR 0 3 rfl rfl (by decide) rfl rfl rfl (Nat.le_of_ble_eq_true rfl) ⟨hk, hn⟩ dL_law_850 (fun r1 e1 => ?_)
  refine z_aload_n X dL_law_853 rfl rfl ?_
  refine z_callV2 X Y rfl (c_X4_open l D t b (va_up (va_up S 22 f) 23 g) (ctk tk m 0) (ctk tk m 1) (ctk tk m 2) G h9 h6 h7 (by omega) h1) k_X4_open q_ml_L_130 [24, 25, 26, 27, 28, 29, 30, 31, 32, 33, 34, 35, 36, 37, 38, 39, 40, 41, 42] (fun _ => wL t a b o S x y z s e f (fun _ => nI 0) q) (fun _ => ⟨lpM, ⟨by decide, rfl⟩, rfl, rfl⟩) lpM 24 4 rfl rfl (by decide) rfl rfl rfl (Nat.le_of_ble_eq_true rfl) ⟨hk, hn⟩ dL_law_854 (fun r2 u e2 => ?_)
  have e3 : r1 = r2 := by
    rw [e1, e2]
    exact congrArg nI ((opN_ag Ag_T3 _ _ _ _ _).trans (opN_ag Ag_M2 _ _ _ _ _).symm)
  refine z_icmp_eq (tgt := 1208) X dL_law_857 (by decide) (fun _ => ?_) (fun c => absurd e3 c)
  exact kk S sc tk m G x y z s e f _ q hI
set_option maxHeartbeats 1000000 in
theorem lw_places (X : zX E RL code 7 (zRm 64 601024 7293034) D t l) (Y : zWr E (aR a ++ aM b ++ [o])) (hk : k ≤ 601024) (hn : n ≤ 7293034) (kk : HL E t a b o bs k n 1208 i) : HL E t a b o bs k n 862 i := by
  intro S sc tk m G x y z s e f g q hI
  obtain ⟨h1, h2, h3, h4, h5, h6, h7, h8, h9⟩ := id hI
  have hX := ctk_sum m (fun j hj => (h8 j hj).1)
  refine z_aload_n X dL_law_862 rfl rfl ?_
  refine z_callV1 X (c_X3_places l D t a (T3 S x y z s e) (ctk tk m 0) (ctk tk m 1) (ctk tk m 2) h9 (by omega)) k_X3_places q_ml_L_131 is24 lpR 0 3 rfl rfl (by decide) rfl rfl rfl (Nat.le_of_ble_eq_true rfl) ⟨hk, hn⟩ dL_law_863 (fun r1 e1 => ?_)
  refine z_aload_n X dL_law_866 rfl rfl ?_
  refine z_callV2 X Y rfl (c_X4_places l D t b (va_up (va_up S 22 f) 23 g) m h4 h5) k_X4_places q_ml_L_134 [24, 25, 26, 27, 28, 29, 30, 31, 32, 33, 34, 35, 36, 37, 38, 39, 40, 41, 42] (fun _ => wL t a b o S x y z s e f (fun _ => nI 0) q) (fun _ => ⟨lpM, ⟨by decide, rfl⟩, rfl, rfl⟩) lpM 24 4 rfl rfl (by decide) rfl rfl rfl (Nat.le_of_ble_eq_true rfl) ⟨hk, hn⟩ dL_law_867 (fun r2 u e2 => ?_)
  have e3 : r1 = r2 := by
    rw [e1, e2]
    rw [hX]
  refine z_icmp_eq (tgt := 1208) X dL_law_870 (by decide) (fun _ => ?_) (fun c => absurd e3 c)
  exact kk S sc tk m G x y z s e f _ q hI
set_option maxHeartbeats 1000000 in
theorem lw_points (X : zX E RL code 7 (zRm 64 601024 7293034) D t l) (Y : zWr E (aR a ++ aM b ++ [o])) (hk : k ≤ 601024) (hn : n ≤ 7293034) (kk : HL E t a b o bs k n 1208 i) : HL E t a b o bs k n 875 i := by
  intro S sc tk m G x y z s e f g q hI
  obtain ⟨h1, h2, h3, h4, h5, h6, h7, h8, h9⟩ := id hI
  have hX := ctk_sum m (fun j hj => (h8 j hj).1)
  refine z_aload_n X dL_law_875 rfl rfl ?_
  refine z_callV1 X (c_X3_points l D t a (T3 S x y z s e) sc h2 h3) k_X3_points q_ml_L_135 is24 lpR 0 3 rfl rfl (by decide) rfl rfl rfl (Nat.le_of_ble_eq_true rfl) ⟨hk, hn⟩ dL_law_876 (fun r1 e1 => ?_)
  refine z_aload_n X dL_law_879 rfl rfl ?_
  refine z_callV2 X Y rfl (c_X4_points l D t b (va_up (va_up S 22 f) 23 g) sc h2 h3) k_X4_points q_ml_L_138 [24, 25, 26, 27, 28, 29, 30, 31, 32, 33, 34, 35, 36, 37, 38, 39, 40, 41, 42] (fun _ => wL t a b o S x y z s e f (fun _ => nI 0) q) (fun _ => ⟨lpM, ⟨by decide, rfl⟩, rfl, rfl⟩) lpM 24 4 rfl rfl (by decide) rfl rfl rfl (Nat.le_of_ble_eq_true rfl) ⟨hk, hn⟩ dL_law_880 (fun r2 u e2 => ?_)
  have e3 : r1 = r2 := by
    rw [e1, e2]
    skip
  refine z_icmp_eq (tgt := 1208) X dL_law_883 (by decide) (fun _ => ?_) (fun c => absurd e3 c)
  exact kk S sc tk m G x y z s e f _ q hI
set_option maxHeartbeats 1000000 in
theorem lw_attack (X : zX E RL code 7 (zRm 64 601024 7293034) D t l) (Y : zWr E (aR a ++ aM b ++ [o])) (hk : k ≤ 601024) (hn : n ≤ 7293034) (kk : HL E t a b o bs k n 1208 i) : HL E t a b o bs k n 1075 i := by
  intro S sc tk m G x y z s e f g q hI
  obtain ⟨h1, h2, h3, h4, h5, h6, h7, h8, h9⟩ := id hI
  have hX := ctk_sum m (fun j hj => (h8 j hj).1)
  refine z_aload_n X dL_law_1075 rfl rfl ?_
  refine z_callV1 X (c_X3_attack l D t a (T3 S x y z s e) (ctk tk m 0) (ctk tk m 1) (ctk tk m 2) h9 (by omega)) k_X3_attack q_ml_L_148 is24 lpR 0 3 rfl rfl (by decide) rfl rfl rfl (Nat.le_of_ble_eq_true rfl) ⟨hk, hn⟩ dL_law_1076 (fun r1 e1 => ?_)
  refine z_aload_n X dL_law_1079 rfl rfl ?_
  refine z_callV2 X Y rfl (c_X4_attack l D t b (va_up (va_up S 22 f) 23 g) (ctk tk m 0) (ctk tk m 1) (ctk tk m 2) h9 (by omega)) k_X4_attack q_ml_L_151 [24, 25, 26, 27, 28, 29, 30, 31, 32, 33, 34, 35, 36, 37, 38, 39, 40, 41, 42] (fun _ => wL t a b o S x y z s e f (fun _ => nI 0) q) (fun _ => ⟨lpM, ⟨by decide, rfl⟩, rfl, rfl⟩) lpM 24 4 rfl rfl (by decide) rfl rfl rfl (Nat.le_of_ble_eq_true rfl) ⟨hk, hn⟩ dL_law_1080 (fun r2 u e2 => ?_)
  have e3 : r1 = r2 := by
    rw [e1, e2]
    skip
  refine z_icmp_eq (tgt := 1208) X dL_law_1083 (by decide) (fun _ => ?_) (fun c => absurd e3 c)
  exact kk S sc tk m G x y z s e f _ q hI
end ZC2
