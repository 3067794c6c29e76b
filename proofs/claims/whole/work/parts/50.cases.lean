/-- the world between the two sides' calls -/
abbrev wL2 (t : ClassId × ClassId × ClassId) (a b : Nat → Nat) (o : Nat) (S S2 : zS) (x y z s : Nat) (e f g : Nat → Int32) (q : Nat → Int64) : va_W := wR t a (T3 S x y z s e) ++ wM t b (va_up (va_up S2 22 f) 23 g) ++ [(o, .inl (t.2.2, 1, .inr (.inl q)))]
theorem lpM2 {t : ClassId × ClassId × ClassId} {a b : Nat → Nat} {o : Nat} {S S2 : zS} {x y z s : Nat} {e f g : Nat → Int32} {q : Nat → Int64} : zPart (wL2 t a b o S S2 x y z s e f g q) [24, 25, 26, 27, 28, 29, 30, 31, 32, 33, 34, 35, 36, 37, 38, 39, 40, 41, 42] (wM t b (va_up (va_up S2 22 f) 23 g)) := ⟨by decide, rfl⟩
section ZC3
variable {E : zE} {k n i : Nat} {D : va_G} {t : ClassId × ClassId × ClassId} {l : Launch} {a b : Nat → Nat} {o bs : Nat}
set_option maxHeartbeats 1000000 in
theorem lw_clear (X : zX E RL code 7 (zRm 64 601024 7293034) D t l) (Y : zWr E (aR a ++ aM b ++ [o])) (hk : k ≤ 601024) (hn : n ≤ 7293034) (kk : HL E t a b o bs k n 1208 i) : HL E t a b o bs k n 754 i := by
  intro S sc tk m G x y z s e f g q hI
  obtain ⟨h1, h2, h3, h4, h5, h6, h7, h8, h9⟩ := id hI
  refine z_aload_n X dL_law_754 rfl rfl ?_
  refine z_callV2 X Y rfl (c_X3_clear l D t a (T3 S x y z s e) m G h4 h6 h7) k_X3_clear q_ml_L_112 is24 (fun _ => wL2 t a b o (va_up (va_up (va_up S 18 (fun _ => nI 0)) 15 (fun _ => nI 0)) 17 (fun _ => nI 0)) S x y z s e f g q) (fun _ => ⟨lpR, ⟨by decide, rfl⟩, rfl, rfl⟩) lpR 0 3 rfl rfl (by decide) rfl rfl rfl (Nat.le_of_ble_eq_true rfl) ⟨hk, hn⟩ dL_law_755 (fun r1 u1 e1 => ?_)
  refine z_aload_n X dL_law_758 rfl rfl ?_
  refine z_callV2 X Y rfl (c_X4_clear l D t b (va_up (va_up S 22 f) 23 g) m G h4 h6 h7) k_X4_clear q_ml_L_115 [24, 25, 26, 27, 28, 29, 30, 31, 32, 33, 34, 35, 36, 37, 38, 39, 40, 41, 42] (fun _ => wL t a b o (va_up (va_up (va_up S 18 (fun _ => nI 0)) 15 (fun _ => nI 0)) 17 (fun _ => nI 0)) x y z s e f (fun _ => nI 0) q) (fun _ => ⟨lpM2, ⟨by decide, rfl⟩, rfl, rfl⟩) lpM2 24 4 rfl rfl (by decide) rfl rfl rfl (Nat.le_of_ble_eq_true rfl) ⟨hk, hn⟩ dL_law_759 (fun r2 u e2 => ?_)
  refine z_icmp_eq (tgt := 1208) X dL_law_762 (by decide) (fun _ => ?_) (fun c => absurd (e1.trans e2.symm) c)
  exact kk _ sc tk 0 0 x y z s e f _ q (Iv_clear hI)
set_option maxHeartbeats 1000000 in
theorem lw_isLawful (X : zX E RL code 7 (zRm 64 601024 7293034) D t l) (Y : zWr E (aR a ++ aM b ++ [o])) (hk : k ≤ 601024) (hn : n ≤ 7293034) (kk : HL E t a b o bs k n 1208 i) : HL E t a b o bs k n 1088 i := by
  intro S sc tk m G x y z s e f g q hI
  obtain ⟨h1, h2, h3, h4, h5, h6, h7, h8, h9⟩ := id hI
  have hX := ctk_sum m (fun j hj => (h8 j hj).1)
  refine z_aload_n X dL_law_1088 rfl rfl ?_
  refine z_callV2 X Y rfl (c_X3_isLawful l D t a S (ctk tk m 0) (ctk tk m 1) (ctk tk m 2) G h9 h6 h7 (by omega) h1 (by rw [hX]; exact h4) x y z s e) k_X3_isLawful q_ml_L_152 is24 (fun u => wL2 t a b o S S 0 0 0 0 u f g q) (fun _ => ⟨lpR, ⟨by decide, rfl⟩, rfl, rfl⟩) lpR 0 3 rfl rfl (by decide) rfl rfl rfl (Nat.le_of_ble_eq_true rfl) ⟨hk, hn⟩ dL_law_1089 (fun r1 u1 e1 => ?_)
  refine z_aload_n X dL_law_1092 rfl rfl ?_
  refine z_callV2 X Y rfl (c_X4_isLawful l D t b (va_up (va_up S 22 f) 23 g) (ctk tk m 0) (ctk tk m 1) (ctk tk m 2) G h9 h6 h7 (by omega) h1) k_X4_isLawful q_ml_L_155 [24, 25, 26, 27, 28, 29, 30, 31, 32, 33, 34, 35, 36, 37, 38, 39, 40, 41, 42] (fun u => wL t a b o S 0 0 0 0 u1 u (fun _ => nI 0) q) (fun _ => ⟨lpM2, ⟨by decide, rfl⟩, rfl, rfl⟩) lpM2 24 4 rfl rfl (by decide) rfl rfl rfl (Nat.le_of_ble_eq_true rfl) ⟨hk, hn⟩ dL_law_1093 (fun r2 u e2 => ?_)
  refine z_icmp_eq (tgt := 1208) X dL_law_1096 (by decide) (fun _ => ?_) (fun c => absurd (e1.eq (e2.iff (Rc_mt (mt_ag Ag_M2)))) c)
  exact kk S sc tk m G 0 0 0 0 u1 u _ q hI
end ZC3
