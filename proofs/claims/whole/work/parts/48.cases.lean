/-! the law's cases -/
/-- the loop's head, at i, for every state that keeps the invariant -/
def HL (E : zE) (t : ClassId × ClassId × ClassId) (a b : Nat → Nat) (o bs : Nat) (k n pc i : Nat) : Prop :=
  ∀ (S : zS) (sc tk : Nat → Nat) (m G x y z s : Nat) (e f g : Nat → Int32) (q : Nat → Int64), zIv S sc tk m G → Wz E k n pc [some (.ref bs), some (.ref (a 0)), some (.ref (b 0)), some (.ref o), some (.int (nI i)), none, none] [] (wL t a b o S x y z s e f g q)
section ZC
variable {E : zE} {k n i : Nat} {D : va_G} {t : ClassId × ClassId × ClassId} {l : Launch} {a b : Nat → Nat} {o bs : Nat} {L : List Nat}
set_option maxHeartbeats 1000000 in
theorem lw_c12 (X : zX E RL code 7 (zRm 64 601024 7293034) D t l) (Y : zWr E (aR a ++ aM b ++ [o])) (hk : k ≤ 601024) (hn : n ≤ 7293034) (kk : HL E t a b o bs k n 1208 i) : HL E t a b o bs k n 836 i := by
  intro S sc tk m G x y z s e f g q hI
  obtain ⟨h1, h2, h3, h4, h5, h6, h7, h8, h9⟩ := id hI
  refine z_aload_n X dL_law_836 rfl rfl ?_
  refine z_callV1 X (c_X3_working l D t a (T3 S x y z s e) G h6 h7 h1) k_X3_working q_ml_L_123 is24 lpR 0 3 rfl rfl (by decide) rfl rfl rfl (Nat.le_of_ble_eq_true rfl) ⟨hk, hn⟩ dL_law_837 (fun r1 e1 => ?_)
  refine z_aload_n X dL_law_840 rfl rfl ?_
  refine z_callV2 X Y rfl (c_X4_working l D t b (va_up (va_up S 22 f) 23 g) G h6 h7 h1) k_X4_working q_ml_L_126 [24, 25, 26, 27, 28, 29, 30, 31, 32, 33, 34, 35, 36, 37, 38, 39, 40, 41, 42] (fun _ => wL t a b o S x y z s e f (fun _ => nI 0) q) (fun _ => ⟨lpM, ⟨by decide, rfl⟩, rfl, rfl⟩) lpM 24 4 rfl rfl (by decide) rfl rfl rfl (Nat.le_of_ble_eq_true rfl) ⟨hk, hn⟩ dL_law_841 (fun r2 u e2 => ?_)
  have e3 : r1 = r2 := by
    rw [e1, e2]
    exact congrArg nI ((wk_ag Ag_T3 _ _ _).trans (wk_ag Ag_M2 _ _ _).symm)
  refine z_icmp_eq (tgt := 1208) X dL_law_844 (by decide) (fun _ => ?_) (fun c => absurd e3 c)
  exact kk S sc tk m G x y z s e f _ q hI
end ZC
