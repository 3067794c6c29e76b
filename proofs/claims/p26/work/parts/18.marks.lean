/-! the table of marks -/
def ix (Y Z x y z s : Nat) : Nat := stg Y Z x y z * 256 + s
def Tb (S : zS) (X Y Z G : Nat) (e : Nat → Int32) (p : Nat) : Prop := ∀ x y z s, x ≤ X → y ≤ Y → z ≤ Z → s < 256 → (p ≤ ix Y Z x y z s → (mkd e Y Z x y z s ↔ Rc S X Y Z G x y z s)) ∧ (ix Y Z x y z s < p → ¬ mkd e Y Z x y z s)
section
variable {S : zS} {X Y Z G x y z s k p : Nat} {e : Nat → Int32}
theorem ixs : ix Y Z x y z (s + 1) = ix Y Z x y z s + 1 := by unfold ix; omega
theorem ix0 : ix Y Z x y z 0 = stg Y Z x y z * 256 := by unfold ix; omega
theorem ix_inj {x' y' z' s' : Nat} (hy : y ≤ Y) (hz : z ≤ Z) (hy' : y' ≤ Y) (hz' : z' ≤ Z) (hs : s < 256) (hs' : s' < 256) (h : ix Y Z x y z s = ix Y Z x' y' z' s') : x = x' ∧ y = y' ∧ z = z' ∧ s = s' := by
  unfold ix at h
  have h1 : stg Y Z x y z = stg Y Z x' y' z' := by omega
  obtain ⟨h2, h3, h4⟩ := stg_inj hy hz hy' hz' h1
  exact ⟨h2, h3, h4, by omega⟩
theorem ix_wd : wd Y Z x y z s = ix Y Z x y z s / 32 ∧ s % 32 = ix Y Z x y z s % 32 := by
  unfold wd ix; omega
theorem or_gt {s j : Nat} (h : s.testBit j = false) : s < s ||| 2 ^ j := by
  have h1 : s ≤ s ||| 2 ^ j := Nat.left_le_or
  rcases Nat.lt_or_eq_of_le h1 with q | q
  · exact q
  · have h2 := or_bit (s := s) (j := j) (i := j)
    rw [← q, h] at h2
    simp at h2
theorem ix_succ (h : stp S X Y Z G x y z s k) (hb : inB X Y Z G x y z s) (hG : G < 256) : ix Y Z x y z s + 1 ≤ ix Y Z (gx k x) (gy k y) (gz k z) (gs k s) := by
  have hs := sub8_lt hb.2.2.2 hG
  obtain ⟨hx, hy, hz, -⟩ := hb
  unfold ix
  rcases stp_cases h with ⟨-, h0, e1, e2, e3, e4⟩ | ⟨-, h0, e1, e2, e3, e4⟩ | ⟨-, h0, e1, e2, e3, e4⟩ | ⟨j, -, hj, hbj, hm, e1, e2, e3, e4⟩
  · rw [e1, e2, e3, e4]
    have h1 := stg_x (Y := Y) (Z := Z) (X := X) (x := x) hy hz
    have h2 := stg_mono (Y := Y) (Z := Z) (Nat.le_refl (x + 1)) (Nat.zero_le y) (Nat.zero_le z)
    omega
  · rw [e1, e2, e3, e4]
    have h1 := stg_y (Y := Y) (Z := Z) (x := x) (y := y) hz
    have h2 := stg_mono (Y := Y) (Z := Z) (Nat.le_refl x) (Nat.le_refl (y + 1)) (Nat.zero_le z)
    omega
  · rw [e1, e2, e3, e4, stg_z]; omega
  · rw [e1, e2, e3, e4]
    have := or_gt hm.1
    omega
theorem mkd_iff {x' y' z' s' : Nat} (hy : y ≤ Y) (hz : z ≤ Z) (hy' : y' ≤ Y) (hz' : z' ≤ Z) (hs : s < 256) (hs' : s' < 256) : mkd (upd e (wd Y Z x y z s) (e (wd Y Z x y z s) ||| nI (2 ^ (s % 32)))) Y Z x' y' z' s' ↔ mkd e Y Z x' y' z' s' ∨ ix Y Z x' y' z' s' = ix Y Z x y z s := by
  unfold mkd upd
  have w1 := ix_wd (Y := Y) (Z := Z) (x := x) (y := y) (z := z) (s := s)
  have w2 := ix_wd (Y := Y) (Z := Z) (x := x') (y := y') (z := z') (s := s')
  by_cases h : wd Y Z x' y' z' s' = wd Y Z x y z s
  · rw [if_pos h, btm_or, btm_pow (Nat.mod_lt _ (by decide)) (Nat.mod_lt _ (by decide)), h]
    constructor
    · rintro (q | q)
      · exact Or.inl q
      · exact Or.inr (by omega)
    · rintro (q | q)
      · exact Or.inl q
      · exact Or.inr (by omega)
  · rw [if_neg h]
    constructor
    · exact Or.inl
    · rintro (q | q)
      · exact q
      · exact absurd (by omega) h
theorem Tb_mark (hT : Tb S X Y Z G e (ix Y Z x y z (s + 1))) (hx : x ≤ X) (hy : y ≤ Y) (hz : z ≤ Z) (hs : s < 256) (hR : Rc S X Y Z G x y z s) : Tb S X Y Z G (upd e (wd Y Z x y z s) (e (wd Y Z x y z s) ||| nI (2 ^ (s % 32)))) (ix Y Z x y z s) := by
  rw [ixs] at hT
  intro x' y' z' s' hx' hy' hz' hs'
  obtain ⟨h1, h2⟩ := hT x' y' z' s' hx' hy' hz' hs'
  rw [mkd_iff hy hz hy' hz' hs hs']
  constructor
  · intro h
    rcases Nat.eq_or_lt_of_le h with q | q
    · obtain ⟨rfl, rfl, rfl, rfl⟩ := ix_inj hy hz hy' hz' hs hs' q
      exact ⟨fun _ => hR, fun _ => Or.inr rfl⟩
    · rw [h1 q]
      exact ⟨fun q2 => q2.elim id (fun q3 => absurd q3 (by omega)), Or.inl⟩
  · intro h q
    rcases q with q | q
    · exact h2 (by omega) q
    · omega
theorem Tb_skip (hT : Tb S X Y Z G e (ix Y Z x y z (s + 1))) (hy : y ≤ Y) (hz : z ≤ Z) (hs : s < 256) (hR : ¬ Rc S X Y Z G x y z s) : Tb S X Y Z G e (ix Y Z x y z s) := by
  rw [ixs] at hT
  intro x' y' z' s' hx' hy' hz' hs'
  obtain ⟨h1, h2⟩ := hT x' y' z' s' hx' hy' hz' hs'
  constructor
  · intro h
    rcases Nat.eq_or_lt_of_le h with q | q
    · obtain ⟨rfl, rfl, rfl, rfl⟩ := ix_inj hy hz hy' hz' hs hs' q
      exact ⟨fun q2 => absurd q2 (h2 (by omega)), fun q2 => absurd q2 hR⟩
    · exact h1 q
  · intro h
    exact h2 (by omega)
theorem sub_le (h : sub8 s G) : s ≤ G := by
  rcases Nat.lt_or_ge G s with q | q
  · exfalso
    have h1 : s &&& G = s := by
      apply Nat.eq_of_testBit_eq
      intro i
      rw [Nat.testBit_and]
      cases hb : s.testBit i with
      | false => rfl
      | true => rw [h i hb]; rfl
    have h2 : s &&& G ≤ G := Nat.and_le_right
    omega
  · exact q
/-- sets above the goal are marked nowhere, and lead nowhere -/
theorem Tb_top (hx : x ≤ X) (hy : y ≤ Y) (hz : z ≤ Z) (hG : G < 256) (hT : Tb S X Y Z G e ((stg Y Z x y z + 1) * 256)) : Tb S X Y Z G e (ix Y Z x y z (G + 1)) := by
  rw [ixs]
  intro x' y' z' s' hx' hy' hz' hs'
  obtain ⟨h1, h2⟩ := hT x' y' z' s' hx' hy' hz' hs'
  constructor
  · intro h
    rcases Nat.lt_or_ge (ix Y Z x' y' z' s') ((stg Y Z x y z + 1) * 256) with q | q
    · refine ⟨fun q2 => absurd q2 (h2 q), fun q2 => ?_⟩
      have h3 := sub_le (Rc_inB q2).2.2.2
      unfold ix at h q
      have h4 : stg Y Z x' y' z' = stg Y Z x y z := by omega
      omega
    · exact h1 q
  · intro h
    exact h2 (by unfold ix at h ⊢; omega)
theorem Pk_Rc (hT : Tb S X Y Z G e (ix Y Z x y z (s + 1))) (hb : inB X Y Z G x y z s) (hG : G < 256) : Pk S X Y Z G x y z s e k ↔ stp S X Y Z G x y z s k ∧ Rc S X Y Z G (gx k x) (gy k y) (gz k z) (gs k s) := by
  rw [ixs] at hT
  unfold Pk
  constructor
  · rintro ⟨h1, h2⟩
    have b := (stp_inB h1).mpr hb
    exact ⟨h1, ((hT _ _ _ _ b.1 b.2.1 b.2.2.1 (sub8_lt b.2.2.2 hG)).1 (ix_succ h1 hb hG)).mp h2⟩
  · rintro ⟨h1, h2⟩
    have b := (stp_inB h1).mpr hb
    exact ⟨h1, ((hT _ _ _ _ b.1 b.2.1 b.2.2.1 (sub8_lt b.2.2.2 hG)).1 (ix_succ h1 hb hG)).mpr h2⟩
theorem Rc_Pk (hT : Tb S X Y Z G e (ix Y Z x y z (s + 1))) (hb : inB X Y Z G x y z s) (hG : G < 256) : Rc S X Y Z G x y z s ↔ (x = X ∧ y = Y ∧ z = Z ∧ s = G) ∨ ∃ k, k < 11 ∧ Pk S X Y Z G x y z s e k := by
  rw [Rc_step]
  constructor
  · rintro (h | ⟨k, h1, h2⟩)
    · exact Or.inl h
    · exact Or.inr ⟨k, h1, (Pk_Rc hT hb hG).mpr h2⟩
  · rintro (h | ⟨k, h1, h2⟩)
    · exact Or.inl h
    · exact Or.inr ⟨k, h1, (Pk_Rc hT hb hG).mp h2⟩
theorem fst_ne {r : Int32} {P : Nat → Prop} (h : fstR r P) : ¬ r = -1 ↔ ∃ k, k < 11 ∧ P k := by
  rcases h with ⟨k, h1, rfl, h2, -⟩ | ⟨rfl, h⟩
  · exact ⟨fun _ => ⟨k, h1, h2⟩, fun _ => zn_m1 k (by omega)⟩
  · exact ⟨fun q => absurd rfl q, fun ⟨k, h1, h2⟩ => absurd h2 (h k h1)⟩
theorem Tb_0 (h : (stg Y Z (X + 1) 0 0) * 256 ≤ p) : Tb S X Y Z G (fun _ => nI 0) p := by
  intro x y z s hx hy hz hs
  have h1 := stg_x (X := X) (x := x) hy hz
  have h2 := stg_mono (Y := Y) (Z := Z) (show x + 1 ≤ X + 1 by omega) (Nat.le_refl 0) (Nat.le_refl 0)
  have h3 : ix Y Z x y z s < p := by unfold ix; omega
  exact ⟨fun h => absurd h (by omega), fun _ => btm_0 _⟩
theorem stg_ys : stg Y Z x (y + 1) 0 = stg Y Z x y Z + 1 := by
  unfold stg
  rw [← Nat.add_assoc, Nat.add_mul (x * (Y + 1) + y), Nat.one_mul]
  omega
theorem stg_xs : stg Y Z (x + 1) 0 0 = stg Y Z x Y Z + 1 := by
  unfold stg
  rw [Nat.add_mul x 1, Nat.one_mul]
  simp only [Nat.add_zero]
  rw [← Nat.add_assoc, Nat.add_mul (x * (Y + 1) + Y), Nat.one_mul]
  omega
end
theorem zn_xor (a b : Nat) : nI a ^^^ nI b = nI (a ^^^ b) := by
  apply Int32.toBitVec_inj.1
  show BitVec.ofNat 32 a ^^^ BitVec.ofNat 32 b = BitVec.ofNat 32 (a ^^^ b)
  apply BitVec.eq_of_getLsbD_eq
  intro i hi
  simp [hi]
/-- what is in s and not in G -/
def dif (s G : Nat) : Nat := s &&& (G ^^^ 4294967295)
theorem dif_le (s G : Nat) : dif s G ≤ s := Nat.and_le_left
theorem zn_dif (s G : Nat) : nI s &&& (nI G ^^^ (-1)) = nI (dif s G) := by
  rw [show (-1 : Int32) = nI 4294967295 by decide, zn_xor, zn_and]; rfl
theorem dif_bit {s G i : Nat} : (dif s G).testBit i = (s.testBit i && (G.testBit i ^^ decide (i < 32))) := by
  unfold dif
  rw [Nat.testBit_and, Nat.testBit_xor, show (4294967295 : Nat) = 2 ^ 32 - 1 by decide, Nat.testBit_two_pow_sub_one]
theorem dif_0 {s G : Nat} (hs : s < 256) : dif s G = 0 ↔ sub8 s G := by
  constructor
  · intro h i hi
    have h1 := dif_bit (s := s) (G := G) (i := i)
    rw [h, hi] at h1
    have h2 : i < 32 := by
      rcases Nat.lt_or_ge i 8 with q | q
      · omega
      · rw [big_bit hs q] at hi; cases hi
    simp [h2] at h1
    exact h1
  · intro h
    apply Nat.eq_of_testBit_eq
    intro i
    rw [dif_bit]
    cases hi : s.testBit i with
    | false => simp
    | true =>
      have h2 : i < 32 := by
        rcases Nat.lt_or_ge i 8 with q | q
        · omega
        · rw [big_bit hs q] at hi; cases hi
      rw [h i hi]; simp [h2]
set_option maxHeartbeats 4000000 in
set_option maxRecDepth 100000 in
theorem c_X3_markSets (l : Launch) (D : va_G) (t : ClassId × ClassId × ClassId) (a : Nat → Nat) (S : zS) (Xn Yn Zn G x y z s : Nat) (e : Nat → Int32) (h15 : S 15 = l3 Xn Yn Zn) (h17 : S 17 0 = nI (Xn + Yn + Zn)) (hI : zI S) (hG : G < 256) (hX : Xn + Yn + Zn ≤ 8) (hx : x ≤ Xn) (hy : y ≤ Yn) (hz : z ≤ Zn) (hT : Tb S Xn Yn Zn G e ((stg Yn Zn x y z + 1) * 256)) : zM3 l yX3_markSets cX3_markSets 4 5 D t [.ref (a 0), .int (nI G)] (wR t a (T3 S x y z s e)) (fun u : Nat × (Nat → Int32) => Tb S Xn Yn Zn G u.2 (stg Yn Zn x y z * 256)) (fun u => wR t a (T3 S x y z u.1 u.2)) := by
  refine z_m3 (by decide +kernel) (Nat.le_of_ble_eq_true rfl) (by simp [Value.category]) ?_
  intro E X Z Y
  refine z_lv (lv' := [some (.ref (a 0)), some (.int (nI G)), none, none]) rfl ?_
  refine z_aload_n X dX3_markSets_0 rfl rfl ?_
  refine z_get X (C := RX3) (T := TX3) (N := 8) (ci := 3) (v := .ref (a 6)) inZ3 0 6 rfl rfl (by decide) q_fl_X3_41 rfl rfl dX3_markSets_1 ?_
  refine z_callV1 (k := 0) (n := 0) (st := []) X (c_X0_levelInAll l D t (a 6) (a 23) x y z ((T3 S x y z s e) 20 0) ((T3 S x y z s e) 19) rfl) k_X0_levelInAll q_ml_X3_191 [6, 23] ⟨by decide, rfl⟩ 6 0 rfl rfl (by decide) rfl rfl rfl (Nat.le_of_ble_eq_true rfl) ⟨Nat.zero_le _, Nat.zero_le _⟩ dX3_markSets_4 (fun r4 h4 => ?_)
  subst h4
  refine z_aload_n X dX3_markSets_7 rfl rfl ?_
  refine z_get X (C := RX3) (T := TX3) (N := 8) (ci := 3) (v := .int (S 17 0)) inZ3 0 5 rfl rfl (by decide) q_fl_X3_37 rfl rfl dX3_markSets_8 ?_
  refine z_top (y := nI (Xn + Yn + Zn)) (h17) ?_
  refine n_icmp_ne (tgt := 18) X dX3_markSets_11 (by decide) (by omega) (by omega) (fun c11 => ?_) (fun c11 => ?_)
  ·
    refine z_iconst (v := nI 0) X dX3_markSets_18 (by decide) ?_
    refine z_istore_n X dX3_markSets_19 rfl (Nat.le_of_ble_eq_true rfl) ?_
    refine z_lv (lv' := [some (.ref (a 0)), some (.int (nI G)), some (.int (nI 0)), none]) rfl ?_
    refine z_iload_n X dX3_markSets_20 rfl rfl ?_
    refine z_istore_n X dX3_markSets_21 rfl (Nat.le_of_ble_eq_true rfl) ?_
    refine z_lv (lv' := [some (.ref (a 0)), some (.int (nI G)), some (.int (nI 0)), some (.int (nI G))]) rfl ?_
    refine zl_dn (fun i => ∀ (s : Nat) (e : Nat → Int32), (i ≤ G + 1 ∧ Tb S Xn Yn Zn G e (ix Yn Zn x y z i)) → Wz E 0 0 22 [some (.ref (a 0)), some (.int (nI G)), some (.int (nI 0)), some (.int (sv i))] [] (wR t a (T3 S x y z s e))) ?_ ?_ (G + 1) s e (⟨Nat.le_refl _, Tb_top hx hy hz hG hT⟩)
    ·
      intro s e hv
      refine z_lv (lv' := [some (.ref (a 0)), some (.int (nI G)), some (.int (nI 0)), some (.int (-1))]) rfl ?_
      refine z_iload_n X dX3_markSets_22 rfl rfl ?_
      refine z_if_lt (tgt := 70) X dX3_markSets_23 (by decide) (fun _ => ?_) (fun c23 => absurd c23 (by decide))
      refine z_vret X Z dX3_markSets_70 ?_
      exact ⟨(s, e), by have q := hv.2; rw [ix0] at q; exact q, fun q hq => hq⟩
    ·
      intro i ih s e hv
      refine z_lv (lv' := [some (.ref (a 0)), some (.int (nI G)), some (.int (nI 0)), some (.int (nI i))]) rfl ?_
      refine z_iload_n X dX3_markSets_22 rfl rfl ?_
      refine n_if_lt (tgt := 70) X dX3_markSets_23 (by decide) (by omega) ?_
      refine z_aload_n X dX3_markSets_26 rfl rfl ?_
      refine z_get X (C := RX3) (T := TX3) (N := 8) (ci := 3) (v := .ref (a 6)) inZ3 0 6 rfl rfl (by decide) q_fl_X3_41 rfl rfl dX3_markSets_27 ?_
      refine z_iload_n X dX3_markSets_30 rfl rfl ?_
      refine z_put X Y (C := RX0) (T := TX0) (N := 2) (ci := 0) (ty := .int) inZ0 tyX0 tyX0_ok nmX0 6 1 aR_eq rfl rfl (by decide) q_fl_X3_155 rfl rfl (by decide +kernel) rfl rfl (Nat.le_of_ble_eq_true rfl) dX3_markSets_31 ?_
      refine Wz.eq (ws' := wR t a (T3 S x y z i e)) rfl ?_
      refine z_iload_n X dX3_markSets_34 rfl rfl ?_
      refine z_iload_n X dX3_markSets_35 rfl rfl ?_
      refine z_iconst (v := (-1)) X dX3_markSets_36 (by decide) ?_
      refine z_ixor X dX3_markSets_37 ?_
      refine z_iand X dX3_markSets_38 ?_
      refine z_top (y := nI (dif i G)) (zn_dif i G) ?_
      have hle := dif_le i G
      refine n_if_ne (tgt := 64) X dX3_markSets_39 (by decide) (by omega) (fun c39 => ?_) (fun c39 => ?_)
      ·
        refine z_iinc (v := sv i) X dX3_markSets_64 rfl (sv_m i) ?_
        refine z_lv (lv' := [some (.ref (a 0)), some (.int (nI G)), some (.int (nI 0)), some (.int (sv i))]) rfl ?_
        refine z_goto (tgt := 22) X dX3_markSets_67 (by decide) ?_
        have hT2 : Tb S Xn Yn Zn G e (ix Yn Zn x y z i) := by
          refine Tb_skip hv.2 hy hz (by omega) (fun hR => ?_)
          first
            | exact c39 ((dif_0 (by omega)).mpr (Rc_inB hR).2.2.2)
            | exact ((Rc_Pk hv.2 hb hG).mp hR).elim (fun q => c48 q.2.2.2) (fun q => (fst_ne h53).mpr q c57)
            | exact ((Rc_Pk hv.2 hb hG).mp hR).elim (fun q => absurd (show x + y + z = Xn + Yn + Zn by omega) c11) (fun q => (fst_ne h53).mpr q c57)
        exact ih i e (⟨by omega, hT2⟩)
      ·
        have hb : inB Xn Yn Zn G x y z i := ⟨hx, hy, hz, (dif_0 (by omega)).mp c39⟩
        refine z_iload_n X dX3_markSets_42 rfl rfl ?_
        refine n_if_eq (tgt := 51) X dX3_markSets_43 (by decide) (by omega) (fun _ => ?_) (fun c43 => absurd c43 (by decide))
        refine z_aload_n X dX3_markSets_51 rfl rfl ?_
        refine z_iload_n X dX3_markSets_52 rfl rfl ?_
        refine z_callV2 (k := 0) (n := 0) (st := []) X Y aR_eq (c_X3_firstStepTowards l D t a S Xn Yn Zn G x y z i e h15 hI hG hX hb) k_X3_firstStepTowards q_ml_X3_262 is24 (fun u => wR t a (T3 S x y z i e)) (fun u => swR) ppR 0 3 rfl rfl (by decide) rfl rfl rfl (Nat.le_of_ble_eq_true rfl) ⟨Nat.zero_le _, Nat.zero_le _⟩ dX3_markSets_53 (fun r53 u53 h53 => ?_)
        refine z_iconst (v := (-1)) X dX3_markSets_56 (by decide) ?_
        refine z_icmp_eq (tgt := 64) X dX3_markSets_57 (by decide) (fun c57 => ?_) (fun c57 => ?_)
        ·
          refine z_iinc (v := sv i) X dX3_markSets_64 rfl (sv_m i) ?_
          refine z_lv (lv' := [some (.ref (a 0)), some (.int (nI G)), some (.int (nI 0)), some (.int (sv i))]) rfl ?_
          refine z_goto (tgt := 22) X dX3_markSets_67 (by decide) ?_
          have hT2 : Tb S Xn Yn Zn G e (ix Yn Zn x y z i) := by
            refine Tb_skip hv.2 hy hz (by omega) (fun hR => ?_)
            first
              | exact c39 ((dif_0 (by omega)).mpr (Rc_inB hR).2.2.2)
              | exact ((Rc_Pk hv.2 hb hG).mp hR).elim (fun q => c48 q.2.2.2) (fun q => (fst_ne h53).mpr q c57)
              | exact ((Rc_Pk hv.2 hb hG).mp hR).elim (fun q => absurd (show x + y + z = Xn + Yn + Zn by omega) c11) (fun q => (fst_ne h53).mpr q c57)
          exact ih i e (⟨by omega, hT2⟩)
        ·
          refine z_aload_n X dX3_markSets_60 rfl rfl ?_
          refine z_callV3 (k := 0) (n := 0) (st := []) X Y aR_eq (c_X3_mark l D t a S Xn Yn Zn x y z i e h15 (by omega) (wd_lt hX hx hy hz (by omega))) k_X3_mark q_ml_X3_265 is24 (fun _ => wR t a (T3 S x y z i (upd e (wd Yn Zn x y z i) (e (wd Yn Zn x y z i) ||| nI (2 ^ (i % 32)))))) (fun _ => swR) ppR 0 3 rfl rfl (by decide) rfl rfl rfl (Nat.le_of_ble_eq_true rfl) ⟨Nat.zero_le _, Nat.zero_le _⟩ dX3_markSets_61 (fun _ _ => ?_)
          refine z_iinc (v := sv i) X dX3_markSets_64 rfl (sv_m i) ?_
          refine z_lv (lv' := [some (.ref (a 0)), some (.int (nI G)), some (.int (nI 0)), some (.int (sv i))]) rfl ?_
          refine z_goto (tgt := 22) X dX3_markSets_67 (by decide) ?_
          have hT2 : Tb S Xn Yn Zn G (upd e (wd Yn Zn x y z i) (e (wd Yn Zn x y z i) ||| nI (2 ^ (i % 32)))) (ix Yn Zn x y z i) := by
            refine Tb_mark hv.2 hx hy hz (by omega) ?_
            first
              | exact (Rc_Pk hv.2 hb hG).mpr (Or.inl ⟨by omega, by omega, by omega, c48⟩)
              | exact (Rc_Pk hv.2 hb hG).mpr (Or.inr ((fst_ne h53).mp c57))
          exact ih i (upd e (wd Yn Zn x y z i) (e (wd Yn Zn x y z i) ||| nI (2 ^ (i % 32)))) (⟨by omega, hT2⟩)
  ·
    refine z_iconst (v := nI 1) X dX3_markSets_14 (by decide) ?_
    refine z_goto (tgt := 19) X dX3_markSets_15 (by decide) ?_
    refine z_istore_n X dX3_markSets_19 rfl (Nat.le_of_ble_eq_true rfl) ?_
    refine z_lv (lv' := [some (.ref (a 0)), some (.int (nI G)), some (.int (nI 1)), none]) rfl ?_
    refine z_iload_n X dX3_markSets_20 rfl rfl ?_
    refine z_istore_n X dX3_markSets_21 rfl (Nat.le_of_ble_eq_true rfl) ?_
    refine z_lv (lv' := [some (.ref (a 0)), some (.int (nI G)), some (.int (nI 1)), some (.int (nI G))]) rfl ?_
    refine zl_dn (fun i => ∀ (s : Nat) (e : Nat → Int32), (i ≤ G + 1 ∧ Tb S Xn Yn Zn G e (ix Yn Zn x y z i)) → Wz E 0 0 22 [some (.ref (a 0)), some (.int (nI G)), some (.int (nI 1)), some (.int (sv i))] [] (wR t a (T3 S x y z s e))) ?_ ?_ (G + 1) s e (⟨Nat.le_refl _, Tb_top hx hy hz hG hT⟩)
    ·
      intro s e hv
      refine z_lv (lv' := [some (.ref (a 0)), some (.int (nI G)), some (.int (nI 1)), some (.int (-1))]) rfl ?_
      refine z_iload_n X dX3_markSets_22 rfl rfl ?_
      refine z_if_lt (tgt := 70) X dX3_markSets_23 (by decide) (fun _ => ?_) (fun c23 => absurd c23 (by decide))
      refine z_vret X Z dX3_markSets_70 ?_
      exact ⟨(s, e), by have q := hv.2; rw [ix0] at q; exact q, fun q hq => hq⟩
    ·
      intro i ih s e hv
      refine z_lv (lv' := [some (.ref (a 0)), some (.int (nI G)), some (.int (nI 1)), some (.int (nI i))]) rfl ?_
      refine z_iload_n X dX3_markSets_22 rfl rfl ?_
      refine n_if_lt (tgt := 70) X dX3_markSets_23 (by decide) (by omega) ?_
      refine z_aload_n X dX3_markSets_26 rfl rfl ?_
      refine z_get X (C := RX3) (T := TX3) (N := 8) (ci := 3) (v := .ref (a 6)) inZ3 0 6 rfl rfl (by decide) q_fl_X3_41 rfl rfl dX3_markSets_27 ?_
      refine z_iload_n X dX3_markSets_30 rfl rfl ?_
      refine z_put X Y (C := RX0) (T := TX0) (N := 2) (ci := 0) (ty := .int) inZ0 tyX0 tyX0_ok nmX0 6 1 aR_eq rfl rfl (by decide) q_fl_X3_155 rfl rfl (by decide +kernel) rfl rfl (Nat.le_of_ble_eq_true rfl) dX3_markSets_31 ?_
      refine Wz.eq (ws' := wR t a (T3 S x y z i e)) rfl ?_
      refine z_iload_n X dX3_markSets_34 rfl rfl ?_
      refine z_iload_n X dX3_markSets_35 rfl rfl ?_
      refine z_iconst (v := (-1)) X dX3_markSets_36 (by decide) ?_
      refine z_ixor X dX3_markSets_37 ?_
      refine z_iand X dX3_markSets_38 ?_
      refine z_top (y := nI (dif i G)) (zn_dif i G) ?_
      have hle := dif_le i G
      refine n_if_ne (tgt := 64) X dX3_markSets_39 (by decide) (by omega) (fun c39 => ?_) (fun c39 => ?_)
      ·
        refine z_iinc (v := sv i) X dX3_markSets_64 rfl (sv_m i) ?_
        refine z_lv (lv' := [some (.ref (a 0)), some (.int (nI G)), some (.int (nI 1)), some (.int (sv i))]) rfl ?_
        refine z_goto (tgt := 22) X dX3_markSets_67 (by decide) ?_
        have hT2 : Tb S Xn Yn Zn G e (ix Yn Zn x y z i) := by
          refine Tb_skip hv.2 hy hz (by omega) (fun hR => ?_)
          first
            | exact c39 ((dif_0 (by omega)).mpr (Rc_inB hR).2.2.2)
            | exact ((Rc_Pk hv.2 hb hG).mp hR).elim (fun q => c48 q.2.2.2) (fun q => (fst_ne h53).mpr q c57)
            | exact ((Rc_Pk hv.2 hb hG).mp hR).elim (fun q => absurd (show x + y + z = Xn + Yn + Zn by omega) c11) (fun q => (fst_ne h53).mpr q c57)
        exact ih i e (⟨by omega, hT2⟩)
      ·
        have hb : inB Xn Yn Zn G x y z i := ⟨hx, hy, hz, (dif_0 (by omega)).mp c39⟩
        refine z_iload_n X dX3_markSets_42 rfl rfl ?_
        refine n_if_eq (tgt := 51) X dX3_markSets_43 (by decide) (by omega) (fun c43 => absurd c43 (by decide)) (fun _ => ?_)
        refine z_iload_n X dX3_markSets_46 rfl rfl ?_
        refine z_iload_n X dX3_markSets_47 rfl rfl ?_
        refine n_icmp_eq (tgt := 60) X dX3_markSets_48 (by decide) (by omega) (by omega) (fun c48 => ?_) (fun c48 => ?_)
        ·
          refine z_aload_n X dX3_markSets_60 rfl rfl ?_
          refine z_callV3 (k := 0) (n := 0) (st := []) X Y aR_eq (c_X3_mark l D t a S Xn Yn Zn x y z i e h15 (by omega) (wd_lt hX hx hy hz (by omega))) k_X3_mark q_ml_X3_265 is24 (fun _ => wR t a (T3 S x y z i (upd e (wd Yn Zn x y z i) (e (wd Yn Zn x y z i) ||| nI (2 ^ (i % 32)))))) (fun _ => swR) ppR 0 3 rfl rfl (by decide) rfl rfl rfl (Nat.le_of_ble_eq_true rfl) ⟨Nat.zero_le _, Nat.zero_le _⟩ dX3_markSets_61 (fun _ _ => ?_)
          refine z_iinc (v := sv i) X dX3_markSets_64 rfl (sv_m i) ?_
          refine z_lv (lv' := [some (.ref (a 0)), some (.int (nI G)), some (.int (nI 1)), some (.int (sv i))]) rfl ?_
          refine z_goto (tgt := 22) X dX3_markSets_67 (by decide) ?_
          have hT2 : Tb S Xn Yn Zn G (upd e (wd Yn Zn x y z i) (e (wd Yn Zn x y z i) ||| nI (2 ^ (i % 32)))) (ix Yn Zn x y z i) := by
            refine Tb_mark hv.2 hx hy hz (by omega) ?_
            first
              | exact (Rc_Pk hv.2 hb hG).mpr (Or.inl ⟨by omega, by omega, by omega, c48⟩)
              | exact (Rc_Pk hv.2 hb hG).mpr (Or.inr ((fst_ne h53).mp c57))
          exact ih i (upd e (wd Yn Zn x y z i) (e (wd Yn Zn x y z i) ||| nI (2 ^ (i % 32)))) (⟨by omega, hT2⟩)
        ·
          refine z_aload_n X dX3_markSets_51 rfl rfl ?_
          refine z_iload_n X dX3_markSets_52 rfl rfl ?_
          refine z_callV2 (k := 0) (n := 0) (st := []) X Y aR_eq (c_X3_firstStepTowards l D t a S Xn Yn Zn G x y z i e h15 hI hG hX hb) k_X3_firstStepTowards q_ml_X3_262 is24 (fun u => wR t a (T3 S x y z i e)) (fun u => swR) ppR 0 3 rfl rfl (by decide) rfl rfl rfl (Nat.le_of_ble_eq_true rfl) ⟨Nat.zero_le _, Nat.zero_le _⟩ dX3_markSets_53 (fun r53 u53 h53 => ?_)
          refine z_iconst (v := (-1)) X dX3_markSets_56 (by decide) ?_
          refine z_icmp_eq (tgt := 64) X dX3_markSets_57 (by decide) (fun c57 => ?_) (fun c57 => ?_)
          ·
            refine z_iinc (v := sv i) X dX3_markSets_64 rfl (sv_m i) ?_
            refine z_lv (lv' := [some (.ref (a 0)), some (.int (nI G)), some (.int (nI 1)), some (.int (sv i))]) rfl ?_
            refine z_goto (tgt := 22) X dX3_markSets_67 (by decide) ?_
            have hT2 : Tb S Xn Yn Zn G e (ix Yn Zn x y z i) := by
              refine Tb_skip hv.2 hy hz (by omega) (fun hR => ?_)
              first
                | exact c39 ((dif_0 (by omega)).mpr (Rc_inB hR).2.2.2)
                | exact ((Rc_Pk hv.2 hb hG).mp hR).elim (fun q => c48 q.2.2.2) (fun q => (fst_ne h53).mpr q c57)
                | exact ((Rc_Pk hv.2 hb hG).mp hR).elim (fun q => absurd (show x + y + z = Xn + Yn + Zn by omega) c11) (fun q => (fst_ne h53).mpr q c57)
            exact ih i e (⟨by omega, hT2⟩)
          ·
            refine z_aload_n X dX3_markSets_60 rfl rfl ?_
            refine z_callV3 (k := 0) (n := 0) (st := []) X Y aR_eq (c_X3_mark l D t a S Xn Yn Zn x y z i e h15 (by omega) (wd_lt hX hx hy hz (by omega))) k_X3_mark q_ml_X3_265 is24 (fun _ => wR t a (T3 S x y z i (upd e (wd Yn Zn x y z i) (e (wd Yn Zn x y z i) ||| nI (2 ^ (i % 32)))))) (fun _ => swR) ppR 0 3 rfl rfl (by decide) rfl rfl rfl (Nat.le_of_ble_eq_true rfl) ⟨Nat.zero_le _, Nat.zero_le _⟩ dX3_markSets_61 (fun _ _ => ?_)
            refine z_iinc (v := sv i) X dX3_markSets_64 rfl (sv_m i) ?_
            refine z_lv (lv' := [some (.ref (a 0)), some (.int (nI G)), some (.int (nI 1)), some (.int (sv i))]) rfl ?_
            refine z_goto (tgt := 22) X dX3_markSets_67 (by decide) ?_
            have hT2 : Tb S Xn Yn Zn G (upd e (wd Yn Zn x y z i) (e (wd Yn Zn x y z i) ||| nI (2 ^ (i % 32)))) (ix Yn Zn x y z i) := by
              refine Tb_mark hv.2 hx hy hz (by omega) ?_
              first
                | exact (Rc_Pk hv.2 hb hG).mpr (Or.inl ⟨by omega, by omega, by omega, c48⟩)
                | exact (Rc_Pk hv.2 hb hG).mpr (Or.inr ((fst_ne h53).mp c57))
            exact ih i (upd e (wd Yn Zn x y z i) (e (wd Yn Zn x y z i) ||| nI (2 ^ (i % 32)))) (⟨by omega, hT2⟩)
