/-! what the reference's character does and answers -/
theorem i_sb1 (x : Int32) : x - nI 1 = x + (-1) := by rw [Int32.sub_eq_add_neg]; rfl
theorem i_a0 (x : Int32) : x + nI 0 = x := Int32.add_zero x
section
variable {t : ClassId × ClassId × ClassId} {b : Nat → Nat} {S : zS}
theorem zPM15 {D : va_G} {H : Heap} {f g : Nat → Int32} (h : ∀ i, i < 3 → f i = g i) (hP : va_P D vwCl (wM t b (va_up S 15 f)) H) : va_P D vwCl (wM t b (va_up S 15 g)) H := by
  have e : wM t b (va_up S 15 g) = (wM t b (va_up S 15 f)).set 3 (b 3, .inl (t.1, 3, .inl g)) := rfl
  intro i q hq
  by_cases hi : i = 3
  · subst hi
    have h1 : va_P D vwCl [(b 3, .inl (t.1, 3, .inl f))] H := fun k q hq => by
      cases k with
      | zero => exact hP 3 q hq
      | succ k => simp at hq
    have hq2 : q = (b 3, .inl (t.1, 3, .inl g)) := by cases hq; rfl
    rw [hq2]
    exact zcell h h1 0 _ rfl
  · rw [e, List.getElem?_set_ne (fun z => hi z.symm)] at hq
    exact hP i q hq
end
set_option maxHeartbeats 4000000 in
set_option maxRecDepth 100000 in
theorem c_X4_takeLevel (l : Launch) (D : va_G) (t : ClassId × ClassId × ClassId) (b : Nat → Nat) (S : zS) (m : Nat) (c : Int32) (h17 : S 17 0 = nI m) (hm : m ≤ 8) : zM2 l yX4_takeLevel cX4_takeLevel 2 (some .int) 6 D t [.ref (b 0), .int c] (wM t b S) (fun r (u : zS) => (∃ k, k < 3 ∧ c = nI k ∧ m < 8 ∧ r = nI (m + 1) ∧ u = va_up (va_up (va_up (va_up S 23 (fun _ => nI 0)) 16 (upd (S 16) m (nI k))) 15 (upd (S 15) k (S 15 k + nI 1))) 17 (fun _ => nI (m + 1))) ∨ (¬ am c 3 ∧ u = va_up S 23 (fun _ => nI 1)) ∨ (am c 3 ∧ m = 8 ∧ u = va_up S 23 (fun _ => nI 2))) (fun u => wM t b u) := by
  refine z_m2 (by decide +kernel) (Nat.le_of_ble_eq_true rfl) (by simp [Value.category]) ?_
  intro E X Z Y
  refine z_lv (lv' := [some (.ref (b 0)), some (.int c)]) rfl ?_
  refine z_aload_n X dX4_takeLevel_0 rfl rfl ?_
  refine z_iload_n X dX4_takeLevel_1 rfl rfl ?_
  refine z_callS1 (k := 0) (n := 0) (st := [.ref (b 0)]) X (c_X4_isCalling l D t c) k_X4_isCalling q_ml_X4_92 [] ⟨by decide, rfl⟩ (by decide) rfl rfl rfl (Nat.le_of_ble_eq_true rfl) ⟨Nat.zero_le _, Nat.zero_le _⟩ dX4_takeLevel_2 (fun r2 h2 => ?_)
  refine z_aload_n X dX4_takeLevel_5 rfl rfl ?_
  refine z_get X (C := RX4) (T := TX4) (N := 21) (ci := 4) (v := .int (S 17 0)) inZ4 0 3 rfl rfl (by decide) q_fl_X4_95 rfl rfl dX4_takeLevel_6 ?_
  refine z_top (y := nI m) (h17) ?_
  refine z_bipush (v := nI 8) X dX4_takeLevel_9 (by decide) ?_
  refine n_icmp_ge (tgt := 18) X dX4_takeLevel_11 (by decide) (by omega) (by omega) (fun c11 => ?_) (fun c11 => ?_)
  ·
    refine z_iconst (v := nI 0) X dX4_takeLevel_18 (by decide) ?_
    refine z_iconst (v := nI 1) X dX4_takeLevel_19 (by decide) ?_
    refine z_callV2 (k := 0) (n := 0) (st := []) X Y aM_eq (c_X4_goes l D t b S r2 (nI 0) (nI 1) (am c 3) False True h2 (bz_f id) (bz_t trivial)) k_X4_goes q_ml_X4_77 is19 (fun u => wM t b (va_up S 23 (fun _ => nI u))) (fun u => swM) ppM 0 4 rfl rfl (by decide) rfl rfl rfl (Nat.le_of_ble_eq_true rfl) ⟨Nat.zero_le _, Nat.zero_le _⟩ dX4_takeLevel_20 (fun r20 u20 h20 => ?_)
    rcases h20 with ⟨rfl, rfl, g1, g2, g3⟩ | ⟨rfl, rfl, g1⟩ | ⟨rfl, rfl, g1, g2⟩ | ⟨rfl, rfl, g1, g2, g3⟩
    ·
      exact g2.elim
    ·
      refine n_if_ne (tgt := 28) X dX4_takeLevel_23 (by decide) (by omega) (fun c23 => absurd c23 (by decide)) (fun _ => ?_)
      refine z_iconst (v := nI 0) X dX4_takeLevel_26 (by decide) ?_
      refine z_iret X Z rfl dX4_takeLevel_27 ?_
      exact ⟨(va_up S 23 (fun _ => nI 1)), Or.inr (Or.inl ⟨g1, rfl⟩), fun q hq => hq⟩
    ·
      refine n_if_ne (tgt := 28) X dX4_takeLevel_23 (by decide) (by omega) (fun c23 => absurd c23 (by decide)) (fun _ => ?_)
      refine z_iconst (v := nI 0) X dX4_takeLevel_26 (by decide) ?_
      refine z_iret X Z rfl dX4_takeLevel_27 ?_
      exact ⟨(va_up S 23 (fun _ => nI 2)), Or.inr (Or.inr ⟨g1, by omega, rfl⟩), fun q hq => hq⟩
    ·
      exact absurd trivial g3
  ·
    refine z_iconst (v := nI 1) X dX4_takeLevel_14 (by decide) ?_
    refine z_goto (tgt := 19) X dX4_takeLevel_15 (by decide) ?_
    refine z_iconst (v := nI 1) X dX4_takeLevel_19 (by decide) ?_
    refine z_callV2 (k := 0) (n := 0) (st := []) X Y aM_eq (c_X4_goes l D t b S r2 (nI 1) (nI 1) (am c 3) True True h2 (bz_t trivial) (bz_t trivial)) k_X4_goes q_ml_X4_77 is19 (fun u => wM t b (va_up S 23 (fun _ => nI u))) (fun u => swM) ppM 0 4 rfl rfl (by decide) rfl rfl rfl (Nat.le_of_ble_eq_true rfl) ⟨Nat.zero_le _, Nat.zero_le _⟩ dX4_takeLevel_20 (fun r20 u20 h20 => ?_)
    rcases h20 with ⟨rfl, rfl, g1, g2, g3⟩ | ⟨rfl, rfl, g1⟩ | ⟨rfl, rfl, g1, g2⟩ | ⟨rfl, rfl, g1, g2, g3⟩
    ·
      refine n_if_ne (tgt := 28) X dX4_takeLevel_23 (by decide) (by omega) (fun _ => ?_) (fun c23 => absurd c23 (by decide))
      obtain ⟨kc, hkc, rfl⟩ := g1
      refine z_aload_n X dX4_takeLevel_28 rfl rfl ?_
      refine z_get X (C := RX4) (T := TX4) (N := 21) (ci := 4) (v := .ref (b 2)) inZ4 0 1 rfl rfl (by decide) q_fl_X4_13 rfl rfl dX4_takeLevel_29 ?_
      refine z_aload_n X dX4_takeLevel_32 rfl rfl ?_
      refine z_get X (C := RX4) (T := TX4) (N := 21) (ci := 4) (v := .int (S 17 0)) inZ4 0 3 rfl rfl (by decide) q_fl_X4_95 rfl rfl dX4_takeLevel_33 ?_
      refine z_top (y := nI m) (h17) ?_
      refine z_iload_n X dX4_takeLevel_36 rfl rfl ?_
      refine n_iast X Y 2 aM_eq rfl (by omega) (by decide) dX4_takeLevel_37 ?_
      refine Wz.eq (uM_16 (f := upd (S 16) m (nI kc))) ?_
      refine z_aload_n X dX4_takeLevel_38 rfl rfl ?_
      refine z_get X (C := RX4) (T := TX4) (N := 21) (ci := 4) (v := .ref (b 3)) inZ4 0 2 rfl rfl (by decide) q_fl_X4_16 rfl rfl dX4_takeLevel_39 ?_
      refine z_iload_n X dX4_takeLevel_42 rfl rfl ?_
      refine z_dup2 X dX4_takeLevel_43 rfl rfl ?_
      refine n_iald (f := S 15) X 3 rfl (by omega) (by decide) dX4_takeLevel_44 ?_
      refine z_iconst (v := nI 1) X dX4_takeLevel_45 (by decide) ?_
      refine z_iadd X dX4_takeLevel_46 ?_
      refine n_iast X Y 3 aM_eq rfl (by omega) (by decide) dX4_takeLevel_47 ?_
      refine Wz.eq (uM_15 (f := upd (S 15) kc ((S 15 kc) + (nI 1)))) ?_
      refine z_aload_n X dX4_takeLevel_48 rfl rfl ?_
      refine z_dup X dX4_takeLevel_49 rfl ?_
      refine z_get X (C := RX4) (T := TX4) (N := 21) (ci := 4) (v := .int (S 17 0)) inZ4 0 3 rfl rfl (by decide) q_fl_X4_95 rfl rfl dX4_takeLevel_50 ?_
      refine z_top (y := nI m) (h17) ?_
      refine z_iconst (v := nI 1) X dX4_takeLevel_53 (by decide) ?_
      refine n_iadd X dX4_takeLevel_54 ?_
      refine z_put X Y (C := RX4) (T := TX4) (N := 21) (ci := 4) (ty := .int) inZ4 tyX4 tyX4_ok nmX4 0 3 aM_eq rfl rfl (by decide) q_fl_X4_95 rfl rfl (by decide +kernel) rfl rfl (Nat.le_of_ble_eq_true rfl) dX4_takeLevel_55 ?_
      refine Wz.eq (uM_17 (v := nI (m + 1))) ?_
      refine z_aload_n X dX4_takeLevel_58 rfl rfl ?_
      refine z_get X (C := RX4) (T := TX4) (N := 21) (ci := 4) (v := .int (nI (m + 1))) inZ4 0 3 rfl rfl (by decide) q_fl_X4_95 rfl rfl dX4_takeLevel_59 ?_
      refine z_iret X Z rfl dX4_takeLevel_62 ?_
      exact ⟨(va_up (va_up (va_up (va_up S 23 (fun _ => nI 0)) 16 (upd (S 16) m (nI kc))) 15 (upd (S 15) kc ((S 15 kc) + (nI 1)))) 17 (fun _ => nI (m + 1))), Or.inl ⟨kc, hkc, rfl, c11, rfl, rfl⟩, fun q hq => hq⟩
    ·
      refine n_if_ne (tgt := 28) X dX4_takeLevel_23 (by decide) (by omega) (fun c23 => absurd c23 (by decide)) (fun _ => ?_)
      refine z_iconst (v := nI 0) X dX4_takeLevel_26 (by decide) ?_
      refine z_iret X Z rfl dX4_takeLevel_27 ?_
      exact ⟨(va_up S 23 (fun _ => nI 1)), Or.inr (Or.inl ⟨g1, rfl⟩), fun q hq => hq⟩
    ·
      exact absurd trivial g2
    ·
      exact absurd trivial g3
set_option maxHeartbeats 4000000 in
set_option maxRecDepth 100000 in
theorem c_X4_mayTakeNow (l : Launch) (D : va_G) (t : ClassId × ClassId × ClassId) (b : Nat → Nat) (S : zS) (x y z G : Nat) (h15 : S 15 = l3 x y z) (h18 : S 18 0 = nI G) (hG : G < 256) (hX : x + y + z ≤ 8) (hI : zI S) (j : Nat) (hj : j < 8) : zM1 l yX4_mayTakeNow cX4_mayTakeNow 2 (some .boolean) 2 D t [.ref (b 0), .int (nI j)] (wM t b S) (fun r => bz r (mt S x y z G j)) := by
  refine z_m1 (by decide +kernel) (Nat.le_of_ble_eq_true rfl) (by simp [Value.category]) ?_
  intro E X Z
  refine z_lv (lv' := [some (.ref (b 0)), some (.int (nI j))]) rfl ?_
  refine z_aload_n X dX4_mayTakeNow_0 rfl rfl ?_
  refine z_iload_n X dX4_mayTakeNow_1 rfl rfl ?_
  refine z_aload_n X dX4_mayTakeNow_2 rfl rfl ?_
  refine z_get X (C := RX4) (T := TX4) (N := 21) (ci := 4) (v := .ref (b 3)) inZ4 0 2 rfl rfl (by decide) q_fl_X4_16 rfl rfl dX4_mayTakeNow_3 ?_
  refine z_iconst (v := nI 0) X dX4_mayTakeNow_6 (by decide) ?_
  refine n_iald (f := S 15) X 3 rfl (by omega) (by decide) dX4_mayTakeNow_7 ?_
  refine z_top (y := nI x) (by rw [h15]; rfl) ?_
  refine z_aload_n X dX4_mayTakeNow_8 rfl rfl ?_
  refine z_get X (C := RX4) (T := TX4) (N := 21) (ci := 4) (v := .ref (b 3)) inZ4 0 2 rfl rfl (by decide) q_fl_X4_16 rfl rfl dX4_mayTakeNow_9 ?_
  refine z_iconst (v := nI 1) X dX4_mayTakeNow_12 (by decide) ?_
  refine n_iald (f := S 15) X 3 rfl (by omega) (by decide) dX4_mayTakeNow_13 ?_
  refine z_top (y := nI y) (by rw [h15]; rfl) ?_
  refine z_aload_n X dX4_mayTakeNow_14 rfl rfl ?_
  refine z_get X (C := RX4) (T := TX4) (N := 21) (ci := 4) (v := .ref (b 3)) inZ4 0 2 rfl rfl (by decide) q_fl_X4_16 rfl rfl dX4_mayTakeNow_15 ?_
  refine z_iconst (v := nI 2) X dX4_mayTakeNow_18 (by decide) ?_
  refine n_iald (f := S 15) X 3 rfl (by omega) (by decide) dX4_mayTakeNow_19 ?_
  refine z_top (y := nI z) (by rw [h15]; rfl) ?_
  refine z_aload_n X dX4_mayTakeNow_20 rfl rfl ?_
  refine z_get X (C := RX4) (T := TX4) (N := 21) (ci := 4) (v := .int (S 18 0)) inZ4 0 4 rfl rfl (by decide) q_fl_X4_111 rfl rfl dX4_mayTakeNow_21 ?_
  refine z_top (y := nI G) (h18) ?_
  refine z_callV1 (k := 0) (n := 0) (st := []) X (c_X4_mayTake l D t b S j x y z G (by omega) (by omega) (by omega) hI) k_X4_mayTake q_ml_X4_114 is19 ⟨by decide, rfl⟩ 0 4 rfl rfl (by decide) rfl rfl rfl (Nat.le_of_ble_eq_true rfl) ⟨Nat.zero_le _, Nat.zero_le _⟩ dX4_mayTakeNow_24 (fun r24 h24 => ?_)
  refine z_iret X Z h24.bool dX4_mayTakeNow_27 ?_
  exact ⟨(), h24, fun _ _ => trivial⟩
set_option maxHeartbeats 4000000 in
set_option maxRecDepth 100000 in
theorem c_X4_takeGift (l : Launch) (D : va_G) (t : ClassId × ClassId × ClassId) (b : Nat → Nat) (S : zS) (x y z G : Nat) (h15 : S 15 = l3 x y z) (h18 : S 18 0 = nI G) (hG : G < 256) (hX : x + y + z ≤ 8) (hI : zI S) (g : Int32) : zM2 l yX4_takeGift cX4_takeGift 3 (some .int) 6 D t [.ref (b 0), .int g] (wM t b S) (fun r (u : zS) => (∃ k, k < 8 ∧ g = nI k ∧ mt S x y z G k ∧ r = nI (p8 (G ||| 2 ^ k)) ∧ u = va_up (va_up S 23 (fun _ => nI 0)) 18 (fun _ => nI (G ||| 2 ^ k))) ∨ (¬ am g 8 ∧ u = va_up S 23 (fun _ => nI 1)) ∨ ((∃ k, k < 8 ∧ g = nI k ∧ ¬ mt S x y z G k) ∧ u = va_up S 23 (fun _ => nI 2))) (fun u => wM t b u) := by
  refine z_m2 (by decide +kernel) (Nat.le_of_ble_eq_true rfl) (by simp [Value.category]) ?_
  intro E X Z Y
  refine z_lv (lv' := [some (.ref (b 0)), some (.int g), none]) rfl ?_
  refine z_iload_n X dX4_takeGift_0 rfl rfl ?_
  refine z_callS1 (k := 0) (n := 0) (st := []) X (c_X4_isGift l D t g) k_X4_isGift q_ml_X4_73 [] ⟨by decide, rfl⟩ (by decide) rfl rfl rfl (Nat.le_of_ble_eq_true rfl) ⟨Nat.zero_le _, Nat.zero_le _⟩ dX4_takeGift_1 (fun r1 h1 => ?_)
  rcases h1 with ⟨rfl, kg, hkg, rfl⟩ | ⟨rfl, h1⟩
  ·
    refine z_istore_n X dX4_takeGift_4 rfl (Nat.le_of_ble_eq_true rfl) ?_
    refine z_lv (lv' := [some (.ref (b 0)), some (.int (nI kg)), some (.int (nI 1))]) rfl ?_
    refine z_aload_n X dX4_takeGift_5 rfl rfl ?_
    refine z_iload_n X dX4_takeGift_6 rfl rfl ?_
    refine z_iload_n X dX4_takeGift_7 rfl rfl ?_
    refine n_if_eq (tgt := 23) X dX4_takeGift_8 (by decide) (by omega) (fun c8 => absurd c8 (by decide)) (fun _ => ?_)
    refine z_aload_n X dX4_takeGift_11 rfl rfl ?_
    refine z_iload_n X dX4_takeGift_12 rfl rfl ?_
    refine z_callV1 (k := 0) (n := 0) (st := [.int (nI 1), .ref (b 0)]) X (c_X4_mayTakeNow l D t b S x y z G h15 h18 hG hX hI kg (by omega)) k_X4_mayTakeNow q_ml_X4_118 is19 ⟨by decide, rfl⟩ 0 4 rfl rfl (by decide) rfl rfl rfl (Nat.le_of_ble_eq_true rfl) ⟨Nat.zero_le _, Nat.zero_le _⟩ dX4_takeGift_13 (fun r13 h13 => ?_)
    rcases h13 with ⟨rfl, h13⟩ | ⟨rfl, h13⟩
    ·
      refine n_if_eq (tgt := 23) X dX4_takeGift_16 (by decide) (by omega) (fun c16 => absurd c16 (by decide)) (fun _ => ?_)
      refine z_iconst (v := nI 1) X dX4_takeGift_19 (by decide) ?_
      refine z_goto (tgt := 24) X dX4_takeGift_20 (by decide) ?_
      refine z_iconst (v := nI 1) X dX4_takeGift_24 (by decide) ?_
      refine z_callV2 (k := 0) (n := 0) (st := []) X Y aM_eq (c_X4_goes l D t b S (nI 1) (nI 1) (nI 1) True True True (bz_t trivial) (bz_t trivial) (bz_t trivial)) k_X4_goes q_ml_X4_77 is19 (fun u => wM t b (va_up S 23 (fun _ => nI u))) (fun u => swM) ppM 0 4 rfl rfl (by decide) rfl rfl rfl (Nat.le_of_ble_eq_true rfl) ⟨Nat.zero_le _, Nat.zero_le _⟩ dX4_takeGift_25 (fun r25 u25 h25 => ?_)
      rcases h25 with ⟨rfl, rfl, g1, g2, g3⟩ | ⟨rfl, rfl, g1⟩ | ⟨rfl, rfl, g1, g2⟩ | ⟨rfl, rfl, g1, g2, g3⟩
      ·
        refine n_if_ne (tgt := 33) X dX4_takeGift_28 (by decide) (by omega) (fun _ => ?_) (fun c28 => absurd c28 (by decide))
        have hg9 := zn_or8 G hG kg hkg
        refine z_aload_n X dX4_takeGift_33 rfl rfl ?_
        refine z_dup X dX4_takeGift_34 rfl ?_
        refine z_get X (C := RX4) (T := TX4) (N := 21) (ci := 4) (v := .int (S 18 0)) inZ4 0 4 rfl rfl (by decide) q_fl_X4_111 rfl rfl dX4_takeGift_35 ?_
        refine z_top (y := nI G) (h18) ?_
        refine z_iconst (v := nI 1) X dX4_takeGift_38 (by decide) ?_
        refine z_iload_n X dX4_takeGift_39 rfl rfl ?_
        refine n_ishl1 X dX4_takeGift_40 (by omega) ?_
        refine n_ior X dX4_takeGift_41 ?_
        refine z_put X Y (C := RX4) (T := TX4) (N := 21) (ci := 4) (ty := .int) inZ4 tyX4 tyX4_ok nmX4 0 4 aM_eq rfl rfl (by decide) q_fl_X4_111 rfl rfl (by decide +kernel) rfl rfl (Nat.le_of_ble_eq_true rfl) dX4_takeGift_42 ?_
        refine Wz.eq (uM_18 (v := nI (G ||| (2 ^ kg)))) ?_
        refine z_aload_n X dX4_takeGift_45 rfl rfl ?_
        refine z_get X (C := RX4) (T := TX4) (N := 21) (ci := 4) (v := .int (nI (G ||| (2 ^ kg)))) inZ4 0 4 rfl rfl (by decide) q_fl_X4_111 rfl rfl dX4_takeGift_46 ?_
        refine z_callS1 (k := 0) (n := 0) (st := []) X (c_X4_many l D t (G ||| (2 ^ kg)) (by omega)) k_X4_many q_ml_X4_98 [] ⟨by decide, rfl⟩ (by decide) rfl rfl rfl (Nat.le_of_ble_eq_true rfl) ⟨Nat.zero_le _, Nat.zero_le _⟩ dX4_takeGift_49 (fun r49 h49 => ?_)
        subst h49
        refine z_iret X Z rfl dX4_takeGift_52 ?_
        exact ⟨(va_up (va_up S 23 (fun _ => nI 0)) 18 (fun _ => nI (G ||| (2 ^ kg)))), Or.inl ⟨kg, hkg, rfl, h13, rfl, rfl⟩, fun q hq => hq⟩
      ·
        exact absurd trivial g1
      ·
        exact absurd trivial g2
      ·
        exact absurd trivial g3
    ·
      refine n_if_eq (tgt := 23) X dX4_takeGift_16 (by decide) (by omega) (fun _ => ?_) (fun c16 => absurd c16 (by decide))
      refine z_iconst (v := nI 0) X dX4_takeGift_23 (by decide) ?_
      refine z_iconst (v := nI 1) X dX4_takeGift_24 (by decide) ?_
      refine z_callV2 (k := 0) (n := 0) (st := []) X Y aM_eq (c_X4_goes l D t b S (nI 1) (nI 0) (nI 1) True False True (bz_t trivial) (bz_f id) (bz_t trivial)) k_X4_goes q_ml_X4_77 is19 (fun u => wM t b (va_up S 23 (fun _ => nI u))) (fun u => swM) ppM 0 4 rfl rfl (by decide) rfl rfl rfl (Nat.le_of_ble_eq_true rfl) ⟨Nat.zero_le _, Nat.zero_le _⟩ dX4_takeGift_25 (fun r25 u25 h25 => ?_)
      rcases h25 with ⟨rfl, rfl, g1, g2, g3⟩ | ⟨rfl, rfl, g1⟩ | ⟨rfl, rfl, g1, g2⟩ | ⟨rfl, rfl, g1, g2, g3⟩
      ·
        exact g2.elim
      ·
        exact absurd trivial g1
      ·
        refine n_if_ne (tgt := 33) X dX4_takeGift_28 (by decide) (by omega) (fun c28 => absurd c28 (by decide)) (fun _ => ?_)
        refine z_iconst (v := nI 0) X dX4_takeGift_31 (by decide) ?_
        refine z_iret X Z rfl dX4_takeGift_32 ?_
        exact ⟨(va_up S 23 (fun _ => nI 2)), Or.inr (Or.inr ⟨⟨kg, hkg, rfl, h13⟩, rfl⟩), fun q hq => hq⟩
      ·
        exact absurd trivial g3
  ·
    refine z_istore_n X dX4_takeGift_4 rfl (Nat.le_of_ble_eq_true rfl) ?_
    refine z_lv (lv' := [some (.ref (b 0)), some (.int g), some (.int (nI 0))]) rfl ?_
    refine z_aload_n X dX4_takeGift_5 rfl rfl ?_
    refine z_iload_n X dX4_takeGift_6 rfl rfl ?_
    refine z_iload_n X dX4_takeGift_7 rfl rfl ?_
    refine n_if_eq (tgt := 23) X dX4_takeGift_8 (by decide) (by omega) (fun _ => ?_) (fun c8 => absurd c8 (by decide))
    refine z_iconst (v := nI 0) X dX4_takeGift_23 (by decide) ?_
    refine z_iconst (v := nI 1) X dX4_takeGift_24 (by decide) ?_
    refine z_callV2 (k := 0) (n := 0) (st := []) X Y aM_eq (c_X4_goes l D t b S (nI 0) (nI 0) (nI 1) False False True (bz_f id) (bz_f id) (bz_t trivial)) k_X4_goes q_ml_X4_77 is19 (fun u => wM t b (va_up S 23 (fun _ => nI u))) (fun u => swM) ppM 0 4 rfl rfl (by decide) rfl rfl rfl (Nat.le_of_ble_eq_true rfl) ⟨Nat.zero_le _, Nat.zero_le _⟩ dX4_takeGift_25 (fun r25 u25 h25 => ?_)
    rcases h25 with ⟨rfl, rfl, g1, g2, g3⟩ | ⟨rfl, rfl, g1⟩ | ⟨rfl, rfl, g1, g2⟩ | ⟨rfl, rfl, g1, g2, g3⟩
    ·
      exact g2.elim
    ·
      refine n_if_ne (tgt := 33) X dX4_takeGift_28 (by decide) (by omega) (fun c28 => absurd c28 (by decide)) (fun _ => ?_)
      refine z_iconst (v := nI 0) X dX4_takeGift_31 (by decide) ?_
      refine z_iret X Z rfl dX4_takeGift_32 ?_
      exact ⟨(va_up S 23 (fun _ => nI 1)), Or.inr (Or.inl ⟨h1, rfl⟩), fun q hq => hq⟩
    ·
      exact g1.elim
    ·
      exact absurd trivial g3
set_option maxHeartbeats 4000000 in
set_option maxRecDepth 100000 in
theorem c_X4_loseLevel (l : Launch) (D : va_G) (t : ClassId × ClassId × ClassId) (b : Nat → Nat) (S : zS) (m : Nat) (tk : Nat → Nat) (h17 : S 17 0 = nI m) (hm : m ≤ 8) (h16 : ∀ j, j < m → tk j < 3 ∧ S 16 j = nI (tk j)) : zM2 l yX4_loseLevel cX4_loseLevel 1 (some .int) 6 D t [.ref (b 0)] (wM t b S) (fun r (u : zS) => (0 < m ∧ r = nI (tk (m - 1)) ∧ u = va_up (va_up (va_up S 23 (fun _ => nI 0)) 17 (fun _ => nI (m - 1))) 15 (upd (S 15) (tk (m - 1)) (S 15 (tk (m - 1)) + (-1)))) ∨ (m = 0 ∧ u = va_up S 23 (fun _ => nI 1))) (fun u => wM t b u) := by
  refine z_m2 (by decide +kernel) (Nat.le_of_ble_eq_true rfl) (by simp [Value.category]) ?_
  intro E X Z Y
  refine z_lv (lv' := [some (.ref (b 0))]) rfl ?_
  refine z_aload_n X dX4_loseLevel_0 rfl rfl ?_
  refine z_aload_n X dX4_loseLevel_1 rfl rfl ?_
  refine z_get X (C := RX4) (T := TX4) (N := 21) (ci := 4) (v := .int (S 17 0)) inZ4 0 3 rfl rfl (by decide) q_fl_X4_95 rfl rfl dX4_loseLevel_2 ?_
  refine z_top (y := nI m) (h17) ?_
  refine n_if_le (tgt := 12) X dX4_loseLevel_5 (by decide) (by omega) (fun c5 => ?_) (fun c5 => ?_)
  ·
    refine z_iconst (v := nI 0) X dX4_loseLevel_12 (by decide) ?_
    refine z_iconst (v := nI 1) X dX4_loseLevel_13 (by decide) ?_
    refine z_iconst (v := nI 1) X dX4_loseLevel_14 (by decide) ?_
    refine z_callV2 (k := 0) (n := 0) (st := []) X Y aM_eq (c_X4_goes l D t b S (nI 0) (nI 1) (nI 1) False True True (bz_f id) (bz_t trivial) (bz_t trivial)) k_X4_goes q_ml_X4_77 is19 (fun u => wM t b (va_up S 23 (fun _ => nI u))) (fun u => swM) ppM 0 4 rfl rfl (by decide) rfl rfl rfl (Nat.le_of_ble_eq_true rfl) ⟨Nat.zero_le _, Nat.zero_le _⟩ dX4_loseLevel_15 (fun r15 u15 h15 => ?_)
    rcases h15 with ⟨rfl, rfl, g1, g2, g3⟩ | ⟨rfl, rfl, g1⟩ | ⟨rfl, rfl, g1, g2⟩ | ⟨rfl, rfl, g1, g2, g3⟩
    ·
      exact g1.elim
    ·
      refine n_if_ne (tgt := 23) X dX4_loseLevel_18 (by decide) (by omega) (fun c18 => absurd c18 (by decide)) (fun _ => ?_)
      refine z_iconst (v := nI 0) X dX4_loseLevel_21 (by decide) ?_
      refine z_iret X Z rfl dX4_loseLevel_22 ?_
      exact ⟨(va_up S 23 (fun _ => nI 1)), Or.inr ⟨c5, rfl⟩, fun q hq => hq⟩
    ·
      exact absurd trivial g2
    ·
      exact absurd trivial g3
  ·
    refine z_iconst (v := nI 1) X dX4_loseLevel_8 (by decide) ?_
    refine z_goto (tgt := 13) X dX4_loseLevel_9 (by decide) ?_
    refine z_iconst (v := nI 1) X dX4_loseLevel_13 (by decide) ?_
    refine z_iconst (v := nI 1) X dX4_loseLevel_14 (by decide) ?_
    refine z_callV2 (k := 0) (n := 0) (st := []) X Y aM_eq (c_X4_goes l D t b S (nI 1) (nI 1) (nI 1) True True True (bz_t trivial) (bz_t trivial) (bz_t trivial)) k_X4_goes q_ml_X4_77 is19 (fun u => wM t b (va_up S 23 (fun _ => nI u))) (fun u => swM) ppM 0 4 rfl rfl (by decide) rfl rfl rfl (Nat.le_of_ble_eq_true rfl) ⟨Nat.zero_le _, Nat.zero_le _⟩ dX4_loseLevel_15 (fun r15 u15 h15 => ?_)
    rcases h15 with ⟨rfl, rfl, g1, g2, g3⟩ | ⟨rfl, rfl, g1⟩ | ⟨rfl, rfl, g1, g2⟩ | ⟨rfl, rfl, g1, g2, g3⟩
    ·
      refine n_if_ne (tgt := 23) X dX4_loseLevel_18 (by decide) (by omega) (fun _ => ?_) (fun c18 => absurd c18 (by decide))
      obtain ⟨ht3, h16e⟩ := h16 (m - 1) (by omega)
      refine z_aload_n X dX4_loseLevel_23 rfl rfl ?_
      refine z_dup X dX4_loseLevel_24 rfl ?_
      refine z_get X (C := RX4) (T := TX4) (N := 21) (ci := 4) (v := .int (S 17 0)) inZ4 0 3 rfl rfl (by decide) q_fl_X4_95 rfl rfl dX4_loseLevel_25 ?_
      refine z_top (y := nI m) (h17) ?_
      refine z_iconst (v := nI 1) X dX4_loseLevel_28 (by decide) ?_
      refine n_isub X dX4_loseLevel_29 (by omega) ?_
      refine z_put X Y (C := RX4) (T := TX4) (N := 21) (ci := 4) (ty := .int) inZ4 tyX4 tyX4_ok nmX4 0 3 aM_eq rfl rfl (by decide) q_fl_X4_95 rfl rfl (by decide +kernel) rfl rfl (Nat.le_of_ble_eq_true rfl) dX4_loseLevel_30 ?_
      refine Wz.eq (uM_17 (v := nI (m - 1))) ?_
      refine z_aload_n X dX4_loseLevel_33 rfl rfl ?_
      refine z_get X (C := RX4) (T := TX4) (N := 21) (ci := 4) (v := .ref (b 3)) inZ4 0 2 rfl rfl (by decide) q_fl_X4_16 rfl rfl dX4_loseLevel_34 ?_
      refine z_aload_n X dX4_loseLevel_37 rfl rfl ?_
      refine z_get X (C := RX4) (T := TX4) (N := 21) (ci := 4) (v := .ref (b 2)) inZ4 0 1 rfl rfl (by decide) q_fl_X4_13 rfl rfl dX4_loseLevel_38 ?_
      refine z_aload_n X dX4_loseLevel_41 rfl rfl ?_
      refine z_get X (C := RX4) (T := TX4) (N := 21) (ci := 4) (v := .int (nI (m - 1))) inZ4 0 3 rfl rfl (by decide) q_fl_X4_95 rfl rfl dX4_loseLevel_42 ?_
      refine n_iald (f := S 16) X 2 rfl (by omega) (by decide) dX4_loseLevel_45 ?_
      refine z_top (y := nI (tk (m - 1))) (h16e) ?_
      refine z_dup2 X dX4_loseLevel_46 rfl rfl ?_
      refine n_iald (f := S 15) X 3 rfl (by omega) (by decide) dX4_loseLevel_47 ?_
      refine z_iconst (v := nI 1) X dX4_loseLevel_48 (by decide) ?_
      refine z_isub X dX4_loseLevel_49 ?_
      refine z_top (y := S 15 (tk (m - 1)) + (-1)) (i_sb1 _) ?_
      refine n_iast X Y 3 aM_eq rfl (by omega) (by decide) dX4_loseLevel_50 ?_
      refine Wz.eq (uM_15 (f := upd (S 15) (tk (m - 1)) (S 15 (tk (m - 1)) + (-1)))) ?_
      refine z_aload_n X dX4_loseLevel_51 rfl rfl ?_
      refine z_get X (C := RX4) (T := TX4) (N := 21) (ci := 4) (v := .ref (b 2)) inZ4 0 1 rfl rfl (by decide) q_fl_X4_13 rfl rfl dX4_loseLevel_52 ?_
      refine z_aload_n X dX4_loseLevel_55 rfl rfl ?_
      refine z_get X (C := RX4) (T := TX4) (N := 21) (ci := 4) (v := .int (nI (m - 1))) inZ4 0 3 rfl rfl (by decide) q_fl_X4_95 rfl rfl dX4_loseLevel_56 ?_
      refine n_iald (f := S 16) X 2 rfl (by omega) (by decide) dX4_loseLevel_59 ?_
      refine z_top (y := nI (tk (m - 1))) (h16e) ?_
      refine z_iret X Z rfl dX4_loseLevel_60 ?_
      exact ⟨(va_up (va_up (va_up S 23 (fun _ => nI 0)) 17 (fun _ => nI (m - 1))) 15 (upd (S 15) (tk (m - 1)) (S 15 (tk (m - 1)) + (-1)))), Or.inl ⟨c5, rfl, rfl⟩, fun q hq => hq⟩
    ·
      exact absurd trivial g1
    ·
      exact absurd trivial g2
    ·
      exact absurd trivial g3
set_option maxHeartbeats 4000000 in
set_option maxRecDepth 100000 in
theorem c_X4_clear (l : Launch) (D : va_G) (t : ClassId × ClassId × ClassId) (b : Nat → Nat) (S : zS) (m G : Nat) (h17 : S 17 0 = nI m) (h18 : S 18 0 = nI G) (hG : G < 256) : zM2 l yX4_clear cX4_clear 3 (some .int) 6 D t [.ref (b 0)] (wM t b S) (fun r (_ : Unit) => r = nI (m + p8 G)) (fun _ => wM t b (va_up (va_up (va_up (va_up S 17 (fun _ => nI 0)) 18 (fun _ => nI 0)) 15 (fun _ => nI 0)) 23 (fun _ => nI 0))) := by
  refine z_m2 (by decide +kernel) (Nat.le_of_ble_eq_true rfl) (by simp [Value.category]) ?_
  intro E X Z Y
  refine z_lv (lv' := [some (.ref (b 0)), none, none]) rfl ?_
  refine z_aload_n X dX4_clear_0 rfl rfl ?_
  refine z_get X (C := RX4) (T := TX4) (N := 21) (ci := 4) (v := .int (S 17 0)) inZ4 0 3 rfl rfl (by decide) q_fl_X4_95 rfl rfl dX4_clear_1 ?_
  refine z_top (y := nI m) (h17) ?_
  refine z_aload_n X dX4_clear_4 rfl rfl ?_
  refine z_get X (C := RX4) (T := TX4) (N := 21) (ci := 4) (v := .int (S 18 0)) inZ4 0 4 rfl rfl (by decide) q_fl_X4_111 rfl rfl dX4_clear_5 ?_
  refine z_top (y := nI G) (h18) ?_
  refine z_callS1 (k := 0) (n := 0) (st := [.int (nI m)]) X (c_X4_many l D t G (by omega)) k_X4_many q_ml_X4_98 [] ⟨by decide, rfl⟩ (by decide) rfl rfl rfl (Nat.le_of_ble_eq_true rfl) ⟨Nat.zero_le _, Nat.zero_le _⟩ dX4_clear_8 (fun r8 h8 => ?_)
  subst h8
  refine n_iadd X dX4_clear_11 ?_
  refine z_istore_n X dX4_clear_12 rfl (Nat.le_of_ble_eq_true rfl) ?_
  refine z_lv (lv' := [some (.ref (b 0)), some (.int (nI (m + (p8 G)))), none]) rfl ?_
  refine z_aload_n X dX4_clear_13 rfl rfl ?_
  refine z_iconst (v := nI 0) X dX4_clear_14 (by decide) ?_
  refine z_put X Y (C := RX4) (T := TX4) (N := 21) (ci := 4) (ty := .int) inZ4 tyX4 tyX4_ok nmX4 0 3 aM_eq rfl rfl (by decide) q_fl_X4_95 rfl rfl (by decide +kernel) rfl rfl (Nat.le_of_ble_eq_true rfl) dX4_clear_15 ?_
  refine Wz.eq (uM_17 (v := nI 0)) ?_
  refine z_aload_n X dX4_clear_18 rfl rfl ?_
  refine z_iconst (v := nI 0) X dX4_clear_19 (by decide) ?_
  refine z_put X Y (C := RX4) (T := TX4) (N := 21) (ci := 4) (ty := .int) inZ4 tyX4 tyX4_ok nmX4 0 4 aM_eq rfl rfl (by decide) q_fl_X4_111 rfl rfl (by decide +kernel) rfl rfl (Nat.le_of_ble_eq_true rfl) dX4_clear_20 ?_
  refine Wz.eq (uM_18 (v := nI 0)) ?_
  refine z_iconst (v := nI 0) X dX4_clear_23 (by decide) ?_
  refine z_istore_n X dX4_clear_24 rfl (Nat.le_of_ble_eq_true rfl) ?_
  refine z_lv (lv' := [some (.ref (b 0)), some (.int (nI (m + (p8 G)))), some (.int (nI 0))]) rfl ?_
  refine z_iload_n X dX4_clear_25 rfl rfl ?_
  refine z_iconst (v := nI 3) X dX4_clear_26 (by decide) ?_
  refine n_icmp_ge (tgt := 43) X dX4_clear_27 (by decide) (by omega) (by omega) (fun c27 => absurd c27 (by decide)) (fun _ => ?_)
  refine z_aload_n X dX4_clear_30 rfl rfl ?_
  refine z_get X (C := RX4) (T := TX4) (N := 21) (ci := 4) (v := .ref (b 3)) inZ4 0 2 rfl rfl (by decide) q_fl_X4_16 rfl rfl dX4_clear_31 ?_
  refine z_iload_n X dX4_clear_34 rfl rfl ?_
  refine z_iconst (v := nI 0) X dX4_clear_35 (by decide) ?_
  refine n_iast X Y 3 aM_eq rfl (by omega) (by decide) dX4_clear_36 ?_
  refine Wz.eq (uM_15 (f := upd (S 15) 0 (nI 0))) ?_
  refine z_iinc (v := nI 1) X dX4_clear_37 rfl (by decide) ?_
  refine z_lv (lv' := [some (.ref (b 0)), some (.int (nI (m + (p8 G)))), some (.int (nI 1))]) rfl ?_
  refine z_goto (tgt := 25) X dX4_clear_40 (by decide) ?_
  refine z_iload_n X dX4_clear_25 rfl rfl ?_
  refine z_iconst (v := nI 3) X dX4_clear_26 (by decide) ?_
  refine n_icmp_ge (tgt := 43) X dX4_clear_27 (by decide) (by omega) (by omega) (fun c27 => absurd c27 (by decide)) (fun _ => ?_)
  refine z_aload_n X dX4_clear_30 rfl rfl ?_
  refine z_get X (C := RX4) (T := TX4) (N := 21) (ci := 4) (v := .ref (b 3)) inZ4 0 2 rfl rfl (by decide) q_fl_X4_16 rfl rfl dX4_clear_31 ?_
  refine z_iload_n X dX4_clear_34 rfl rfl ?_
  refine z_iconst (v := nI 0) X dX4_clear_35 (by decide) ?_
  refine n_iast X Y 3 aM_eq rfl (by omega) (by decide) dX4_clear_36 ?_
  refine Wz.eq (uM_15 (f := upd (upd (S 15) 0 (nI 0)) 1 (nI 0))) ?_
  refine z_iinc (v := nI 2) X dX4_clear_37 rfl (by decide) ?_
  refine z_lv (lv' := [some (.ref (b 0)), some (.int (nI (m + (p8 G)))), some (.int (nI 2))]) rfl ?_
  refine z_goto (tgt := 25) X dX4_clear_40 (by decide) ?_
  refine z_iload_n X dX4_clear_25 rfl rfl ?_
  refine z_iconst (v := nI 3) X dX4_clear_26 (by decide) ?_
  refine n_icmp_ge (tgt := 43) X dX4_clear_27 (by decide) (by omega) (by omega) (fun c27 => absurd c27 (by decide)) (fun _ => ?_)
  refine z_aload_n X dX4_clear_30 rfl rfl ?_
  refine z_get X (C := RX4) (T := TX4) (N := 21) (ci := 4) (v := .ref (b 3)) inZ4 0 2 rfl rfl (by decide) q_fl_X4_16 rfl rfl dX4_clear_31 ?_
  refine z_iload_n X dX4_clear_34 rfl rfl ?_
  refine z_iconst (v := nI 0) X dX4_clear_35 (by decide) ?_
  refine n_iast X Y 3 aM_eq rfl (by omega) (by decide) dX4_clear_36 ?_
  refine Wz.eq (uM_15 (f := upd (upd (upd (S 15) 0 (nI 0)) 1 (nI 0)) 2 (nI 0))) ?_
  refine z_iinc (v := nI 3) X dX4_clear_37 rfl (by decide) ?_
  refine z_lv (lv' := [some (.ref (b 0)), some (.int (nI (m + (p8 G)))), some (.int (nI 3))]) rfl ?_
  refine z_goto (tgt := 25) X dX4_clear_40 (by decide) ?_
  refine z_iload_n X dX4_clear_25 rfl rfl ?_
  refine z_iconst (v := nI 3) X dX4_clear_26 (by decide) ?_
  refine n_icmp_ge (tgt := 43) X dX4_clear_27 (by decide) (by omega) (by omega) (fun _ => ?_) (fun c27 => absurd c27 (by decide))
  refine z_cells (ws' := wM t b (va_up (va_up (va_up S 17 (fun _ => nI 0)) 18 (fun _ => nI 0)) 15 (fun _ => nI 0))) (fun D H h => zPM15 (f := upd (upd (upd (S 15) 0 (nI 0)) 1 (nI 0)) 2 (nI 0)) (g := fun _ => nI 0) (S := (va_up (va_up S 17 (fun _ => nI 0)) 18 (fun _ => nI 0))) (fun i hi => by rcases (show i = 0 ∨ i = 1 ∨ i = 2 by omega) with rfl | rfl | rfl <;> rfl) (by exact h)) rfl ?_
  refine z_aload_n X dX4_clear_43 rfl rfl ?_
  refine z_iload_n X dX4_clear_44 rfl rfl ?_
  refine z_callV2 (k := 0) (n := 0) (st := []) X Y aM_eq (c_X4_told l D t b (va_up (va_up (va_up S 17 (fun _ => nI 0)) 18 (fun _ => nI 0)) 15 (fun _ => nI 0)) (nI (m + (p8 G)))) k_X4_told q_ml_X4_127 is19 (fun u => wM t b (va_up (va_up (va_up (va_up S 17 (fun _ => nI 0)) 18 (fun _ => nI 0)) 15 (fun _ => nI 0)) 23 (fun _ => nI 0))) (fun u => swM) ppM 0 4 rfl rfl (by decide) rfl rfl rfl (Nat.le_of_ble_eq_true rfl) ⟨Nat.zero_le _, Nat.zero_le _⟩ dX4_clear_45 (fun r45 u45 h45 => ?_)
  subst h45
  refine z_iret X Z rfl dX4_clear_48 ?_
  exact ⟨(), rfl, fun q hq => hq⟩
set_option maxHeartbeats 4000000 in
set_option maxRecDepth 100000 in
theorem c_X4_level (l : Launch) (D : va_G) (t : ClassId × ClassId × ClassId) (b : Nat → Nat) (S : zS) (c : Int32) : zM2 l yX4_level cX4_level 2 (some .int) 6 D t [.ref (b 0), .int c] (wM t b S) (fun r (u : zS) => (∃ k, k < 3 ∧ c = nI k ∧ r = S 15 k ∧ u = va_up S 23 (fun _ => nI 0)) ∨ (¬ am c 3 ∧ u = va_up S 23 (fun _ => nI 1))) (fun u => wM t b u) := by
  refine z_m2 (by decide +kernel) (Nat.le_of_ble_eq_true rfl) (by simp [Value.category]) ?_
  intro E X Z Y
  refine z_lv (lv' := [some (.ref (b 0)), some (.int c)]) rfl ?_
  refine z_aload_n X dX4_level_0 rfl rfl ?_
  refine z_iload_n X dX4_level_1 rfl rfl ?_
  refine z_callS1 (k := 0) (n := 0) (st := [.ref (b 0)]) X (c_X4_isCalling l D t c) k_X4_isCalling q_ml_X4_92 [] ⟨by decide, rfl⟩ (by decide) rfl rfl rfl (Nat.le_of_ble_eq_true rfl) ⟨Nat.zero_le _, Nat.zero_le _⟩ dX4_level_2 (fun r2 h2 => ?_)
  refine z_iconst (v := nI 1) X dX4_level_5 (by decide) ?_
  refine z_iconst (v := nI 1) X dX4_level_6 (by decide) ?_
  refine z_callV2 (k := 0) (n := 0) (st := []) X Y aM_eq (c_X4_goes l D t b S r2 (nI 1) (nI 1) (am c 3) True True h2 (bz_t trivial) (bz_t trivial)) k_X4_goes q_ml_X4_77 is19 (fun u => wM t b (va_up S 23 (fun _ => nI u))) (fun u => swM) ppM 0 4 rfl rfl (by decide) rfl rfl rfl (Nat.le_of_ble_eq_true rfl) ⟨Nat.zero_le _, Nat.zero_le _⟩ dX4_level_7 (fun r7 u7 h7 => ?_)
  rcases h7 with ⟨rfl, rfl, g1, g2, g3⟩ | ⟨rfl, rfl, g1⟩ | ⟨rfl, rfl, g1, g2⟩ | ⟨rfl, rfl, g1, g2, g3⟩
  ·
    refine n_if_eq (tgt := 22) X dX4_level_10 (by decide) (by omega) (fun c10 => absurd c10 (by decide)) (fun _ => ?_)
    obtain ⟨kc, hkc, rfl⟩ := g1
    refine z_aload_n X dX4_level_13 rfl rfl ?_
    refine z_get X (C := RX4) (T := TX4) (N := 21) (ci := 4) (v := .ref (b 3)) inZ4 0 2 rfl rfl (by decide) q_fl_X4_16 rfl rfl dX4_level_14 ?_
    refine z_iload_n X dX4_level_17 rfl rfl ?_
    refine n_iald (f := S 15) X 3 rfl (by omega) (by decide) dX4_level_18 ?_
    refine z_goto (tgt := 23) X dX4_level_19 (by decide) ?_
    refine z_iret X Z rfl dX4_level_23 ?_
    exact ⟨(va_up S 23 (fun _ => nI 0)), Or.inl ⟨kc, hkc, rfl, rfl, rfl⟩, fun q hq => hq⟩
  ·
    refine n_if_eq (tgt := 22) X dX4_level_10 (by decide) (by omega) (fun _ => ?_) (fun c10 => absurd c10 (by decide))
    refine z_iconst (v := nI 0) X dX4_level_22 (by decide) ?_
    refine z_iret X Z rfl dX4_level_23 ?_
    exact ⟨(va_up S 23 (fun _ => nI 1)), Or.inr ⟨g1, rfl⟩, fun q hq => hq⟩
  ·
    exact absurd trivial g2
  ·
    exact absurd trivial g3
set_option maxHeartbeats 4000000 in
set_option maxRecDepth 100000 in
theorem c_X4_gifts (l : Launch) (D : va_G) (t : ClassId × ClassId × ClassId) (b : Nat → Nat) (S : zS) : zM2 l yX4_gifts cX4_gifts 1 (some .int) 4 D t [.ref (b 0)] (wM t b S) (fun r (_ : Unit) => r = S 18 0) (fun _ => wM t b (va_up S 23 (fun _ => nI 0))) := by
  refine z_m2 (by decide +kernel) (Nat.le_of_ble_eq_true rfl) (by simp [Value.category]) ?_
  intro E X Z Y
  refine z_lv (lv' := [some (.ref (b 0))]) rfl ?_
  refine z_aload_n X dX4_gifts_0 rfl rfl ?_
  refine z_aload_n X dX4_gifts_1 rfl rfl ?_
  refine z_get X (C := RX4) (T := TX4) (N := 21) (ci := 4) (v := .int (S 18 0)) inZ4 0 4 rfl rfl (by decide) q_fl_X4_111 rfl rfl dX4_gifts_2 ?_
  refine z_callV2 (k := 0) (n := 0) (st := []) X Y aM_eq (c_X4_told l D t b S (S 18 0)) k_X4_told q_ml_X4_127 is19 (fun u => wM t b (va_up S 23 (fun _ => nI 0))) (fun u => swM) ppM 0 4 rfl rfl (by decide) rfl rfl rfl (Nat.le_of_ble_eq_true rfl) ⟨Nat.zero_le _, Nat.zero_le _⟩ dX4_gifts_5 (fun r5 u5 h5 => ?_)
  subst h5
  refine z_iret X Z rfl dX4_gifts_8 ?_
  exact ⟨(), rfl, fun q hq => hq⟩
set_option maxHeartbeats 4000000 in
set_option maxRecDepth 100000 in
theorem c_X4_places (l : Launch) (D : va_G) (t : ClassId × ClassId × ClassId) (b : Nat → Nat) (S : zS) (m : Nat) (h17 : S 17 0 = nI m) (hm : m ≤ 8) : zM2 l yX4_places cX4_places 1 (some .int) 4 D t [.ref (b 0)] (wM t b S) (fun r (_ : Unit) => r = nI (1 + m / 2)) (fun _ => wM t b (va_up S 23 (fun _ => nI 0))) := by
  refine z_m2 (by decide +kernel) (Nat.le_of_ble_eq_true rfl) (by simp [Value.category]) ?_
  intro E X Z Y
  refine z_lv (lv' := [some (.ref (b 0))]) rfl ?_
  refine z_aload_n X dX4_places_0 rfl rfl ?_
  refine z_iconst (v := nI 1) X dX4_places_1 (by decide) ?_
  refine z_aload_n X dX4_places_2 rfl rfl ?_
  refine z_get X (C := RX4) (T := TX4) (N := 21) (ci := 4) (v := .int (S 17 0)) inZ4 0 3 rfl rfl (by decide) q_fl_X4_95 rfl rfl dX4_places_3 ?_
  refine z_top (y := nI m) (h17) ?_
  refine z_callS1 (k := 0) (n := 0) (st := [.int (nI 1), .ref (b 0)]) X (c_X4_half l D t (nI m)) k_X4_half q_ml_X4_101 [] ⟨by decide, rfl⟩ (by decide) rfl rfl rfl (Nat.le_of_ble_eq_true rfl) ⟨Nat.zero_le _, Nat.zero_le _⟩ dX4_places_6 (fun r6 h6 => ?_)
  subst h6
  refine z_top (y := nI ((m) / 2)) (hlf_nI (by omega)) ?_
  refine n_iadd X dX4_places_9 ?_
  refine z_callV2 (k := 0) (n := 0) (st := []) X Y aM_eq (c_X4_told l D t b S (nI (1 + ((m) / 2)))) k_X4_told q_ml_X4_127 is19 (fun u => wM t b (va_up S 23 (fun _ => nI 0))) (fun u => swM) ppM 0 4 rfl rfl (by decide) rfl rfl rfl (Nat.le_of_ble_eq_true rfl) ⟨Nat.zero_le _, Nat.zero_le _⟩ dX4_places_10 (fun r10 u10 h10 => ?_)
  subst h10
  refine z_iret X Z rfl dX4_places_13 ?_
  exact ⟨(), rfl, fun q hq => hq⟩
set_option maxHeartbeats 4000000 in
set_option maxRecDepth 100000 in
theorem c_X4_points (l : Launch) (D : va_G) (t : ClassId × ClassId × ClassId) (b : Nat → Nat) (S : zS) (sc : Nat → Nat) (hsc : zSc S sc) (hc : cs4 sc ≤ 20) : zM2 l yX4_points cX4_points 1 (some .int) 4 D t [.ref (b 0)] (wM t b S) (fun r (_ : Unit) => r = nI (20 - cs4 sc)) (fun _ => wM t b (va_up S 23 (fun _ => nI 0))) := by
  refine z_m2 (by decide +kernel) (Nat.le_of_ble_eq_true rfl) (by simp [Value.category]) ?_
  intro E X Z Y
  refine z_lv (lv' := [some (.ref (b 0))]) rfl ?_
  refine z_aload_n X dX4_points_0 rfl rfl ?_
  refine z_bipush (v := nI 20) X dX4_points_1 (by decide) ?_
  refine z_aload_n X dX4_points_3 rfl rfl ?_
  refine z_callV1 (k := 0) (n := 0) (st := [.int (nI 20), .ref (b 0)]) X (c_X4_cost l D t b S sc hsc) k_X4_cost q_ml_X4_88 is19 ⟨by decide, rfl⟩ 0 4 rfl rfl (by decide) rfl rfl rfl (Nat.le_of_ble_eq_true rfl) ⟨Nat.zero_le _, Nat.zero_le _⟩ dX4_points_4 (fun r4 h4 => ?_)
  subst h4
  refine n_isub X dX4_points_7 (by omega) ?_
  refine z_callV2 (k := 0) (n := 0) (st := []) X Y aM_eq (c_X4_told l D t b S (nI (20 - (cs4 sc)))) k_X4_told q_ml_X4_127 is19 (fun u => wM t b (va_up S 23 (fun _ => nI 0))) (fun u => swM) ppM 0 4 rfl rfl (by decide) rfl rfl rfl (Nat.le_of_ble_eq_true rfl) ⟨Nat.zero_le _, Nat.zero_le _⟩ dX4_points_8 (fun r8 u8 h8 => ?_)
  subst h8
  refine z_iret X Z rfl dX4_points_11 ?_
  exact ⟨(), rfl, fun q hq => hq⟩
set_option maxHeartbeats 4000000 in
set_option maxRecDepth 100000 in
theorem c_X4_open (l : Launch) (D : va_G) (t : ClassId × ClassId × ClassId) (b : Nat → Nat) (S : zS) (x y z G : Nat) (h15 : S 15 = l3 x y z) (h18 : S 18 0 = nI G) (hG : G < 256) (hX : x + y + z ≤ 8) (hI : zI S) : zM2 l yX4_open cX4_open 3 (some .int) 4 D t [.ref (b 0)] (wM t b S) (fun r (_ : Unit) => r = nI (opN S x y z G 8)) (fun _ => wM t b (va_up S 23 (fun _ => nI 0))) := by
  refine z_m2 (by decide +kernel) (Nat.le_of_ble_eq_true rfl) (by simp [Value.category]) ?_
  intro E X Z Y
  refine z_lv (lv' := [some (.ref (b 0)), none, none]) rfl ?_
  refine z_iconst (v := nI 0) X dX4_open_0 (by decide) ?_
  refine z_istore_n X dX4_open_1 rfl (Nat.le_of_ble_eq_true rfl) ?_
  refine z_lv (lv' := [some (.ref (b 0)), some (.int (nI 0)), none]) rfl ?_
  refine z_iconst (v := nI 0) X dX4_open_2 (by decide) ?_
  refine z_istore_n X dX4_open_3 rfl (Nat.le_of_ble_eq_true rfl) ?_
  refine z_lv (lv' := [some (.ref (b 0)), some (.int (nI 0)), some (.int (nI 0))]) rfl ?_
  refine Wz.less (lv' := [some (.ref (b 0)), some (.int (nI (opN S x y z G 0))), some (.int (nI 0))]) (by simp [zle] <;> rfl) ?_
  refine zl_up 8 (fun j => Wz E 0 0 4 [some (.ref (b 0)), some (.int (nI (opN S x y z G j))), some (.int (nI j))] [] (wM t b S)) ?_ ?_ 0 (by omega)
  ·
    refine z_iload_n X dX4_open_4 rfl rfl ?_
    refine z_bipush (v := nI 8) X dX4_open_5 (by decide) ?_
    refine n_icmp_ge (tgt := 34) X dX4_open_7 (by decide) (by omega) (by omega) (fun _ => ?_) (fun c7 => absurd c7 (by decide))
    refine z_aload_n X dX4_open_34 rfl rfl ?_
    refine z_iload_n X dX4_open_35 rfl rfl ?_
    refine z_callV2 (k := 0) (n := 0) (st := []) X Y aM_eq (c_X4_told l D t b S (nI (opN S x y z G 8))) k_X4_told q_ml_X4_127 is19 (fun u => wM t b (va_up S 23 (fun _ => nI 0))) (fun u => swM) ppM 0 4 rfl rfl (by decide) rfl rfl rfl (Nat.le_of_ble_eq_true rfl) ⟨Nat.zero_le _, Nat.zero_le _⟩ dX4_open_36 (fun r36 u36 h36 => ?_)
    subst h36
    refine z_iret X Z rfl dX4_open_39 ?_
    exact ⟨(), rfl, fun q hq => hq⟩
  ·
    intro j hj ihj
    refine z_iload_n X dX4_open_4 rfl rfl ?_
    refine z_bipush (v := nI 8) X dX4_open_5 (by decide) ?_
    refine n_icmp_ge (tgt := 34) X dX4_open_7 (by decide) (by omega) (by omega) (fun c7 => absurd c7 (by omega)) (fun _ => ?_)
    refine z_iload_n X dX4_open_10 rfl rfl ?_
    refine z_aload_n X dX4_open_11 rfl rfl ?_
    refine z_iload_n X dX4_open_12 rfl rfl ?_
    refine z_callV1 (k := 0) (n := 0) (st := [.int (nI (opN S x y z G j))]) X (c_X4_mayTakeNow l D t b S x y z G h15 h18 hG hX hI j (by omega)) k_X4_mayTakeNow q_ml_X4_118 is19 ⟨by decide, rfl⟩ 0 4 rfl rfl (by decide) rfl rfl rfl (Nat.le_of_ble_eq_true rfl) ⟨Nat.zero_le _, Nat.zero_le _⟩ dX4_open_13 (fun r13 h13 => ?_)
    rcases h13 with ⟨rfl, h13⟩ | ⟨rfl, h13⟩
    ·
      refine n_if_eq (tgt := 25) X dX4_open_16 (by decide) (by omega) (fun c16 => absurd c16 (by decide)) (fun _ => ?_)
      refine z_iconst (v := nI 1) X dX4_open_19 (by decide) ?_
      refine z_iload_n X dX4_open_20 rfl rfl ?_
      refine n_ishl1 X dX4_open_21 (by omega) ?_
      refine z_goto (tgt := 26) X dX4_open_22 (by decide) ?_
      refine n_ior X dX4_open_26 ?_
      refine z_istore_n X dX4_open_27 rfl (Nat.le_of_ble_eq_true rfl) ?_
      refine z_lv (lv' := [some (.ref (b 0)), some (.int (nI ((opN S x y z G j) ||| (2 ^ j)))), some (.int (nI j))]) rfl ?_
      refine z_iinc (v := nI (j + 1)) X dX4_open_28 rfl (nI_add j 1) ?_
      refine z_lv (lv' := [some (.ref (b 0)), some (.int (nI ((opN S x y z G j) ||| (2 ^ j)))), some (.int (nI (j + 1)))]) rfl ?_
      refine z_goto (tgt := 4) X dX4_open_31 (by decide) ?_
      have e9 : opN S x y z G (j + 1) = (opN S x y z G j) ||| (2 ^ j) := by first | exact zif_t h13 | (rw [Nat.or_zero]; exact zif_f h13)
      rw [← e9]
      exact ihj
    ·
      refine n_if_eq (tgt := 25) X dX4_open_16 (by decide) (by omega) (fun _ => ?_) (fun c16 => absurd c16 (by decide))
      refine z_iconst (v := nI 0) X dX4_open_25 (by decide) ?_
      refine n_ior X dX4_open_26 ?_
      refine z_istore_n X dX4_open_27 rfl (Nat.le_of_ble_eq_true rfl) ?_
      refine z_lv (lv' := [some (.ref (b 0)), some (.int (nI ((opN S x y z G j) ||| 0))), some (.int (nI j))]) rfl ?_
      refine z_iinc (v := nI (j + 1)) X dX4_open_28 rfl (nI_add j 1) ?_
      refine z_lv (lv' := [some (.ref (b 0)), some (.int (nI ((opN S x y z G j) ||| 0))), some (.int (nI (j + 1)))]) rfl ?_
      refine z_goto (tgt := 4) X dX4_open_31 (by decide) ?_
      have e9 : opN S x y z G (j + 1) = (opN S x y z G j) ||| 0 := by first | exact zif_t h13 | (rw [Nat.or_zero]; exact zif_f h13)
      rw [← e9]
      exact ihj
/-- needs of a gift that stay while what works grows -/
def wk0 (S : zS) (f : Nat → Int32) (s j : Nat) : Prop := s.testBit j = true ∧ pS S j ∧ pL S f j
set_option maxHeartbeats 4000000 in
set_option maxRecDepth 100000 in
theorem c_X4_workingOf (l : Launch) (D : va_G) (t : ClassId × ClassId × ClassId) (b : Nat → Nat) (S : zS) (s : Nat) (hs : s < 256) (hI : zI S) : zM1 l yX4_workingOf cX4_workingOf 6 (some .int) 2 D t [.ref (b 0), .int (nI s)] (wM t b S) (fun r => r = nI (wk S (S 15) s)) := by
  refine z_m1 (by decide +kernel) (Nat.le_of_ble_eq_true rfl) (by simp [Value.category]) ?_
  intro E X Z
  refine z_lv (lv' := [some (.ref (b 0)), some (.int (nI s)), none, none, none, none]) rfl ?_
  refine z_iconst (v := nI 0) X dX4_workingOf_0 (by decide) ?_
  refine z_istore_n X dX4_workingOf_1 rfl (Nat.le_of_ble_eq_true rfl) ?_
  refine z_lv (lv' := [some (.ref (b 0)), some (.int (nI s)), some (.int (nI 0)), none, none, none]) rfl ?_
  refine z_iconst (v := nI 0) X dX4_workingOf_2 (by decide) ?_
  refine z_istore_n X dX4_workingOf_3 rfl (Nat.le_of_ble_eq_true rfl) ?_
  refine z_lv (lv' := [some (.ref (b 0)), some (.int (nI s)), some (.int (nI 0)), some (.int (nI 0)), none, none]) rfl ?_
  refine Wz.less (lv' := [some (.ref (b 0)), some (.int (nI s)), some (.int (nI (wkN S (S 15) s (8 * (0))))), some (.int (nI 0)), none, none]) (by simp [zle] <;> rfl) ?_
  refine zl_up 8 (fun r => Wz E 0 0 4 [some (.ref (b 0)), some (.int (nI s)), some (.int (nI (wkN S (S 15) s (8 * (r))))), some (.int (nI r)), none, none] [] (wM t b S)) ?_ ?_ 0 (by omega)
  ·
    refine z_iload_n X dX4_workingOf_4 rfl rfl ?_
    refine z_bipush (v := nI 8) X dX4_workingOf_5 (by decide) ?_
    refine n_icmp_ge (tgt := 131) X dX4_workingOf_7 (by decide) (by omega) (by omega) (fun _ => ?_) (fun c7 => absurd c7 (by decide))
    refine z_iload_n X dX4_workingOf_131 rfl rfl ?_
    refine z_iret X Z rfl dX4_workingOf_132 ?_
    exact ⟨(), rfl, fun _ _ => trivial⟩
  ·
    intro r hr ihr
    refine z_iload_n X dX4_workingOf_4 rfl rfl ?_
    refine z_bipush (v := nI 8) X dX4_workingOf_5 (by decide) ?_
    refine n_icmp_ge (tgt := 131) X dX4_workingOf_7 (by decide) (by omega) (by omega) (fun c7 => absurd c7 (by omega)) (fun _ => ?_)
    refine z_iconst (v := nI 0) X dX4_workingOf_10 (by decide) ?_
    refine z_istore X dX4_workingOf_11 (Nat.le_of_ble_eq_true rfl) ?_
    refine z_lv (lv' := [some (.ref (b 0)), some (.int (nI s)), some (.int (nI (wkN S (S 15) s (8 * (r))))), some (.int (nI r)), some (.int (nI 0)), none]) rfl ?_
    refine Wz.less (lv' := [some (.ref (b 0)), some (.int (nI s)), some (.int (nI (wkN S (S 15) s (8 * r + (0))))), some (.int (nI r)), some (.int (nI 0)), none]) (by simp [zle] <;> rfl) ?_
    refine zl_up 8 (fun j => Wz E 0 0 13 [some (.ref (b 0)), some (.int (nI s)), some (.int (nI (wkN S (S 15) s (8 * r + (j))))), some (.int (nI r)), some (.int (nI j)), none] [] (wM t b S)) ?_ ?_ 0 (by omega)
    ·
      refine z_iload X dX4_workingOf_13 rfl ?_
      refine z_bipush (v := nI 8) X dX4_workingOf_15 (by decide) ?_
      refine n_icmp_ge (tgt := 125) X dX4_workingOf_17 (by decide) (by omega) (by omega) (fun _ => ?_) (fun c17 => absurd c17 (by decide))
      refine z_iinc (v := nI (r + 1)) X dX4_workingOf_125 rfl (nI_add r 1) ?_
      refine z_lv (lv' := [some (.ref (b 0)), some (.int (nI s)), some (.int (nI (wkN S (S 15) s (8 * r + (8))))), some (.int (nI (r + 1))), some (.int (nI 8)), none]) rfl ?_
      refine z_goto (tgt := 4) X dX4_workingOf_128 (by decide) ?_
      refine Wz.less (lv' := [some (.ref (b 0)), some (.int (nI s)), some (.int (nI (wkN S (S 15) s (8 * (r + 1))))), some (.int (nI (r + 1))), none, none]) (by simp [zle] <;> rfl) ?_
      exact ihr
    ·
      intro j hj ihj
      refine z_iload X dX4_workingOf_13 rfl ?_
      refine z_bipush (v := nI 8) X dX4_workingOf_15 (by decide) ?_
      refine n_icmp_ge (tgt := 125) X dX4_workingOf_17 (by decide) (by omega) (by omega) (fun c17 => absurd c17 (by omega)) (fun _ => ?_)
      have hw := wkN_lt (S := S) (f := S 15) (s := s) (8 * r + j)
      have jq1 : ∀ (q1 : Int32), bz q1 (wk0 S (S 15) s j) → Wz E 0 0 76 [some (.ref (b 0)), some (.int (nI s)), some (.int (nI (wkN S (S 15) s (8 * r + (j))))), some (.int (nI r)), some (.int (nI j)), none] [.int q1] (wM t b S) := by
        intro q1 hjq1
        refine z_istore X dX4_workingOf_76 (Nat.le_of_ble_eq_true rfl) ?_
        refine z_lv (lv' := [some (.ref (b 0)), some (.int (nI s)), some (.int (nI (wkN S (S 15) s (8 * r + (j))))), some (.int (nI r)), some (.int (nI j)), some (.int q1)]) rfl ?_
        rcases hjq1 with ⟨rfl, hjq1⟩ | ⟨rfl, hjq1⟩
        ·
          refine z_iload_n X dX4_workingOf_78 rfl rfl ?_
          refine z_iload X dX4_workingOf_79 rfl ?_
          refine n_if_eq (tgt := 116) X dX4_workingOf_81 (by decide) (by omega) (fun c81 => absurd c81 (by decide)) (fun _ => ?_)
          rcases hI.2.2.1 j hj with h0 | ⟨k, hk, h0⟩
          ·
            refine z_aload_n X dX4_workingOf_84 rfl rfl ?_
            refine z_get X (C := RX4) (T := TX4) (N := 21) (ci := 4) (v := .ref (b 8)) inZ4 0 9 rfl rfl (by decide) q_fl_X4_31 rfl rfl dX4_workingOf_85 ?_
            refine z_iload X dX4_workingOf_88 rfl ?_
            refine n_iald (f := S 4) X 8 rfl (by omega) (by decide) dX4_workingOf_90 ?_
            refine z_top (y := (-1)) (h0) ?_
            refine z_iconst (v := (-1)) X dX4_workingOf_91 (by decide) ?_
            refine z_icmp_eq (tgt := 109) X dX4_workingOf_92 (by decide) (fun _ => ?_) (fun c92 => absurd c92 (by decide))
            refine z_iconst (v := nI 1) X dX4_workingOf_109 (by decide) ?_
            refine z_iload X dX4_workingOf_110 rfl ?_
            refine n_ishl1 X dX4_workingOf_112 (by omega) ?_
            refine z_goto (tgt := 117) X dX4_workingOf_113 (by decide) ?_
            refine n_ior X dX4_workingOf_117 ?_
            refine z_istore_n X dX4_workingOf_118 rfl (Nat.le_of_ble_eq_true rfl) ?_
            refine z_lv (lv' := [some (.ref (b 0)), some (.int (nI s)), some (.int (nI ((wkN S (S 15) s (8 * r + (j))) ||| (2 ^ j)))), some (.int (nI r)), some (.int (nI j)), some (.int (nI 1))]) rfl ?_
            refine z_iinc (v := nI (j + 1)) X dX4_workingOf_119 rfl (nI_add j 1) ?_
            refine z_lv (lv' := [some (.ref (b 0)), some (.int (nI s)), some (.int (nI ((wkN S (S 15) s (8 * r + (j))) ||| (2 ^ j)))), some (.int (nI r)), some (.int (nI (j + 1))), some (.int (nI 1))]) rfl ?_
            refine z_goto (tgt := 13) X dX4_workingOf_122 (by decide) ?_
            have e9 : wkN S (S 15) s (8 * r + (j + 1)) = (wkN S (S 15) s (8 * r + (j))) ||| (2 ^ j) := by
              first
                | exact wk_t hj ⟨hjq1.1, hjq1.2.1, hjq1.2.2, Or.inl h0⟩
                | exact wk_t hj ⟨hjq1.1, hjq1.2.1, hjq1.2.2, (pO_k h0 (by omega)).mpr h103⟩
                | exact (wk_f hj (fun h => hjq1 ⟨h.1, h.2.1, h.2.2.1⟩)).trans (Nat.or_zero _).symm
                | exact (wk_f hj (fun h => h103 ((pO_k h0 (by omega)).mp h.2.2.2))).trans (Nat.or_zero _).symm
            rw [← e9]
            refine Wz.less (lv' := [some (.ref (b 0)), some (.int (nI s)), some (.int (nI (wkN S (S 15) s (8 * r + (j + 1))))), some (.int (nI r)), some (.int (nI (j + 1))), none]) (by simp [zle] <;> rfl) ?_
            exact ihj
          ·
            refine z_aload_n X dX4_workingOf_84 rfl rfl ?_
            refine z_get X (C := RX4) (T := TX4) (N := 21) (ci := 4) (v := .ref (b 8)) inZ4 0 9 rfl rfl (by decide) q_fl_X4_31 rfl rfl dX4_workingOf_85 ?_
            refine z_iload X dX4_workingOf_88 rfl ?_
            refine n_iald (f := S 4) X 8 rfl (by omega) (by decide) dX4_workingOf_90 ?_
            refine z_top (y := nI k) (h0) ?_
            refine z_iconst (v := (-1)) X dX4_workingOf_91 (by decide) ?_
            refine z_icmp_eq (tgt := 109) X dX4_workingOf_92 (by decide) (fun c92 => absurd c92 (zn_m1 k (by omega))) (fun c92 => ?_)
            refine z_iload_n X dX4_workingOf_95 rfl rfl ?_
            refine z_aload_n X dX4_workingOf_96 rfl rfl ?_
            refine z_get X (C := RX4) (T := TX4) (N := 21) (ci := 4) (v := .ref (b 8)) inZ4 0 9 rfl rfl (by decide) q_fl_X4_31 rfl rfl dX4_workingOf_97 ?_
            refine z_iload X dX4_workingOf_100 rfl ?_
            refine n_iald (f := S 4) X 8 rfl (by omega) (by decide) dX4_workingOf_102 ?_
            refine z_top (y := nI k) (h0) ?_
            refine z_callS1 (k := 0) (n := 0) (st := [.int (nI (wkN S (S 15) s (8 * r + (j))))]) X (c_X4_has l D t (wkN S (S 15) s (8 * r + (j))) k (by omega) (by omega)) k_X4_has q_ml_X4_107 [] ⟨by decide, rfl⟩ (by decide) rfl rfl rfl (Nat.le_of_ble_eq_true rfl) ⟨Nat.zero_le _, Nat.zero_le _⟩ dX4_workingOf_103 (fun r103 h103 => ?_)
            rcases h103 with ⟨rfl, h103⟩ | ⟨rfl, h103⟩
            ·
              refine n_if_eq (tgt := 116) X dX4_workingOf_106 (by decide) (by omega) (fun c106 => absurd c106 (by decide)) (fun _ => ?_)
              refine z_iconst (v := nI 1) X dX4_workingOf_109 (by decide) ?_
              refine z_iload X dX4_workingOf_110 rfl ?_
              refine n_ishl1 X dX4_workingOf_112 (by omega) ?_
              refine z_goto (tgt := 117) X dX4_workingOf_113 (by decide) ?_
              refine n_ior X dX4_workingOf_117 ?_
              refine z_istore_n X dX4_workingOf_118 rfl (Nat.le_of_ble_eq_true rfl) ?_
              refine z_lv (lv' := [some (.ref (b 0)), some (.int (nI s)), some (.int (nI ((wkN S (S 15) s (8 * r + (j))) ||| (2 ^ j)))), some (.int (nI r)), some (.int (nI j)), some (.int (nI 1))]) rfl ?_
              refine z_iinc (v := nI (j + 1)) X dX4_workingOf_119 rfl (nI_add j 1) ?_
              refine z_lv (lv' := [some (.ref (b 0)), some (.int (nI s)), some (.int (nI ((wkN S (S 15) s (8 * r + (j))) ||| (2 ^ j)))), some (.int (nI r)), some (.int (nI (j + 1))), some (.int (nI 1))]) rfl ?_
              refine z_goto (tgt := 13) X dX4_workingOf_122 (by decide) ?_
              have e9 : wkN S (S 15) s (8 * r + (j + 1)) = (wkN S (S 15) s (8 * r + (j))) ||| (2 ^ j) := by
                first
                  | exact wk_t hj ⟨hjq1.1, hjq1.2.1, hjq1.2.2, Or.inl h0⟩
                  | exact wk_t hj ⟨hjq1.1, hjq1.2.1, hjq1.2.2, (pO_k h0 (by omega)).mpr h103⟩
                  | exact (wk_f hj (fun h => hjq1 ⟨h.1, h.2.1, h.2.2.1⟩)).trans (Nat.or_zero _).symm
                  | exact (wk_f hj (fun h => h103 ((pO_k h0 (by omega)).mp h.2.2.2))).trans (Nat.or_zero _).symm
              rw [← e9]
              refine Wz.less (lv' := [some (.ref (b 0)), some (.int (nI s)), some (.int (nI (wkN S (S 15) s (8 * r + (j + 1))))), some (.int (nI r)), some (.int (nI (j + 1))), none]) (by simp [zle] <;> rfl) ?_
              exact ihj
            ·
              refine n_if_eq (tgt := 116) X dX4_workingOf_106 (by decide) (by omega) (fun _ => ?_) (fun c106 => absurd c106 (by decide))
              refine z_iconst (v := nI 0) X dX4_workingOf_116 (by decide) ?_
              refine n_ior X dX4_workingOf_117 ?_
              refine z_istore_n X dX4_workingOf_118 rfl (Nat.le_of_ble_eq_true rfl) ?_
              refine z_lv (lv' := [some (.ref (b 0)), some (.int (nI s)), some (.int (nI ((wkN S (S 15) s (8 * r + (j))) ||| 0))), some (.int (nI r)), some (.int (nI j)), some (.int (nI 1))]) rfl ?_
              refine z_iinc (v := nI (j + 1)) X dX4_workingOf_119 rfl (nI_add j 1) ?_
              refine z_lv (lv' := [some (.ref (b 0)), some (.int (nI s)), some (.int (nI ((wkN S (S 15) s (8 * r + (j))) ||| 0))), some (.int (nI r)), some (.int (nI (j + 1))), some (.int (nI 1))]) rfl ?_
              refine z_goto (tgt := 13) X dX4_workingOf_122 (by decide) ?_
              have e9 : wkN S (S 15) s (8 * r + (j + 1)) = (wkN S (S 15) s (8 * r + (j))) ||| 0 := by
                first
                  | exact wk_t hj ⟨hjq1.1, hjq1.2.1, hjq1.2.2, Or.inl h0⟩
                  | exact wk_t hj ⟨hjq1.1, hjq1.2.1, hjq1.2.2, (pO_k h0 (by omega)).mpr h103⟩
                  | exact (wk_f hj (fun h => hjq1 ⟨h.1, h.2.1, h.2.2.1⟩)).trans (Nat.or_zero _).symm
                  | exact (wk_f hj (fun h => h103 ((pO_k h0 (by omega)).mp h.2.2.2))).trans (Nat.or_zero _).symm
              rw [← e9]
              refine Wz.less (lv' := [some (.ref (b 0)), some (.int (nI s)), some (.int (nI (wkN S (S 15) s (8 * r + (j + 1))))), some (.int (nI r)), some (.int (nI (j + 1))), none]) (by simp [zle] <;> rfl) ?_
              exact ihj
        ·
          refine z_iload_n X dX4_workingOf_78 rfl rfl ?_
          refine z_iload X dX4_workingOf_79 rfl ?_
          refine n_if_eq (tgt := 116) X dX4_workingOf_81 (by decide) (by omega) (fun _ => ?_) (fun c81 => absurd c81 (by decide))
          refine z_iconst (v := nI 0) X dX4_workingOf_116 (by decide) ?_
          refine n_ior X dX4_workingOf_117 ?_
          refine z_istore_n X dX4_workingOf_118 rfl (Nat.le_of_ble_eq_true rfl) ?_
          refine z_lv (lv' := [some (.ref (b 0)), some (.int (nI s)), some (.int (nI ((wkN S (S 15) s (8 * r + (j))) ||| 0))), some (.int (nI r)), some (.int (nI j)), some (.int (nI 0))]) rfl ?_
          refine z_iinc (v := nI (j + 1)) X dX4_workingOf_119 rfl (nI_add j 1) ?_
          refine z_lv (lv' := [some (.ref (b 0)), some (.int (nI s)), some (.int (nI ((wkN S (S 15) s (8 * r + (j))) ||| 0))), some (.int (nI r)), some (.int (nI (j + 1))), some (.int (nI 0))]) rfl ?_
          refine z_goto (tgt := 13) X dX4_workingOf_122 (by decide) ?_
          have e9 : wkN S (S 15) s (8 * r + (j + 1)) = (wkN S (S 15) s (8 * r + (j))) ||| 0 := by
            first
              | exact wk_t hj ⟨hjq1.1, hjq1.2.1, hjq1.2.2, Or.inl h0⟩
              | exact wk_t hj ⟨hjq1.1, hjq1.2.1, hjq1.2.2, (pO_k h0 (by omega)).mpr h103⟩
              | exact (wk_f hj (fun h => hjq1 ⟨h.1, h.2.1, h.2.2.1⟩)).trans (Nat.or_zero _).symm
              | exact (wk_f hj (fun h => h103 ((pO_k h0 (by omega)).mp h.2.2.2))).trans (Nat.or_zero _).symm
          rw [← e9]
          refine Wz.less (lv' := [some (.ref (b 0)), some (.int (nI s)), some (.int (nI (wkN S (S 15) s (8 * r + (j + 1))))), some (.int (nI r)), some (.int (nI (j + 1))), none]) (by simp [zle] <;> rfl) ?_
          exact ihj
      refine z_iload_n X dX4_workingOf_20 rfl rfl ?_
      refine z_iload X dX4_workingOf_21 rfl ?_
      refine z_callS1 (k := 0) (n := 0) (st := []) X (c_X4_has l D t s j (by omega) (by omega)) k_X4_has q_ml_X4_107 [] ⟨by decide, rfl⟩ (by decide) rfl rfl rfl (Nat.le_of_ble_eq_true rfl) ⟨Nat.zero_le _, Nat.zero_le _⟩ dX4_workingOf_23 (fun r23 h23 => ?_)
      rcases h23 with ⟨rfl, h23⟩ | ⟨rfl, h23⟩
      ·
        refine n_if_eq (tgt := 75) X dX4_workingOf_26 (by decide) (by omega) (fun c26 => absurd c26 (by decide)) (fun _ => ?_)
        refine z_aload_n X dX4_workingOf_29 rfl rfl ?_
        refine z_iload X dX4_workingOf_30 rfl ?_
        refine z_callV1 (k := 0) (n := 0) (st := []) X (c_X4_areScores l D t b S j (by omega) hI) k_X4_areScores q_ml_X4_104 is19 ⟨by decide, rfl⟩ 0 4 rfl rfl (by decide) rfl rfl rfl (Nat.le_of_ble_eq_true rfl) ⟨Nat.zero_le _, Nat.zero_le _⟩ dX4_workingOf_32 (fun r32 h32 => ?_)
        rcases h32 with ⟨rfl, h32⟩ | ⟨rfl, h32⟩
        ·
          refine n_if_eq (tgt := 75) X dX4_workingOf_35 (by decide) (by omega) (fun c35 => absurd c35 (by decide)) (fun _ => ?_)
          rcases hI.2.1 j hj with h1 | ⟨k1, hk1, h1⟩
          ·
            refine z_aload_n X dX4_workingOf_38 rfl rfl ?_
            refine z_get X (C := RX4) (T := TX4) (N := 21) (ci := 4) (v := .ref (b 6)) inZ4 0 7 rfl rfl (by decide) q_fl_X4_25 rfl rfl dX4_workingOf_39 ?_
            refine z_iload X dX4_workingOf_42 rfl ?_
            refine n_iald (f := S 2) X 6 rfl (by omega) (by decide) dX4_workingOf_44 ?_
            refine z_top (y := (-1)) (h1) ?_
            refine z_iconst (v := (-1)) X dX4_workingOf_45 (by decide) ?_
            refine z_icmp_eq (tgt := 71) X dX4_workingOf_46 (by decide) (fun _ => ?_) (fun c46 => absurd c46 (by decide))
            refine z_iconst (v := nI 1) X dX4_workingOf_71 (by decide) ?_
            refine z_goto (tgt := 76) X dX4_workingOf_72 (by decide) ?_
            exact jq1 (nI 1) (by
                      first
                        | exact bz_t (⟨h23, h32, Or.inl h1⟩)
                        | exact bz_t (⟨h23, h32, (pL_k h1 (by omega)).mpr (i_le c68)⟩)
                        | exact bz_f (fun q => h23 q.1)
                        | exact bz_f (fun q => h32 q.2.1)
                        | exact bz_f (fun q => i_nle c68 ((pL_k h1 (by omega)).mp q.2.2)))
          ·
            refine z_aload_n X dX4_workingOf_38 rfl rfl ?_
            refine z_get X (C := RX4) (T := TX4) (N := 21) (ci := 4) (v := .ref (b 6)) inZ4 0 7 rfl rfl (by decide) q_fl_X4_25 rfl rfl dX4_workingOf_39 ?_
            refine z_iload X dX4_workingOf_42 rfl ?_
            refine n_iald (f := S 2) X 6 rfl (by omega) (by decide) dX4_workingOf_44 ?_
            refine z_top (y := nI k1) (h1) ?_
            refine z_iconst (v := (-1)) X dX4_workingOf_45 (by decide) ?_
            refine z_icmp_eq (tgt := 71) X dX4_workingOf_46 (by decide) (fun c46 => absurd c46 (zn_m1 k1 (by omega))) (fun c46 => ?_)
            refine z_aload_n X dX4_workingOf_49 rfl rfl ?_
            refine z_get X (C := RX4) (T := TX4) (N := 21) (ci := 4) (v := .ref (b 3)) inZ4 0 2 rfl rfl (by decide) q_fl_X4_16 rfl rfl dX4_workingOf_50 ?_
            refine z_aload_n X dX4_workingOf_53 rfl rfl ?_
            refine z_get X (C := RX4) (T := TX4) (N := 21) (ci := 4) (v := .ref (b 6)) inZ4 0 7 rfl rfl (by decide) q_fl_X4_25 rfl rfl dX4_workingOf_54 ?_
            refine z_iload X dX4_workingOf_57 rfl ?_
            refine n_iald (f := S 2) X 6 rfl (by omega) (by decide) dX4_workingOf_59 ?_
            refine z_top (y := nI k1) (h1) ?_
            refine n_iald (f := S 15) X 3 rfl (by omega) (by decide) dX4_workingOf_60 ?_
            refine z_aload_n X dX4_workingOf_61 rfl rfl ?_
            refine z_get X (C := RX4) (T := TX4) (N := 21) (ci := 4) (v := .ref (b 7)) inZ4 0 8 rfl rfl (by decide) q_fl_X4_28 rfl rfl dX4_workingOf_62 ?_
            refine z_iload X dX4_workingOf_65 rfl ?_
            refine n_iald (f := S 3) X 7 rfl (by omega) (by decide) dX4_workingOf_67 ?_
            refine z_icmp_lt (tgt := 75) X dX4_workingOf_68 (by decide) (fun c68 => ?_) (fun c68 => ?_)
            ·
              refine z_iconst (v := nI 0) X dX4_workingOf_75 (by decide) ?_
              exact jq1 (nI 0) (by
                      first
                        | exact bz_t (⟨h23, h32, Or.inl h1⟩)
                        | exact bz_t (⟨h23, h32, (pL_k h1 (by omega)).mpr (i_le c68)⟩)
                        | exact bz_f (fun q => h23 q.1)
                        | exact bz_f (fun q => h32 q.2.1)
                        | exact bz_f (fun q => i_nle c68 ((pL_k h1 (by omega)).mp q.2.2)))
            ·
              refine z_iconst (v := nI 1) X dX4_workingOf_71 (by decide) ?_
              refine z_goto (tgt := 76) X dX4_workingOf_72 (by decide) ?_
              exact jq1 (nI 1) (by
                      first
                        | exact bz_t (⟨h23, h32, Or.inl h1⟩)
                        | exact bz_t (⟨h23, h32, (pL_k h1 (by omega)).mpr (i_le c68)⟩)
                        | exact bz_f (fun q => h23 q.1)
                        | exact bz_f (fun q => h32 q.2.1)
                        | exact bz_f (fun q => i_nle c68 ((pL_k h1 (by omega)).mp q.2.2)))
        ·
          refine n_if_eq (tgt := 75) X dX4_workingOf_35 (by decide) (by omega) (fun _ => ?_) (fun c35 => absurd c35 (by decide))
          refine z_iconst (v := nI 0) X dX4_workingOf_75 (by decide) ?_
          exact jq1 (nI 0) (by
                      first
                        | exact bz_t (⟨h23, h32, Or.inl h1⟩)
                        | exact bz_t (⟨h23, h32, (pL_k h1 (by omega)).mpr (i_le c68)⟩)
                        | exact bz_f (fun q => h23 q.1)
                        | exact bz_f (fun q => h32 q.2.1)
                        | exact bz_f (fun q => i_nle c68 ((pL_k h1 (by omega)).mp q.2.2)))
      ·
        refine n_if_eq (tgt := 75) X dX4_workingOf_26 (by decide) (by omega) (fun _ => ?_) (fun c26 => absurd c26 (by decide))
        refine z_iconst (v := nI 0) X dX4_workingOf_75 (by decide) ?_
        exact jq1 (nI 0) (by
                      first
                        | exact bz_t (⟨h23, h32, Or.inl h1⟩)
                        | exact bz_t (⟨h23, h32, (pL_k h1 (by omega)).mpr (i_le c68)⟩)
                        | exact bz_f (fun q => h23 q.1)
                        | exact bz_f (fun q => h32 q.2.1)
                        | exact bz_f (fun q => i_nle c68 ((pL_k h1 (by omega)).mp q.2.2)))
set_option maxHeartbeats 4000000 in
set_option maxRecDepth 100000 in
theorem c_X4_working (l : Launch) (D : va_G) (t : ClassId × ClassId × ClassId) (b : Nat → Nat) (S : zS) (G : Nat) (h18 : S 18 0 = nI G) (hG : G < 256) (hI : zI S) : zM2 l yX4_working cX4_working 1 (some .int) 4 D t [.ref (b 0)] (wM t b S) (fun r (_ : Unit) => r = nI (wk S (S 15) G)) (fun _ => wM t b (va_up S 23 (fun _ => nI 0))) := by
  refine z_m2 (by decide +kernel) (Nat.le_of_ble_eq_true rfl) (by simp [Value.category]) ?_
  intro E X Z Y
  refine z_lv (lv' := [some (.ref (b 0))]) rfl ?_
  refine z_aload_n X dX4_working_0 rfl rfl ?_
  refine z_aload_n X dX4_working_1 rfl rfl ?_
  refine z_aload_n X dX4_working_2 rfl rfl ?_
  refine z_get X (C := RX4) (T := TX4) (N := 21) (ci := 4) (v := .int (S 18 0)) inZ4 0 4 rfl rfl (by decide) q_fl_X4_111 rfl rfl dX4_working_3 ?_
  refine z_top (y := nI G) (h18) ?_
  refine z_callV1 (k := 0) (n := 0) (st := [.ref (b 0)]) X (c_X4_workingOf l D t b S G (by omega) hI) k_X4_workingOf q_ml_X4_124 is19 ⟨by decide, rfl⟩ 0 4 rfl rfl (by decide) rfl rfl rfl (Nat.le_of_ble_eq_true rfl) ⟨Nat.zero_le _, Nat.zero_le _⟩ dX4_working_6 (fun r6 h6 => ?_)
  subst h6
  refine z_callV2 (k := 0) (n := 0) (st := []) X Y aM_eq (c_X4_told l D t b S (nI (wk S (S 15) G))) k_X4_told q_ml_X4_127 is19 (fun u => wM t b (va_up S 23 (fun _ => nI 0))) (fun u => swM) ppM 0 4 rfl rfl (by decide) rfl rfl rfl (Nat.le_of_ble_eq_true rfl) ⟨Nat.zero_le _, Nat.zero_le _⟩ dX4_working_9 (fun r9 u9 h9 => ?_)
  subst h9
  refine z_iret X Z rfl dX4_working_12 ?_
  exact ⟨(), rfl, fun q hq => hq⟩
