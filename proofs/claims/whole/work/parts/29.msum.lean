/-! a value's sum, and the attack, as the reference finds them -/
theorem vl_step {S : zS} {f : Nat → Int32} {w i k : Nat} {v : Int32} (hi : i < 6) (h : ch S v i = nI k) (hk : k < 2 ^ 31) : al S f w k + hlf (vl S f w (5 - i) (ch S v (i + 1))) = vl S f w (6 - i) (ch S v i) := by
  rw [ch_s h hk, h, show 6 - i = (5 - i) + 1 by omega]
  exact al_vl hk
theorem ch_up {S : zS} {v : Int32} {i j : Nat} (h : ch S v i = -1) (hj : i ≤ j) : ch S v j = -1 := by
  have q := ch_m h (j - i)
  rw [show i + (j - i) = j by omega] at q
  exact q
/-- the sum so far, with far links to look at still -/
noncomputable def vf (S : zS) (f : Nat → Int32) (w : Nat) (v : Int32) (i : Nat) : Int32 := if 7 ≤ i then nI 0 else vl S f w (6 - i) (ch S v i)
theorem vf_7 {S : zS} {f : Nat → Int32} {w : Nat} {v : Int32} : vf S f w v 7 = nI 0 := if_pos (Nat.le_refl 7)
theorem vf_e {S : zS} {f : Nat → Int32} {w i : Nat} {v : Int32} (hi : i ≤ 6) (h : ch S v i = -1) : vf S f w v i = nI 0 := by
  unfold vf; rw [if_neg (by omega), h, vl_m1]
theorem vf_k {S : zS} {f : Nat → Int32} {w i k : Nat} {v : Int32} (h6 : ch S v 6 = -1) (hi : i ≤ 6) (hk : k < 2 ^ 31) (h : ch S v i = nI k) : vf S f w v i = al S f w k + hlf (vf S f w v (i + 1)) := by
  have hi6 : i < 6 := by
    rcases Nat.lt_or_eq_of_le hi with q | rfl
    · exact q
    · rw [h6] at h; exact absurd h.symm (zn_m1 k hk)
  unfold vf
  rw [if_neg (by omega), if_neg (by omega), ← vl_step hi6 h hk, show 6 - (i + 1) = 5 - i by omega]
set_option maxHeartbeats 600000 in
set_option maxRecDepth 100000 in
theorem c_X4_value (l : Launch) (D : va_G) (t : ClassId × ClassId × ClassId) (b : Nat → Nat) (S : zS) (G : Nat) (h18 : S 18 0 = nI G) (hG : G < 256) (hI : zI S) (v : Int32) : zM2 l yX4_value cX4_value 7 (some .int) 8 D t [.ref (b 0), .int v] (wM t b S) (fun r (u : zS) => (∃ k, k < 6 ∧ v = nI k ∧ ch S (nI k) 6 = -1 ∧ r = vl S (S 15) (wk S (S 15) G) 6 (nI k) ∧ u = va_up S 23 (fun _ => nI 0)) ∨ (¬ am v 6 ∧ u = va_up S 23 (fun _ => nI 1)) ∨ ((∃ k, k < 6 ∧ v = nI k ∧ ¬ ch S (nI k) 6 = -1) ∧ u = va_up S 23 (fun _ => nI 2))) (fun u => wM t b u) := by
  refine z_m2 (by decide +kernel) (Nat.le_of_ble_eq_true rfl) (by simp [Value.category]) ?_
  intro E X Z Y
  refine z_lv (lv' := [some (.ref (b 0)), some (.int v), none, none, none, none, none]) rfl ?_
  refine z_iload_n X dX4_value_0 rfl rfl ?_
  refine z_callS1 (k := 0) (n := 0) (st := []) X (c_X4_isValue l D t v) k_X4_isValue q_ml_X4_81 [] ⟨by decide, rfl⟩ (by decide) rfl rfl rfl (Nat.le_of_ble_eq_true rfl) ⟨Nat.zero_le _, Nat.zero_le _⟩ dX4_value_1 (fun r1 h1 => ?_)
  rcases h1 with ⟨rfl, kv, hkv, rfl⟩ | ⟨rfl, h1⟩
  ·
    refine z_istore_n X dX4_value_4 rfl (Nat.le_of_ble_eq_true rfl) ?_
    refine z_lv (lv' := [some (.ref (b 0)), some (.int (nI kv)), some (.int (nI 1)), none, none, none, none]) rfl ?_
    refine z_aload_n X dX4_value_5 rfl rfl ?_
    refine z_iload_n X dX4_value_6 rfl rfl ?_
    refine z_iload_n X dX4_value_7 rfl rfl ?_
    refine n_if_eq (tgt := 23) X dX4_value_8 (by decide) (by omega) (fun c8 => absurd c8 (by decide)) (fun _ => ?_)
    refine z_aload_n X dX4_value_11 rfl rfl ?_
    refine z_iload_n X dX4_value_12 rfl rfl ?_
    refine z_callV1 (k := 0) (n := 0) (st := [.int (nI 1), .ref (b 0)]) X (c_X4_isEndless l D t b S hI kv (by omega)) k_X4_isEndless q_ml_X4_134 is19 ⟨by decide, rfl⟩ 0 4 rfl rfl (by decide) rfl rfl rfl (Nat.le_of_ble_eq_true rfl) ⟨Nat.zero_le _, Nat.zero_le _⟩ dX4_value_13 (fun r13 h13 => ?_)
    rcases h13 with ⟨rfl, h13⟩ | ⟨rfl, h13⟩
    ·
      refine n_if_ne (tgt := 23) X dX4_value_16 (by decide) (by omega) (fun _ => ?_) (fun c16 => absurd c16 (by decide))
      refine z_iconst (v := nI 0) X dX4_value_23 (by decide) ?_
      refine z_iconst (v := nI 1) X dX4_value_24 (by decide) ?_
      refine z_callV2 (k := 0) (n := 0) (st := []) X Y aM_eq (c_X4_goes l D t b S (nI 1) (nI 0) (nI 1) True False True (bz_t trivial) (bz_f id) (bz_t trivial)) k_X4_goes q_ml_X4_77 is19 (fun u => wM t b (va_up S 23 (fun _ => nI u))) (fun u => swM) ppM 0 4 rfl rfl (by decide) rfl rfl rfl (Nat.le_of_ble_eq_true rfl) ⟨Nat.zero_le _, Nat.zero_le _⟩ dX4_value_25 (fun r25 u25 h25 => ?_)
      rcases h25 with ⟨rfl, rfl, g1, g2, g3⟩ | ⟨rfl, rfl, g1⟩ | ⟨rfl, rfl, g1, g2⟩ | ⟨rfl, rfl, g1, g2, g3⟩
      ·
        exact g2.elim
      ·
        exact absurd trivial g1
      ·
        refine n_if_ne (tgt := 33) X dX4_value_28 (by decide) (by omega) (fun c28 => absurd c28 (by decide)) (fun _ => ?_)
        refine z_iconst (v := nI 0) X dX4_value_31 (by decide) ?_
        refine z_iret X Z rfl dX4_value_32 ?_
        exact ⟨(va_up S 23 (fun _ => nI 2)), Or.inr (Or.inr ⟨⟨kv, hkv, rfl, h13⟩, rfl⟩), fun q hq => hq⟩
      ·
        exact absurd trivial g3
    ·
      refine n_if_ne (tgt := 23) X dX4_value_16 (by decide) (by omega) (fun c16 => absurd c16 (by decide)) (fun _ => ?_)
      refine z_iconst (v := nI 1) X dX4_value_19 (by decide) ?_
      refine z_goto (tgt := 24) X dX4_value_20 (by decide) ?_
      refine z_iconst (v := nI 1) X dX4_value_24 (by decide) ?_
      refine z_callV2 (k := 0) (n := 0) (st := []) X Y aM_eq (c_X4_goes l D t b S (nI 1) (nI 1) (nI 1) True True True (bz_t trivial) (bz_t trivial) (bz_t trivial)) k_X4_goes q_ml_X4_77 is19 (fun u => wM t b (va_up S 23 (fun _ => nI u))) (fun u => swM) ppM 0 4 rfl rfl (by decide) rfl rfl rfl (Nat.le_of_ble_eq_true rfl) ⟨Nat.zero_le _, Nat.zero_le _⟩ dX4_value_25 (fun r25 u25 h25 => ?_)
      rcases h25 with ⟨rfl, rfl, g1, g2, g3⟩ | ⟨rfl, rfl, g1⟩ | ⟨rfl, rfl, g1, g2⟩ | ⟨rfl, rfl, g1, g2, g3⟩
      ·
        refine n_if_ne (tgt := 33) X dX4_value_28 (by decide) (by omega) (fun _ => ?_) (fun c28 => absurd c28 (by decide))
        have h13x := Classical.not_not.mp h13
        refine z_iconst (v := nI 0) X dX4_value_33 (by decide) ?_
        refine z_istore_n X dX4_value_34 rfl (Nat.le_of_ble_eq_true rfl) ?_
        refine z_lv (lv' := [some (.ref (b 0)), some (.int (nI kv)), some (.int (nI 1)), some (.int (nI 0)), none, none, none]) rfl ?_
        refine z_bipush (v := nI 6) X dX4_value_35 (by decide) ?_
        refine z_istore X dX4_value_37 (Nat.le_of_ble_eq_true rfl) ?_
        refine z_lv (lv' := [some (.ref (b 0)), some (.int (nI kv)), some (.int (nI 1)), some (.int (nI 0)), some (.int (nI 6)), none, none]) rfl ?_
        have h6 : ch S (nI kv) 6 = -1 := h13x
        refine z_lv (lv' := [some (.ref (b 0)), some (.int (nI kv)), some (.int (nI 1)), some (.int (vf S (S 15) (wk S (S 15) G) (nI kv) 7)), some (.int (nI 6)), none, none]) (by rw [vf_7]) ?_
        refine zl_dn (fun i => (i ≤ 7) → Wz E 0 0 39 [some (.ref (b 0)), some (.int (nI kv)), some (.int (nI 1)), some (.int (vf S (S 15) (wk S (S 15) G) (nI kv) i)), some (.int (sv i)), none, none] [] (wM t b (va_up S 23 (fun _ => nI 0)))) ?_ ?_ 7 (Nat.le_refl 7)
        ·
          intro hv
          refine z_lv (lv' := [some (.ref (b 0)), some (.int (nI kv)), some (.int (nI 1)), some (.int (vf S (S 15) (wk S (S 15) G) (nI kv) 0)), some (.int (-1)), none, none]) rfl ?_
          refine z_iload X dX4_value_39 rfl ?_
          refine z_if_lt (tgt := 106) X dX4_value_41 (by decide) (fun _ => ?_) (fun c41 => absurd c41 (by decide))
          refine z_iload_n X dX4_value_106 rfl rfl ?_
          refine z_iret X Z rfl dX4_value_107 ?_
          exact ⟨(va_up S 23 (fun _ => nI 0)), Or.inl ⟨kv, hkv, rfl, h13x, rfl, rfl⟩, fun q hq => hq⟩
        ·
          intro i ihi hv
          refine z_lv (lv' := [some (.ref (b 0)), some (.int (nI kv)), some (.int (nI 1)), some (.int (vf S (S 15) (wk S (S 15) G) (nI kv) (i + 1))), some (.int (nI i)), none, none]) rfl ?_
          refine z_iload X dX4_value_39 rfl ?_
          refine n_if_lt (tgt := 106) X dX4_value_41 (by decide) (by omega) ?_
          refine z_iload_n X dX4_value_44 rfl rfl ?_
          refine z_istore X dX4_value_45 (Nat.le_of_ble_eq_true rfl) ?_
          refine z_lv (lv' := [some (.ref (b 0)), some (.int (nI kv)), some (.int (nI 1)), some (.int (vf S (S 15) (wk S (S 15) G) (nI kv) (i + 1))), some (.int (nI i)), some (.int (nI kv)), none]) rfl ?_
          refine z_iconst (v := nI 0) X dX4_value_47 (by decide) ?_
          refine z_istore X dX4_value_48 (Nat.le_of_ble_eq_true rfl) ?_
          refine z_lv (lv' := [some (.ref (b 0)), some (.int (nI kv)), some (.int (nI 1)), some (.int (vf S (S 15) (wk S (S 15) G) (nI kv) (i + 1))), some (.int (nI i)), some (.int (nI kv)), some (.int (nI 0))]) rfl ?_
          refine z_lv (lv' := [some (.ref (b 0)), some (.int (nI kv)), some (.int (nI 1)), some (.int (vf S (S 15) (wk S (S 15) G) (nI kv) (i + 1))), some (.int (nI i)), some (.int (ch S (nI kv) 0)), some (.int (nI 0))]) rfl ?_
          have jat : ∀ (at9 : Int32), at9 = ch S (nI kv) i → Wz E 0 0 78 [some (.ref (b 0)), some (.int (nI kv)), some (.int (nI 1)), some (.int (vf S (S 15) (wk S (S 15) G) (nI kv) (i + 1))), some (.int (nI i)), some (.int at9), none] [] (wM t b (va_up S 23 (fun _ => nI 0))) := by
            intro at9 hjat
            subst hjat
            rcases ch_zo hI.2.2.2.2.2.2.2 (Or.inr ⟨kv, hkv, rfl⟩) i with h0 | ⟨k, hk, h0⟩
            ·
              rw [h0]
              refine z_iload X dX4_value_78 rfl ?_
              refine z_iconst (v := (-1)) X dX4_value_80 (by decide) ?_
              refine z_icmp_ne (tgt := 88) X dX4_value_81 (by decide) (fun c81 => absurd c81 (by decide)) (fun _ => ?_)
              refine z_iconst (v := nI 0) X dX4_value_84 (by decide) ?_
              refine z_goto (tgt := 99) X dX4_value_85 (by decide) ?_
              refine z_istore_n X dX4_value_99 rfl (Nat.le_of_ble_eq_true rfl) ?_
              refine z_lv (lv' := [some (.ref (b 0)), some (.int (nI kv)), some (.int (nI 1)), some (.int (nI 0)), some (.int (nI i)), some (.int (-1)), none]) rfl ?_
              refine z_iinc (v := sv i) X dX4_value_100 rfl (sv_m i) ?_
              refine z_lv (lv' := [some (.ref (b 0)), some (.int (nI kv)), some (.int (nI 1)), some (.int (nI 0)), some (.int (sv i)), some (.int (-1)), none]) rfl ?_
              refine z_goto (tgt := 39) X dX4_value_103 (by decide) ?_
              have e9 : vf S (S 15) (wk S (S 15) G) (nI kv) i = nI 0 := by first | exact vf_e (by omega) h0 | exact vf_k h6 (by omega) (by omega) h0
              refine Wz.less (lv' := [some (.ref (b 0)), some (.int (nI kv)), some (.int (nI 1)), some (.int (vf S (S 15) (wk S (S 15) G) (nI kv) i)), some (.int (sv i)), none, none]) (by simp [zle, e9]) ?_
              exact ihi (by omega)
            ·
              rw [h0]
              refine z_iload X dX4_value_78 rfl ?_
              refine z_iconst (v := (-1)) X dX4_value_80 (by decide) ?_
              refine z_icmp_ne (tgt := 88) X dX4_value_81 (by decide) (fun c81 => ?_) (fun c81 => absurd c81 (zn_m1 k (by omega)))
              refine z_aload_n X dX4_value_88 rfl rfl ?_
              refine z_iload X dX4_value_89 rfl ?_
              refine z_callV1 (k := 0) (n := 0) (st := []) X (c_X4_alone l D t b (va_up S 23 (fun _ => nI 0)) G h18 hG hI k (by omega)) k_X4_alone q_ml_X4_137 is19 ⟨by decide, rfl⟩ 0 4 rfl rfl (by decide) rfl rfl rfl (Nat.le_of_ble_eq_true rfl) ⟨Nat.zero_le _, Nat.zero_le _⟩ dX4_value_91 (fun r91 h91 => ?_)
              subst h91
              refine z_iload_n X dX4_value_94 rfl rfl ?_
              refine z_callS1 (k := 0) (n := 0) (st := [.int (al S (S 15) (wk S (S 15) G) k)]) X (c_X4_half l D t (vf S (S 15) (wk S (S 15) G) (nI kv) (i + 1))) k_X4_half q_ml_X4_101 [] ⟨by decide, rfl⟩ (by decide) rfl rfl rfl (Nat.le_of_ble_eq_true rfl) ⟨Nat.zero_le _, Nat.zero_le _⟩ dX4_value_95 (fun r95 h95 => ?_)
              subst h95
              refine z_iadd X dX4_value_98 ?_
              refine z_istore_n X dX4_value_99 rfl (Nat.le_of_ble_eq_true rfl) ?_
              refine z_lv (lv' := [some (.ref (b 0)), some (.int (nI kv)), some (.int (nI 1)), some (.int ((al S (S 15) (wk S (S 15) G) k) + (hlf (vf S (S 15) (wk S (S 15) G) (nI kv) (i + 1))))), some (.int (nI i)), some (.int (nI k)), none]) rfl ?_
              refine z_iinc (v := sv i) X dX4_value_100 rfl (sv_m i) ?_
              refine z_lv (lv' := [some (.ref (b 0)), some (.int (nI kv)), some (.int (nI 1)), some (.int ((al S (S 15) (wk S (S 15) G) k) + (hlf (vf S (S 15) (wk S (S 15) G) (nI kv) (i + 1))))), some (.int (sv i)), some (.int (nI k)), none]) rfl ?_
              refine z_goto (tgt := 39) X dX4_value_103 (by decide) ?_
              have e9 : vf S (S 15) (wk S (S 15) G) (nI kv) i = (al S (S 15) (wk S (S 15) G) k) + (hlf (vf S (S 15) (wk S (S 15) G) (nI kv) (i + 1))) := by first | exact vf_e (by omega) h0 | exact vf_k h6 (by omega) (by omega) h0
              refine Wz.less (lv' := [some (.ref (b 0)), some (.int (nI kv)), some (.int (nI 1)), some (.int (vf S (S 15) (wk S (S 15) G) (nI kv) i)), some (.int (sv i)), none, none]) (by simp [zle, e9]) ?_
              exact ihi (by omega)
          refine zl_up i (fun j => Wz E 0 0 50 [some (.ref (b 0)), some (.int (nI kv)), some (.int (nI 1)), some (.int (vf S (S 15) (wk S (S 15) G) (nI kv) (i + 1))), some (.int (nI i)), some (.int (ch S (nI kv) j)), some (.int (nI j))] [] (wM t b (va_up S 23 (fun _ => nI 0)))) ?_ ?_ 0 (by omega)
          ·
            refine z_iload X dX4_value_50 rfl ?_
            refine z_iload X dX4_value_52 rfl ?_
            refine n_icmp_ge (tgt := 78) X dX4_value_54 (by decide) (by omega) (by omega) (fun _ => ?_) (fun c54 => absurd c54 (by omega))
            refine Wz.less (lv' := [some (.ref (b 0)), some (.int (nI kv)), some (.int (nI 1)), some (.int (vf S (S 15) (wk S (S 15) G) (nI kv) (i + 1))), some (.int (nI i)), some (.int (ch S (nI kv) i)), none]) (by simp [zle] <;> rfl) ?_
            exact jat (ch S (nI kv) i) (by first | rfl | exact (ch_up h0 (by omega)).symm)
          ·
            intro j hj ihj
            refine z_iload X dX4_value_50 rfl ?_
            refine z_iload X dX4_value_52 rfl ?_
            refine n_icmp_ge (tgt := 78) X dX4_value_54 (by decide) (by omega) (by omega) (fun c54 => absurd c54 (by omega)) (fun _ => ?_)
            rcases ch_zo hI.2.2.2.2.2.2.2 (Or.inr ⟨kv, hkv, rfl⟩) j with h0 | ⟨k, hk, h0⟩
            ·
              rw [h0]
              refine z_iload X dX4_value_57 rfl ?_
              refine z_iconst (v := (-1)) X dX4_value_59 (by decide) ?_
              refine z_icmp_eq (tgt := 78) X dX4_value_60 (by decide) (fun _ => ?_) (fun c60 => absurd c60 (by decide))
              refine Wz.less (lv' := [some (.ref (b 0)), some (.int (nI kv)), some (.int (nI 1)), some (.int (vf S (S 15) (wk S (S 15) G) (nI kv) (i + 1))), some (.int (nI i)), some (.int (-1)), none]) (by simp [zle] <;> rfl) ?_
              exact jat (-1) (by first | rfl | exact (ch_up h0 (by omega)).symm)
            ·
              rw [h0]
              refine z_iload X dX4_value_57 rfl ?_
              refine z_iconst (v := (-1)) X dX4_value_59 (by decide) ?_
              refine z_icmp_eq (tgt := 78) X dX4_value_60 (by decide) (fun c60 => absurd c60 (zn_m1 k (by omega))) (fun c60 => ?_)
              refine z_aload_n X dX4_value_63 rfl rfl ?_
              refine z_get X (C := RX4) (T := TX4) (N := 21) (ci := 4) (v := .ref (b 17)) inZ4 0 18 rfl rfl (by decide) q_fl_X4_58 rfl rfl dX4_value_64 ?_
              refine z_iload X dX4_value_67 rfl ?_
              refine n_iald (f := S 13) X 17 rfl (by omega) (by decide) dX4_value_69 ?_
              refine z_top (y := ch S (nI kv) (j + 1)) ((ch_s h0 (by omega)).symm) ?_
              refine z_istore X dX4_value_70 (Nat.le_of_ble_eq_true rfl) ?_
              refine z_lv (lv' := [some (.ref (b 0)), some (.int (nI kv)), some (.int (nI 1)), some (.int (vf S (S 15) (wk S (S 15) G) (nI kv) (i + 1))), some (.int (nI i)), some (.int (ch S (nI kv) (j + 1))), some (.int (nI j))]) rfl ?_
              refine z_iinc (v := nI (j + 1)) X dX4_value_72 rfl (nI_add j 1) ?_
              refine z_lv (lv' := [some (.ref (b 0)), some (.int (nI kv)), some (.int (nI 1)), some (.int (vf S (S 15) (wk S (S 15) G) (nI kv) (i + 1))), some (.int (nI i)), some (.int (ch S (nI kv) (j + 1))), some (.int (nI (j + 1)))]) rfl ?_
              refine z_goto (tgt := 50) X dX4_value_75 (by decide) ?_
              exact ihj
      ·
        exact absurd trivial g1
      ·
        exact absurd trivial g2
      ·
        exact absurd trivial g3
  ·
    refine z_istore_n X dX4_value_4 rfl (Nat.le_of_ble_eq_true rfl) ?_
    refine z_lv (lv' := [some (.ref (b 0)), some (.int v), some (.int (nI 0)), none, none, none, none]) rfl ?_
    refine z_aload_n X dX4_value_5 rfl rfl ?_
    refine z_iload_n X dX4_value_6 rfl rfl ?_
    refine z_iload_n X dX4_value_7 rfl rfl ?_
    refine n_if_eq (tgt := 23) X dX4_value_8 (by decide) (by omega) (fun _ => ?_) (fun c8 => absurd c8 (by decide))
    refine z_iconst (v := nI 0) X dX4_value_23 (by decide) ?_
    refine z_iconst (v := nI 1) X dX4_value_24 (by decide) ?_
    refine z_callV2 (k := 0) (n := 0) (st := []) X Y aM_eq (c_X4_goes l D t b S (nI 0) (nI 0) (nI 1) False False True (bz_f id) (bz_f id) (bz_t trivial)) k_X4_goes q_ml_X4_77 is19 (fun u => wM t b (va_up S 23 (fun _ => nI u))) (fun u => swM) ppM 0 4 rfl rfl (by decide) rfl rfl rfl (Nat.le_of_ble_eq_true rfl) ⟨Nat.zero_le _, Nat.zero_le _⟩ dX4_value_25 (fun r25 u25 h25 => ?_)
    rcases h25 with ⟨rfl, rfl, g1, g2, g3⟩ | ⟨rfl, rfl, g1⟩ | ⟨rfl, rfl, g1, g2⟩ | ⟨rfl, rfl, g1, g2, g3⟩
    ·
      exact g2.elim
    ·
      refine n_if_ne (tgt := 33) X dX4_value_28 (by decide) (by omega) (fun c28 => absurd c28 (by decide)) (fun _ => ?_)
      refine z_iconst (v := nI 0) X dX4_value_31 (by decide) ?_
      refine z_iret X Z rfl dX4_value_32 ?_
      exact ⟨(va_up S 23 (fun _ => nI 1)), Or.inr (Or.inl ⟨h1, rfl⟩), fun q hq => hq⟩
    ·
      exact g1.elim
    ·
      exact absurd trivial g3
set_option maxHeartbeats 600000 in
set_option maxRecDepth 100000 in
theorem c_X4_attack (l : Launch) (D : va_G) (t : ClassId × ClassId × ClassId) (b : Nat → Nat) (S : zS) (x y z : Nat) (h15 : S 15 = l3 x y z) (hx : x + y + z ≤ 8) : zM2 l yX4_attack cX4_attack 4 (some .int) 4 D t [.ref (b 0)] (wM t b S) (fun r (_ : Unit) => r = nI (atk x y z)) (fun _ => wM t b (va_up S 23 (fun _ => nI 0))) := by
  refine z_m2 (by decide +kernel) (Nat.le_of_ble_eq_true rfl) (by simp [Value.category]) ?_
  intro E X Z Y
  refine z_lv (lv' := [some (.ref (b 0)), none, none, none]) rfl ?_
  refine z_fconst0 X dX4_attack_0 ?_
  refine z_fstore_n X dX4_attack_1 rfl (Nat.le_of_ble_eq_true rfl) ?_
  refine z_lv (lv' := [some (.ref (b 0)), some (.float FP.fconst0), none, none]) rfl ?_
  refine z_iconst (v := (-1)) X dX4_attack_2 (by decide) ?_
  refine z_istore_n X dX4_attack_3 rfl (Nat.le_of_ble_eq_true rfl) ?_
  refine z_lv (lv' := [some (.ref (b 0)), some (.float FP.fconst0), some (.int (-1)), none]) rfl ?_
  refine z_iconst (v := nI 0) X dX4_attack_4 (by decide) ?_
  refine z_istore_n X dX4_attack_5 rfl (Nat.le_of_ble_eq_true rfl) ?_
  refine z_lv (lv' := [some (.ref (b 0)), some (.float FP.fconst0), some (.int (-1)), some (.int (nI 0))]) rfl ?_
  refine z_iload_n X dX4_attack_6 rfl rfl ?_
  refine z_iconst (v := nI 3) X dX4_attack_7 (by decide) ?_
  refine n_icmp_ge (tgt := 77) X dX4_attack_8 (by decide) (by omega) (by omega) (fun c8 => absurd c8 (by decide)) (fun _ => ?_)
  refine z_fload_n X dX4_attack_11 rfl rfl ?_
  refine z_aload_n X dX4_attack_12 rfl rfl ?_
  refine z_get X (C := RX4) (T := TX4) (N := 21) (ci := 4) (v := .ref (b 3)) inZ4 0 2 rfl rfl (by decide) q_fl_X4_16 rfl rfl dX4_attack_13 ?_
  refine z_iload_n X dX4_attack_16 rfl rfl ?_
  refine n_iald (f := S 15) X 3 rfl (by omega) (by decide) dX4_attack_17 ?_
  refine z_top (y := nI x) (by rw [h15]; rfl) ?_
  refine z_i2f X dX4_attack_18 ?_
  refine z_iload_n X dX4_attack_19 rfl rfl ?_
  refine z_iconst (v := nI 2) X dX4_attack_20 (by decide) ?_
  refine n_iadd X dX4_attack_21 ?_
  refine z_i2f X dX4_attack_22 ?_
  refine z_ldcf X q_kf_X4_140 dX4_attack_23 ?_
  refine z_fdiv X dX4_attack_25 ((by unfold vf_n32; decide +kernel : vf_n32 (FP.fdiv (FP.i2f (nI 2)) 1082130432))) ?_
  refine z_fmul X dX4_attack_26 ((by unfold vf_n32; decide +kernel : ∀ x, x < 9 → vf_n32 (FP.fmul (FP.i2f (nI x)) (FP.fdiv (FP.i2f (nI 2)) 1082130432))) x (by omega)) ?_
  refine z_fadd X dX4_attack_27 ((by unfold vf_n32; decide +kernel : ∀ x, x < 9 → vf_n32 (FP.fadd FP.fconst0 (FP.fmul (FP.i2f (nI x)) (FP.fdiv (FP.i2f (nI 2)) 1082130432)))) x (by omega)) ?_
  refine z_fstore_n X dX4_attack_28 rfl (Nat.le_of_ble_eq_true rfl) ?_
  refine z_lv (lv' := [some (.ref (b 0)), some (.float (FP.fadd FP.fconst0 (FP.fmul (FP.i2f (nI x)) (FP.fdiv (FP.i2f (nI 2)) 1082130432)))), some (.int (-1)), some (.int (nI 0))]) rfl ?_
  refine z_fload_n X dX4_attack_29 rfl rfl ?_
  refine z_iload_n X dX4_attack_30 rfl rfl ?_
  refine z_iconst (v := (-1)) X dX4_attack_31 (by decide) ?_
  refine z_icmp_ne (tgt := 39) X dX4_attack_32 (by decide) (fun c32 => absurd c32 (by decide)) (fun _ => ?_)
  refine z_fconst0 X dX4_attack_35 ?_
  refine z_goto (tgt := 49) X dX4_attack_36 (by decide) ?_
  refine z_fsub X dX4_attack_49 ((by unfold vf_n32; decide +kernel : ∀ x, x < 9 → vf_n32 (FP.fsub (FP.fadd FP.fconst0 (FP.fmul (FP.i2f (nI x)) (FP.fdiv (FP.i2f (nI 2)) 1082130432))) FP.fconst0)) x (by omega)) ?_
  refine z_fstore_n X dX4_attack_50 rfl (Nat.le_of_ble_eq_true rfl) ?_
  refine z_lv (lv' := [some (.ref (b 0)), some (.float (FP.fsub (FP.fadd FP.fconst0 (FP.fmul (FP.i2f (nI x)) (FP.fdiv (FP.i2f (nI 2)) 1082130432))) FP.fconst0)), some (.int (-1)), some (.int (nI 0))]) rfl ?_
  refine z_iload_n X dX4_attack_51 rfl rfl ?_
  refine z_iconst (v := (-1)) X dX4_attack_52 (by decide) ?_
  refine z_icmp_ne (tgt := 69) X dX4_attack_53 (by decide) (fun c53 => absurd c53 (by decide)) (fun _ => ?_)
  refine z_aload_n X dX4_attack_56 rfl rfl ?_
  refine z_get X (C := RX4) (T := TX4) (N := 21) (ci := 4) (v := .ref (b 3)) inZ4 0 2 rfl rfl (by decide) q_fl_X4_16 rfl rfl dX4_attack_57 ?_
  refine z_iload_n X dX4_attack_60 rfl rfl ?_
  refine n_iald (f := S 15) X 3 rfl (by omega) (by decide) dX4_attack_61 ?_
  refine z_top (y := nI x) (by rw [h15]; rfl) ?_
  refine n_if_le (tgt := 69) X dX4_attack_62 (by decide) (by omega) (fun kx => ?_) (fun kx => ?_)
  ·
    refine z_iload_n X dX4_attack_69 rfl rfl ?_
    refine z_istore_n X dX4_attack_70 rfl (Nat.le_of_ble_eq_true rfl) ?_
    refine z_lv (lv' := [some (.ref (b 0)), some (.float (FP.fsub (FP.fadd FP.fconst0 (FP.fmul (FP.i2f (nI x)) (FP.fdiv (FP.i2f (nI 2)) 1082130432))) FP.fconst0)), some (.int (-1)), some (.int (nI 0))]) rfl ?_
    refine z_iinc (v := nI 1) X dX4_attack_71 rfl (by decide) ?_
    refine z_lv (lv' := [some (.ref (b 0)), some (.float (FP.fsub (FP.fadd FP.fconst0 (FP.fmul (FP.i2f (nI x)) (FP.fdiv (FP.i2f (nI 2)) 1082130432))) FP.fconst0)), some (.int (-1)), some (.int (nI 1))]) rfl ?_
    refine z_goto (tgt := 6) X dX4_attack_74 (by decide) ?_
    refine z_iload_n X dX4_attack_6 rfl rfl ?_
    refine z_iconst (v := nI 3) X dX4_attack_7 (by decide) ?_
    refine n_icmp_ge (tgt := 77) X dX4_attack_8 (by decide) (by omega) (by omega) (fun c8 => absurd c8 (by decide)) (fun _ => ?_)
    refine z_fload_n X dX4_attack_11 rfl rfl ?_
    refine z_aload_n X dX4_attack_12 rfl rfl ?_
    refine z_get X (C := RX4) (T := TX4) (N := 21) (ci := 4) (v := .ref (b 3)) inZ4 0 2 rfl rfl (by decide) q_fl_X4_16 rfl rfl dX4_attack_13 ?_
    refine z_iload_n X dX4_attack_16 rfl rfl ?_
    refine n_iald (f := S 15) X 3 rfl (by omega) (by decide) dX4_attack_17 ?_
    refine z_top (y := nI y) (by rw [h15]; rfl) ?_
    refine z_i2f X dX4_attack_18 ?_
    refine z_iload_n X dX4_attack_19 rfl rfl ?_
    refine z_iconst (v := nI 2) X dX4_attack_20 (by decide) ?_
    refine n_iadd X dX4_attack_21 ?_
    refine z_i2f X dX4_attack_22 ?_
    refine z_ldcf X q_kf_X4_140 dX4_attack_23 ?_
    refine z_fdiv X dX4_attack_25 ((by unfold vf_n32; decide +kernel : vf_n32 (FP.fdiv (FP.i2f (nI 3)) 1082130432))) ?_
    refine z_fmul X dX4_attack_26 ((by unfold vf_n32; decide +kernel : ∀ y, y < 9 → vf_n32 (FP.fmul (FP.i2f (nI y)) (FP.fdiv (FP.i2f (nI 3)) 1082130432))) y (by omega)) ?_
    refine z_fadd X dX4_attack_27 ((by unfold vf_n32; decide +kernel : ∀ x, x < 9 → ∀ y, y < 9 → vf_n32 (FP.fadd (FP.fsub (FP.fadd FP.fconst0 (FP.fmul (FP.i2f (nI x)) (FP.fdiv (FP.i2f (nI 2)) 1082130432))) FP.fconst0) (FP.fmul (FP.i2f (nI y)) (FP.fdiv (FP.i2f (nI 3)) 1082130432)))) x (by omega) y (by omega)) ?_
    refine z_fstore_n X dX4_attack_28 rfl (Nat.le_of_ble_eq_true rfl) ?_
    refine z_lv (lv' := [some (.ref (b 0)), some (.float (FP.fadd (FP.fsub (FP.fadd FP.fconst0 (FP.fmul (FP.i2f (nI x)) (FP.fdiv (FP.i2f (nI 2)) 1082130432))) FP.fconst0) (FP.fmul (FP.i2f (nI y)) (FP.fdiv (FP.i2f (nI 3)) 1082130432)))), some (.int (-1)), some (.int (nI 1))]) rfl ?_
    refine z_fload_n X dX4_attack_29 rfl rfl ?_
    refine z_iload_n X dX4_attack_30 rfl rfl ?_
    refine z_iconst (v := (-1)) X dX4_attack_31 (by decide) ?_
    refine z_icmp_ne (tgt := 39) X dX4_attack_32 (by decide) (fun c32 => absurd c32 (by decide)) (fun _ => ?_)
    refine z_fconst0 X dX4_attack_35 ?_
    refine z_goto (tgt := 49) X dX4_attack_36 (by decide) ?_
    refine z_fsub X dX4_attack_49 ((by unfold vf_n32; decide +kernel : ∀ x, x < 9 → ∀ y, y < 9 → vf_n32 (FP.fsub (FP.fadd (FP.fsub (FP.fadd FP.fconst0 (FP.fmul (FP.i2f (nI x)) (FP.fdiv (FP.i2f (nI 2)) 1082130432))) FP.fconst0) (FP.fmul (FP.i2f (nI y)) (FP.fdiv (FP.i2f (nI 3)) 1082130432))) FP.fconst0)) x (by omega) y (by omega)) ?_
    refine z_fstore_n X dX4_attack_50 rfl (Nat.le_of_ble_eq_true rfl) ?_
    refine z_lv (lv' := [some (.ref (b 0)), some (.float (FP.fsub (FP.fadd (FP.fsub (FP.fadd FP.fconst0 (FP.fmul (FP.i2f (nI x)) (FP.fdiv (FP.i2f (nI 2)) 1082130432))) FP.fconst0) (FP.fmul (FP.i2f (nI y)) (FP.fdiv (FP.i2f (nI 3)) 1082130432))) FP.fconst0)), some (.int (-1)), some (.int (nI 1))]) rfl ?_
    refine z_iload_n X dX4_attack_51 rfl rfl ?_
    refine z_iconst (v := (-1)) X dX4_attack_52 (by decide) ?_
    refine z_icmp_ne (tgt := 69) X dX4_attack_53 (by decide) (fun c53 => absurd c53 (by decide)) (fun _ => ?_)
    refine z_aload_n X dX4_attack_56 rfl rfl ?_
    refine z_get X (C := RX4) (T := TX4) (N := 21) (ci := 4) (v := .ref (b 3)) inZ4 0 2 rfl rfl (by decide) q_fl_X4_16 rfl rfl dX4_attack_57 ?_
    refine z_iload_n X dX4_attack_60 rfl rfl ?_
    refine n_iald (f := S 15) X 3 rfl (by omega) (by decide) dX4_attack_61 ?_
    refine z_top (y := nI y) (by rw [h15]; rfl) ?_
    refine n_if_le (tgt := 69) X dX4_attack_62 (by decide) (by omega) (fun ky => ?_) (fun ky => ?_)
    ·
      refine z_iload_n X dX4_attack_69 rfl rfl ?_
      refine z_istore_n X dX4_attack_70 rfl (Nat.le_of_ble_eq_true rfl) ?_
      refine z_lv (lv' := [some (.ref (b 0)), some (.float (FP.fsub (FP.fadd (FP.fsub (FP.fadd FP.fconst0 (FP.fmul (FP.i2f (nI x)) (FP.fdiv (FP.i2f (nI 2)) 1082130432))) FP.fconst0) (FP.fmul (FP.i2f (nI y)) (FP.fdiv (FP.i2f (nI 3)) 1082130432))) FP.fconst0)), some (.int (-1)), some (.int (nI 1))]) rfl ?_
      refine z_iinc (v := nI 2) X dX4_attack_71 rfl (by decide) ?_
      refine z_lv (lv' := [some (.ref (b 0)), some (.float (FP.fsub (FP.fadd (FP.fsub (FP.fadd FP.fconst0 (FP.fmul (FP.i2f (nI x)) (FP.fdiv (FP.i2f (nI 2)) 1082130432))) FP.fconst0) (FP.fmul (FP.i2f (nI y)) (FP.fdiv (FP.i2f (nI 3)) 1082130432))) FP.fconst0)), some (.int (-1)), some (.int (nI 2))]) rfl ?_
      refine z_goto (tgt := 6) X dX4_attack_74 (by decide) ?_
      refine z_iload_n X dX4_attack_6 rfl rfl ?_
      refine z_iconst (v := nI 3) X dX4_attack_7 (by decide) ?_
      refine n_icmp_ge (tgt := 77) X dX4_attack_8 (by decide) (by omega) (by omega) (fun c8 => absurd c8 (by decide)) (fun _ => ?_)
      refine z_fload_n X dX4_attack_11 rfl rfl ?_
      refine z_aload_n X dX4_attack_12 rfl rfl ?_
      refine z_get X (C := RX4) (T := TX4) (N := 21) (ci := 4) (v := .ref (b 3)) inZ4 0 2 rfl rfl (by decide) q_fl_X4_16 rfl rfl dX4_attack_13 ?_
      refine z_iload_n X dX4_attack_16 rfl rfl ?_
      refine n_iald (f := S 15) X 3 rfl (by omega) (by decide) dX4_attack_17 ?_
      refine z_top (y := nI z) (by rw [h15]; rfl) ?_
      refine z_i2f X dX4_attack_18 ?_
      refine z_iload_n X dX4_attack_19 rfl rfl ?_
      refine z_iconst (v := nI 2) X dX4_attack_20 (by decide) ?_
      refine n_iadd X dX4_attack_21 ?_
      refine z_i2f X dX4_attack_22 ?_
      refine z_ldcf X q_kf_X4_140 dX4_attack_23 ?_
      refine z_fdiv X dX4_attack_25 ((by unfold vf_n32; decide +kernel : vf_n32 (FP.fdiv (FP.i2f (nI 4)) 1082130432))) ?_
      refine z_fmul X dX4_attack_26 ((by unfold vf_n32; decide +kernel : ∀ z, z < 9 → vf_n32 (FP.fmul (FP.i2f (nI z)) (FP.fdiv (FP.i2f (nI 4)) 1082130432))) z (by omega)) ?_
      refine z_fadd X dX4_attack_27 ((by unfold vf_n32; decide +kernel : ∀ x, x < 9 → ∀ y, y < 9 → ∀ z, z < 9 → x + y + z ≤ 8 → vf_n32 (FP.fadd (FP.fsub (FP.fadd (FP.fsub (FP.fadd FP.fconst0 (FP.fmul (FP.i2f (nI x)) (FP.fdiv (FP.i2f (nI 2)) 1082130432))) FP.fconst0) (FP.fmul (FP.i2f (nI y)) (FP.fdiv (FP.i2f (nI 3)) 1082130432))) FP.fconst0) (FP.fmul (FP.i2f (nI z)) (FP.fdiv (FP.i2f (nI 4)) 1082130432)))) x (by omega) y (by omega) z (by omega) (by omega)) ?_
      refine z_fstore_n X dX4_attack_28 rfl (Nat.le_of_ble_eq_true rfl) ?_
      refine z_lv (lv' := [some (.ref (b 0)), some (.float (FP.fadd (FP.fsub (FP.fadd (FP.fsub (FP.fadd FP.fconst0 (FP.fmul (FP.i2f (nI x)) (FP.fdiv (FP.i2f (nI 2)) 1082130432))) FP.fconst0) (FP.fmul (FP.i2f (nI y)) (FP.fdiv (FP.i2f (nI 3)) 1082130432))) FP.fconst0) (FP.fmul (FP.i2f (nI z)) (FP.fdiv (FP.i2f (nI 4)) 1082130432)))), some (.int (-1)), some (.int (nI 2))]) rfl ?_
      refine z_fload_n X dX4_attack_29 rfl rfl ?_
      refine z_iload_n X dX4_attack_30 rfl rfl ?_
      refine z_iconst (v := (-1)) X dX4_attack_31 (by decide) ?_
      refine z_icmp_ne (tgt := 39) X dX4_attack_32 (by decide) (fun c32 => absurd c32 (by decide)) (fun _ => ?_)
      refine z_fconst0 X dX4_attack_35 ?_
      refine z_goto (tgt := 49) X dX4_attack_36 (by decide) ?_
      refine z_fsub X dX4_attack_49 ((by unfold vf_n32; decide +kernel : ∀ x, x < 9 → ∀ y, y < 9 → ∀ z, z < 9 → x + y + z ≤ 8 → vf_n32 (FP.fsub (FP.fadd (FP.fsub (FP.fadd (FP.fsub (FP.fadd FP.fconst0 (FP.fmul (FP.i2f (nI x)) (FP.fdiv (FP.i2f (nI 2)) 1082130432))) FP.fconst0) (FP.fmul (FP.i2f (nI y)) (FP.fdiv (FP.i2f (nI 3)) 1082130432))) FP.fconst0) (FP.fmul (FP.i2f (nI z)) (FP.fdiv (FP.i2f (nI 4)) 1082130432))) FP.fconst0)) x (by omega) y (by omega) z (by omega) (by omega)) ?_
      refine z_fstore_n X dX4_attack_50 rfl (Nat.le_of_ble_eq_true rfl) ?_
      refine z_lv (lv' := [some (.ref (b 0)), some (.float (FP.fsub (FP.fadd (FP.fsub (FP.fadd (FP.fsub (FP.fadd FP.fconst0 (FP.fmul (FP.i2f (nI x)) (FP.fdiv (FP.i2f (nI 2)) 1082130432))) FP.fconst0) (FP.fmul (FP.i2f (nI y)) (FP.fdiv (FP.i2f (nI 3)) 1082130432))) FP.fconst0) (FP.fmul (FP.i2f (nI z)) (FP.fdiv (FP.i2f (nI 4)) 1082130432))) FP.fconst0)), some (.int (-1)), some (.int (nI 2))]) rfl ?_
      refine z_iload_n X dX4_attack_51 rfl rfl ?_
      refine z_iconst (v := (-1)) X dX4_attack_52 (by decide) ?_
      refine z_icmp_ne (tgt := 69) X dX4_attack_53 (by decide) (fun c53 => absurd c53 (by decide)) (fun _ => ?_)
      refine z_aload_n X dX4_attack_56 rfl rfl ?_
      refine z_get X (C := RX4) (T := TX4) (N := 21) (ci := 4) (v := .ref (b 3)) inZ4 0 2 rfl rfl (by decide) q_fl_X4_16 rfl rfl dX4_attack_57 ?_
      refine z_iload_n X dX4_attack_60 rfl rfl ?_
      refine n_iald (f := S 15) X 3 rfl (by omega) (by decide) dX4_attack_61 ?_
      refine z_top (y := nI z) (by rw [h15]; rfl) ?_
      refine n_if_le (tgt := 69) X dX4_attack_62 (by decide) (by omega) (fun kz => ?_) (fun kz => ?_)
      ·
        refine z_iload_n X dX4_attack_69 rfl rfl ?_
        refine z_istore_n X dX4_attack_70 rfl (Nat.le_of_ble_eq_true rfl) ?_
        refine z_lv (lv' := [some (.ref (b 0)), some (.float (FP.fsub (FP.fadd (FP.fsub (FP.fadd (FP.fsub (FP.fadd FP.fconst0 (FP.fmul (FP.i2f (nI x)) (FP.fdiv (FP.i2f (nI 2)) 1082130432))) FP.fconst0) (FP.fmul (FP.i2f (nI y)) (FP.fdiv (FP.i2f (nI 3)) 1082130432))) FP.fconst0) (FP.fmul (FP.i2f (nI z)) (FP.fdiv (FP.i2f (nI 4)) 1082130432))) FP.fconst0)), some (.int (-1)), some (.int (nI 2))]) rfl ?_
        refine z_iinc (v := nI 3) X dX4_attack_71 rfl (by decide) ?_
        refine z_lv (lv' := [some (.ref (b 0)), some (.float (FP.fsub (FP.fadd (FP.fsub (FP.fadd (FP.fsub (FP.fadd FP.fconst0 (FP.fmul (FP.i2f (nI x)) (FP.fdiv (FP.i2f (nI 2)) 1082130432))) FP.fconst0) (FP.fmul (FP.i2f (nI y)) (FP.fdiv (FP.i2f (nI 3)) 1082130432))) FP.fconst0) (FP.fmul (FP.i2f (nI z)) (FP.fdiv (FP.i2f (nI 4)) 1082130432))) FP.fconst0)), some (.int (-1)), some (.int (nI 3))]) rfl ?_
        refine z_goto (tgt := 6) X dX4_attack_74 (by decide) ?_
        refine z_iload_n X dX4_attack_6 rfl rfl ?_
        refine z_iconst (v := nI 3) X dX4_attack_7 (by decide) ?_
        refine n_icmp_ge (tgt := 77) X dX4_attack_8 (by decide) (by omega) (by omega) (fun _ => ?_) (fun c8 => absurd c8 (by decide))
        refine z_aload_n X dX4_attack_77 rfl rfl ?_
        refine z_fload_n X dX4_attack_78 rfl rfl ?_
        refine z_f2i X dX4_attack_79 ?_
        refine z_callV2 (k := 0) (n := 0) (st := []) X Y aM_eq (c_X4_told l D t b S (FP.f2i (FP.fsub (FP.fadd (FP.fsub (FP.fadd (FP.fsub (FP.fadd FP.fconst0 (FP.fmul (FP.i2f (nI x)) (FP.fdiv (FP.i2f (nI 2)) 1082130432))) FP.fconst0) (FP.fmul (FP.i2f (nI y)) (FP.fdiv (FP.i2f (nI 3)) 1082130432))) FP.fconst0) (FP.fmul (FP.i2f (nI z)) (FP.fdiv (FP.i2f (nI 4)) 1082130432))) FP.fconst0))) k_X4_told q_ml_X4_127 is19 (fun u => wM t b (va_up S 23 (fun _ => nI 0))) (fun u => swM) ppM 0 4 rfl rfl (by decide) rfl rfl rfl (Nat.le_of_ble_eq_true rfl) ⟨Nat.zero_le _, Nat.zero_le _⟩ dX4_attack_80 (fun r80 u80 h80 => ?_)
        subst h80
        refine z_iret X Z rfl dX4_attack_83 ?_
        exact ⟨(), (by decide +kernel : ∀ x, x < 9 → ∀ y, y < 9 → ∀ z, z < 9 → x + y + z ≤ 8 ∧ x ≤ 0 ∧ y ≤ 0 → FP.f2i (FP.fsub (FP.fadd (FP.fsub (FP.fadd (FP.fsub (FP.fadd FP.fconst0 (FP.fmul (FP.i2f (nI x)) (FP.fdiv (FP.i2f (nI 2)) 1082130432))) FP.fconst0) (FP.fmul (FP.i2f (nI y)) (FP.fdiv (FP.i2f (nI 3)) 1082130432))) FP.fconst0) (FP.fmul (FP.i2f (nI z)) (FP.fdiv (FP.i2f (nI 4)) 1082130432))) FP.fconst0) = nI (atk x y z)) x (by omega) y (by omega) z (by omega) ⟨hx, (Nat.le_of_eq kx), (Nat.le_of_eq ky)⟩, fun q hq => hq⟩
      ·
        refine z_iload_n X dX4_attack_65 rfl rfl ?_
        refine z_goto (tgt := 70) X dX4_attack_66 (by decide) ?_
        refine z_istore_n X dX4_attack_70 rfl (Nat.le_of_ble_eq_true rfl) ?_
        refine z_lv (lv' := [some (.ref (b 0)), some (.float (FP.fsub (FP.fadd (FP.fsub (FP.fadd (FP.fsub (FP.fadd FP.fconst0 (FP.fmul (FP.i2f (nI x)) (FP.fdiv (FP.i2f (nI 2)) 1082130432))) FP.fconst0) (FP.fmul (FP.i2f (nI y)) (FP.fdiv (FP.i2f (nI 3)) 1082130432))) FP.fconst0) (FP.fmul (FP.i2f (nI z)) (FP.fdiv (FP.i2f (nI 4)) 1082130432))) FP.fconst0)), some (.int (nI 2)), some (.int (nI 2))]) rfl ?_
        refine z_iinc (v := nI 3) X dX4_attack_71 rfl (by decide) ?_
        refine z_lv (lv' := [some (.ref (b 0)), some (.float (FP.fsub (FP.fadd (FP.fsub (FP.fadd (FP.fsub (FP.fadd FP.fconst0 (FP.fmul (FP.i2f (nI x)) (FP.fdiv (FP.i2f (nI 2)) 1082130432))) FP.fconst0) (FP.fmul (FP.i2f (nI y)) (FP.fdiv (FP.i2f (nI 3)) 1082130432))) FP.fconst0) (FP.fmul (FP.i2f (nI z)) (FP.fdiv (FP.i2f (nI 4)) 1082130432))) FP.fconst0)), some (.int (nI 2)), some (.int (nI 3))]) rfl ?_
        refine z_goto (tgt := 6) X dX4_attack_74 (by decide) ?_
        refine z_iload_n X dX4_attack_6 rfl rfl ?_
        refine z_iconst (v := nI 3) X dX4_attack_7 (by decide) ?_
        refine n_icmp_ge (tgt := 77) X dX4_attack_8 (by decide) (by omega) (by omega) (fun _ => ?_) (fun c8 => absurd c8 (by decide))
        refine z_aload_n X dX4_attack_77 rfl rfl ?_
        refine z_fload_n X dX4_attack_78 rfl rfl ?_
        refine z_f2i X dX4_attack_79 ?_
        refine z_callV2 (k := 0) (n := 0) (st := []) X Y aM_eq (c_X4_told l D t b S (FP.f2i (FP.fsub (FP.fadd (FP.fsub (FP.fadd (FP.fsub (FP.fadd FP.fconst0 (FP.fmul (FP.i2f (nI x)) (FP.fdiv (FP.i2f (nI 2)) 1082130432))) FP.fconst0) (FP.fmul (FP.i2f (nI y)) (FP.fdiv (FP.i2f (nI 3)) 1082130432))) FP.fconst0) (FP.fmul (FP.i2f (nI z)) (FP.fdiv (FP.i2f (nI 4)) 1082130432))) FP.fconst0))) k_X4_told q_ml_X4_127 is19 (fun u => wM t b (va_up S 23 (fun _ => nI 0))) (fun u => swM) ppM 0 4 rfl rfl (by decide) rfl rfl rfl (Nat.le_of_ble_eq_true rfl) ⟨Nat.zero_le _, Nat.zero_le _⟩ dX4_attack_80 (fun r80 u80 h80 => ?_)
        subst h80
        refine z_iret X Z rfl dX4_attack_83 ?_
        exact ⟨(), (by decide +kernel : ∀ x, x < 9 → ∀ y, y < 9 → ∀ z, z < 9 → x + y + z ≤ 8 ∧ x ≤ 0 ∧ y ≤ 0 → FP.f2i (FP.fsub (FP.fadd (FP.fsub (FP.fadd (FP.fsub (FP.fadd FP.fconst0 (FP.fmul (FP.i2f (nI x)) (FP.fdiv (FP.i2f (nI 2)) 1082130432))) FP.fconst0) (FP.fmul (FP.i2f (nI y)) (FP.fdiv (FP.i2f (nI 3)) 1082130432))) FP.fconst0) (FP.fmul (FP.i2f (nI z)) (FP.fdiv (FP.i2f (nI 4)) 1082130432))) FP.fconst0) = nI (atk x y z)) x (by omega) y (by omega) z (by omega) ⟨hx, (Nat.le_of_eq kx), (Nat.le_of_eq ky)⟩, fun q hq => hq⟩
    ·
      refine z_iload_n X dX4_attack_65 rfl rfl ?_
      refine z_goto (tgt := 70) X dX4_attack_66 (by decide) ?_
      refine z_istore_n X dX4_attack_70 rfl (Nat.le_of_ble_eq_true rfl) ?_
      refine z_lv (lv' := [some (.ref (b 0)), some (.float (FP.fsub (FP.fadd (FP.fsub (FP.fadd FP.fconst0 (FP.fmul (FP.i2f (nI x)) (FP.fdiv (FP.i2f (nI 2)) 1082130432))) FP.fconst0) (FP.fmul (FP.i2f (nI y)) (FP.fdiv (FP.i2f (nI 3)) 1082130432))) FP.fconst0)), some (.int (nI 1)), some (.int (nI 1))]) rfl ?_
      refine z_iinc (v := nI 2) X dX4_attack_71 rfl (by decide) ?_
      refine z_lv (lv' := [some (.ref (b 0)), some (.float (FP.fsub (FP.fadd (FP.fsub (FP.fadd FP.fconst0 (FP.fmul (FP.i2f (nI x)) (FP.fdiv (FP.i2f (nI 2)) 1082130432))) FP.fconst0) (FP.fmul (FP.i2f (nI y)) (FP.fdiv (FP.i2f (nI 3)) 1082130432))) FP.fconst0)), some (.int (nI 1)), some (.int (nI 2))]) rfl ?_
      refine z_goto (tgt := 6) X dX4_attack_74 (by decide) ?_
      refine z_iload_n X dX4_attack_6 rfl rfl ?_
      refine z_iconst (v := nI 3) X dX4_attack_7 (by decide) ?_
      refine n_icmp_ge (tgt := 77) X dX4_attack_8 (by decide) (by omega) (by omega) (fun c8 => absurd c8 (by decide)) (fun _ => ?_)
      refine z_fload_n X dX4_attack_11 rfl rfl ?_
      refine z_aload_n X dX4_attack_12 rfl rfl ?_
      refine z_get X (C := RX4) (T := TX4) (N := 21) (ci := 4) (v := .ref (b 3)) inZ4 0 2 rfl rfl (by decide) q_fl_X4_16 rfl rfl dX4_attack_13 ?_
      refine z_iload_n X dX4_attack_16 rfl rfl ?_
      refine n_iald (f := S 15) X 3 rfl (by omega) (by decide) dX4_attack_17 ?_
      refine z_top (y := nI z) (by rw [h15]; rfl) ?_
      refine z_i2f X dX4_attack_18 ?_
      refine z_iload_n X dX4_attack_19 rfl rfl ?_
      refine z_iconst (v := nI 2) X dX4_attack_20 (by decide) ?_
      refine n_iadd X dX4_attack_21 ?_
      refine z_i2f X dX4_attack_22 ?_
      refine z_ldcf X q_kf_X4_140 dX4_attack_23 ?_
      refine z_fdiv X dX4_attack_25 ((by unfold vf_n32; decide +kernel : vf_n32 (FP.fdiv (FP.i2f (nI 4)) 1082130432))) ?_
      refine z_fmul X dX4_attack_26 ((by unfold vf_n32; decide +kernel : ∀ z, z < 9 → vf_n32 (FP.fmul (FP.i2f (nI z)) (FP.fdiv (FP.i2f (nI 4)) 1082130432))) z (by omega)) ?_
      refine z_fadd X dX4_attack_27 ((by unfold vf_n32; decide +kernel : ∀ x, x < 9 → ∀ y, y < 9 → ∀ z, z < 9 → x + y + z ≤ 8 → vf_n32 (FP.fadd (FP.fsub (FP.fadd (FP.fsub (FP.fadd FP.fconst0 (FP.fmul (FP.i2f (nI x)) (FP.fdiv (FP.i2f (nI 2)) 1082130432))) FP.fconst0) (FP.fmul (FP.i2f (nI y)) (FP.fdiv (FP.i2f (nI 3)) 1082130432))) FP.fconst0) (FP.fmul (FP.i2f (nI z)) (FP.fdiv (FP.i2f (nI 4)) 1082130432)))) x (by omega) y (by omega) z (by omega) (by omega)) ?_
      refine z_fstore_n X dX4_attack_28 rfl (Nat.le_of_ble_eq_true rfl) ?_
      refine z_lv (lv' := [some (.ref (b 0)), some (.float (FP.fadd (FP.fsub (FP.fadd (FP.fsub (FP.fadd FP.fconst0 (FP.fmul (FP.i2f (nI x)) (FP.fdiv (FP.i2f (nI 2)) 1082130432))) FP.fconst0) (FP.fmul (FP.i2f (nI y)) (FP.fdiv (FP.i2f (nI 3)) 1082130432))) FP.fconst0) (FP.fmul (FP.i2f (nI z)) (FP.fdiv (FP.i2f (nI 4)) 1082130432)))), some (.int (nI 1)), some (.int (nI 2))]) rfl ?_
      refine z_fload_n X dX4_attack_29 rfl rfl ?_
      refine z_iload_n X dX4_attack_30 rfl rfl ?_
      refine z_iconst (v := (-1)) X dX4_attack_31 (by decide) ?_
      refine z_icmp_ne (tgt := 39) X dX4_attack_32 (by decide) (fun _ => ?_) (fun c32 => absurd c32 (by decide))
      refine z_ldcf X q_kf_X4_141 dX4_attack_39 ?_
      refine z_aload_n X dX4_attack_41 rfl rfl ?_
      refine z_get X (C := RX4) (T := TX4) (N := 21) (ci := 4) (v := .ref (b 3)) inZ4 0 2 rfl rfl (by decide) q_fl_X4_16 rfl rfl dX4_attack_42 ?_
      refine z_iload_n X dX4_attack_45 rfl rfl ?_
      refine n_iald (f := S 15) X 3 rfl (by omega) (by decide) dX4_attack_46 ?_
      refine z_top (y := nI z) (by rw [h15]; rfl) ?_
      refine z_i2f X dX4_attack_47 ?_
      refine z_fmul X dX4_attack_48 ((by unfold vf_n32; decide +kernel : ∀ z, z < 9 → vf_n32 (FP.fmul 1040187392 (FP.i2f (nI z)))) z (by omega)) ?_
      refine z_fsub X dX4_attack_49 ((by unfold vf_n32; decide +kernel : ∀ x, x < 9 → ∀ y, y < 9 → ∀ z, z < 9 → x + y + z ≤ 8 → vf_n32 (FP.fsub (FP.fadd (FP.fsub (FP.fadd (FP.fsub (FP.fadd FP.fconst0 (FP.fmul (FP.i2f (nI x)) (FP.fdiv (FP.i2f (nI 2)) 1082130432))) FP.fconst0) (FP.fmul (FP.i2f (nI y)) (FP.fdiv (FP.i2f (nI 3)) 1082130432))) FP.fconst0) (FP.fmul (FP.i2f (nI z)) (FP.fdiv (FP.i2f (nI 4)) 1082130432))) (FP.fmul 1040187392 (FP.i2f (nI z))))) x (by omega) y (by omega) z (by omega) (by omega)) ?_
      refine z_fstore_n X dX4_attack_50 rfl (Nat.le_of_ble_eq_true rfl) ?_
      refine z_lv (lv' := [some (.ref (b 0)), some (.float (FP.fsub (FP.fadd (FP.fsub (FP.fadd (FP.fsub (FP.fadd FP.fconst0 (FP.fmul (FP.i2f (nI x)) (FP.fdiv (FP.i2f (nI 2)) 1082130432))) FP.fconst0) (FP.fmul (FP.i2f (nI y)) (FP.fdiv (FP.i2f (nI 3)) 1082130432))) FP.fconst0) (FP.fmul (FP.i2f (nI z)) (FP.fdiv (FP.i2f (nI 4)) 1082130432))) (FP.fmul 1040187392 (FP.i2f (nI z))))), some (.int (nI 1)), some (.int (nI 2))]) rfl ?_
      refine z_iload_n X dX4_attack_51 rfl rfl ?_
      refine z_iconst (v := (-1)) X dX4_attack_52 (by decide) ?_
      refine z_icmp_ne (tgt := 69) X dX4_attack_53 (by decide) (fun _ => ?_) (fun c53 => absurd c53 (by decide))
      refine z_iload_n X dX4_attack_69 rfl rfl ?_
      refine z_istore_n X dX4_attack_70 rfl (Nat.le_of_ble_eq_true rfl) ?_
      refine z_lv (lv' := [some (.ref (b 0)), some (.float (FP.fsub (FP.fadd (FP.fsub (FP.fadd (FP.fsub (FP.fadd FP.fconst0 (FP.fmul (FP.i2f (nI x)) (FP.fdiv (FP.i2f (nI 2)) 1082130432))) FP.fconst0) (FP.fmul (FP.i2f (nI y)) (FP.fdiv (FP.i2f (nI 3)) 1082130432))) FP.fconst0) (FP.fmul (FP.i2f (nI z)) (FP.fdiv (FP.i2f (nI 4)) 1082130432))) (FP.fmul 1040187392 (FP.i2f (nI z))))), some (.int (nI 1)), some (.int (nI 2))]) rfl ?_
      refine z_iinc (v := nI 3) X dX4_attack_71 rfl (by decide) ?_
      refine z_lv (lv' := [some (.ref (b 0)), some (.float (FP.fsub (FP.fadd (FP.fsub (FP.fadd (FP.fsub (FP.fadd FP.fconst0 (FP.fmul (FP.i2f (nI x)) (FP.fdiv (FP.i2f (nI 2)) 1082130432))) FP.fconst0) (FP.fmul (FP.i2f (nI y)) (FP.fdiv (FP.i2f (nI 3)) 1082130432))) FP.fconst0) (FP.fmul (FP.i2f (nI z)) (FP.fdiv (FP.i2f (nI 4)) 1082130432))) (FP.fmul 1040187392 (FP.i2f (nI z))))), some (.int (nI 1)), some (.int (nI 3))]) rfl ?_
      refine z_goto (tgt := 6) X dX4_attack_74 (by decide) ?_
      refine z_iload_n X dX4_attack_6 rfl rfl ?_
      refine z_iconst (v := nI 3) X dX4_attack_7 (by decide) ?_
      refine n_icmp_ge (tgt := 77) X dX4_attack_8 (by decide) (by omega) (by omega) (fun _ => ?_) (fun c8 => absurd c8 (by decide))
      refine z_aload_n X dX4_attack_77 rfl rfl ?_
      refine z_fload_n X dX4_attack_78 rfl rfl ?_
      refine z_f2i X dX4_attack_79 ?_
      refine z_callV2 (k := 0) (n := 0) (st := []) X Y aM_eq (c_X4_told l D t b S (FP.f2i (FP.fsub (FP.fadd (FP.fsub (FP.fadd (FP.fsub (FP.fadd FP.fconst0 (FP.fmul (FP.i2f (nI x)) (FP.fdiv (FP.i2f (nI 2)) 1082130432))) FP.fconst0) (FP.fmul (FP.i2f (nI y)) (FP.fdiv (FP.i2f (nI 3)) 1082130432))) FP.fconst0) (FP.fmul (FP.i2f (nI z)) (FP.fdiv (FP.i2f (nI 4)) 1082130432))) (FP.fmul 1040187392 (FP.i2f (nI z)))))) k_X4_told q_ml_X4_127 is19 (fun u => wM t b (va_up S 23 (fun _ => nI 0))) (fun u => swM) ppM 0 4 rfl rfl (by decide) rfl rfl rfl (Nat.le_of_ble_eq_true rfl) ⟨Nat.zero_le _, Nat.zero_le _⟩ dX4_attack_80 (fun r80 u80 h80 => ?_)
      subst h80
      refine z_iret X Z rfl dX4_attack_83 ?_
      exact ⟨(), (by decide +kernel : ∀ x, x < 9 → ∀ y, y < 9 → ∀ z, z < 9 → x + y + z ≤ 8 ∧ x ≤ 0 ∧ 0 < y → FP.f2i (FP.fsub (FP.fadd (FP.fsub (FP.fadd (FP.fsub (FP.fadd FP.fconst0 (FP.fmul (FP.i2f (nI x)) (FP.fdiv (FP.i2f (nI 2)) 1082130432))) FP.fconst0) (FP.fmul (FP.i2f (nI y)) (FP.fdiv (FP.i2f (nI 3)) 1082130432))) FP.fconst0) (FP.fmul (FP.i2f (nI z)) (FP.fdiv (FP.i2f (nI 4)) 1082130432))) (FP.fmul 1040187392 (FP.i2f (nI z)))) = nI (atk x y z)) x (by omega) y (by omega) z (by omega) ⟨hx, (Nat.le_of_eq kx), ky⟩, fun q hq => hq⟩
  ·
    refine z_iload_n X dX4_attack_65 rfl rfl ?_
    refine z_goto (tgt := 70) X dX4_attack_66 (by decide) ?_
    refine z_istore_n X dX4_attack_70 rfl (Nat.le_of_ble_eq_true rfl) ?_
    refine z_lv (lv' := [some (.ref (b 0)), some (.float (FP.fsub (FP.fadd FP.fconst0 (FP.fmul (FP.i2f (nI x)) (FP.fdiv (FP.i2f (nI 2)) 1082130432))) FP.fconst0)), some (.int (nI 0)), some (.int (nI 0))]) rfl ?_
    refine z_iinc (v := nI 1) X dX4_attack_71 rfl (by decide) ?_
    refine z_lv (lv' := [some (.ref (b 0)), some (.float (FP.fsub (FP.fadd FP.fconst0 (FP.fmul (FP.i2f (nI x)) (FP.fdiv (FP.i2f (nI 2)) 1082130432))) FP.fconst0)), some (.int (nI 0)), some (.int (nI 1))]) rfl ?_
    refine z_goto (tgt := 6) X dX4_attack_74 (by decide) ?_
    refine z_iload_n X dX4_attack_6 rfl rfl ?_
    refine z_iconst (v := nI 3) X dX4_attack_7 (by decide) ?_
    refine n_icmp_ge (tgt := 77) X dX4_attack_8 (by decide) (by omega) (by omega) (fun c8 => absurd c8 (by decide)) (fun _ => ?_)
    refine z_fload_n X dX4_attack_11 rfl rfl ?_
    refine z_aload_n X dX4_attack_12 rfl rfl ?_
    refine z_get X (C := RX4) (T := TX4) (N := 21) (ci := 4) (v := .ref (b 3)) inZ4 0 2 rfl rfl (by decide) q_fl_X4_16 rfl rfl dX4_attack_13 ?_
    refine z_iload_n X dX4_attack_16 rfl rfl ?_
    refine n_iald (f := S 15) X 3 rfl (by omega) (by decide) dX4_attack_17 ?_
    refine z_top (y := nI y) (by rw [h15]; rfl) ?_
    refine z_i2f X dX4_attack_18 ?_
    refine z_iload_n X dX4_attack_19 rfl rfl ?_
    refine z_iconst (v := nI 2) X dX4_attack_20 (by decide) ?_
    refine n_iadd X dX4_attack_21 ?_
    refine z_i2f X dX4_attack_22 ?_
    refine z_ldcf X q_kf_X4_140 dX4_attack_23 ?_
    refine z_fdiv X dX4_attack_25 ((by unfold vf_n32; decide +kernel : vf_n32 (FP.fdiv (FP.i2f (nI 3)) 1082130432))) ?_
    refine z_fmul X dX4_attack_26 ((by unfold vf_n32; decide +kernel : ∀ y, y < 9 → vf_n32 (FP.fmul (FP.i2f (nI y)) (FP.fdiv (FP.i2f (nI 3)) 1082130432))) y (by omega)) ?_
    refine z_fadd X dX4_attack_27 ((by unfold vf_n32; decide +kernel : ∀ x, x < 9 → ∀ y, y < 9 → vf_n32 (FP.fadd (FP.fsub (FP.fadd FP.fconst0 (FP.fmul (FP.i2f (nI x)) (FP.fdiv (FP.i2f (nI 2)) 1082130432))) FP.fconst0) (FP.fmul (FP.i2f (nI y)) (FP.fdiv (FP.i2f (nI 3)) 1082130432)))) x (by omega) y (by omega)) ?_
    refine z_fstore_n X dX4_attack_28 rfl (Nat.le_of_ble_eq_true rfl) ?_
    refine z_lv (lv' := [some (.ref (b 0)), some (.float (FP.fadd (FP.fsub (FP.fadd FP.fconst0 (FP.fmul (FP.i2f (nI x)) (FP.fdiv (FP.i2f (nI 2)) 1082130432))) FP.fconst0) (FP.fmul (FP.i2f (nI y)) (FP.fdiv (FP.i2f (nI 3)) 1082130432)))), some (.int (nI 0)), some (.int (nI 1))]) rfl ?_
    refine z_fload_n X dX4_attack_29 rfl rfl ?_
    refine z_iload_n X dX4_attack_30 rfl rfl ?_
    refine z_iconst (v := (-1)) X dX4_attack_31 (by decide) ?_
    refine z_icmp_ne (tgt := 39) X dX4_attack_32 (by decide) (fun _ => ?_) (fun c32 => absurd c32 (by decide))
    refine z_ldcf X q_kf_X4_141 dX4_attack_39 ?_
    refine z_aload_n X dX4_attack_41 rfl rfl ?_
    refine z_get X (C := RX4) (T := TX4) (N := 21) (ci := 4) (v := .ref (b 3)) inZ4 0 2 rfl rfl (by decide) q_fl_X4_16 rfl rfl dX4_attack_42 ?_
    refine z_iload_n X dX4_attack_45 rfl rfl ?_
    refine n_iald (f := S 15) X 3 rfl (by omega) (by decide) dX4_attack_46 ?_
    refine z_top (y := nI y) (by rw [h15]; rfl) ?_
    refine z_i2f X dX4_attack_47 ?_
    refine z_fmul X dX4_attack_48 ((by unfold vf_n32; decide +kernel : ∀ y, y < 9 → vf_n32 (FP.fmul 1040187392 (FP.i2f (nI y)))) y (by omega)) ?_
    refine z_fsub X dX4_attack_49 ((by unfold vf_n32; decide +kernel : ∀ x, x < 9 → ∀ y, y < 9 → vf_n32 (FP.fsub (FP.fadd (FP.fsub (FP.fadd FP.fconst0 (FP.fmul (FP.i2f (nI x)) (FP.fdiv (FP.i2f (nI 2)) 1082130432))) FP.fconst0) (FP.fmul (FP.i2f (nI y)) (FP.fdiv (FP.i2f (nI 3)) 1082130432))) (FP.fmul 1040187392 (FP.i2f (nI y))))) x (by omega) y (by omega)) ?_
    refine z_fstore_n X dX4_attack_50 rfl (Nat.le_of_ble_eq_true rfl) ?_
    refine z_lv (lv' := [some (.ref (b 0)), some (.float (FP.fsub (FP.fadd (FP.fsub (FP.fadd FP.fconst0 (FP.fmul (FP.i2f (nI x)) (FP.fdiv (FP.i2f (nI 2)) 1082130432))) FP.fconst0) (FP.fmul (FP.i2f (nI y)) (FP.fdiv (FP.i2f (nI 3)) 1082130432))) (FP.fmul 1040187392 (FP.i2f (nI y))))), some (.int (nI 0)), some (.int (nI 1))]) rfl ?_
    refine z_iload_n X dX4_attack_51 rfl rfl ?_
    refine z_iconst (v := (-1)) X dX4_attack_52 (by decide) ?_
    refine z_icmp_ne (tgt := 69) X dX4_attack_53 (by decide) (fun _ => ?_) (fun c53 => absurd c53 (by decide))
    refine z_iload_n X dX4_attack_69 rfl rfl ?_
    refine z_istore_n X dX4_attack_70 rfl (Nat.le_of_ble_eq_true rfl) ?_
    refine z_lv (lv' := [some (.ref (b 0)), some (.float (FP.fsub (FP.fadd (FP.fsub (FP.fadd FP.fconst0 (FP.fmul (FP.i2f (nI x)) (FP.fdiv (FP.i2f (nI 2)) 1082130432))) FP.fconst0) (FP.fmul (FP.i2f (nI y)) (FP.fdiv (FP.i2f (nI 3)) 1082130432))) (FP.fmul 1040187392 (FP.i2f (nI y))))), some (.int (nI 0)), some (.int (nI 1))]) rfl ?_
    refine z_iinc (v := nI 2) X dX4_attack_71 rfl (by decide) ?_
    refine z_lv (lv' := [some (.ref (b 0)), some (.float (FP.fsub (FP.fadd (FP.fsub (FP.fadd FP.fconst0 (FP.fmul (FP.i2f (nI x)) (FP.fdiv (FP.i2f (nI 2)) 1082130432))) FP.fconst0) (FP.fmul (FP.i2f (nI y)) (FP.fdiv (FP.i2f (nI 3)) 1082130432))) (FP.fmul 1040187392 (FP.i2f (nI y))))), some (.int (nI 0)), some (.int (nI 2))]) rfl ?_
    refine z_goto (tgt := 6) X dX4_attack_74 (by decide) ?_
    refine z_iload_n X dX4_attack_6 rfl rfl ?_
    refine z_iconst (v := nI 3) X dX4_attack_7 (by decide) ?_
    refine n_icmp_ge (tgt := 77) X dX4_attack_8 (by decide) (by omega) (by omega) (fun c8 => absurd c8 (by decide)) (fun _ => ?_)
    refine z_fload_n X dX4_attack_11 rfl rfl ?_
    refine z_aload_n X dX4_attack_12 rfl rfl ?_
    refine z_get X (C := RX4) (T := TX4) (N := 21) (ci := 4) (v := .ref (b 3)) inZ4 0 2 rfl rfl (by decide) q_fl_X4_16 rfl rfl dX4_attack_13 ?_
    refine z_iload_n X dX4_attack_16 rfl rfl ?_
    refine n_iald (f := S 15) X 3 rfl (by omega) (by decide) dX4_attack_17 ?_
    refine z_top (y := nI z) (by rw [h15]; rfl) ?_
    refine z_i2f X dX4_attack_18 ?_
    refine z_iload_n X dX4_attack_19 rfl rfl ?_
    refine z_iconst (v := nI 2) X dX4_attack_20 (by decide) ?_
    refine n_iadd X dX4_attack_21 ?_
    refine z_i2f X dX4_attack_22 ?_
    refine z_ldcf X q_kf_X4_140 dX4_attack_23 ?_
    refine z_fdiv X dX4_attack_25 ((by unfold vf_n32; decide +kernel : vf_n32 (FP.fdiv (FP.i2f (nI 4)) 1082130432))) ?_
    refine z_fmul X dX4_attack_26 ((by unfold vf_n32; decide +kernel : ∀ z, z < 9 → vf_n32 (FP.fmul (FP.i2f (nI z)) (FP.fdiv (FP.i2f (nI 4)) 1082130432))) z (by omega)) ?_
    refine z_fadd X dX4_attack_27 ((by unfold vf_n32; decide +kernel : ∀ x, x < 9 → ∀ y, y < 9 → ∀ z, z < 9 → x + y + z ≤ 8 → vf_n32 (FP.fadd (FP.fsub (FP.fadd (FP.fsub (FP.fadd FP.fconst0 (FP.fmul (FP.i2f (nI x)) (FP.fdiv (FP.i2f (nI 2)) 1082130432))) FP.fconst0) (FP.fmul (FP.i2f (nI y)) (FP.fdiv (FP.i2f (nI 3)) 1082130432))) (FP.fmul 1040187392 (FP.i2f (nI y)))) (FP.fmul (FP.i2f (nI z)) (FP.fdiv (FP.i2f (nI 4)) 1082130432)))) x (by omega) y (by omega) z (by omega) (by omega)) ?_
    refine z_fstore_n X dX4_attack_28 rfl (Nat.le_of_ble_eq_true rfl) ?_
    refine z_lv (lv' := [some (.ref (b 0)), some (.float (FP.fadd (FP.fsub (FP.fadd (FP.fsub (FP.fadd FP.fconst0 (FP.fmul (FP.i2f (nI x)) (FP.fdiv (FP.i2f (nI 2)) 1082130432))) FP.fconst0) (FP.fmul (FP.i2f (nI y)) (FP.fdiv (FP.i2f (nI 3)) 1082130432))) (FP.fmul 1040187392 (FP.i2f (nI y)))) (FP.fmul (FP.i2f (nI z)) (FP.fdiv (FP.i2f (nI 4)) 1082130432)))), some (.int (nI 0)), some (.int (nI 2))]) rfl ?_
    refine z_fload_n X dX4_attack_29 rfl rfl ?_
    refine z_iload_n X dX4_attack_30 rfl rfl ?_
    refine z_iconst (v := (-1)) X dX4_attack_31 (by decide) ?_
    refine z_icmp_ne (tgt := 39) X dX4_attack_32 (by decide) (fun _ => ?_) (fun c32 => absurd c32 (by decide))
    refine z_ldcf X q_kf_X4_141 dX4_attack_39 ?_
    refine z_aload_n X dX4_attack_41 rfl rfl ?_
    refine z_get X (C := RX4) (T := TX4) (N := 21) (ci := 4) (v := .ref (b 3)) inZ4 0 2 rfl rfl (by decide) q_fl_X4_16 rfl rfl dX4_attack_42 ?_
    refine z_iload_n X dX4_attack_45 rfl rfl ?_
    refine n_iald (f := S 15) X 3 rfl (by omega) (by decide) dX4_attack_46 ?_
    refine z_top (y := nI z) (by rw [h15]; rfl) ?_
    refine z_i2f X dX4_attack_47 ?_
    refine z_fmul X dX4_attack_48 ((by unfold vf_n32; decide +kernel : ∀ z, z < 9 → vf_n32 (FP.fmul 1040187392 (FP.i2f (nI z)))) z (by omega)) ?_
    refine z_fsub X dX4_attack_49 ((by unfold vf_n32; decide +kernel : ∀ x, x < 9 → ∀ y, y < 9 → ∀ z, z < 9 → x + y + z ≤ 8 → vf_n32 (FP.fsub (FP.fadd (FP.fsub (FP.fadd (FP.fsub (FP.fadd FP.fconst0 (FP.fmul (FP.i2f (nI x)) (FP.fdiv (FP.i2f (nI 2)) 1082130432))) FP.fconst0) (FP.fmul (FP.i2f (nI y)) (FP.fdiv (FP.i2f (nI 3)) 1082130432))) (FP.fmul 1040187392 (FP.i2f (nI y)))) (FP.fmul (FP.i2f (nI z)) (FP.fdiv (FP.i2f (nI 4)) 1082130432))) (FP.fmul 1040187392 (FP.i2f (nI z))))) x (by omega) y (by omega) z (by omega) (by omega)) ?_
    refine z_fstore_n X dX4_attack_50 rfl (Nat.le_of_ble_eq_true rfl) ?_
    refine z_lv (lv' := [some (.ref (b 0)), some (.float (FP.fsub (FP.fadd (FP.fsub (FP.fadd (FP.fsub (FP.fadd FP.fconst0 (FP.fmul (FP.i2f (nI x)) (FP.fdiv (FP.i2f (nI 2)) 1082130432))) FP.fconst0) (FP.fmul (FP.i2f (nI y)) (FP.fdiv (FP.i2f (nI 3)) 1082130432))) (FP.fmul 1040187392 (FP.i2f (nI y)))) (FP.fmul (FP.i2f (nI z)) (FP.fdiv (FP.i2f (nI 4)) 1082130432))) (FP.fmul 1040187392 (FP.i2f (nI z))))), some (.int (nI 0)), some (.int (nI 2))]) rfl ?_
    refine z_iload_n X dX4_attack_51 rfl rfl ?_
    refine z_iconst (v := (-1)) X dX4_attack_52 (by decide) ?_
    refine z_icmp_ne (tgt := 69) X dX4_attack_53 (by decide) (fun _ => ?_) (fun c53 => absurd c53 (by decide))
    refine z_iload_n X dX4_attack_69 rfl rfl ?_
    refine z_istore_n X dX4_attack_70 rfl (Nat.le_of_ble_eq_true rfl) ?_
    refine z_lv (lv' := [some (.ref (b 0)), some (.float (FP.fsub (FP.fadd (FP.fsub (FP.fadd (FP.fsub (FP.fadd FP.fconst0 (FP.fmul (FP.i2f (nI x)) (FP.fdiv (FP.i2f (nI 2)) 1082130432))) FP.fconst0) (FP.fmul (FP.i2f (nI y)) (FP.fdiv (FP.i2f (nI 3)) 1082130432))) (FP.fmul 1040187392 (FP.i2f (nI y)))) (FP.fmul (FP.i2f (nI z)) (FP.fdiv (FP.i2f (nI 4)) 1082130432))) (FP.fmul 1040187392 (FP.i2f (nI z))))), some (.int (nI 0)), some (.int (nI 2))]) rfl ?_
    refine z_iinc (v := nI 3) X dX4_attack_71 rfl (by decide) ?_
    refine z_lv (lv' := [some (.ref (b 0)), some (.float (FP.fsub (FP.fadd (FP.fsub (FP.fadd (FP.fsub (FP.fadd FP.fconst0 (FP.fmul (FP.i2f (nI x)) (FP.fdiv (FP.i2f (nI 2)) 1082130432))) FP.fconst0) (FP.fmul (FP.i2f (nI y)) (FP.fdiv (FP.i2f (nI 3)) 1082130432))) (FP.fmul 1040187392 (FP.i2f (nI y)))) (FP.fmul (FP.i2f (nI z)) (FP.fdiv (FP.i2f (nI 4)) 1082130432))) (FP.fmul 1040187392 (FP.i2f (nI z))))), some (.int (nI 0)), some (.int (nI 3))]) rfl ?_
    refine z_goto (tgt := 6) X dX4_attack_74 (by decide) ?_
    refine z_iload_n X dX4_attack_6 rfl rfl ?_
    refine z_iconst (v := nI 3) X dX4_attack_7 (by decide) ?_
    refine n_icmp_ge (tgt := 77) X dX4_attack_8 (by decide) (by omega) (by omega) (fun _ => ?_) (fun c8 => absurd c8 (by decide))
    refine z_aload_n X dX4_attack_77 rfl rfl ?_
    refine z_fload_n X dX4_attack_78 rfl rfl ?_
    refine z_f2i X dX4_attack_79 ?_
    refine z_callV2 (k := 0) (n := 0) (st := []) X Y aM_eq (c_X4_told l D t b S (FP.f2i (FP.fsub (FP.fadd (FP.fsub (FP.fadd (FP.fsub (FP.fadd FP.fconst0 (FP.fmul (FP.i2f (nI x)) (FP.fdiv (FP.i2f (nI 2)) 1082130432))) FP.fconst0) (FP.fmul (FP.i2f (nI y)) (FP.fdiv (FP.i2f (nI 3)) 1082130432))) (FP.fmul 1040187392 (FP.i2f (nI y)))) (FP.fmul (FP.i2f (nI z)) (FP.fdiv (FP.i2f (nI 4)) 1082130432))) (FP.fmul 1040187392 (FP.i2f (nI z)))))) k_X4_told q_ml_X4_127 is19 (fun u => wM t b (va_up S 23 (fun _ => nI 0))) (fun u => swM) ppM 0 4 rfl rfl (by decide) rfl rfl rfl (Nat.le_of_ble_eq_true rfl) ⟨Nat.zero_le _, Nat.zero_le _⟩ dX4_attack_80 (fun r80 u80 h80 => ?_)
    subst h80
    refine z_iret X Z rfl dX4_attack_83 ?_
    exact ⟨(), (by decide +kernel : ∀ x, x < 9 → ∀ y, y < 9 → ∀ z, z < 9 → x + y + z ≤ 8 ∧ 0 < x → FP.f2i (FP.fsub (FP.fadd (FP.fsub (FP.fadd (FP.fsub (FP.fadd FP.fconst0 (FP.fmul (FP.i2f (nI x)) (FP.fdiv (FP.i2f (nI 2)) 1082130432))) FP.fconst0) (FP.fmul (FP.i2f (nI y)) (FP.fdiv (FP.i2f (nI 3)) 1082130432))) (FP.fmul 1040187392 (FP.i2f (nI y)))) (FP.fmul (FP.i2f (nI z)) (FP.fdiv (FP.i2f (nI 4)) 1082130432))) (FP.fmul 1040187392 (FP.i2f (nI z)))) = nI (atk x y z)) x (by omega) y (by omega) z (by omega) ⟨hx, kx⟩, fun q hq => hq⟩
