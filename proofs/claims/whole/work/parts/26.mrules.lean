/-! what the reference's rules do -/
set_option maxHeartbeats 4000000 in
set_option maxRecDepth 100000 in
theorem c_X4_setNeeds (l : Launch) (D : va_G) (t : ClassId × ClassId × ClassId) (b : Nat → Nat) (S : zS) (g ab sc ca lw ot : Int32) : zM3 l yX4_setNeeds cX4_setNeeds 9 6 D t [.ref (b 0), .int g, .int ab, .int sc, .int ca, .int lw, .int ot] (wM t b S) (fun u : zS => (∃ k, k < 8 ∧ g = nI k ∧ nd1 g ab ca ot ∧ nd2 ab sc ca lw ∧ u = ndS (va_up S 23 (fun _ => nI 0)) k ab sc ca lw ot) ∨ (¬ nd1 g ab ca ot ∧ u = va_up S 23 (fun _ => nI 1)) ∨ (nd1 g ab ca ot ∧ ¬ nd2 ab sc ca lw ∧ u = va_up S 23 (fun _ => nI 2))) (fun u => wM t b u) := by
  refine z_m3 (by decide +kernel) (Nat.le_of_ble_eq_true rfl) (by simp [Value.category]) ?_
  intro E X Z Y
  refine z_lv (lv' := [some (.ref (b 0)), some (.int g), some (.int ab), some (.int sc), some (.int ca), some (.int lw), some (.int ot), none, none]) rfl ?_
  have jq1 : ∀ (q1 : Int32), bz q1 (nd1 g ab ca ot) → Wz E 0 0 42 [some (.ref (b 0)), some (.int g), some (.int ab), some (.int sc), some (.int ca), some (.int lw), some (.int ot), none, none] [.int q1] (wM t b S) := by
    intro q1 hjq1
    refine z_istore X dX4_setNeeds_42 (Nat.le_of_ble_eq_true rfl) ?_
    refine z_lv (lv' := [some (.ref (b 0)), some (.int g), some (.int ab), some (.int sc), some (.int ca), some (.int lw), some (.int ot), some (.int q1), none]) rfl ?_
    have jq2 : ∀ (q2 : Int32), bz q2 (nd2 ab sc ca lw) → Wz E 0 0 82 [some (.ref (b 0)), some (.int g), some (.int ab), some (.int sc), some (.int ca), some (.int lw), some (.int ot), some (.int q1), none] [.int q2] (wM t b S) := by
      intro q2 hjq2
      refine z_istore X dX4_setNeeds_82 (Nat.le_of_ble_eq_true rfl) ?_
      refine z_lv (lv' := [some (.ref (b 0)), some (.int g), some (.int ab), some (.int sc), some (.int ca), some (.int lw), some (.int ot), some (.int q1), some (.int q2)]) rfl ?_
      refine z_aload_n X dX4_setNeeds_84 rfl rfl ?_
      refine z_iload X dX4_setNeeds_85 rfl ?_
      refine z_iload X dX4_setNeeds_87 rfl ?_
      refine z_iconst (v := nI 1) X dX4_setNeeds_89 (by decide) ?_
      refine z_callV2 (k := 0) (n := 0) (st := []) X Y aM_eq (c_X4_goes l D t b S q1 q2 (nI 1) (nd1 g ab ca ot) (nd2 ab sc ca lw) True hjq1 hjq2 (bz_t trivial)) k_X4_goes q_ml_X4_77 is19 (fun u => wM t b (va_up S 23 (fun _ => nI u))) (fun u => swM) ppM 0 4 rfl rfl (by decide) rfl rfl rfl (Nat.le_of_ble_eq_true rfl) ⟨Nat.zero_le _, Nat.zero_le _⟩ dX4_setNeeds_90 (fun r90 u90 h90 => ?_)
      rcases h90 with ⟨rfl, rfl, g1, g2, g3⟩ | ⟨rfl, rfl, g1⟩ | ⟨rfl, rfl, g1, g2⟩ | ⟨rfl, rfl, g1, g2, g3⟩
      ·
        refine n_if_eq (tgt := 134) X dX4_setNeeds_93 (by decide) (by omega) (fun c93 => absurd c93 (by decide)) (fun _ => ?_)
        obtain ⟨kg, hkg, rfl⟩ := g1.1
        refine z_aload_n X dX4_setNeeds_96 rfl rfl ?_
        refine z_get X (C := RX4) (T := TX4) (N := 21) (ci := 4) (v := .ref (b 4)) inZ4 0 5 rfl rfl (by decide) q_fl_X4_19 rfl rfl dX4_setNeeds_97 ?_
        refine z_iload_n X dX4_setNeeds_100 rfl rfl ?_
        refine z_iload_n X dX4_setNeeds_101 rfl rfl ?_
        refine n_iast X Y 4 aM_eq rfl (by omega) (by decide) dX4_setNeeds_102 ?_
        refine Wz.eq (uM_0 (f := upd (S 0) kg ab)) ?_
        refine z_aload_n X dX4_setNeeds_103 rfl rfl ?_
        refine z_get X (C := RX4) (T := TX4) (N := 21) (ci := 4) (v := .ref (b 5)) inZ4 0 6 rfl rfl (by decide) q_fl_X4_22 rfl rfl dX4_setNeeds_104 ?_
        refine z_iload_n X dX4_setNeeds_107 rfl rfl ?_
        refine z_iload_n X dX4_setNeeds_108 rfl rfl ?_
        refine n_iast X Y 5 aM_eq rfl (by omega) (by decide) dX4_setNeeds_109 ?_
        refine Wz.eq (uM_1 (f := upd (S 1) kg sc)) ?_
        refine z_aload_n X dX4_setNeeds_110 rfl rfl ?_
        refine z_get X (C := RX4) (T := TX4) (N := 21) (ci := 4) (v := .ref (b 6)) inZ4 0 7 rfl rfl (by decide) q_fl_X4_25 rfl rfl dX4_setNeeds_111 ?_
        refine z_iload_n X dX4_setNeeds_114 rfl rfl ?_
        refine z_iload X dX4_setNeeds_115 rfl ?_
        refine n_iast X Y 6 aM_eq rfl (by omega) (by decide) dX4_setNeeds_117 ?_
        refine Wz.eq (uM_2 (f := upd (S 2) kg ca)) ?_
        refine z_aload_n X dX4_setNeeds_118 rfl rfl ?_
        refine z_get X (C := RX4) (T := TX4) (N := 21) (ci := 4) (v := .ref (b 7)) inZ4 0 8 rfl rfl (by decide) q_fl_X4_28 rfl rfl dX4_setNeeds_119 ?_
        refine z_iload_n X dX4_setNeeds_122 rfl rfl ?_
        refine z_iload X dX4_setNeeds_123 rfl ?_
        refine n_iast X Y 7 aM_eq rfl (by omega) (by decide) dX4_setNeeds_125 ?_
        refine Wz.eq (uM_3 (f := upd (S 3) kg lw)) ?_
        refine z_aload_n X dX4_setNeeds_126 rfl rfl ?_
        refine z_get X (C := RX4) (T := TX4) (N := 21) (ci := 4) (v := .ref (b 8)) inZ4 0 9 rfl rfl (by decide) q_fl_X4_31 rfl rfl dX4_setNeeds_127 ?_
        refine z_iload_n X dX4_setNeeds_130 rfl rfl ?_
        refine z_iload X dX4_setNeeds_131 rfl ?_
        refine n_iast X Y 8 aM_eq rfl (by omega) (by decide) dX4_setNeeds_133 ?_
        refine Wz.eq (uM_4 (f := upd (S 4) kg ot)) ?_
        refine z_vret X Z dX4_setNeeds_134 ?_
        exact ⟨(va_up (va_up (va_up (va_up (va_up (va_up S 23 (fun _ => nI 0)) 0 (upd (S 0) kg ab)) 1 (upd (S 1) kg sc)) 2 (upd (S 2) kg ca)) 3 (upd (S 3) kg lw)) 4 (upd (S 4) kg ot)), Or.inl ⟨kg, hkg, rfl, g1, g2, rfl⟩, fun q hq => hq⟩
      ·
        refine n_if_eq (tgt := 134) X dX4_setNeeds_93 (by decide) (by omega) (fun _ => ?_) (fun c93 => absurd c93 (by decide))
        refine z_vret X Z dX4_setNeeds_134 ?_
        exact ⟨(va_up S 23 (fun _ => nI 1)), Or.inr (Or.inl ⟨g1, rfl⟩), fun q hq => hq⟩
      ·
        refine n_if_eq (tgt := 134) X dX4_setNeeds_93 (by decide) (by omega) (fun _ => ?_) (fun c93 => absurd c93 (by decide))
        refine z_vret X Z dX4_setNeeds_134 ?_
        exact ⟨(va_up S 23 (fun _ => nI 2)), Or.inr (Or.inr ⟨g1, g2, rfl⟩), fun q hq => hq⟩
      ·
        exact absurd trivial g3
    refine z_iload_n X dX4_setNeeds_44 rfl rfl ?_
    refine z_iconst (v := (-1)) X dX4_setNeeds_45 (by decide) ?_
    refine z_icmp_eq (tgt := 60) X dX4_setNeeds_46 (by decide) (fun c46 => ?_) (fun c46 => ?_)
    ·
      refine z_iload X dX4_setNeeds_60 rfl ?_
      refine z_iconst (v := (-1)) X dX4_setNeeds_62 (by decide) ?_
      refine z_icmp_eq (tgt := 77) X dX4_setNeeds_63 (by decide) (fun c63 => ?_) (fun c63 => ?_)
      ·
        refine z_iconst (v := nI 1) X dX4_setNeeds_77 (by decide) ?_
        refine z_goto (tgt := 82) X dX4_setNeeds_78 (by decide) ?_
        exact jq2 (nI 1) (by
                    first
                      | exact bz_t (⟨Or.inl c46, Or.inl c63⟩)
                      | exact bz_t (⟨Or.inl c46, Or.inr h71⟩)
                      | exact bz_t (⟨Or.inr h54, Or.inl c63⟩)
                      | exact bz_t (⟨Or.inr h54, Or.inr h71⟩)
                      | exact bz_f (fun q => q.1.elim c46 h54)
                      | exact bz_f (fun q => q.2.elim c63 h71))
      ·
        refine z_iload X dX4_setNeeds_66 rfl ?_
        refine z_iconst (v := nI 1) X dX4_setNeeds_68 (by decide) ?_
        refine z_bipush (v := nI 8) X dX4_setNeeds_69 (by decide) ?_
        refine z_callS1 (k := 0) (n := 0) (st := []) X (c_X4_in l D t lw (nI 1) (nI 8)) k_X4_in q_ml_X4_69 [] ⟨by decide, rfl⟩ (by decide) rfl rfl rfl (Nat.le_of_ble_eq_true rfl) ⟨Nat.zero_le _, Nat.zero_le _⟩ dX4_setNeeds_71 (fun r71 h71 => ?_)
        rcases h71 with ⟨rfl, h71⟩ | ⟨rfl, h71⟩
        ·
          refine n_if_eq (tgt := 81) X dX4_setNeeds_74 (by decide) (by omega) (fun c74 => absurd c74 (by decide)) (fun _ => ?_)
          refine z_iconst (v := nI 1) X dX4_setNeeds_77 (by decide) ?_
          refine z_goto (tgt := 82) X dX4_setNeeds_78 (by decide) ?_
          exact jq2 (nI 1) (by
                    first
                      | exact bz_t (⟨Or.inl c46, Or.inl c63⟩)
                      | exact bz_t (⟨Or.inl c46, Or.inr h71⟩)
                      | exact bz_t (⟨Or.inr h54, Or.inl c63⟩)
                      | exact bz_t (⟨Or.inr h54, Or.inr h71⟩)
                      | exact bz_f (fun q => q.1.elim c46 h54)
                      | exact bz_f (fun q => q.2.elim c63 h71))
        ·
          refine n_if_eq (tgt := 81) X dX4_setNeeds_74 (by decide) (by omega) (fun _ => ?_) (fun c74 => absurd c74 (by decide))
          refine z_iconst (v := nI 0) X dX4_setNeeds_81 (by decide) ?_
          exact jq2 (nI 0) (by
                    first
                      | exact bz_t (⟨Or.inl c46, Or.inl c63⟩)
                      | exact bz_t (⟨Or.inl c46, Or.inr h71⟩)
                      | exact bz_t (⟨Or.inr h54, Or.inl c63⟩)
                      | exact bz_t (⟨Or.inr h54, Or.inr h71⟩)
                      | exact bz_f (fun q => q.1.elim c46 h54)
                      | exact bz_f (fun q => q.2.elim c63 h71))
    ·
      refine z_iload_n X dX4_setNeeds_49 rfl rfl ?_
      refine z_bipush (v := nI 8) X dX4_setNeeds_50 (by decide) ?_
      refine z_bipush (v := nI 16) X dX4_setNeeds_52 (by decide) ?_
      refine z_callS1 (k := 0) (n := 0) (st := []) X (c_X4_in l D t sc (nI 8) (nI 16)) k_X4_in q_ml_X4_69 [] ⟨by decide, rfl⟩ (by decide) rfl rfl rfl (Nat.le_of_ble_eq_true rfl) ⟨Nat.zero_le _, Nat.zero_le _⟩ dX4_setNeeds_54 (fun r54 h54 => ?_)
      rcases h54 with ⟨rfl, h54⟩ | ⟨rfl, h54⟩
      ·
        refine n_if_eq (tgt := 81) X dX4_setNeeds_57 (by decide) (by omega) (fun c57 => absurd c57 (by decide)) (fun _ => ?_)
        refine z_iload X dX4_setNeeds_60 rfl ?_
        refine z_iconst (v := (-1)) X dX4_setNeeds_62 (by decide) ?_
        refine z_icmp_eq (tgt := 77) X dX4_setNeeds_63 (by decide) (fun c63 => ?_) (fun c63 => ?_)
        ·
          refine z_iconst (v := nI 1) X dX4_setNeeds_77 (by decide) ?_
          refine z_goto (tgt := 82) X dX4_setNeeds_78 (by decide) ?_
          exact jq2 (nI 1) (by
                    first
                      | exact bz_t (⟨Or.inl c46, Or.inl c63⟩)
                      | exact bz_t (⟨Or.inl c46, Or.inr h71⟩)
                      | exact bz_t (⟨Or.inr h54, Or.inl c63⟩)
                      | exact bz_t (⟨Or.inr h54, Or.inr h71⟩)
                      | exact bz_f (fun q => q.1.elim c46 h54)
                      | exact bz_f (fun q => q.2.elim c63 h71))
        ·
          refine z_iload X dX4_setNeeds_66 rfl ?_
          refine z_iconst (v := nI 1) X dX4_setNeeds_68 (by decide) ?_
          refine z_bipush (v := nI 8) X dX4_setNeeds_69 (by decide) ?_
          refine z_callS1 (k := 0) (n := 0) (st := []) X (c_X4_in l D t lw (nI 1) (nI 8)) k_X4_in q_ml_X4_69 [] ⟨by decide, rfl⟩ (by decide) rfl rfl rfl (Nat.le_of_ble_eq_true rfl) ⟨Nat.zero_le _, Nat.zero_le _⟩ dX4_setNeeds_71 (fun r71 h71 => ?_)
          rcases h71 with ⟨rfl, h71⟩ | ⟨rfl, h71⟩
          ·
            refine n_if_eq (tgt := 81) X dX4_setNeeds_74 (by decide) (by omega) (fun c74 => absurd c74 (by decide)) (fun _ => ?_)
            refine z_iconst (v := nI 1) X dX4_setNeeds_77 (by decide) ?_
            refine z_goto (tgt := 82) X dX4_setNeeds_78 (by decide) ?_
            exact jq2 (nI 1) (by
                    first
                      | exact bz_t (⟨Or.inl c46, Or.inl c63⟩)
                      | exact bz_t (⟨Or.inl c46, Or.inr h71⟩)
                      | exact bz_t (⟨Or.inr h54, Or.inl c63⟩)
                      | exact bz_t (⟨Or.inr h54, Or.inr h71⟩)
                      | exact bz_f (fun q => q.1.elim c46 h54)
                      | exact bz_f (fun q => q.2.elim c63 h71))
          ·
            refine n_if_eq (tgt := 81) X dX4_setNeeds_74 (by decide) (by omega) (fun _ => ?_) (fun c74 => absurd c74 (by decide))
            refine z_iconst (v := nI 0) X dX4_setNeeds_81 (by decide) ?_
            exact jq2 (nI 0) (by
                    first
                      | exact bz_t (⟨Or.inl c46, Or.inl c63⟩)
                      | exact bz_t (⟨Or.inl c46, Or.inr h71⟩)
                      | exact bz_t (⟨Or.inr h54, Or.inl c63⟩)
                      | exact bz_t (⟨Or.inr h54, Or.inr h71⟩)
                      | exact bz_f (fun q => q.1.elim c46 h54)
                      | exact bz_f (fun q => q.2.elim c63 h71))
      ·
        refine n_if_eq (tgt := 81) X dX4_setNeeds_57 (by decide) (by omega) (fun _ => ?_) (fun c57 => absurd c57 (by decide))
        refine z_iconst (v := nI 0) X dX4_setNeeds_81 (by decide) ?_
        exact jq2 (nI 0) (by
                    first
                      | exact bz_t (⟨Or.inl c46, Or.inl c63⟩)
                      | exact bz_t (⟨Or.inl c46, Or.inr h71⟩)
                      | exact bz_t (⟨Or.inr h54, Or.inl c63⟩)
                      | exact bz_t (⟨Or.inr h54, Or.inr h71⟩)
                      | exact bz_f (fun q => q.1.elim c46 h54)
                      | exact bz_f (fun q => q.2.elim c63 h71))
  refine z_iload_n X dX4_setNeeds_0 rfl rfl ?_
  refine z_callS1 (k := 0) (n := 0) (st := []) X (c_X4_isGift l D t g) k_X4_isGift q_ml_X4_73 [] ⟨by decide, rfl⟩ (by decide) rfl rfl rfl (Nat.le_of_ble_eq_true rfl) ⟨Nat.zero_le _, Nat.zero_le _⟩ dX4_setNeeds_1 (fun r1 h1 => ?_)
  rcases h1 with ⟨rfl, h1⟩ | ⟨rfl, h1⟩
  ·
    refine n_if_eq (tgt := 41) X dX4_setNeeds_4 (by decide) (by omega) (fun c4 => absurd c4 (by decide)) (fun _ => ?_)
    refine z_iload_n X dX4_setNeeds_7 rfl rfl ?_
    refine z_iconst (v := (-1)) X dX4_setNeeds_8 (by decide) ?_
    refine z_iconst (v := nI 3) X dX4_setNeeds_9 (by decide) ?_
    refine z_callS1 (k := 0) (n := 0) (st := []) X (c_X4_in l D t ab (-1) (nI 3)) k_X4_in q_ml_X4_69 [] ⟨by decide, rfl⟩ (by decide) rfl rfl rfl (Nat.le_of_ble_eq_true rfl) ⟨Nat.zero_le _, Nat.zero_le _⟩ dX4_setNeeds_10 (fun r10 h10 => ?_)
    replace h10 := h10.iff (zo_in (by decide))
    rcases h10 with ⟨rfl, h10⟩ | ⟨rfl, h10⟩
    ·
      refine n_if_eq (tgt := 41) X dX4_setNeeds_13 (by decide) (by omega) (fun c13 => absurd c13 (by decide)) (fun _ => ?_)
      refine z_iload X dX4_setNeeds_16 rfl ?_
      refine z_iconst (v := (-1)) X dX4_setNeeds_18 (by decide) ?_
      refine z_iconst (v := nI 2) X dX4_setNeeds_19 (by decide) ?_
      refine z_callS1 (k := 0) (n := 0) (st := []) X (c_X4_in l D t ca (-1) (nI 2)) k_X4_in q_ml_X4_69 [] ⟨by decide, rfl⟩ (by decide) rfl rfl rfl (Nat.le_of_ble_eq_true rfl) ⟨Nat.zero_le _, Nat.zero_le _⟩ dX4_setNeeds_20 (fun r20 h20 => ?_)
      replace h20 := h20.iff (zo_in (by decide))
      rcases h20 with ⟨rfl, h20⟩ | ⟨rfl, h20⟩
      ·
        refine n_if_eq (tgt := 41) X dX4_setNeeds_23 (by decide) (by omega) (fun c23 => absurd c23 (by decide)) (fun _ => ?_)
        refine z_iload X dX4_setNeeds_26 rfl ?_
        refine z_iconst (v := (-1)) X dX4_setNeeds_28 (by decide) ?_
        refine z_bipush (v := nI 7) X dX4_setNeeds_29 (by decide) ?_
        refine z_callS1 (k := 0) (n := 0) (st := []) X (c_X4_in l D t ot (-1) (nI 7)) k_X4_in q_ml_X4_69 [] ⟨by decide, rfl⟩ (by decide) rfl rfl rfl (Nat.le_of_ble_eq_true rfl) ⟨Nat.zero_le _, Nat.zero_le _⟩ dX4_setNeeds_31 (fun r31 h31 => ?_)
        replace h31 := h31.iff (zo_in (by decide))
        rcases h31 with ⟨rfl, h31⟩ | ⟨rfl, h31⟩
        ·
          refine n_if_eq (tgt := 41) X dX4_setNeeds_34 (by decide) (by omega) (fun c34 => absurd c34 (by decide)) (fun _ => ?_)
          refine z_iconst (v := nI 1) X dX4_setNeeds_37 (by decide) ?_
          refine z_goto (tgt := 42) X dX4_setNeeds_38 (by decide) ?_
          exact jq1 (nI 1) (by
                  first
                    | exact bz_t (⟨h1, h10, h20, h31⟩)
                    | exact bz_f (fun q => h1 q.1)
                    | exact bz_f (fun q => h10 q.2.1)
                    | exact bz_f (fun q => h20 q.2.2.1)
                    | exact bz_f (fun q => h31 q.2.2.2))
        ·
          refine n_if_eq (tgt := 41) X dX4_setNeeds_34 (by decide) (by omega) (fun _ => ?_) (fun c34 => absurd c34 (by decide))
          refine z_iconst (v := nI 0) X dX4_setNeeds_41 (by decide) ?_
          exact jq1 (nI 0) (by
                  first
                    | exact bz_t (⟨h1, h10, h20, h31⟩)
                    | exact bz_f (fun q => h1 q.1)
                    | exact bz_f (fun q => h10 q.2.1)
                    | exact bz_f (fun q => h20 q.2.2.1)
                    | exact bz_f (fun q => h31 q.2.2.2))
      ·
        refine n_if_eq (tgt := 41) X dX4_setNeeds_23 (by decide) (by omega) (fun _ => ?_) (fun c23 => absurd c23 (by decide))
        refine z_iconst (v := nI 0) X dX4_setNeeds_41 (by decide) ?_
        exact jq1 (nI 0) (by
                  first
                    | exact bz_t (⟨h1, h10, h20, h31⟩)
                    | exact bz_f (fun q => h1 q.1)
                    | exact bz_f (fun q => h10 q.2.1)
                    | exact bz_f (fun q => h20 q.2.2.1)
                    | exact bz_f (fun q => h31 q.2.2.2))
    ·
      refine n_if_eq (tgt := 41) X dX4_setNeeds_13 (by decide) (by omega) (fun _ => ?_) (fun c13 => absurd c13 (by decide))
      refine z_iconst (v := nI 0) X dX4_setNeeds_41 (by decide) ?_
      exact jq1 (nI 0) (by
                  first
                    | exact bz_t (⟨h1, h10, h20, h31⟩)
                    | exact bz_f (fun q => h1 q.1)
                    | exact bz_f (fun q => h10 q.2.1)
                    | exact bz_f (fun q => h20 q.2.2.1)
                    | exact bz_f (fun q => h31 q.2.2.2))
  ·
    refine n_if_eq (tgt := 41) X dX4_setNeeds_4 (by decide) (by omega) (fun _ => ?_) (fun c4 => absurd c4 (by decide))
    refine z_iconst (v := nI 0) X dX4_setNeeds_41 (by decide) ?_
    exact jq1 (nI 0) (by
                  first
                    | exact bz_t (⟨h1, h10, h20, h31⟩)
                    | exact bz_f (fun q => h1 q.1)
                    | exact bz_f (fun q => h10 q.2.1)
                    | exact bz_f (fun q => h20 q.2.2.1)
                    | exact bz_f (fun q => h31 q.2.2.2))
set_option maxHeartbeats 4000000 in
set_option maxRecDepth 100000 in
theorem c_X4_bar (l : Launch) (D : va_G) (t : ClassId × ClassId × ClassId) (b : Nat → Nat) (S : zS) (g ca lw : Int32) : zM3 l yX4_bar cX4_bar 4 6 D t [.ref (b 0), .int g, .int ca, .int lw] (wM t b S) (fun u : zS => (∃ k, k < 8 ∧ g = nI k ∧ br1 g ca ∧ br2 ca lw ∧ u = brS (va_up S 23 (fun _ => nI 0)) k ca lw) ∨ (¬ br1 g ca ∧ u = va_up S 23 (fun _ => nI 1)) ∨ (br1 g ca ∧ ¬ br2 ca lw ∧ u = va_up S 23 (fun _ => nI 2))) (fun u => wM t b u) := by
  refine z_m3 (by decide +kernel) (Nat.le_of_ble_eq_true rfl) (by simp [Value.category]) ?_
  intro E X Z Y
  refine z_lv (lv' := [some (.ref (b 0)), some (.int g), some (.int ca), some (.int lw)]) rfl ?_
  refine z_aload_n X dX4_bar_0 rfl rfl ?_
  have jq1 : ∀ (q1 : Int32), bz q1 (br1 g ca) → Wz E 0 0 22 [some (.ref (b 0)), some (.int g), some (.int ca), some (.int lw)] [.int q1, .ref (b 0)] (wM t b S) := by
    intro q1 hjq1
    have jq2 : ∀ (q2 : Int32), bz q2 (br2 ca lw) → Wz E 0 0 42 [some (.ref (b 0)), some (.int g), some (.int ca), some (.int lw)] [.int q2, .int q1, .ref (b 0)] (wM t b S) := by
      intro q2 hjq2
      refine z_iconst (v := nI 1) X dX4_bar_42 (by decide) ?_
      refine z_callV2 (k := 0) (n := 0) (st := []) X Y aM_eq (c_X4_goes l D t b S q1 q2 (nI 1) (br1 g ca) (br2 ca lw) True hjq1 hjq2 (bz_t trivial)) k_X4_goes q_ml_X4_77 is19 (fun u => wM t b (va_up S 23 (fun _ => nI u))) (fun u => swM) ppM 0 4 rfl rfl (by decide) rfl rfl rfl (Nat.le_of_ble_eq_true rfl) ⟨Nat.zero_le _, Nat.zero_le _⟩ dX4_bar_43 (fun r43 u43 h43 => ?_)
      rcases h43 with ⟨rfl, rfl, g1, g2, g3⟩ | ⟨rfl, rfl, g1⟩ | ⟨rfl, rfl, g1, g2⟩ | ⟨rfl, rfl, g1, g2, g3⟩
      ·
        refine n_if_eq (tgt := 63) X dX4_bar_46 (by decide) (by omega) (fun c46 => absurd c46 (by decide)) (fun _ => ?_)
        obtain ⟨kg, hkg, rfl⟩ := g1.1
        refine z_aload_n X dX4_bar_49 rfl rfl ?_
        refine z_get X (C := RX4) (T := TX4) (N := 21) (ci := 4) (v := .ref (b 9)) inZ4 0 10 rfl rfl (by decide) q_fl_X4_34 rfl rfl dX4_bar_50 ?_
        refine z_iload_n X dX4_bar_53 rfl rfl ?_
        refine z_iload_n X dX4_bar_54 rfl rfl ?_
        refine n_iast X Y 9 aM_eq rfl (by omega) (by decide) dX4_bar_55 ?_
        refine Wz.eq (uM_5 (f := upd (S 5) kg ca)) ?_
        refine z_aload_n X dX4_bar_56 rfl rfl ?_
        refine z_get X (C := RX4) (T := TX4) (N := 21) (ci := 4) (v := .ref (b 10)) inZ4 0 11 rfl rfl (by decide) q_fl_X4_37 rfl rfl dX4_bar_57 ?_
        refine z_iload_n X dX4_bar_60 rfl rfl ?_
        refine z_iload_n X dX4_bar_61 rfl rfl ?_
        refine n_iast X Y 10 aM_eq rfl (by omega) (by decide) dX4_bar_62 ?_
        refine Wz.eq (uM_6 (f := upd (S 6) kg lw)) ?_
        refine z_vret X Z dX4_bar_63 ?_
        exact ⟨(va_up (va_up (va_up S 23 (fun _ => nI 0)) 5 (upd (S 5) kg ca)) 6 (upd (S 6) kg lw)), Or.inl ⟨kg, hkg, rfl, g1, g2, rfl⟩, fun q hq => hq⟩
      ·
        refine n_if_eq (tgt := 63) X dX4_bar_46 (by decide) (by omega) (fun _ => ?_) (fun c46 => absurd c46 (by decide))
        refine z_vret X Z dX4_bar_63 ?_
        exact ⟨(va_up S 23 (fun _ => nI 1)), Or.inr (Or.inl ⟨g1, rfl⟩), fun q hq => hq⟩
      ·
        refine n_if_eq (tgt := 63) X dX4_bar_46 (by decide) (by omega) (fun _ => ?_) (fun c46 => absurd c46 (by decide))
        refine z_vret X Z dX4_bar_63 ?_
        exact ⟨(va_up S 23 (fun _ => nI 2)), Or.inr (Or.inr ⟨g1, g2, rfl⟩), fun q hq => hq⟩
      ·
        exact absurd trivial g3
    refine z_iload_n X dX4_bar_22 rfl rfl ?_
    refine z_iconst (v := (-1)) X dX4_bar_23 (by decide) ?_
    refine z_icmp_eq (tgt := 37) X dX4_bar_24 (by decide) (fun c24 => ?_) (fun c24 => ?_)
    ·
      refine z_iconst (v := nI 1) X dX4_bar_37 (by decide) ?_
      refine z_goto (tgt := 42) X dX4_bar_38 (by decide) ?_
      exact jq2 (nI 1) (by
                    first
                      | exact bz_t (Or.inl c24)
                      | exact bz_t (Or.inr h31)
                      | exact bz_f (fun q => q.elim c24 h31))
    ·
      refine z_iload_n X dX4_bar_27 rfl rfl ?_
      refine z_iconst (v := nI 0) X dX4_bar_28 (by decide) ?_
      refine z_bipush (v := nI 7) X dX4_bar_29 (by decide) ?_
      refine z_callS1 (k := 0) (n := 0) (st := [.int q1, .ref (b 0)]) X (c_X4_in l D t lw (nI 0) (nI 7)) k_X4_in q_ml_X4_69 [] ⟨by decide, rfl⟩ (by decide) rfl rfl rfl (Nat.le_of_ble_eq_true rfl) ⟨Nat.zero_le _, Nat.zero_le _⟩ dX4_bar_31 (fun r31 h31 => ?_)
      rcases h31 with ⟨rfl, h31⟩ | ⟨rfl, h31⟩
      ·
        refine n_if_eq (tgt := 41) X dX4_bar_34 (by decide) (by omega) (fun c34 => absurd c34 (by decide)) (fun _ => ?_)
        refine z_iconst (v := nI 1) X dX4_bar_37 (by decide) ?_
        refine z_goto (tgt := 42) X dX4_bar_38 (by decide) ?_
        exact jq2 (nI 1) (by
                    first
                      | exact bz_t (Or.inl c24)
                      | exact bz_t (Or.inr h31)
                      | exact bz_f (fun q => q.elim c24 h31))
      ·
        refine n_if_eq (tgt := 41) X dX4_bar_34 (by decide) (by omega) (fun _ => ?_) (fun c34 => absurd c34 (by decide))
        refine z_iconst (v := nI 0) X dX4_bar_41 (by decide) ?_
        exact jq2 (nI 0) (by
                    first
                      | exact bz_t (Or.inl c24)
                      | exact bz_t (Or.inr h31)
                      | exact bz_f (fun q => q.elim c24 h31))
  refine z_iload_n X dX4_bar_1 rfl rfl ?_
  refine z_callS1 (k := 0) (n := 0) (st := [.ref (b 0)]) X (c_X4_isGift l D t g) k_X4_isGift q_ml_X4_73 [] ⟨by decide, rfl⟩ (by decide) rfl rfl rfl (Nat.le_of_ble_eq_true rfl) ⟨Nat.zero_le _, Nat.zero_le _⟩ dX4_bar_2 (fun r2 h2 => ?_)
  rcases h2 with ⟨rfl, h2⟩ | ⟨rfl, h2⟩
  ·
    refine n_if_eq (tgt := 21) X dX4_bar_5 (by decide) (by omega) (fun c5 => absurd c5 (by decide)) (fun _ => ?_)
    refine z_iload_n X dX4_bar_8 rfl rfl ?_
    refine z_iconst (v := (-1)) X dX4_bar_9 (by decide) ?_
    refine z_iconst (v := nI 2) X dX4_bar_10 (by decide) ?_
    refine z_callS1 (k := 0) (n := 0) (st := [.ref (b 0)]) X (c_X4_in l D t ca (-1) (nI 2)) k_X4_in q_ml_X4_69 [] ⟨by decide, rfl⟩ (by decide) rfl rfl rfl (Nat.le_of_ble_eq_true rfl) ⟨Nat.zero_le _, Nat.zero_le _⟩ dX4_bar_11 (fun r11 h11 => ?_)
    replace h11 := h11.iff (zo_in (by decide))
    rcases h11 with ⟨rfl, h11⟩ | ⟨rfl, h11⟩
    ·
      refine n_if_eq (tgt := 21) X dX4_bar_14 (by decide) (by omega) (fun c14 => absurd c14 (by decide)) (fun _ => ?_)
      refine z_iconst (v := nI 1) X dX4_bar_17 (by decide) ?_
      refine z_goto (tgt := 22) X dX4_bar_18 (by decide) ?_
      exact jq1 (nI 1) (by
                  first
                    | exact bz_t (⟨h2, h11⟩)
                    | exact bz_f (fun q => h2 q.1)
                    | exact bz_f (fun q => h11 q.2))
    ·
      refine n_if_eq (tgt := 21) X dX4_bar_14 (by decide) (by omega) (fun _ => ?_) (fun c14 => absurd c14 (by decide))
      refine z_iconst (v := nI 0) X dX4_bar_21 (by decide) ?_
      exact jq1 (nI 0) (by
                  first
                    | exact bz_t (⟨h2, h11⟩)
                    | exact bz_f (fun q => h2 q.1)
                    | exact bz_f (fun q => h11 q.2))
  ·
    refine n_if_eq (tgt := 21) X dX4_bar_5 (by decide) (by omega) (fun _ => ?_) (fun c5 => absurd c5 (by decide))
    refine z_iconst (v := nI 0) X dX4_bar_21 (by decide) ?_
    exact jq1 (nI 0) (by
                  first
                    | exact bz_t (⟨h2, h11⟩)
                    | exact bz_f (fun q => h2 q.1)
                    | exact bz_f (fun q => h11 q.2))
set_option maxHeartbeats 4000000 in
set_option maxRecDepth 100000 in
theorem c_X4_setBonus (l : Launch) (D : va_G) (t : ClassId × ClassId × ClassId) (b : Nat → Nat) (S : zS) (g v kd i : Int32) : zM3 l yX4_setBonus cX4_setBonus 5 6 D t [.ref (b 0), .int g, .int v, .int kd, .int i] (wM t b S) (fun u : zS => (∃ k j, k < 8 ∧ g = nI k ∧ j < 4 ∧ kd = nI j ∧ bo1 g v ∧ bo2 kd i ∧ u = boS (va_up S 23 (fun _ => nI 0)) k v (nI j) i) ∨ (¬ bo1 g v ∧ u = va_up S 23 (fun _ => nI 1)) ∨ (bo1 g v ∧ ¬ bo2 kd i ∧ u = va_up S 23 (fun _ => nI 2))) (fun u => wM t b u) := by
  refine z_m3 (by decide +kernel) (Nat.le_of_ble_eq_true rfl) (by simp [Value.category]) ?_
  intro E X Z Y
  refine z_lv (lv' := [some (.ref (b 0)), some (.int g), some (.int v), some (.int kd), some (.int i)]) rfl ?_
  refine z_aload_n X dX4_setBonus_0 rfl rfl ?_
  have jq1 : ∀ (q1 : Int32), bz q1 (bo1 g v) → Wz E 0 0 22 [some (.ref (b 0)), some (.int g), some (.int v), some (.int kd), some (.int i)] [.int q1, .ref (b 0)] (wM t b S) := by
    intro q1 hjq1
    have jq2 : ∀ (q2 : Int32), bz q2 (bo2 kd i) → Wz E 0 0 48 [some (.ref (b 0)), some (.int g), some (.int v), some (.int kd), some (.int i)] [.int q2, .int q1, .ref (b 0)] (wM t b S) := by
      intro q2 hjq2
      refine z_iconst (v := nI 1) X dX4_setBonus_48 (by decide) ?_
      refine z_callV2 (k := 0) (n := 0) (st := []) X Y aM_eq (c_X4_goes l D t b S q1 q2 (nI 1) (bo1 g v) (bo2 kd i) True hjq1 hjq2 (bz_t trivial)) k_X4_goes q_ml_X4_77 is19 (fun u => wM t b (va_up S 23 (fun _ => nI u))) (fun u => swM) ppM 0 4 rfl rfl (by decide) rfl rfl rfl (Nat.le_of_ble_eq_true rfl) ⟨Nat.zero_le _, Nat.zero_le _⟩ dX4_setBonus_49 (fun r49 u49 h49 => ?_)
      rcases h49 with ⟨rfl, rfl, g1, g2, g3⟩ | ⟨rfl, rfl, g1⟩ | ⟨rfl, rfl, g1, g2⟩ | ⟨rfl, rfl, g1, g2, g3⟩
      ·
        refine n_if_eq (tgt := 77) X dX4_setBonus_52 (by decide) (by omega) (fun c52 => absurd c52 (by decide)) (fun _ => ?_)
        obtain ⟨kg, hkg, rfl⟩ := g1.1
        obtain ⟨kkd, hkkd, rfl⟩ := g2.1
        refine z_aload_n X dX4_setBonus_55 rfl rfl ?_
        refine z_get X (C := RX4) (T := TX4) (N := 21) (ci := 4) (v := .ref (b 11)) inZ4 0 12 rfl rfl (by decide) q_fl_X4_40 rfl rfl dX4_setBonus_56 ?_
        refine z_iload_n X dX4_setBonus_59 rfl rfl ?_
        refine z_iload_n X dX4_setBonus_60 rfl rfl ?_
        refine n_iast X Y 11 aM_eq rfl (by omega) (by decide) dX4_setBonus_61 ?_
        refine Wz.eq (uM_7 (f := upd (S 7) kg v)) ?_
        refine z_aload_n X dX4_setBonus_62 rfl rfl ?_
        refine z_get X (C := RX4) (T := TX4) (N := 21) (ci := 4) (v := .ref (b 12)) inZ4 0 13 rfl rfl (by decide) q_fl_X4_43 rfl rfl dX4_setBonus_63 ?_
        refine z_iload_n X dX4_setBonus_66 rfl rfl ?_
        refine z_iload_n X dX4_setBonus_67 rfl rfl ?_
        refine n_iast X Y 12 aM_eq rfl (by omega) (by decide) dX4_setBonus_68 ?_
        refine Wz.eq (uM_8 (f := upd (S 8) kg (nI kkd))) ?_
        refine z_aload_n X dX4_setBonus_69 rfl rfl ?_
        refine z_get X (C := RX4) (T := TX4) (N := 21) (ci := 4) (v := .ref (b 13)) inZ4 0 14 rfl rfl (by decide) q_fl_X4_46 rfl rfl dX4_setBonus_70 ?_
        refine z_iload_n X dX4_setBonus_73 rfl rfl ?_
        refine z_iload X dX4_setBonus_74 rfl ?_
        refine n_iast X Y 13 aM_eq rfl (by omega) (by decide) dX4_setBonus_76 ?_
        refine Wz.eq (uM_9 (f := upd (S 9) kg i)) ?_
        refine z_vret X Z dX4_setBonus_77 ?_
        exact ⟨(va_up (va_up (va_up (va_up S 23 (fun _ => nI 0)) 7 (upd (S 7) kg v)) 8 (upd (S 8) kg (nI kkd))) 9 (upd (S 9) kg i)), Or.inl ⟨kg, kkd, hkg, rfl, hkkd, rfl, g1, g2, rfl⟩, fun q hq => hq⟩
      ·
        refine n_if_eq (tgt := 77) X dX4_setBonus_52 (by decide) (by omega) (fun _ => ?_) (fun c52 => absurd c52 (by decide))
        refine z_vret X Z dX4_setBonus_77 ?_
        exact ⟨(va_up S 23 (fun _ => nI 1)), Or.inr (Or.inl ⟨g1, rfl⟩), fun q hq => hq⟩
      ·
        refine n_if_eq (tgt := 77) X dX4_setBonus_52 (by decide) (by omega) (fun _ => ?_) (fun c52 => absurd c52 (by decide))
        refine z_vret X Z dX4_setBonus_77 ?_
        exact ⟨(va_up S 23 (fun _ => nI 2)), Or.inr (Or.inr ⟨g1, g2, rfl⟩), fun q hq => hq⟩
      ·
        exact absurd trivial g3
    refine z_iload_n X dX4_setBonus_22 rfl rfl ?_
    refine z_iconst (v := nI 0) X dX4_setBonus_23 (by decide) ?_
    refine z_iconst (v := nI 3) X dX4_setBonus_24 (by decide) ?_
    refine z_callS1 (k := 0) (n := 0) (st := [.int q1, .ref (b 0)]) X (c_X4_in l D t kd (nI 0) (nI 3)) k_X4_in q_ml_X4_69 [] ⟨by decide, rfl⟩ (by decide) rfl rfl rfl (Nat.le_of_ble_eq_true rfl) ⟨Nat.zero_le _, Nat.zero_le _⟩ dX4_setBonus_25 (fun r25 h25 => ?_)
    replace h25 := h25.iff (am_in (by decide))
    rcases h25 with ⟨rfl, h25⟩ | ⟨rfl, h25⟩
    ·
      refine n_if_eq (tgt := 47) X dX4_setBonus_28 (by decide) (by omega) (fun c28 => absurd c28 (by decide)) (fun _ => ?_)
      refine z_iload X dX4_setBonus_31 rfl ?_
      refine z_bipush (v := (-9)) X dX4_setBonus_33 (by decide) ?_
      refine z_bipush (v := nI 9) X dX4_setBonus_35 (by decide) ?_
      refine z_callS1 (k := 0) (n := 0) (st := [.int q1, .ref (b 0)]) X (c_X4_in l D t i (-9) (nI 9)) k_X4_in q_ml_X4_69 [] ⟨by decide, rfl⟩ (by decide) rfl rfl rfl (Nat.le_of_ble_eq_true rfl) ⟨Nat.zero_le _, Nat.zero_le _⟩ dX4_setBonus_37 (fun r37 h37 => ?_)
      rcases h37 with ⟨rfl, h37⟩ | ⟨rfl, h37⟩
      ·
        refine n_if_eq (tgt := 47) X dX4_setBonus_40 (by decide) (by omega) (fun c40 => absurd c40 (by decide)) (fun _ => ?_)
        refine z_iconst (v := nI 1) X dX4_setBonus_43 (by decide) ?_
        refine z_goto (tgt := 48) X dX4_setBonus_44 (by decide) ?_
        exact jq2 (nI 1) (by
                    first
                      | exact bz_t (⟨h25, h37⟩)
                      | exact bz_f (fun q => h25 q.1)
                      | exact bz_f (fun q => h37 q.2))
      ·
        refine n_if_eq (tgt := 47) X dX4_setBonus_40 (by decide) (by omega) (fun _ => ?_) (fun c40 => absurd c40 (by decide))
        refine z_iconst (v := nI 0) X dX4_setBonus_47 (by decide) ?_
        exact jq2 (nI 0) (by
                    first
                      | exact bz_t (⟨h25, h37⟩)
                      | exact bz_f (fun q => h25 q.1)
                      | exact bz_f (fun q => h37 q.2))
    ·
      refine n_if_eq (tgt := 47) X dX4_setBonus_28 (by decide) (by omega) (fun _ => ?_) (fun c28 => absurd c28 (by decide))
      refine z_iconst (v := nI 0) X dX4_setBonus_47 (by decide) ?_
      exact jq2 (nI 0) (by
                    first
                      | exact bz_t (⟨h25, h37⟩)
                      | exact bz_f (fun q => h25 q.1)
                      | exact bz_f (fun q => h37 q.2))
  refine z_iload_n X dX4_setBonus_1 rfl rfl ?_
  refine z_callS1 (k := 0) (n := 0) (st := [.ref (b 0)]) X (c_X4_isGift l D t g) k_X4_isGift q_ml_X4_73 [] ⟨by decide, rfl⟩ (by decide) rfl rfl rfl (Nat.le_of_ble_eq_true rfl) ⟨Nat.zero_le _, Nat.zero_le _⟩ dX4_setBonus_2 (fun r2 h2 => ?_)
  rcases h2 with ⟨rfl, h2⟩ | ⟨rfl, h2⟩
  ·
    refine n_if_eq (tgt := 21) X dX4_setBonus_5 (by decide) (by omega) (fun c5 => absurd c5 (by decide)) (fun _ => ?_)
    refine z_iload_n X dX4_setBonus_8 rfl rfl ?_
    refine z_iconst (v := (-1)) X dX4_setBonus_9 (by decide) ?_
    refine z_iconst (v := nI 5) X dX4_setBonus_10 (by decide) ?_
    refine z_callS1 (k := 0) (n := 0) (st := [.ref (b 0)]) X (c_X4_in l D t v (-1) (nI 5)) k_X4_in q_ml_X4_69 [] ⟨by decide, rfl⟩ (by decide) rfl rfl rfl (Nat.le_of_ble_eq_true rfl) ⟨Nat.zero_le _, Nat.zero_le _⟩ dX4_setBonus_11 (fun r11 h11 => ?_)
    replace h11 := h11.iff (zo_in (by decide))
    rcases h11 with ⟨rfl, h11⟩ | ⟨rfl, h11⟩
    ·
      refine n_if_eq (tgt := 21) X dX4_setBonus_14 (by decide) (by omega) (fun c14 => absurd c14 (by decide)) (fun _ => ?_)
      refine z_iconst (v := nI 1) X dX4_setBonus_17 (by decide) ?_
      refine z_goto (tgt := 22) X dX4_setBonus_18 (by decide) ?_
      exact jq1 (nI 1) (by
                  first
                    | exact bz_t (⟨h2, h11⟩)
                    | exact bz_f (fun q => h2 q.1)
                    | exact bz_f (fun q => h11 q.2))
    ·
      refine n_if_eq (tgt := 21) X dX4_setBonus_14 (by decide) (by omega) (fun _ => ?_) (fun c14 => absurd c14 (by decide))
      refine z_iconst (v := nI 0) X dX4_setBonus_21 (by decide) ?_
      exact jq1 (nI 0) (by
                  first
                    | exact bz_t (⟨h2, h11⟩)
                    | exact bz_f (fun q => h2 q.1)
                    | exact bz_f (fun q => h11 q.2))
  ·
    refine n_if_eq (tgt := 21) X dX4_setBonus_5 (by decide) (by omega) (fun _ => ?_) (fun c5 => absurd c5 (by decide))
    refine z_iconst (v := nI 0) X dX4_setBonus_21 (by decide) ?_
    exact jq1 (nI 0) (by
                  first
                    | exact bz_t (⟨h2, h11⟩)
                    | exact bz_f (fun q => h2 q.1)
                    | exact bz_f (fun q => h11 q.2))
set_option maxHeartbeats 4000000 in
set_option maxRecDepth 100000 in
theorem c_X4_setValue (l : Launch) (D : va_G) (t : ClassId × ClassId × ClassId) (b : Nat → Nat) (S : zS) (v i ab ca ot : Int32) : zM3 l yX4_setValue cX4_setValue 7 6 D t [.ref (b 0), .int v, .int i, .int ab, .int ca, .int ot] (wM t b S) (fun u : zS => (∃ k, k < 6 ∧ v = nI k ∧ va1 v ab ca ot ∧ va2 i ∧ u = vaS (va_up S 23 (fun _ => nI 0)) k i ab ca ot) ∨ (¬ va1 v ab ca ot ∧ u = va_up S 23 (fun _ => nI 1)) ∨ (va1 v ab ca ot ∧ ¬ va2 i ∧ u = va_up S 23 (fun _ => nI 2))) (fun u => wM t b u) := by
  refine z_m3 (by decide +kernel) (Nat.le_of_ble_eq_true rfl) (by simp [Value.category]) ?_
  intro E X Z Y
  refine z_lv (lv' := [some (.ref (b 0)), some (.int v), some (.int i), some (.int ab), some (.int ca), some (.int ot), none]) rfl ?_
  have jq1 : ∀ (q1 : Int32), bz q1 (va1 v ab ca ot) → Wz E 0 0 41 [some (.ref (b 0)), some (.int v), some (.int i), some (.int ab), some (.int ca), some (.int ot), none] [.int q1] (wM t b S) := by
    intro q1 hjq1
    refine z_istore X dX4_setValue_41 (Nat.le_of_ble_eq_true rfl) ?_
    refine z_lv (lv' := [some (.ref (b 0)), some (.int v), some (.int i), some (.int ab), some (.int ca), some (.int ot), some (.int q1)]) rfl ?_
    refine z_aload_n X dX4_setValue_43 rfl rfl ?_
    refine z_iload X dX4_setValue_44 rfl ?_
    refine z_iload_n X dX4_setValue_46 rfl rfl ?_
    refine z_bipush (v := (-50)) X dX4_setValue_47 (by decide) ?_
    refine z_bipush (v := nI 50) X dX4_setValue_49 (by decide) ?_
    refine z_callS1 (k := 0) (n := 0) (st := [.int q1, .ref (b 0)]) X (c_X4_in l D t i (-50) (nI 50)) k_X4_in q_ml_X4_69 [] ⟨by decide, rfl⟩ (by decide) rfl rfl rfl (Nat.le_of_ble_eq_true rfl) ⟨Nat.zero_le _, Nat.zero_le _⟩ dX4_setValue_51 (fun r51 h51 => ?_)
    refine z_iconst (v := nI 1) X dX4_setValue_54 (by decide) ?_
    refine z_callV2 (k := 0) (n := 0) (st := []) X Y aM_eq (c_X4_goes l D t b S q1 r51 (nI 1) (va1 v ab ca ot) (va2 i) True hjq1 h51 (bz_t trivial)) k_X4_goes q_ml_X4_77 is19 (fun u => wM t b (va_up S 23 (fun _ => nI u))) (fun u => swM) ppM 0 4 rfl rfl (by decide) rfl rfl rfl (Nat.le_of_ble_eq_true rfl) ⟨Nat.zero_le _, Nat.zero_le _⟩ dX4_setValue_55 (fun r55 u55 h55 => ?_)
    rcases h55 with ⟨rfl, rfl, g1, g2, g3⟩ | ⟨rfl, rfl, g1⟩ | ⟨rfl, rfl, g1, g2⟩ | ⟨rfl, rfl, g1, g2, g3⟩
    ·
      refine n_if_eq (tgt := 91) X dX4_setValue_58 (by decide) (by omega) (fun c58 => absurd c58 (by decide)) (fun _ => ?_)
      obtain ⟨kv, hkv, rfl⟩ := g1.1
      refine z_aload_n X dX4_setValue_61 rfl rfl ?_
      refine z_get X (C := RX4) (T := TX4) (N := 21) (ci := 4) (v := .ref (b 14)) inZ4 0 15 rfl rfl (by decide) q_fl_X4_49 rfl rfl dX4_setValue_62 ?_
      refine z_iload_n X dX4_setValue_65 rfl rfl ?_
      refine z_iload_n X dX4_setValue_66 rfl rfl ?_
      refine n_iast X Y 14 aM_eq rfl (by omega) (by decide) dX4_setValue_67 ?_
      refine Wz.eq (uM_10 (f := upd (S 10) kv i)) ?_
      refine z_aload_n X dX4_setValue_68 rfl rfl ?_
      refine z_get X (C := RX4) (T := TX4) (N := 21) (ci := 4) (v := .ref (b 15)) inZ4 0 16 rfl rfl (by decide) q_fl_X4_52 rfl rfl dX4_setValue_69 ?_
      refine z_iload_n X dX4_setValue_72 rfl rfl ?_
      refine z_iload_n X dX4_setValue_73 rfl rfl ?_
      refine n_iast X Y 15 aM_eq rfl (by omega) (by decide) dX4_setValue_74 ?_
      refine Wz.eq (uM_11 (f := upd (S 11) kv ab)) ?_
      refine z_aload_n X dX4_setValue_75 rfl rfl ?_
      refine z_get X (C := RX4) (T := TX4) (N := 21) (ci := 4) (v := .ref (b 16)) inZ4 0 17 rfl rfl (by decide) q_fl_X4_55 rfl rfl dX4_setValue_76 ?_
      refine z_iload_n X dX4_setValue_79 rfl rfl ?_
      refine z_iload X dX4_setValue_80 rfl ?_
      refine n_iast X Y 16 aM_eq rfl (by omega) (by decide) dX4_setValue_82 ?_
      refine Wz.eq (uM_12 (f := upd (S 12) kv ca)) ?_
      refine z_aload_n X dX4_setValue_83 rfl rfl ?_
      refine z_get X (C := RX4) (T := TX4) (N := 21) (ci := 4) (v := .ref (b 17)) inZ4 0 18 rfl rfl (by decide) q_fl_X4_58 rfl rfl dX4_setValue_84 ?_
      refine z_iload_n X dX4_setValue_87 rfl rfl ?_
      refine z_iload X dX4_setValue_88 rfl ?_
      refine n_iast X Y 17 aM_eq rfl (by omega) (by decide) dX4_setValue_90 ?_
      refine Wz.eq (uM_13 (f := upd (S 13) kv ot)) ?_
      refine z_vret X Z dX4_setValue_91 ?_
      exact ⟨(va_up (va_up (va_up (va_up (va_up S 23 (fun _ => nI 0)) 10 (upd (S 10) kv i)) 11 (upd (S 11) kv ab)) 12 (upd (S 12) kv ca)) 13 (upd (S 13) kv ot)), Or.inl ⟨kv, hkv, rfl, g1, g2, rfl⟩, fun q hq => hq⟩
    ·
      refine n_if_eq (tgt := 91) X dX4_setValue_58 (by decide) (by omega) (fun _ => ?_) (fun c58 => absurd c58 (by decide))
      refine z_vret X Z dX4_setValue_91 ?_
      exact ⟨(va_up S 23 (fun _ => nI 1)), Or.inr (Or.inl ⟨g1, rfl⟩), fun q hq => hq⟩
    ·
      refine n_if_eq (tgt := 91) X dX4_setValue_58 (by decide) (by omega) (fun _ => ?_) (fun c58 => absurd c58 (by decide))
      refine z_vret X Z dX4_setValue_91 ?_
      exact ⟨(va_up S 23 (fun _ => nI 2)), Or.inr (Or.inr ⟨g1, g2, rfl⟩), fun q hq => hq⟩
    ·
      exact absurd trivial g3
  refine z_iload_n X dX4_setValue_0 rfl rfl ?_
  refine z_callS1 (k := 0) (n := 0) (st := []) X (c_X4_isValue l D t v) k_X4_isValue q_ml_X4_81 [] ⟨by decide, rfl⟩ (by decide) rfl rfl rfl (Nat.le_of_ble_eq_true rfl) ⟨Nat.zero_le _, Nat.zero_le _⟩ dX4_setValue_1 (fun r1 h1 => ?_)
  rcases h1 with ⟨rfl, h1⟩ | ⟨rfl, h1⟩
  ·
    refine n_if_eq (tgt := 40) X dX4_setValue_4 (by decide) (by omega) (fun c4 => absurd c4 (by decide)) (fun _ => ?_)
    refine z_iload_n X dX4_setValue_7 rfl rfl ?_
    refine z_iconst (v := (-1)) X dX4_setValue_8 (by decide) ?_
    refine z_iconst (v := nI 3) X dX4_setValue_9 (by decide) ?_
    refine z_callS1 (k := 0) (n := 0) (st := []) X (c_X4_in l D t ab (-1) (nI 3)) k_X4_in q_ml_X4_69 [] ⟨by decide, rfl⟩ (by decide) rfl rfl rfl (Nat.le_of_ble_eq_true rfl) ⟨Nat.zero_le _, Nat.zero_le _⟩ dX4_setValue_10 (fun r10 h10 => ?_)
    replace h10 := h10.iff (zo_in (by decide))
    rcases h10 with ⟨rfl, h10⟩ | ⟨rfl, h10⟩
    ·
      refine n_if_eq (tgt := 40) X dX4_setValue_13 (by decide) (by omega) (fun c13 => absurd c13 (by decide)) (fun _ => ?_)
      refine z_iload X dX4_setValue_16 rfl ?_
      refine z_iconst (v := (-1)) X dX4_setValue_18 (by decide) ?_
      refine z_iconst (v := nI 2) X dX4_setValue_19 (by decide) ?_
      refine z_callS1 (k := 0) (n := 0) (st := []) X (c_X4_in l D t ca (-1) (nI 2)) k_X4_in q_ml_X4_69 [] ⟨by decide, rfl⟩ (by decide) rfl rfl rfl (Nat.le_of_ble_eq_true rfl) ⟨Nat.zero_le _, Nat.zero_le _⟩ dX4_setValue_20 (fun r20 h20 => ?_)
      replace h20 := h20.iff (zo_in (by decide))
      rcases h20 with ⟨rfl, h20⟩ | ⟨rfl, h20⟩
      ·
        refine n_if_eq (tgt := 40) X dX4_setValue_23 (by decide) (by omega) (fun c23 => absurd c23 (by decide)) (fun _ => ?_)
        refine z_iload X dX4_setValue_26 rfl ?_
        refine z_iconst (v := (-1)) X dX4_setValue_28 (by decide) ?_
        refine z_iconst (v := nI 5) X dX4_setValue_29 (by decide) ?_
        refine z_callS1 (k := 0) (n := 0) (st := []) X (c_X4_in l D t ot (-1) (nI 5)) k_X4_in q_ml_X4_69 [] ⟨by decide, rfl⟩ (by decide) rfl rfl rfl (Nat.le_of_ble_eq_true rfl) ⟨Nat.zero_le _, Nat.zero_le _⟩ dX4_setValue_30 (fun r30 h30 => ?_)
        replace h30 := h30.iff (zo_in (by decide))
        rcases h30 with ⟨rfl, h30⟩ | ⟨rfl, h30⟩
        ·
          refine n_if_eq (tgt := 40) X dX4_setValue_33 (by decide) (by omega) (fun c33 => absurd c33 (by decide)) (fun _ => ?_)
          refine z_iconst (v := nI 1) X dX4_setValue_36 (by decide) ?_
          refine z_goto (tgt := 41) X dX4_setValue_37 (by decide) ?_
          exact jq1 (nI 1) (by
                  first
                    | exact bz_t (⟨h1, h10, h20, h30⟩)
                    | exact bz_f (fun q => h1 q.1)
                    | exact bz_f (fun q => h10 q.2.1)
                    | exact bz_f (fun q => h20 q.2.2.1)
                    | exact bz_f (fun q => h30 q.2.2.2))
        ·
          refine n_if_eq (tgt := 40) X dX4_setValue_33 (by decide) (by omega) (fun _ => ?_) (fun c33 => absurd c33 (by decide))
          refine z_iconst (v := nI 0) X dX4_setValue_40 (by decide) ?_
          exact jq1 (nI 0) (by
                  first
                    | exact bz_t (⟨h1, h10, h20, h30⟩)
                    | exact bz_f (fun q => h1 q.1)
                    | exact bz_f (fun q => h10 q.2.1)
                    | exact bz_f (fun q => h20 q.2.2.1)
                    | exact bz_f (fun q => h30 q.2.2.2))
      ·
        refine n_if_eq (tgt := 40) X dX4_setValue_23 (by decide) (by omega) (fun _ => ?_) (fun c23 => absurd c23 (by decide))
        refine z_iconst (v := nI 0) X dX4_setValue_40 (by decide) ?_
        exact jq1 (nI 0) (by
                  first
                    | exact bz_t (⟨h1, h10, h20, h30⟩)
                    | exact bz_f (fun q => h1 q.1)
                    | exact bz_f (fun q => h10 q.2.1)
                    | exact bz_f (fun q => h20 q.2.2.1)
                    | exact bz_f (fun q => h30 q.2.2.2))
    ·
      refine n_if_eq (tgt := 40) X dX4_setValue_13 (by decide) (by omega) (fun _ => ?_) (fun c13 => absurd c13 (by decide))
      refine z_iconst (v := nI 0) X dX4_setValue_40 (by decide) ?_
      exact jq1 (nI 0) (by
                  first
                    | exact bz_t (⟨h1, h10, h20, h30⟩)
                    | exact bz_f (fun q => h1 q.1)
                    | exact bz_f (fun q => h10 q.2.1)
                    | exact bz_f (fun q => h20 q.2.2.1)
                    | exact bz_f (fun q => h30 q.2.2.2))
  ·
    refine n_if_eq (tgt := 40) X dX4_setValue_4 (by decide) (by omega) (fun _ => ?_) (fun c4 => absurd c4 (by decide))
    refine z_iconst (v := nI 0) X dX4_setValue_40 (by decide) ?_
    exact jq1 (nI 0) (by
                  first
                    | exact bz_t (⟨h1, h10, h20, h30⟩)
                    | exact bz_f (fun q => h1 q.1)
                    | exact bz_f (fun q => h10 q.2.1)
                    | exact bz_f (fun q => h20 q.2.2.1)
                    | exact bz_f (fun q => h30 q.2.2.2))
theorem zSc_up {S : zS} {sc : Nat → Nat} {k j : Nat} (h : zSc S sc) (h8 : 8 ≤ j) (h16 : j ≤ 16) : zSc (va_up S 14 (upd (S 14) k (nI j))) (scU sc k j) := by
  intro i hi
  rw [va_up_self]
  unfold upd scU
  by_cases e : i = k
  · rw [if_pos e, if_pos e]; exact ⟨rfl, h8, h16⟩
  · rw [if_neg e, if_neg e]; exact h i hi
theorem zSc_23 {S : zS} {sc : Nat → Nat} {f : Nat → Int32} (h : zSc S sc) : zSc (va_up S 23 f) sc := h
set_option maxHeartbeats 4000000 in
set_option maxRecDepth 100000 in
theorem c_X4_setScore (l : Launch) (D : va_G) (t : ClassId × ClassId × ClassId) (b : Nat → Nat) (S : zS) (sc : Nat → Nat) (ab v : Int32) (hsc : zSc S sc) (hc : cs4 sc ≤ 20) : zM2 l yX4_setScore cX4_setScore 5 (some .int) 6 D t [.ref (b 0), .int ab, .int v] (wM t b S) (fun r (u : zS) => (∃ k j, k < 4 ∧ ab = nI k ∧ 8 ≤ j ∧ j ≤ 16 ∧ v = nI j ∧ cs4 (scU sc k j) ≤ 20 ∧ r = nI (20 - cs4 (scU sc k j)) ∧ u = va_up (va_up S 23 (fun _ => nI 0)) 14 (upd (S 14) k (nI j))) ∨ (¬ am ab 4 ∧ u = va_up S 23 (fun _ => nI 1)) ∨ (am ab 4 ∧ ¬ rg v (nI 8) (nI 16) ∧ u = va_up S 23 (fun _ => nI 2)) ∨ ((∃ k j, k < 4 ∧ ab = nI k ∧ 8 ≤ j ∧ j ≤ 16 ∧ v = nI j ∧ 20 < cs4 (scU sc k j)) ∧ u = va_up S 23 (fun _ => nI 3))) (fun u => wM t b u) := by
  refine z_m2 (by decide +kernel) (Nat.le_of_ble_eq_true rfl) (by simp [Value.category]) ?_
  intro E X Z Y
  refine z_lv (lv' := [some (.ref (b 0)), some (.int ab), some (.int v), none, none]) rfl ?_
  refine z_iload_n X dX4_setScore_0 rfl rfl ?_
  refine z_iconst (v := nI 0) X dX4_setScore_1 (by decide) ?_
  refine z_iconst (v := nI 3) X dX4_setScore_2 (by decide) ?_
  refine z_callS1 (k := 0) (n := 0) (st := []) X (c_X4_in l D t ab (nI 0) (nI 3)) k_X4_in q_ml_X4_69 [] ⟨by decide, rfl⟩ (by decide) rfl rfl rfl (Nat.le_of_ble_eq_true rfl) ⟨Nat.zero_le _, Nat.zero_le _⟩ dX4_setScore_3 (fun r3 h3 => ?_)
  replace h3 := h3.iff (am_in (by decide))
  rcases h3 with ⟨rfl, kab, hkab, rfl⟩ | ⟨rfl, h3⟩
  ·
    refine z_istore_n X dX4_setScore_6 rfl (Nat.le_of_ble_eq_true rfl) ?_
    refine z_lv (lv' := [some (.ref (b 0)), some (.int (nI kab)), some (.int v), some (.int (nI 1)), none]) rfl ?_
    refine z_iload_n X dX4_setScore_7 rfl rfl ?_
    refine z_bipush (v := nI 8) X dX4_setScore_8 (by decide) ?_
    refine z_bipush (v := nI 16) X dX4_setScore_10 (by decide) ?_
    refine z_callS1 (k := 0) (n := 0) (st := []) X (c_X4_in l D t v (nI 8) (nI 16)) k_X4_in q_ml_X4_69 [] ⟨by decide, rfl⟩ (by decide) rfl rfl rfl (Nat.le_of_ble_eq_true rfl) ⟨Nat.zero_le _, Nat.zero_le _⟩ dX4_setScore_12 (fun r12 h12 => ?_)
    rcases h12 with ⟨rfl, h12⟩ | ⟨rfl, h12⟩
    ·
      obtain ⟨j, hj8, hj16, rfl⟩ := rg_nI (by decide) (by decide) h12
      have hcj := cst_le hj16
      refine z_istore X dX4_setScore_15 (Nat.le_of_ble_eq_true rfl) ?_
      refine z_lv (lv' := [some (.ref (b 0)), some (.int (nI kab)), some (.int (nI j)), some (.int (nI 1)), some (.int (nI 1))]) rfl ?_
      refine z_aload_n X dX4_setScore_17 rfl rfl ?_
      refine z_iload_n X dX4_setScore_18 rfl rfl ?_
      refine z_iload X dX4_setScore_19 rfl ?_
      refine z_iload_n X dX4_setScore_21 rfl rfl ?_
      refine n_if_eq (tgt := 58) X dX4_setScore_22 (by decide) (by omega) (fun c22 => absurd c22 (by decide)) (fun _ => ?_)
      refine z_iload X dX4_setScore_25 rfl ?_
      refine n_if_eq (tgt := 58) X dX4_setScore_27 (by decide) (by omega) (fun c27 => absurd c27 (by decide)) (fun _ => ?_)
      obtain ⟨e9, l9, u9⟩ := hsc kab hkab
      have hck := cst_le u9
      have hcu := scU_cs (sc := sc) (j := j) hkab
      have hc1 := cs_one (sc := sc) hkab
      refine z_aload_n X dX4_setScore_30 rfl rfl ?_
      refine z_callV1 (k := 0) (n := 0) (st := [.int (nI 1), .int (nI 1), .ref (b 0)]) X (c_X4_cost l D t b S sc hsc) k_X4_cost q_ml_X4_88 is19 ⟨by decide, rfl⟩ 0 4 rfl rfl (by decide) rfl rfl rfl (Nat.le_of_ble_eq_true rfl) ⟨Nat.zero_le _, Nat.zero_le _⟩ dX4_setScore_31 (fun r31 h31 => ?_)
      subst h31
      refine z_aload_n X dX4_setScore_34 rfl rfl ?_
      refine z_get X (C := RX4) (T := TX4) (N := 21) (ci := 4) (v := .ref (b 1)) inZ4 0 0 rfl rfl (by decide) q_fl_X4_7 rfl rfl dX4_setScore_35 ?_
      refine z_iload_n X dX4_setScore_38 rfl rfl ?_
      refine n_iald (f := S 14) X 1 rfl (by omega) (by decide) dX4_setScore_39 ?_
      refine z_top (y := nI (sc kab)) (e9) ?_
      refine z_callS1 (k := 0) (n := 0) (st := [.int (nI (cs4 sc)), .int (nI 1), .int (nI 1), .ref (b 0)]) X (c_X4_costOf l D t (sc kab) (by omega) (by omega)) k_X4_costOf q_ml_X4_84 [] ⟨by decide, rfl⟩ (by decide) rfl rfl rfl (Nat.le_of_ble_eq_true rfl) ⟨Nat.zero_le _, Nat.zero_le _⟩ dX4_setScore_40 (fun r40 h40 => ?_)
      subst h40
      refine n_isub X dX4_setScore_43 (by omega) ?_
      refine z_iload_n X dX4_setScore_44 rfl rfl ?_
      refine z_callS1 (k := 0) (n := 0) (st := [.int (nI ((cs4 sc) - (cst (sc kab)))), .int (nI 1), .int (nI 1), .ref (b 0)]) X (c_X4_costOf l D t j (by omega) (by omega)) k_X4_costOf q_ml_X4_84 [] ⟨by decide, rfl⟩ (by decide) rfl rfl rfl (Nat.le_of_ble_eq_true rfl) ⟨Nat.zero_le _, Nat.zero_le _⟩ dX4_setScore_45 (fun r45 h45 => ?_)
      subst h45
      refine n_iadd X dX4_setScore_48 ?_
      refine z_bipush (v := nI 20) X dX4_setScore_49 (by decide) ?_
      refine n_icmp_gt (tgt := 58) X dX4_setScore_51 (by decide) (by omega) (by omega) (fun c51 => ?_) (fun c51 => ?_)
      ·
        refine z_iconst (v := nI 0) X dX4_setScore_58 (by decide) ?_
        refine z_callV2 (k := 0) (n := 0) (st := []) X Y aM_eq (c_X4_goes l D t b S (nI 1) (nI 1) (nI 0) True True False (bz_t trivial) (bz_t trivial) (bz_f id)) k_X4_goes q_ml_X4_77 is19 (fun u => wM t b (va_up S 23 (fun _ => nI u))) (fun u => swM) ppM 0 4 rfl rfl (by decide) rfl rfl rfl (Nat.le_of_ble_eq_true rfl) ⟨Nat.zero_le _, Nat.zero_le _⟩ dX4_setScore_59 (fun r59 u59 h59 => ?_)
        rcases h59 with ⟨rfl, rfl, g1, g2, g3⟩ | ⟨rfl, rfl, g1⟩ | ⟨rfl, rfl, g1, g2⟩ | ⟨rfl, rfl, g1, g2, g3⟩
        ·
          exact g3.elim
        ·
          exact absurd trivial g1
        ·
          exact absurd trivial g2
        ·
          refine n_if_ne (tgt := 67) X dX4_setScore_62 (by decide) (by omega) (fun c62 => absurd c62 (by decide)) (fun _ => ?_)
          refine z_iconst (v := nI 0) X dX4_setScore_65 (by decide) ?_
          refine z_iret X Z rfl dX4_setScore_66 ?_
          exact ⟨(va_up S 23 (fun _ => nI 3)), Or.inr (Or.inr (Or.inr ⟨⟨kab, j, hkab, rfl, hj8, hj16, rfl, by omega⟩, rfl⟩)), fun q hq => hq⟩
      ·
        refine z_iconst (v := nI 1) X dX4_setScore_54 (by decide) ?_
        refine z_goto (tgt := 59) X dX4_setScore_55 (by decide) ?_
        refine z_callV2 (k := 0) (n := 0) (st := []) X Y aM_eq (c_X4_goes l D t b S (nI 1) (nI 1) (nI 1) True True True (bz_t trivial) (bz_t trivial) (bz_t trivial)) k_X4_goes q_ml_X4_77 is19 (fun u => wM t b (va_up S 23 (fun _ => nI u))) (fun u => swM) ppM 0 4 rfl rfl (by decide) rfl rfl rfl (Nat.le_of_ble_eq_true rfl) ⟨Nat.zero_le _, Nat.zero_le _⟩ dX4_setScore_59 (fun r59 u59 h59 => ?_)
        rcases h59 with ⟨rfl, rfl, g1, g2, g3⟩ | ⟨rfl, rfl, g1⟩ | ⟨rfl, rfl, g1, g2⟩ | ⟨rfl, rfl, g1, g2, g3⟩
        ·
          refine n_if_ne (tgt := 67) X dX4_setScore_62 (by decide) (by omega) (fun _ => ?_) (fun c62 => absurd c62 (by decide))
          refine z_aload_n X dX4_setScore_67 rfl rfl ?_
          refine z_get X (C := RX4) (T := TX4) (N := 21) (ci := 4) (v := .ref (b 1)) inZ4 0 0 rfl rfl (by decide) q_fl_X4_7 rfl rfl dX4_setScore_68 ?_
          refine z_iload_n X dX4_setScore_71 rfl rfl ?_
          refine z_iload_n X dX4_setScore_72 rfl rfl ?_
          refine n_iast X Y 1 aM_eq rfl (by omega) (by decide) dX4_setScore_73 ?_
          refine Wz.eq (uM_14 (f := upd (S 14) kab (nI j))) ?_
          refine z_bipush (v := nI 20) X dX4_setScore_74 (by decide) ?_
          have hle : cs4 (scU sc kab j) ≤ 20 := by omega
          refine z_aload_n X dX4_setScore_76 rfl rfl ?_
          refine z_callV1 (k := 0) (n := 0) (st := [.int (nI 20)]) X (c_X4_cost l D t b (va_up (va_up S 23 (fun _ => nI 0)) 14 (upd (S 14) kab (nI j))) (scU sc kab j) (zSc_up (zSc_23 hsc) hj8 hj16)) k_X4_cost q_ml_X4_88 is19 ⟨by decide, rfl⟩ 0 4 rfl rfl (by decide) rfl rfl rfl (Nat.le_of_ble_eq_true rfl) ⟨Nat.zero_le _, Nat.zero_le _⟩ dX4_setScore_77 (fun r77 h77 => ?_)
          subst h77
          refine n_isub X dX4_setScore_80 (by omega) ?_
          refine z_iret X Z rfl dX4_setScore_81 ?_
          exact ⟨(va_up (va_up S 23 (fun _ => nI 0)) 14 (upd (S 14) kab (nI j))), Or.inl ⟨kab, j, hkab, rfl, hj8, hj16, rfl, hle, rfl, rfl⟩, fun q hq => hq⟩
        ·
          exact absurd trivial g1
        ·
          exact absurd trivial g2
        ·
          exact absurd trivial g3
    ·
      refine z_istore X dX4_setScore_15 (Nat.le_of_ble_eq_true rfl) ?_
      refine z_lv (lv' := [some (.ref (b 0)), some (.int (nI kab)), some (.int v), some (.int (nI 1)), some (.int (nI 0))]) rfl ?_
      refine z_aload_n X dX4_setScore_17 rfl rfl ?_
      refine z_iload_n X dX4_setScore_18 rfl rfl ?_
      refine z_iload X dX4_setScore_19 rfl ?_
      refine z_iload_n X dX4_setScore_21 rfl rfl ?_
      refine n_if_eq (tgt := 58) X dX4_setScore_22 (by decide) (by omega) (fun c22 => absurd c22 (by decide)) (fun _ => ?_)
      refine z_iload X dX4_setScore_25 rfl ?_
      refine n_if_eq (tgt := 58) X dX4_setScore_27 (by decide) (by omega) (fun _ => ?_) (fun c27 => absurd c27 (by decide))
      refine z_iconst (v := nI 0) X dX4_setScore_58 (by decide) ?_
      refine z_callV2 (k := 0) (n := 0) (st := []) X Y aM_eq (c_X4_goes l D t b S (nI 1) (nI 0) (nI 0) True False False (bz_t trivial) (bz_f id) (bz_f id)) k_X4_goes q_ml_X4_77 is19 (fun u => wM t b (va_up S 23 (fun _ => nI u))) (fun u => swM) ppM 0 4 rfl rfl (by decide) rfl rfl rfl (Nat.le_of_ble_eq_true rfl) ⟨Nat.zero_le _, Nat.zero_le _⟩ dX4_setScore_59 (fun r59 u59 h59 => ?_)
      rcases h59 with ⟨rfl, rfl, g1, g2, g3⟩ | ⟨rfl, rfl, g1⟩ | ⟨rfl, rfl, g1, g2⟩ | ⟨rfl, rfl, g1, g2, g3⟩
      ·
        exact g3.elim
      ·
        exact absurd trivial g1
      ·
        refine n_if_ne (tgt := 67) X dX4_setScore_62 (by decide) (by omega) (fun c62 => absurd c62 (by decide)) (fun _ => ?_)
        refine z_iconst (v := nI 0) X dX4_setScore_65 (by decide) ?_
        refine z_iret X Z rfl dX4_setScore_66 ?_
        exact ⟨(va_up S 23 (fun _ => nI 2)), Or.inr (Or.inr (Or.inl ⟨⟨kab, hkab, rfl⟩, h12, rfl⟩)), fun q hq => hq⟩
      ·
        exact g2.elim
  ·
    refine z_istore_n X dX4_setScore_6 rfl (Nat.le_of_ble_eq_true rfl) ?_
    refine z_lv (lv' := [some (.ref (b 0)), some (.int ab), some (.int v), some (.int (nI 0)), none]) rfl ?_
    refine z_iload_n X dX4_setScore_7 rfl rfl ?_
    refine z_bipush (v := nI 8) X dX4_setScore_8 (by decide) ?_
    refine z_bipush (v := nI 16) X dX4_setScore_10 (by decide) ?_
    refine z_callS1 (k := 0) (n := 0) (st := []) X (c_X4_in l D t v (nI 8) (nI 16)) k_X4_in q_ml_X4_69 [] ⟨by decide, rfl⟩ (by decide) rfl rfl rfl (Nat.le_of_ble_eq_true rfl) ⟨Nat.zero_le _, Nat.zero_le _⟩ dX4_setScore_12 (fun r12 h12 => ?_)
    rcases h12 with ⟨rfl, h12⟩ | ⟨rfl, h12⟩
    ·
      obtain ⟨j, hj8, hj16, rfl⟩ := rg_nI (by decide) (by decide) h12
      have hcj := cst_le hj16
      refine z_istore X dX4_setScore_15 (Nat.le_of_ble_eq_true rfl) ?_
      refine z_lv (lv' := [some (.ref (b 0)), some (.int ab), some (.int (nI j)), some (.int (nI 0)), some (.int (nI 1))]) rfl ?_
      refine z_aload_n X dX4_setScore_17 rfl rfl ?_
      refine z_iload_n X dX4_setScore_18 rfl rfl ?_
      refine z_iload X dX4_setScore_19 rfl ?_
      refine z_iload_n X dX4_setScore_21 rfl rfl ?_
      refine n_if_eq (tgt := 58) X dX4_setScore_22 (by decide) (by omega) (fun _ => ?_) (fun c22 => absurd c22 (by decide))
      refine z_iconst (v := nI 0) X dX4_setScore_58 (by decide) ?_
      refine z_callV2 (k := 0) (n := 0) (st := []) X Y aM_eq (c_X4_goes l D t b S (nI 0) (nI 1) (nI 0) False True False (bz_f id) (bz_t trivial) (bz_f id)) k_X4_goes q_ml_X4_77 is19 (fun u => wM t b (va_up S 23 (fun _ => nI u))) (fun u => swM) ppM 0 4 rfl rfl (by decide) rfl rfl rfl (Nat.le_of_ble_eq_true rfl) ⟨Nat.zero_le _, Nat.zero_le _⟩ dX4_setScore_59 (fun r59 u59 h59 => ?_)
      rcases h59 with ⟨rfl, rfl, g1, g2, g3⟩ | ⟨rfl, rfl, g1⟩ | ⟨rfl, rfl, g1, g2⟩ | ⟨rfl, rfl, g1, g2, g3⟩
      ·
        exact g3.elim
      ·
        refine n_if_ne (tgt := 67) X dX4_setScore_62 (by decide) (by omega) (fun c62 => absurd c62 (by decide)) (fun _ => ?_)
        refine z_iconst (v := nI 0) X dX4_setScore_65 (by decide) ?_
        refine z_iret X Z rfl dX4_setScore_66 ?_
        exact ⟨(va_up S 23 (fun _ => nI 1)), Or.inr (Or.inl ⟨h3, rfl⟩), fun q hq => hq⟩
      ·
        exact absurd trivial g2
      ·
        exact g1.elim
    ·
      refine z_istore X dX4_setScore_15 (Nat.le_of_ble_eq_true rfl) ?_
      refine z_lv (lv' := [some (.ref (b 0)), some (.int ab), some (.int v), some (.int (nI 0)), some (.int (nI 0))]) rfl ?_
      refine z_aload_n X dX4_setScore_17 rfl rfl ?_
      refine z_iload_n X dX4_setScore_18 rfl rfl ?_
      refine z_iload X dX4_setScore_19 rfl ?_
      refine z_iload_n X dX4_setScore_21 rfl rfl ?_
      refine n_if_eq (tgt := 58) X dX4_setScore_22 (by decide) (by omega) (fun _ => ?_) (fun c22 => absurd c22 (by decide))
      refine z_iconst (v := nI 0) X dX4_setScore_58 (by decide) ?_
      refine z_callV2 (k := 0) (n := 0) (st := []) X Y aM_eq (c_X4_goes l D t b S (nI 0) (nI 0) (nI 0) False False False (bz_f id) (bz_f id) (bz_f id)) k_X4_goes q_ml_X4_77 is19 (fun u => wM t b (va_up S 23 (fun _ => nI u))) (fun u => swM) ppM 0 4 rfl rfl (by decide) rfl rfl rfl (Nat.le_of_ble_eq_true rfl) ⟨Nat.zero_le _, Nat.zero_le _⟩ dX4_setScore_59 (fun r59 u59 h59 => ?_)
      rcases h59 with ⟨rfl, rfl, g1, g2, g3⟩ | ⟨rfl, rfl, g1⟩ | ⟨rfl, rfl, g1, g2⟩ | ⟨rfl, rfl, g1, g2, g3⟩
      ·
        exact g3.elim
      ·
        refine n_if_ne (tgt := 67) X dX4_setScore_62 (by decide) (by omega) (fun c62 => absurd c62 (by decide)) (fun _ => ?_)
        refine z_iconst (v := nI 0) X dX4_setScore_65 (by decide) ?_
        refine z_iret X Z rfl dX4_setScore_66 ?_
        exact ⟨(va_up S 23 (fun _ => nI 1)), Or.inr (Or.inl ⟨h3, rfl⟩), fun q hq => hq⟩
      ·
        exact g1.elim
      ·
        exact g2.elim
