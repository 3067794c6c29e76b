set_option maxHeartbeats 1000000 in
set_option maxRecDepth 100000 in
theorem c_L_numbers (l : Launch) (hfl : l.stackTraces = false) (D : va_G) (t : ClassId × ClassId × ClassId) (sz : Nat) (a b : Nat → Nat) {S : zS} (p : zT) (B : zS) (qb qv qc : Nat) (fB fV fC : Nat → Int32) {sc : Nat → Nat} {x y z G : Nat} (h : zKs S sc x y z G) (hc : LC sc (x + y + z) fC) : zM8 l yL_numbers cL_numbers 8 (some .boolean) 30 30 180 D t [.ref (a 0), .ref qc] (wA t a b (T6 S p) B qb qv qc fB fV fC) sz (fun r (_ : Unit) => r = nI 1) (fun _ => wA t a b (T6 S p) B qb qv qc fB fV fC) := by
  have hX := K_X h
  have hG := K_G h
  have h20 : csN sc 4 ≤ 20 := by rw [← cs4_N]; exact K_c h
  have hat := atk_lt hX
  have hwk : wk S (l3 x y z) G < 256 := wkN_lt 64
  have hop : opN S x y z G 8 < 256 := opN_lt 8 (by decide)
  have hp8 := p8_le G hG
  refine z_m8 (by decide +kernel) (Nat.le_of_ble_eq_true rfl) (by simp [Value.category]) ?_
  intro E X Z V Y
  refine z_lv (lv' := [some (.ref (a 0)), some (.ref qc), none, none, none, none, none, none]) rfl ?_
  refine z_iconst (v := nI 0) X dL_numbers_0 (by decide) ?_
  refine z_istore_n X dL_numbers_1 rfl (Nat.le_of_ble_eq_true rfl) ?_
  refine z_lv (lv' := [some (.ref (a 0)), some (.ref qc), some (.int (nI 0)), none, none, none, none, none]) rfl ?_
  refine z_iconst (v := nI 0) X dL_numbers_2 (by decide) ?_
  refine z_istore_n X dL_numbers_3 rfl (Nat.le_of_ble_eq_true rfl) ?_
  refine z_lv (lv' := [some (.ref (a 0)), some (.ref qc), some (.int (nI 0)), some (.int (nI 0)), none, none, none, none]) rfl ?_
  refine Wz.less (lv' := [some (.ref (a 0)), some (.ref qc), some (.int (nI (csN sc 0))), some (.int (nI 0)), none, none, none, none]) (by simp [zle] <;> rfl) ?_
  refine zl_up 4 (fun i => Wz E (0) (0) 4 [some (.ref (a 0)), some (.ref qc), some (.int (nI (csN sc i))), some (.int (nI i)), none, none, none, none] [] (wA t a b (T6 S p) B qb qv qc fB fV fC)) ?_ ?_ 0 (by omega)
  ·
    refine z_iload_n X dL_numbers_4 rfl rfl ?_
    refine z_iconst (v := nI 4) X dL_numbers_5 (by decide) ?_
    refine n_icmp_ge (tgt := 43) X dL_numbers_6 (by decide) (by omega) (by omega) (fun _ => ?_) (fun c6 => absurd c6 (by decide))
    refine z_aload_n X dL_numbers_43 rfl rfl ?_
    refine z_callV1 (k := 0) (n := 0) (st := []) X (o_gifts l D t a p h) k_X3_gifts q_ml_L_90 is24 ⟨by decide, rfl⟩ 0 3 rfl rfl (by decide) rfl rfl rfl (Nat.le_of_ble_eq_true rfl) ⟨by omega, by omega⟩ dL_numbers_44 (fun r44 h44 => ?_)
    subst h44
    refine z_istore_n X dL_numbers_47 rfl (Nat.le_of_ble_eq_true rfl) ?_
    refine z_lv (lv' := [some (.ref (a 0)), some (.ref qc), some (.int (nI (csN sc 4))), some (.int (nI G)), none, none, none, none]) rfl ?_
    refine z_aload_n X dL_numbers_48 rfl rfl ?_
    refine z_callV1 (k := 0) (n := 0) (st := []) X (o_open l D t a p h) k_X3_open q_ml_L_93 is24 ⟨by decide, rfl⟩ 0 3 rfl rfl (by decide) rfl rfl rfl (Nat.le_of_ble_eq_true rfl) ⟨by omega, by omega⟩ dL_numbers_49 (fun r49 h49 => ?_)
    subst h49
    refine z_istore X dL_numbers_52 (Nat.le_of_ble_eq_true rfl) ?_
    refine z_lv (lv' := [some (.ref (a 0)), some (.ref qc), some (.int (nI (csN sc 4))), some (.int (nI G)), some (.int (nI (opN S x y z G 8))), none, none, none]) rfl ?_
    refine z_iconst (v := nI 0) X dL_numbers_54 (by decide) ?_
    refine z_istore X dL_numbers_55 (Nat.le_of_ble_eq_true rfl) ?_
    refine z_lv (lv' := [some (.ref (a 0)), some (.ref qc), some (.int (nI (csN sc 4))), some (.int (nI G)), some (.int (nI (opN S x y z G 8))), some (.int (nI 0)), none, none]) rfl ?_
    refine z_iconst (v := (-1)) X dL_numbers_57 (by decide) ?_
    refine z_istore X dL_numbers_58 (Nat.le_of_ble_eq_true rfl) ?_
    refine z_lv (lv' := [some (.ref (a 0)), some (.ref qc), some (.int (nI (csN sc 4))), some (.int (nI G)), some (.int (nI (opN S x y z G 8))), some (.int (nI 0)), some (.int (-1)), none]) rfl ?_
    refine z_iconst (v := nI 0) X dL_numbers_60 (by decide) ?_
    refine z_istore X dL_numbers_61 (Nat.le_of_ble_eq_true rfl) ?_
    refine z_lv (lv' := [some (.ref (a 0)), some (.ref qc), some (.int (nI (csN sc 4))), some (.int (nI G)), some (.int (nI (opN S x y z G 8))), some (.int (nI 0)), some (.int (-1)), some (.int (nI 0))]) rfl ?_
    refine z_iload X dL_numbers_63 rfl ?_
    refine z_iconst (v := nI 3) X dL_numbers_65 (by decide) ?_
    refine n_icmp_ge (tgt := 127) X dL_numbers_66 (by decide) (by omega) (by omega) (fun c66 => absurd c66 (by decide)) (fun _ => ?_)
    refine z_iload X dL_numbers_69 rfl ?_
    refine z_aload_n X dL_numbers_71 rfl rfl ?_
    refine z_iload X dL_numbers_72 rfl ?_
    refine z_w7 (k := 0) (n := 0) (k' := 1) (n' := 6) (st := [.int (nI 0)]) X Y aA_eq V (fun sz => w_level l hfl D t a p h (show 0 < 3 by decide) sz) kw_level q_ml_L_75 is24 ⟨by decide, rfl⟩ (fun u => wA t a b (T6 S p) B qb qv qc fB fV fC) (fun u => ⟨⟨by decide, rfl⟩, ⟨by decide, rfl⟩, rfl, rfl⟩) (by decide) (by decide) rfl rfl rfl (Nat.le_of_ble_eq_true rfl) ⟨by omega, by omega⟩ ⟨by omega, by omega⟩ dL_numbers_74 (fun r74 u74 h74 => ?_)
    subst h74
    refine z_iconst (v := nI 2) X dL_numbers_77 (by decide) ?_
    refine z_iload X dL_numbers_78 rfl ?_
    refine n_imul X dL_numbers_80 ?_
    refine z_iconst (v := nI 4) X dL_numbers_81 (by decide) ?_
    refine n_iadd X dL_numbers_82 ?_
    refine z_iload X dL_numbers_83 rfl ?_
    refine z_if_lt (tgt := 92) X dL_numbers_85 (by decide) (fun _ => ?_) (fun c85 => absurd c85 (by decide))
    refine z_iconst (v := nI 0) X dL_numbers_92 (by decide) ?_
    refine n_isub X dL_numbers_93 (by omega) ?_
    refine n_imul X dL_numbers_94 ?_
    refine n_iadd X dL_numbers_95 ?_
    refine z_istore X dL_numbers_96 (Nat.le_of_ble_eq_true rfl) ?_
    refine z_lv (lv' := [some (.ref (a 0)), some (.ref qc), some (.int (nI (csN sc 4))), some (.int (nI G)), some (.int (nI (opN S x y z G 8))), some (.int (nI (0 + (x * 4)))), some (.int (-1)), some (.int (nI 0))]) rfl ?_
    refine z_iload X dL_numbers_98 rfl ?_
    refine z_if_ge (tgt := 117) X dL_numbers_100 (by decide) (fun c100 => absurd c100 (by decide)) (fun _ => ?_)
    refine z_aload_n X dL_numbers_103 rfl rfl ?_
    refine z_iload X dL_numbers_104 rfl ?_
    refine z_w7 (k := 1) (n := 6) (k' := 2) (n' := 12) (st := []) X Y aA_eq V (fun sz => w_level l hfl D t a p h (show 0 < 3 by decide) sz) kw_level q_ml_L_75 is24 ⟨by decide, rfl⟩ (fun u => wA t a b (T6 S p) B qb qv qc fB fV fC) (fun u => ⟨⟨by decide, rfl⟩, ⟨by decide, rfl⟩, rfl, rfl⟩) (by decide) (by decide) rfl rfl rfl (Nat.le_of_ble_eq_true rfl) ⟨by omega, by omega⟩ ⟨by omega, by omega⟩ dL_numbers_106 (fun r106 u106 h106 => ?_)
    subst h106
    rcases Nat.eq_zero_or_pos x with e9 | e9
    · subst e9
      refine n_if_le (tgt := 117) X dL_numbers_109 (by decide) (by omega) (fun _ => ?_) (fun c109 => absurd c109 (by decide))
      refine z_iload X dL_numbers_117 rfl ?_
      refine z_istore X dL_numbers_119 (Nat.le_of_ble_eq_true rfl) ?_
      refine z_lv (lv' := [some (.ref (a 0)), some (.ref qc), some (.int (nI (csN sc 4))), some (.int (nI G)), some (.int (nI (opN S 0 y z G 8))), some (.int (nI (0 + (0 * 4)))), some (.int (-1)), some (.int (nI 0))]) rfl ?_
      refine z_iinc (v := nI 1) X dL_numbers_121 rfl (by decide) ?_
      refine z_lv (lv' := [some (.ref (a 0)), some (.ref qc), some (.int (nI (csN sc 4))), some (.int (nI G)), some (.int (nI (opN S 0 y z G 8))), some (.int (nI (0 + (0 * 4)))), some (.int (-1)), some (.int (nI 1))]) rfl ?_
      refine z_goto (tgt := 63) X dL_numbers_124 (by decide) ?_
      refine z_iload X dL_numbers_63 rfl ?_
      refine z_iconst (v := nI 3) X dL_numbers_65 (by decide) ?_
      refine n_icmp_ge (tgt := 127) X dL_numbers_66 (by decide) (by omega) (by omega) (fun c66 => absurd c66 (by decide)) (fun _ => ?_)
      refine z_iload X dL_numbers_69 rfl ?_
      refine z_aload_n X dL_numbers_71 rfl rfl ?_
      refine z_iload X dL_numbers_72 rfl ?_
      refine z_w7 (k := 2) (n := 12) (k' := 3) (n' := 18) (st := [.int (nI (0 + (0 * 4)))]) X Y aA_eq V (fun sz => w_level l hfl D t a p h (show 1 < 3 by decide) sz) kw_level q_ml_L_75 is24 ⟨by decide, rfl⟩ (fun u => wA t a b (T6 S p) B qb qv qc fB fV fC) (fun u => ⟨⟨by decide, rfl⟩, ⟨by decide, rfl⟩, rfl, rfl⟩) (by decide) (by decide) rfl rfl rfl (Nat.le_of_ble_eq_true rfl) ⟨by omega, by omega⟩ ⟨by omega, by omega⟩ dL_numbers_74 (fun r74 u74 h74 => ?_)
      subst h74
      refine z_iconst (v := nI 2) X dL_numbers_77 (by decide) ?_
      refine z_iload X dL_numbers_78 rfl ?_
      refine n_imul X dL_numbers_80 ?_
      refine z_iconst (v := nI 4) X dL_numbers_81 (by decide) ?_
      refine n_iadd X dL_numbers_82 ?_
      refine z_iload X dL_numbers_83 rfl ?_
      refine z_if_lt (tgt := 92) X dL_numbers_85 (by decide) (fun _ => ?_) (fun c85 => absurd c85 (by decide))
      refine z_iconst (v := nI 0) X dL_numbers_92 (by decide) ?_
      refine n_isub X dL_numbers_93 (by omega) ?_
      refine n_imul X dL_numbers_94 ?_
      refine n_iadd X dL_numbers_95 ?_
      refine z_istore X dL_numbers_96 (Nat.le_of_ble_eq_true rfl) ?_
      refine z_lv (lv' := [some (.ref (a 0)), some (.ref qc), some (.int (nI (csN sc 4))), some (.int (nI G)), some (.int (nI (opN S 0 y z G 8))), some (.int (nI ((0 + (0 * 4)) + (y * 6)))), some (.int (-1)), some (.int (nI 1))]) rfl ?_
      refine z_iload X dL_numbers_98 rfl ?_
      refine z_if_ge (tgt := 117) X dL_numbers_100 (by decide) (fun c100 => absurd c100 (by decide)) (fun _ => ?_)
      refine z_aload_n X dL_numbers_103 rfl rfl ?_
      refine z_iload X dL_numbers_104 rfl ?_
      refine z_w7 (k := 3) (n := 18) (k' := 4) (n' := 24) (st := []) X Y aA_eq V (fun sz => w_level l hfl D t a p h (show 1 < 3 by decide) sz) kw_level q_ml_L_75 is24 ⟨by decide, rfl⟩ (fun u => wA t a b (T6 S p) B qb qv qc fB fV fC) (fun u => ⟨⟨by decide, rfl⟩, ⟨by decide, rfl⟩, rfl, rfl⟩) (by decide) (by decide) rfl rfl rfl (Nat.le_of_ble_eq_true rfl) ⟨by omega, by omega⟩ ⟨by omega, by omega⟩ dL_numbers_106 (fun r106 u106 h106 => ?_)
      subst h106
      rcases Nat.eq_zero_or_pos y with e9 | e9
      · subst e9
        refine n_if_le (tgt := 117) X dL_numbers_109 (by decide) (by omega) (fun _ => ?_) (fun c109 => absurd c109 (by decide))
        refine z_iload X dL_numbers_117 rfl ?_
        refine z_istore X dL_numbers_119 (Nat.le_of_ble_eq_true rfl) ?_
        refine z_lv (lv' := [some (.ref (a 0)), some (.ref qc), some (.int (nI (csN sc 4))), some (.int (nI G)), some (.int (nI (opN S 0 0 z G 8))), some (.int (nI ((0 + (0 * 4)) + (0 * 6)))), some (.int (-1)), some (.int (nI 1))]) rfl ?_
        refine z_iinc (v := nI 2) X dL_numbers_121 rfl (by decide) ?_
        refine z_lv (lv' := [some (.ref (a 0)), some (.ref qc), some (.int (nI (csN sc 4))), some (.int (nI G)), some (.int (nI (opN S 0 0 z G 8))), some (.int (nI ((0 + (0 * 4)) + (0 * 6)))), some (.int (-1)), some (.int (nI 2))]) rfl ?_
        refine z_goto (tgt := 63) X dL_numbers_124 (by decide) ?_
        refine z_iload X dL_numbers_63 rfl ?_
        refine z_iconst (v := nI 3) X dL_numbers_65 (by decide) ?_
        refine n_icmp_ge (tgt := 127) X dL_numbers_66 (by decide) (by omega) (by omega) (fun c66 => absurd c66 (by decide)) (fun _ => ?_)
        refine z_iload X dL_numbers_69 rfl ?_
        refine z_aload_n X dL_numbers_71 rfl rfl ?_
        refine z_iload X dL_numbers_72 rfl ?_
        refine z_w7 (k := 4) (n := 24) (k' := 5) (n' := 30) (st := [.int (nI ((0 + (0 * 4)) + (0 * 6)))]) X Y aA_eq V (fun sz => w_level l hfl D t a p h (show 2 < 3 by decide) sz) kw_level q_ml_L_75 is24 ⟨by decide, rfl⟩ (fun u => wA t a b (T6 S p) B qb qv qc fB fV fC) (fun u => ⟨⟨by decide, rfl⟩, ⟨by decide, rfl⟩, rfl, rfl⟩) (by decide) (by decide) rfl rfl rfl (Nat.le_of_ble_eq_true rfl) ⟨by omega, by omega⟩ ⟨by omega, by omega⟩ dL_numbers_74 (fun r74 u74 h74 => ?_)
        subst h74
        refine z_iconst (v := nI 2) X dL_numbers_77 (by decide) ?_
        refine z_iload X dL_numbers_78 rfl ?_
        refine n_imul X dL_numbers_80 ?_
        refine z_iconst (v := nI 4) X dL_numbers_81 (by decide) ?_
        refine n_iadd X dL_numbers_82 ?_
        refine z_iload X dL_numbers_83 rfl ?_
        refine z_if_lt (tgt := 92) X dL_numbers_85 (by decide) (fun _ => ?_) (fun c85 => absurd c85 (by decide))
        refine z_iconst (v := nI 0) X dL_numbers_92 (by decide) ?_
        refine n_isub X dL_numbers_93 (by omega) ?_
        refine n_imul X dL_numbers_94 ?_
        refine n_iadd X dL_numbers_95 ?_
        refine z_istore X dL_numbers_96 (Nat.le_of_ble_eq_true rfl) ?_
        refine z_lv (lv' := [some (.ref (a 0)), some (.ref qc), some (.int (nI (csN sc 4))), some (.int (nI G)), some (.int (nI (opN S 0 0 z G 8))), some (.int (nI (((0 + (0 * 4)) + (0 * 6)) + (z * 8)))), some (.int (-1)), some (.int (nI 2))]) rfl ?_
        refine z_iload X dL_numbers_98 rfl ?_
        refine z_if_ge (tgt := 117) X dL_numbers_100 (by decide) (fun c100 => absurd c100 (by decide)) (fun _ => ?_)
        refine z_aload_n X dL_numbers_103 rfl rfl ?_
        refine z_iload X dL_numbers_104 rfl ?_
        refine z_w7 (k := 5) (n := 30) (k' := 6) (n' := 36) (st := []) X Y aA_eq V (fun sz => w_level l hfl D t a p h (show 2 < 3 by decide) sz) kw_level q_ml_L_75 is24 ⟨by decide, rfl⟩ (fun u => wA t a b (T6 S p) B qb qv qc fB fV fC) (fun u => ⟨⟨by decide, rfl⟩, ⟨by decide, rfl⟩, rfl, rfl⟩) (by decide) (by decide) rfl rfl rfl (Nat.le_of_ble_eq_true rfl) ⟨by omega, by omega⟩ ⟨by omega, by omega⟩ dL_numbers_106 (fun r106 u106 h106 => ?_)
        subst h106
        rcases Nat.eq_zero_or_pos z with e9 | e9
        · subst e9
          refine n_if_le (tgt := 117) X dL_numbers_109 (by decide) (by omega) (fun _ => ?_) (fun c109 => absurd c109 (by decide))
          refine z_iload X dL_numbers_117 rfl ?_
          refine z_istore X dL_numbers_119 (Nat.le_of_ble_eq_true rfl) ?_
          refine z_lv (lv' := [some (.ref (a 0)), some (.ref qc), some (.int (nI (csN sc 4))), some (.int (nI G)), some (.int (nI (opN S 0 0 0 G 8))), some (.int (nI (((0 + (0 * 4)) + (0 * 6)) + (0 * 8)))), some (.int (-1)), some (.int (nI 2))]) rfl ?_
          refine z_iinc (v := nI 3) X dL_numbers_121 rfl (by decide) ?_
          refine z_lv (lv' := [some (.ref (a 0)), some (.ref qc), some (.int (nI (csN sc 4))), some (.int (nI G)), some (.int (nI (opN S 0 0 0 G 8))), some (.int (nI (((0 + (0 * 4)) + (0 * 6)) + (0 * 8)))), some (.int (-1)), some (.int (nI 3))]) rfl ?_
          refine z_goto (tgt := 63) X dL_numbers_124 (by decide) ?_
          refine z_iload X dL_numbers_63 rfl ?_
          refine z_iconst (v := nI 3) X dL_numbers_65 (by decide) ?_
          refine n_icmp_ge (tgt := 127) X dL_numbers_66 (by decide) (by omega) (by omega) (fun _ => ?_) (fun c66 => absurd c66 (by decide))
          refine z_aload_n X dL_numbers_127 rfl rfl ?_
          refine z_w8 (k := 6) (n := 36) (k' := 9) (n' := 54) (st := []) X Y aA_eq V (fun sz => c_L_levels l hfl D t sz a p h) k8_levels q_ml_L_96 is24 ⟨by decide, rfl⟩ (fun u => wA t a b (T6 S p) B qb qv qc fB fV fC) (fun u => ⟨⟨by decide, rfl⟩, ⟨by decide, rfl⟩, rfl, rfl⟩) (by decide) (by decide) rfl rfl rfl (Nat.le_of_ble_eq_true rfl) ⟨by omega, by omega⟩ ⟨by omega, by omega⟩ dL_numbers_128 (fun r128 u128 h128 => ?_)
          subst h128
          refine z_aload_n X dL_numbers_131 rfl rfl ?_
          refine z_iconst (v := nI 4) X dL_numbers_132 (by decide) ?_
          refine n_iald (f := fC) X 50 rfl (by omega) (by decide) dL_numbers_133 ?_
          refine z_top (y := nI (0 + 0 + 0)) (hc.2) ?_
          refine n_icmp_ne (tgt := 256) X dL_numbers_134 (by decide) (by omega) (by omega) (fun c134 => absurd c134 (by omega)) (fun _ => ?_)
          refine z_aload_n X dL_numbers_137 rfl rfl ?_
          refine z_callV1 (k := 9) (n := 54) (st := []) X (o_places l D t a p h) k_X3_places q_ml_L_100 is24 ⟨by decide, rfl⟩ 0 3 rfl rfl (by decide) rfl rfl rfl (Nat.le_of_ble_eq_true rfl) ⟨by omega, by omega⟩ dL_numbers_138 (fun r138 h138 => ?_)
          subst h138
          refine z_iconst (v := nI 1) X dL_numbers_141 (by decide) ?_
          refine z_aload_n X dL_numbers_142 rfl rfl ?_
          refine z_iconst (v := nI 4) X dL_numbers_143 (by decide) ?_
          refine n_iald (f := fC) X 50 rfl (by omega) (by decide) dL_numbers_144 ?_
          refine z_top (y := nI (0 + 0 + 0)) (hc.2) ?_
          refine z_iconst (v := nI 2) X dL_numbers_145 (by decide) ?_
          refine n_idiv X dL_numbers_146 (by omega) (by decide) (by decide) ?_
          refine n_iadd X dL_numbers_147 ?_
          refine n_icmp_ne (tgt := 256) X dL_numbers_148 (by decide) (by omega) (by omega) (fun c148 => absurd c148 (by omega)) (fun _ => ?_)
          refine z_aload_n X dL_numbers_151 rfl rfl ?_
          refine z_callV1 (k := 9) (n := 54) (st := []) X (o_points l D t a p h) k_X3_points q_ml_L_103 is24 ⟨by decide, rfl⟩ 0 3 rfl rfl (by decide) rfl rfl rfl (Nat.le_of_ble_eq_true rfl) ⟨by omega, by omega⟩ dL_numbers_152 (fun r152 h152 => ?_)
          rw [cs4_N] at h152
          subst h152
          refine z_bipush (v := nI 20) X dL_numbers_155 (by decide) ?_
          refine z_iload_n X dL_numbers_157 rfl rfl ?_
          refine n_isub X dL_numbers_158 (by omega) ?_
          refine n_icmp_ne (tgt := 256) X dL_numbers_159 (by decide) (by omega) (by omega) (fun c159 => absurd c159 (by omega)) (fun _ => ?_)
          refine z_iload_n X dL_numbers_162 rfl rfl ?_
          refine n_if_lt (tgt := 256) X dL_numbers_163 (by decide) (by omega) ?_
          refine z_iload_n X dL_numbers_166 rfl rfl ?_
          refine z_sipush (v := nI 256) X dL_numbers_167 (by decide) ?_
          refine n_icmp_ge (tgt := 256) X dL_numbers_170 (by decide) (by omega) (by omega) (fun c170 => absurd c170 (by omega)) (fun c170 => ?_)
          refine z_aload_n X dL_numbers_173 rfl rfl ?_
          refine z_callV1 (k := 9) (n := 54) (st := []) X (o_working l D t a p h) k_X3_working q_ml_L_80 is24 ⟨by decide, rfl⟩ 0 3 rfl rfl (by decide) rfl rfl rfl (Nat.le_of_ble_eq_true rfl) ⟨by omega, by omega⟩ dL_numbers_174 (fun r174 h174 => ?_)
          subst h174
          refine z_iload_n X dL_numbers_177 rfl rfl ?_
          refine z_iconst (v := (-1)) X dL_numbers_178 (by decide) ?_
          refine z_ixor X dL_numbers_179 ?_
          refine z_iand X dL_numbers_180 ?_
          refine z_top (y := nI 0) ((zn_dif _ _).trans (congrArg nI wk_dif0)) ?_
          refine n_if_ne (tgt := 256) X dL_numbers_181 (by decide) (by omega) (fun c181 => absurd c181 (by decide)) (fun _ => ?_)
          refine z_iload X dL_numbers_184 rfl ?_
          refine z_iload_n X dL_numbers_186 rfl rfl ?_
          refine n_iand X dL_numbers_187 ?_
          refine z_top (y := nI 0) (congrArg nI opN_and) ?_
          refine n_if_ne (tgt := 256) X dL_numbers_188 (by decide) (by omega) (fun c188 => absurd c188 (by decide)) (fun _ => ?_)
          refine z_iload X dL_numbers_191 rfl ?_
          refine n_if_lt (tgt := 256) X dL_numbers_193 (by decide) (by omega) ?_
          refine z_iload X dL_numbers_196 rfl ?_
          refine z_sipush (v := nI 256) X dL_numbers_198 (by decide) ?_
          refine n_icmp_ge (tgt := 256) X dL_numbers_201 (by decide) (by omega) (by omega) (fun c201 => absurd c201 (by omega)) (fun c201 => ?_)
          refine z_iload X dL_numbers_204 rfl ?_
          refine n_if_eq (tgt := 220) X dL_numbers_206 (by decide) (by omega) (fun c206 => ?_) (fun c206 => ?_)
          ·
            refine z_aload_n X dL_numbers_220 rfl rfl ?_
            refine z_callV1 (k := 9) (n := 54) (st := []) X (o_attack l D t a p h) k_X3_attack q_ml_L_109 is24 ⟨by decide, rfl⟩ 0 3 rfl rfl (by decide) rfl rfl rfl (Nat.le_of_ble_eq_true rfl) ⟨by omega, by omega⟩ dL_numbers_221 (fun r221 h221 => ?_)
            subst h221
            refine z_iload X dL_numbers_224 rfl ?_
            refine z_bipush (v := nI 8) X dL_numbers_226 (by decide) ?_
            refine n_idiv X dL_numbers_228 (by omega) (by decide) (by decide) ?_
            refine z_top (y := nI (atk 0 0 0)) (congrArg nI (atk_z)) ?_
            refine n_icmp_ne (tgt := 256) X dL_numbers_229 (by decide) (by omega) (by omega) (fun c229 => absurd c229 (by omega)) (fun _ => ?_)
            refine z_aload_n X dL_numbers_232 rfl rfl ?_
            refine z_iconst (v := nI 3) X dL_numbers_233 (by decide) ?_
            refine z_w7 (k := 9) (n := 54) (k' := 10) (n' := 60) (st := []) X Y aA_eq V (fun sz => w_level_I l hfl D t a p (am_no (by decide) (by decide) (by decide)) sz) kw_level q_ml_L_75 is24 ⟨by decide, rfl⟩ (fun u => wA t a b (T6 S p) B qb qv qc fB fV fC) (fun u => ⟨⟨by decide, rfl⟩, ⟨by decide, rfl⟩, rfl, rfl⟩) (by decide) (by decide) rfl rfl rfl (Nat.le_of_ble_eq_true rfl) ⟨by omega, by omega⟩ ⟨by omega, by omega⟩ dL_numbers_234 (fun r234 u234 h234 => ?_)
            subst h234
            refine z_ldci X q_k_L_18 dL_numbers_237 ?_
            refine z_icmp_ne (tgt := 256) X dL_numbers_239 (by decide) (fun c239 => absurd c239 (by decide)) (fun _ => ?_)
            refine z_aload_n X dL_numbers_242 rfl rfl ?_
            refine z_iconst (v := (-1)) X dL_numbers_243 (by decide) ?_
            refine z_w7 (k := 10) (n := 60) (k' := 11) (n' := 66) (st := []) X Y aA_eq V (fun sz => w_level_I l hfl D t a p (am_m (by decide)) sz) kw_level q_ml_L_75 is24 ⟨by decide, rfl⟩ (fun u => wA t a b (T6 S p) B qb qv qc fB fV fC) (fun u => ⟨⟨by decide, rfl⟩, ⟨by decide, rfl⟩, rfl, rfl⟩) (by decide) (by decide) rfl rfl rfl (Nat.le_of_ble_eq_true rfl) ⟨by omega, by omega⟩ ⟨by omega, by omega⟩ dL_numbers_244 (fun r244 u244 h244 => ?_)
            subst h244
            refine z_ldci X q_k_L_18 dL_numbers_247 ?_
            refine z_icmp_ne (tgt := 256) X dL_numbers_249 (by decide) (fun c249 => absurd c249 (by decide)) (fun _ => ?_)
            refine z_iconst (v := nI 1) X dL_numbers_252 (by decide) ?_
            refine z_goto (tgt := 257) X dL_numbers_253 (by decide) ?_
            refine Wz.wide (k' := 30) (n' := 180) (by omega) (by omega) ?_
            refine z_iret X Z (by decide +kernel) dL_numbers_257 ?_
            exact ⟨(), rfl, fun q hq => hq⟩
          ·
            refine z_iload_n X dL_numbers_209 rfl rfl ?_
            refine z_callS1 (k := 9) (n := 54) (st := []) X (c_L_many l D t G (by omega)) k_L_many q_ml_L_106 [] ⟨by decide, rfl⟩ (by decide) rfl rfl rfl (Nat.le_of_ble_eq_true rfl) ⟨by omega, by omega⟩ dL_numbers_210 (fun r210 h210 => ?_)
            subst h210
            refine z_aload_n X dL_numbers_213 rfl rfl ?_
            refine z_callV1 (k := 9) (n := 54) (st := [.int (nI (p8 G))]) X (o_places l D t a p h) k_X3_places q_ml_L_100 is24 ⟨by decide, rfl⟩ 0 3 rfl rfl (by decide) rfl rfl rfl (Nat.le_of_ble_eq_true rfl) ⟨by omega, by omega⟩ dL_numbers_214 (fun r214 h214 => ?_)
            subst h214
            refine n_icmp_ge (tgt := 256) X dL_numbers_217 (by decide) (by omega) (by omega) (fun c217 => absurd (opN_room c206) (by omega)) (fun c217 => ?_)
            refine z_aload_n X dL_numbers_220 rfl rfl ?_
            refine z_callV1 (k := 9) (n := 54) (st := []) X (o_attack l D t a p h) k_X3_attack q_ml_L_109 is24 ⟨by decide, rfl⟩ 0 3 rfl rfl (by decide) rfl rfl rfl (Nat.le_of_ble_eq_true rfl) ⟨by omega, by omega⟩ dL_numbers_221 (fun r221 h221 => ?_)
            subst h221
            refine z_iload X dL_numbers_224 rfl ?_
            refine z_bipush (v := nI 8) X dL_numbers_226 (by decide) ?_
            refine n_idiv X dL_numbers_228 (by omega) (by decide) (by decide) ?_
            refine z_top (y := nI (atk 0 0 0)) (congrArg nI (atk_z)) ?_
            refine n_icmp_ne (tgt := 256) X dL_numbers_229 (by decide) (by omega) (by omega) (fun c229 => absurd c229 (by omega)) (fun _ => ?_)
            refine z_aload_n X dL_numbers_232 rfl rfl ?_
            refine z_iconst (v := nI 3) X dL_numbers_233 (by decide) ?_
            refine z_w7 (k := 9) (n := 54) (k' := 10) (n' := 60) (st := []) X Y aA_eq V (fun sz => w_level_I l hfl D t a p (am_no (by decide) (by decide) (by decide)) sz) kw_level q_ml_L_75 is24 ⟨by decide, rfl⟩ (fun u => wA t a b (T6 S p) B qb qv qc fB fV fC) (fun u => ⟨⟨by decide, rfl⟩, ⟨by decide, rfl⟩, rfl, rfl⟩) (by decide) (by decide) rfl rfl rfl (Nat.le_of_ble_eq_true rfl) ⟨by omega, by omega⟩ ⟨by omega, by omega⟩ dL_numbers_234 (fun r234 u234 h234 => ?_)
            subst h234
            refine z_ldci X q_k_L_18 dL_numbers_237 ?_
            refine z_icmp_ne (tgt := 256) X dL_numbers_239 (by decide) (fun c239 => absurd c239 (by decide)) (fun _ => ?_)
            refine z_aload_n X dL_numbers_242 rfl rfl ?_
            refine z_iconst (v := (-1)) X dL_numbers_243 (by decide) ?_
            refine z_w7 (k := 10) (n := 60) (k' := 11) (n' := 66) (st := []) X Y aA_eq V (fun sz => w_level_I l hfl D t a p (am_m (by decide)) sz) kw_level q_ml_L_75 is24 ⟨by decide, rfl⟩ (fun u => wA t a b (T6 S p) B qb qv qc fB fV fC) (fun u => ⟨⟨by decide, rfl⟩, ⟨by decide, rfl⟩, rfl, rfl⟩) (by decide) (by decide) rfl rfl rfl (Nat.le_of_ble_eq_true rfl) ⟨by omega, by omega⟩ ⟨by omega, by omega⟩ dL_numbers_244 (fun r244 u244 h244 => ?_)
            subst h244
            refine z_ldci X q_k_L_18 dL_numbers_247 ?_
            refine z_icmp_ne (tgt := 256) X dL_numbers_249 (by decide) (fun c249 => absurd c249 (by decide)) (fun _ => ?_)
            refine z_iconst (v := nI 1) X dL_numbers_252 (by decide) ?_
            refine z_goto (tgt := 257) X dL_numbers_253 (by decide) ?_
            refine Wz.wide (k' := 30) (n' := 180) (by omega) (by omega) ?_
            refine z_iret X Z (by decide +kernel) dL_numbers_257 ?_
            exact ⟨(), rfl, fun q hq => hq⟩
        ·
          refine n_if_le (tgt := 117) X dL_numbers_109 (by decide) (by omega) (fun c109 => absurd c109 (by omega)) (fun c109 => ?_)
          refine z_iload X dL_numbers_112 rfl ?_
          refine z_goto (tgt := 119) X dL_numbers_114 (by decide) ?_
          refine z_istore X dL_numbers_119 (Nat.le_of_ble_eq_true rfl) ?_
          refine z_lv (lv' := [some (.ref (a 0)), some (.ref qc), some (.int (nI (csN sc 4))), some (.int (nI G)), some (.int (nI (opN S 0 0 z G 8))), some (.int (nI (((0 + (0 * 4)) + (0 * 6)) + (z * 8)))), some (.int (nI 2)), some (.int (nI 2))]) rfl ?_
          refine z_iinc (v := nI 3) X dL_numbers_121 rfl (by decide) ?_
          refine z_lv (lv' := [some (.ref (a 0)), some (.ref qc), some (.int (nI (csN sc 4))), some (.int (nI G)), some (.int (nI (opN S 0 0 z G 8))), some (.int (nI (((0 + (0 * 4)) + (0 * 6)) + (z * 8)))), some (.int (nI 2)), some (.int (nI 3))]) rfl ?_
          refine z_goto (tgt := 63) X dL_numbers_124 (by decide) ?_
          refine z_iload X dL_numbers_63 rfl ?_
          refine z_iconst (v := nI 3) X dL_numbers_65 (by decide) ?_
          refine n_icmp_ge (tgt := 127) X dL_numbers_66 (by decide) (by omega) (by omega) (fun _ => ?_) (fun c66 => absurd c66 (by decide))
          refine z_aload_n X dL_numbers_127 rfl rfl ?_
          refine z_w8 (k := 6) (n := 36) (k' := 9) (n' := 54) (st := []) X Y aA_eq V (fun sz => c_L_levels l hfl D t sz a p h) k8_levels q_ml_L_96 is24 ⟨by decide, rfl⟩ (fun u => wA t a b (T6 S p) B qb qv qc fB fV fC) (fun u => ⟨⟨by decide, rfl⟩, ⟨by decide, rfl⟩, rfl, rfl⟩) (by decide) (by decide) rfl rfl rfl (Nat.le_of_ble_eq_true rfl) ⟨by omega, by omega⟩ ⟨by omega, by omega⟩ dL_numbers_128 (fun r128 u128 h128 => ?_)
          subst h128
          refine z_aload_n X dL_numbers_131 rfl rfl ?_
          refine z_iconst (v := nI 4) X dL_numbers_132 (by decide) ?_
          refine n_iald (f := fC) X 50 rfl (by omega) (by decide) dL_numbers_133 ?_
          refine z_top (y := nI (0 + 0 + z)) (hc.2) ?_
          refine n_icmp_ne (tgt := 256) X dL_numbers_134 (by decide) (by omega) (by omega) (fun c134 => absurd c134 (by omega)) (fun _ => ?_)
          refine z_aload_n X dL_numbers_137 rfl rfl ?_
          refine z_callV1 (k := 9) (n := 54) (st := []) X (o_places l D t a p h) k_X3_places q_ml_L_100 is24 ⟨by decide, rfl⟩ 0 3 rfl rfl (by decide) rfl rfl rfl (Nat.le_of_ble_eq_true rfl) ⟨by omega, by omega⟩ dL_numbers_138 (fun r138 h138 => ?_)
          subst h138
          refine z_iconst (v := nI 1) X dL_numbers_141 (by decide) ?_
          refine z_aload_n X dL_numbers_142 rfl rfl ?_
          refine z_iconst (v := nI 4) X dL_numbers_143 (by decide) ?_
          refine n_iald (f := fC) X 50 rfl (by omega) (by decide) dL_numbers_144 ?_
          refine z_top (y := nI (0 + 0 + z)) (hc.2) ?_
          refine z_iconst (v := nI 2) X dL_numbers_145 (by decide) ?_
          refine n_idiv X dL_numbers_146 (by omega) (by decide) (by decide) ?_
          refine n_iadd X dL_numbers_147 ?_
          refine n_icmp_ne (tgt := 256) X dL_numbers_148 (by decide) (by omega) (by omega) (fun c148 => absurd c148 (by omega)) (fun _ => ?_)
          refine z_aload_n X dL_numbers_151 rfl rfl ?_
          refine z_callV1 (k := 9) (n := 54) (st := []) X (o_points l D t a p h) k_X3_points q_ml_L_103 is24 ⟨by decide, rfl⟩ 0 3 rfl rfl (by decide) rfl rfl rfl (Nat.le_of_ble_eq_true rfl) ⟨by omega, by omega⟩ dL_numbers_152 (fun r152 h152 => ?_)
          rw [cs4_N] at h152
          subst h152
          refine z_bipush (v := nI 20) X dL_numbers_155 (by decide) ?_
          refine z_iload_n X dL_numbers_157 rfl rfl ?_
          refine n_isub X dL_numbers_158 (by omega) ?_
          refine n_icmp_ne (tgt := 256) X dL_numbers_159 (by decide) (by omega) (by omega) (fun c159 => absurd c159 (by omega)) (fun _ => ?_)
          refine z_iload_n X dL_numbers_162 rfl rfl ?_
          refine n_if_lt (tgt := 256) X dL_numbers_163 (by decide) (by omega) ?_
          refine z_iload_n X dL_numbers_166 rfl rfl ?_
          refine z_sipush (v := nI 256) X dL_numbers_167 (by decide) ?_
          refine n_icmp_ge (tgt := 256) X dL_numbers_170 (by decide) (by omega) (by omega) (fun c170 => absurd c170 (by omega)) (fun c170 => ?_)
          refine z_aload_n X dL_numbers_173 rfl rfl ?_
          refine z_callV1 (k := 9) (n := 54) (st := []) X (o_working l D t a p h) k_X3_working q_ml_L_80 is24 ⟨by decide, rfl⟩ 0 3 rfl rfl (by decide) rfl rfl rfl (Nat.le_of_ble_eq_true rfl) ⟨by omega, by omega⟩ dL_numbers_174 (fun r174 h174 => ?_)
          subst h174
          refine z_iload_n X dL_numbers_177 rfl rfl ?_
          refine z_iconst (v := (-1)) X dL_numbers_178 (by decide) ?_
          refine z_ixor X dL_numbers_179 ?_
          refine z_iand X dL_numbers_180 ?_
          refine z_top (y := nI 0) ((zn_dif _ _).trans (congrArg nI wk_dif0)) ?_
          refine n_if_ne (tgt := 256) X dL_numbers_181 (by decide) (by omega) (fun c181 => absurd c181 (by decide)) (fun _ => ?_)
          refine z_iload X dL_numbers_184 rfl ?_
          refine z_iload_n X dL_numbers_186 rfl rfl ?_
          refine n_iand X dL_numbers_187 ?_
          refine z_top (y := nI 0) (congrArg nI opN_and) ?_
          refine n_if_ne (tgt := 256) X dL_numbers_188 (by decide) (by omega) (fun c188 => absurd c188 (by decide)) (fun _ => ?_)
          refine z_iload X dL_numbers_191 rfl ?_
          refine n_if_lt (tgt := 256) X dL_numbers_193 (by decide) (by omega) ?_
          refine z_iload X dL_numbers_196 rfl ?_
          refine z_sipush (v := nI 256) X dL_numbers_198 (by decide) ?_
          refine n_icmp_ge (tgt := 256) X dL_numbers_201 (by decide) (by omega) (by omega) (fun c201 => absurd c201 (by omega)) (fun c201 => ?_)
          refine z_iload X dL_numbers_204 rfl ?_
          refine n_if_eq (tgt := 220) X dL_numbers_206 (by decide) (by omega) (fun c206 => ?_) (fun c206 => ?_)
          ·
            refine z_aload_n X dL_numbers_220 rfl rfl ?_
            refine z_callV1 (k := 9) (n := 54) (st := []) X (o_attack l D t a p h) k_X3_attack q_ml_L_109 is24 ⟨by decide, rfl⟩ 0 3 rfl rfl (by decide) rfl rfl rfl (Nat.le_of_ble_eq_true rfl) ⟨by omega, by omega⟩ dL_numbers_221 (fun r221 h221 => ?_)
            subst h221
            refine z_iload X dL_numbers_224 rfl ?_
            refine z_bipush (v := nI 8) X dL_numbers_226 (by decide) ?_
            refine n_idiv X dL_numbers_228 (by omega) (by decide) (by decide) ?_
            refine z_top (y := nI (atk 0 0 z)) (congrArg nI (atk_z)) ?_
            refine n_icmp_ne (tgt := 256) X dL_numbers_229 (by decide) (by omega) (by omega) (fun c229 => absurd c229 (by omega)) (fun _ => ?_)
            refine z_aload_n X dL_numbers_232 rfl rfl ?_
            refine z_iconst (v := nI 3) X dL_numbers_233 (by decide) ?_
            refine z_w7 (k := 9) (n := 54) (k' := 10) (n' := 60) (st := []) X Y aA_eq V (fun sz => w_level_I l hfl D t a p (am_no (by decide) (by decide) (by decide)) sz) kw_level q_ml_L_75 is24 ⟨by decide, rfl⟩ (fun u => wA t a b (T6 S p) B qb qv qc fB fV fC) (fun u => ⟨⟨by decide, rfl⟩, ⟨by decide, rfl⟩, rfl, rfl⟩) (by decide) (by decide) rfl rfl rfl (Nat.le_of_ble_eq_true rfl) ⟨by omega, by omega⟩ ⟨by omega, by omega⟩ dL_numbers_234 (fun r234 u234 h234 => ?_)
            subst h234
            refine z_ldci X q_k_L_18 dL_numbers_237 ?_
            refine z_icmp_ne (tgt := 256) X dL_numbers_239 (by decide) (fun c239 => absurd c239 (by decide)) (fun _ => ?_)
            refine z_aload_n X dL_numbers_242 rfl rfl ?_
            refine z_iconst (v := (-1)) X dL_numbers_243 (by decide) ?_
            refine z_w7 (k := 10) (n := 60) (k' := 11) (n' := 66) (st := []) X Y aA_eq V (fun sz => w_level_I l hfl D t a p (am_m (by decide)) sz) kw_level q_ml_L_75 is24 ⟨by decide, rfl⟩ (fun u => wA t a b (T6 S p) B qb qv qc fB fV fC) (fun u => ⟨⟨by decide, rfl⟩, ⟨by decide, rfl⟩, rfl, rfl⟩) (by decide) (by decide) rfl rfl rfl (Nat.le_of_ble_eq_true rfl) ⟨by omega, by omega⟩ ⟨by omega, by omega⟩ dL_numbers_244 (fun r244 u244 h244 => ?_)
            subst h244
            refine z_ldci X q_k_L_18 dL_numbers_247 ?_
            refine z_icmp_ne (tgt := 256) X dL_numbers_249 (by decide) (fun c249 => absurd c249 (by decide)) (fun _ => ?_)
            refine z_iconst (v := nI 1) X dL_numbers_252 (by decide) ?_
            refine z_goto (tgt := 257) X dL_numbers_253 (by decide) ?_
            refine Wz.wide (k' := 30) (n' := 180) (by omega) (by omega) ?_
            refine z_iret X Z (by decide +kernel) dL_numbers_257 ?_
            exact ⟨(), rfl, fun q hq => hq⟩
          ·
            refine z_iload_n X dL_numbers_209 rfl rfl ?_
            refine z_callS1 (k := 9) (n := 54) (st := []) X (c_L_many l D t G (by omega)) k_L_many q_ml_L_106 [] ⟨by decide, rfl⟩ (by decide) rfl rfl rfl (Nat.le_of_ble_eq_true rfl) ⟨by omega, by omega⟩ dL_numbers_210 (fun r210 h210 => ?_)
            subst h210
            refine z_aload_n X dL_numbers_213 rfl rfl ?_
            refine z_callV1 (k := 9) (n := 54) (st := [.int (nI (p8 G))]) X (o_places l D t a p h) k_X3_places q_ml_L_100 is24 ⟨by decide, rfl⟩ 0 3 rfl rfl (by decide) rfl rfl rfl (Nat.le_of_ble_eq_true rfl) ⟨by omega, by omega⟩ dL_numbers_214 (fun r214 h214 => ?_)
            subst h214
            refine n_icmp_ge (tgt := 256) X dL_numbers_217 (by decide) (by omega) (by omega) (fun c217 => absurd (opN_room c206) (by omega)) (fun c217 => ?_)
            refine z_aload_n X dL_numbers_220 rfl rfl ?_
            refine z_callV1 (k := 9) (n := 54) (st := []) X (o_attack l D t a p h) k_X3_attack q_ml_L_109 is24 ⟨by decide, rfl⟩ 0 3 rfl rfl (by decide) rfl rfl rfl (Nat.le_of_ble_eq_true rfl) ⟨by omega, by omega⟩ dL_numbers_221 (fun r221 h221 => ?_)
            subst h221
            refine z_iload X dL_numbers_224 rfl ?_
            refine z_bipush (v := nI 8) X dL_numbers_226 (by decide) ?_
            refine n_idiv X dL_numbers_228 (by omega) (by decide) (by decide) ?_
            refine z_top (y := nI (atk 0 0 z)) (congrArg nI (atk_z)) ?_
            refine n_icmp_ne (tgt := 256) X dL_numbers_229 (by decide) (by omega) (by omega) (fun c229 => absurd c229 (by omega)) (fun _ => ?_)
            refine z_aload_n X dL_numbers_232 rfl rfl ?_
            refine z_iconst (v := nI 3) X dL_numbers_233 (by decide) ?_
            refine z_w7 (k := 9) (n := 54) (k' := 10) (n' := 60) (st := []) X Y aA_eq V (fun sz => w_level_I l hfl D t a p (am_no (by decide) (by decide) (by decide)) sz) kw_level q_ml_L_75 is24 ⟨by decide, rfl⟩ (fun u => wA t a b (T6 S p) B qb qv qc fB fV fC) (fun u => ⟨⟨by decide, rfl⟩, ⟨by decide, rfl⟩, rfl, rfl⟩) (by decide) (by decide) rfl rfl rfl (Nat.le_of_ble_eq_true rfl) ⟨by omega, by omega⟩ ⟨by omega, by omega⟩ dL_numbers_234 (fun r234 u234 h234 => ?_)
            subst h234
            refine z_ldci X q_k_L_18 dL_numbers_237 ?_
            refine z_icmp_ne (tgt := 256) X dL_numbers_239 (by decide) (fun c239 => absurd c239 (by decide)) (fun _ => ?_)
            refine z_aload_n X dL_numbers_242 rfl rfl ?_
            refine z_iconst (v := (-1)) X dL_numbers_243 (by decide) ?_
            refine z_w7 (k := 10) (n := 60) (k' := 11) (n' := 66) (st := []) X Y aA_eq V (fun sz => w_level_I l hfl D t a p (am_m (by decide)) sz) kw_level q_ml_L_75 is24 ⟨by decide, rfl⟩ (fun u => wA t a b (T6 S p) B qb qv qc fB fV fC) (fun u => ⟨⟨by decide, rfl⟩, ⟨by decide, rfl⟩, rfl, rfl⟩) (by decide) (by decide) rfl rfl rfl (Nat.le_of_ble_eq_true rfl) ⟨by omega, by omega⟩ ⟨by omega, by omega⟩ dL_numbers_244 (fun r244 u244 h244 => ?_)
            subst h244
            refine z_ldci X q_k_L_18 dL_numbers_247 ?_
            refine z_icmp_ne (tgt := 256) X dL_numbers_249 (by decide) (fun c249 => absurd c249 (by decide)) (fun _ => ?_)
            refine z_iconst (v := nI 1) X dL_numbers_252 (by decide) ?_
            refine z_goto (tgt := 257) X dL_numbers_253 (by decide) ?_
            refine Wz.wide (k' := 30) (n' := 180) (by omega) (by omega) ?_
            refine z_iret X Z (by decide +kernel) dL_numbers_257 ?_
            exact ⟨(), rfl, fun q hq => hq⟩
      ·
        refine n_if_le (tgt := 117) X dL_numbers_109 (by decide) (by omega) (fun c109 => absurd c109 (by omega)) (fun c109 => ?_)
        refine z_iload X dL_numbers_112 rfl ?_
        refine z_goto (tgt := 119) X dL_numbers_114 (by decide) ?_
        refine z_istore X dL_numbers_119 (Nat.le_of_ble_eq_true rfl) ?_
        refine z_lv (lv' := [some (.ref (a 0)), some (.ref qc), some (.int (nI (csN sc 4))), some (.int (nI G)), some (.int (nI (opN S 0 y z G 8))), some (.int (nI ((0 + (0 * 4)) + (y * 6)))), some (.int (nI 1)), some (.int (nI 1))]) rfl ?_
        refine z_iinc (v := nI 2) X dL_numbers_121 rfl (by decide) ?_
        refine z_lv (lv' := [some (.ref (a 0)), some (.ref qc), some (.int (nI (csN sc 4))), some (.int (nI G)), some (.int (nI (opN S 0 y z G 8))), some (.int (nI ((0 + (0 * 4)) + (y * 6)))), some (.int (nI 1)), some (.int (nI 2))]) rfl ?_
        refine z_goto (tgt := 63) X dL_numbers_124 (by decide) ?_
        refine z_iload X dL_numbers_63 rfl ?_
        refine z_iconst (v := nI 3) X dL_numbers_65 (by decide) ?_
        refine n_icmp_ge (tgt := 127) X dL_numbers_66 (by decide) (by omega) (by omega) (fun c66 => absurd c66 (by decide)) (fun _ => ?_)
        refine z_iload X dL_numbers_69 rfl ?_
        refine z_aload_n X dL_numbers_71 rfl rfl ?_
        refine z_iload X dL_numbers_72 rfl ?_
        refine z_w7 (k := 4) (n := 24) (k' := 5) (n' := 30) (st := [.int (nI ((0 + (0 * 4)) + (y * 6)))]) X Y aA_eq V (fun sz => w_level l hfl D t a p h (show 2 < 3 by decide) sz) kw_level q_ml_L_75 is24 ⟨by decide, rfl⟩ (fun u => wA t a b (T6 S p) B qb qv qc fB fV fC) (fun u => ⟨⟨by decide, rfl⟩, ⟨by decide, rfl⟩, rfl, rfl⟩) (by decide) (by decide) rfl rfl rfl (Nat.le_of_ble_eq_true rfl) ⟨by omega, by omega⟩ ⟨by omega, by omega⟩ dL_numbers_74 (fun r74 u74 h74 => ?_)
        subst h74
        refine z_iconst (v := nI 2) X dL_numbers_77 (by decide) ?_
        refine z_iload X dL_numbers_78 rfl ?_
        refine n_imul X dL_numbers_80 ?_
        refine z_iconst (v := nI 4) X dL_numbers_81 (by decide) ?_
        refine n_iadd X dL_numbers_82 ?_
        refine z_iload X dL_numbers_83 rfl ?_
        refine n_if_lt (tgt := 92) X dL_numbers_85 (by decide) (by omega) ?_
        refine z_iconst (v := nI 1) X dL_numbers_88 (by decide) ?_
        refine z_goto (tgt := 93) X dL_numbers_89 (by decide) ?_
        refine n_isub X dL_numbers_93 (by omega) ?_
        refine n_imul X dL_numbers_94 ?_
        refine n_iadd X dL_numbers_95 ?_
        refine z_istore X dL_numbers_96 (Nat.le_of_ble_eq_true rfl) ?_
        refine z_lv (lv' := [some (.ref (a 0)), some (.ref qc), some (.int (nI (csN sc 4))), some (.int (nI G)), some (.int (nI (opN S 0 y z G 8))), some (.int (nI (((0 + (0 * 4)) + (y * 6)) + (z * 7)))), some (.int (nI 1)), some (.int (nI 2))]) rfl ?_
        refine z_iload X dL_numbers_98 rfl ?_
        refine n_if_ge (tgt := 117) X dL_numbers_100 (by decide) (by omega) ?_
        refine z_iload X dL_numbers_117 rfl ?_
        refine z_istore X dL_numbers_119 (Nat.le_of_ble_eq_true rfl) ?_
        refine z_lv (lv' := [some (.ref (a 0)), some (.ref qc), some (.int (nI (csN sc 4))), some (.int (nI G)), some (.int (nI (opN S 0 y z G 8))), some (.int (nI (((0 + (0 * 4)) + (y * 6)) + (z * 7)))), some (.int (nI 1)), some (.int (nI 2))]) rfl ?_
        refine z_iinc (v := nI 3) X dL_numbers_121 rfl (by decide) ?_
        refine z_lv (lv' := [some (.ref (a 0)), some (.ref qc), some (.int (nI (csN sc 4))), some (.int (nI G)), some (.int (nI (opN S 0 y z G 8))), some (.int (nI (((0 + (0 * 4)) + (y * 6)) + (z * 7)))), some (.int (nI 1)), some (.int (nI 3))]) rfl ?_
        refine z_goto (tgt := 63) X dL_numbers_124 (by decide) ?_
        refine z_iload X dL_numbers_63 rfl ?_
        refine z_iconst (v := nI 3) X dL_numbers_65 (by decide) ?_
        refine n_icmp_ge (tgt := 127) X dL_numbers_66 (by decide) (by omega) (by omega) (fun _ => ?_) (fun c66 => absurd c66 (by decide))
        refine z_aload_n X dL_numbers_127 rfl rfl ?_
        refine z_w8 (k := 5) (n := 30) (k' := 8) (n' := 48) (st := []) X Y aA_eq V (fun sz => c_L_levels l hfl D t sz a p h) k8_levels q_ml_L_96 is24 ⟨by decide, rfl⟩ (fun u => wA t a b (T6 S p) B qb qv qc fB fV fC) (fun u => ⟨⟨by decide, rfl⟩, ⟨by decide, rfl⟩, rfl, rfl⟩) (by decide) (by decide) rfl rfl rfl (Nat.le_of_ble_eq_true rfl) ⟨by omega, by omega⟩ ⟨by omega, by omega⟩ dL_numbers_128 (fun r128 u128 h128 => ?_)
        subst h128
        refine z_aload_n X dL_numbers_131 rfl rfl ?_
        refine z_iconst (v := nI 4) X dL_numbers_132 (by decide) ?_
        refine n_iald (f := fC) X 50 rfl (by omega) (by decide) dL_numbers_133 ?_
        refine z_top (y := nI (0 + y + z)) (hc.2) ?_
        refine n_icmp_ne (tgt := 256) X dL_numbers_134 (by decide) (by omega) (by omega) (fun c134 => absurd c134 (by omega)) (fun _ => ?_)
        refine z_aload_n X dL_numbers_137 rfl rfl ?_
        refine z_callV1 (k := 8) (n := 48) (st := []) X (o_places l D t a p h) k_X3_places q_ml_L_100 is24 ⟨by decide, rfl⟩ 0 3 rfl rfl (by decide) rfl rfl rfl (Nat.le_of_ble_eq_true rfl) ⟨by omega, by omega⟩ dL_numbers_138 (fun r138 h138 => ?_)
        subst h138
        refine z_iconst (v := nI 1) X dL_numbers_141 (by decide) ?_
        refine z_aload_n X dL_numbers_142 rfl rfl ?_
        refine z_iconst (v := nI 4) X dL_numbers_143 (by decide) ?_
        refine n_iald (f := fC) X 50 rfl (by omega) (by decide) dL_numbers_144 ?_
        refine z_top (y := nI (0 + y + z)) (hc.2) ?_
        refine z_iconst (v := nI 2) X dL_numbers_145 (by decide) ?_
        refine n_idiv X dL_numbers_146 (by omega) (by decide) (by decide) ?_
        refine n_iadd X dL_numbers_147 ?_
        refine n_icmp_ne (tgt := 256) X dL_numbers_148 (by decide) (by omega) (by omega) (fun c148 => absurd c148 (by omega)) (fun _ => ?_)
        refine z_aload_n X dL_numbers_151 rfl rfl ?_
        refine z_callV1 (k := 8) (n := 48) (st := []) X (o_points l D t a p h) k_X3_points q_ml_L_103 is24 ⟨by decide, rfl⟩ 0 3 rfl rfl (by decide) rfl rfl rfl (Nat.le_of_ble_eq_true rfl) ⟨by omega, by omega⟩ dL_numbers_152 (fun r152 h152 => ?_)
        rw [cs4_N] at h152
        subst h152
        refine z_bipush (v := nI 20) X dL_numbers_155 (by decide) ?_
        refine z_iload_n X dL_numbers_157 rfl rfl ?_
        refine n_isub X dL_numbers_158 (by omega) ?_
        refine n_icmp_ne (tgt := 256) X dL_numbers_159 (by decide) (by omega) (by omega) (fun c159 => absurd c159 (by omega)) (fun _ => ?_)
        refine z_iload_n X dL_numbers_162 rfl rfl ?_
        refine n_if_lt (tgt := 256) X dL_numbers_163 (by decide) (by omega) ?_
        refine z_iload_n X dL_numbers_166 rfl rfl ?_
        refine z_sipush (v := nI 256) X dL_numbers_167 (by decide) ?_
        refine n_icmp_ge (tgt := 256) X dL_numbers_170 (by decide) (by omega) (by omega) (fun c170 => absurd c170 (by omega)) (fun c170 => ?_)
        refine z_aload_n X dL_numbers_173 rfl rfl ?_
        refine z_callV1 (k := 8) (n := 48) (st := []) X (o_working l D t a p h) k_X3_working q_ml_L_80 is24 ⟨by decide, rfl⟩ 0 3 rfl rfl (by decide) rfl rfl rfl (Nat.le_of_ble_eq_true rfl) ⟨by omega, by omega⟩ dL_numbers_174 (fun r174 h174 => ?_)
        subst h174
        refine z_iload_n X dL_numbers_177 rfl rfl ?_
        refine z_iconst (v := (-1)) X dL_numbers_178 (by decide) ?_
        refine z_ixor X dL_numbers_179 ?_
        refine z_iand X dL_numbers_180 ?_
        refine z_top (y := nI 0) ((zn_dif _ _).trans (congrArg nI wk_dif0)) ?_
        refine n_if_ne (tgt := 256) X dL_numbers_181 (by decide) (by omega) (fun c181 => absurd c181 (by decide)) (fun _ => ?_)
        refine z_iload X dL_numbers_184 rfl ?_
        refine z_iload_n X dL_numbers_186 rfl rfl ?_
        refine n_iand X dL_numbers_187 ?_
        refine z_top (y := nI 0) (congrArg nI opN_and) ?_
        refine n_if_ne (tgt := 256) X dL_numbers_188 (by decide) (by omega) (fun c188 => absurd c188 (by decide)) (fun _ => ?_)
        refine z_iload X dL_numbers_191 rfl ?_
        refine n_if_lt (tgt := 256) X dL_numbers_193 (by decide) (by omega) ?_
        refine z_iload X dL_numbers_196 rfl ?_
        refine z_sipush (v := nI 256) X dL_numbers_198 (by decide) ?_
        refine n_icmp_ge (tgt := 256) X dL_numbers_201 (by decide) (by omega) (by omega) (fun c201 => absurd c201 (by omega)) (fun c201 => ?_)
        refine z_iload X dL_numbers_204 rfl ?_
        refine n_if_eq (tgt := 220) X dL_numbers_206 (by decide) (by omega) (fun c206 => ?_) (fun c206 => ?_)
        ·
          refine z_aload_n X dL_numbers_220 rfl rfl ?_
          refine z_callV1 (k := 8) (n := 48) (st := []) X (o_attack l D t a p h) k_X3_attack q_ml_L_109 is24 ⟨by decide, rfl⟩ 0 3 rfl rfl (by decide) rfl rfl rfl (Nat.le_of_ble_eq_true rfl) ⟨by omega, by omega⟩ dL_numbers_221 (fun r221 h221 => ?_)
          subst h221
          refine z_iload X dL_numbers_224 rfl ?_
          refine z_bipush (v := nI 8) X dL_numbers_226 (by decide) ?_
          refine n_idiv X dL_numbers_228 (by omega) (by decide) (by decide) ?_
          refine z_top (y := nI (atk 0 y z)) (congrArg nI (atk_y (by omega))) ?_
          refine n_icmp_ne (tgt := 256) X dL_numbers_229 (by decide) (by omega) (by omega) (fun c229 => absurd c229 (by omega)) (fun _ => ?_)
          refine z_aload_n X dL_numbers_232 rfl rfl ?_
          refine z_iconst (v := nI 3) X dL_numbers_233 (by decide) ?_
          refine z_w7 (k := 8) (n := 48) (k' := 9) (n' := 54) (st := []) X Y aA_eq V (fun sz => w_level_I l hfl D t a p (am_no (by decide) (by decide) (by decide)) sz) kw_level q_ml_L_75 is24 ⟨by decide, rfl⟩ (fun u => wA t a b (T6 S p) B qb qv qc fB fV fC) (fun u => ⟨⟨by decide, rfl⟩, ⟨by decide, rfl⟩, rfl, rfl⟩) (by decide) (by decide) rfl rfl rfl (Nat.le_of_ble_eq_true rfl) ⟨by omega, by omega⟩ ⟨by omega, by omega⟩ dL_numbers_234 (fun r234 u234 h234 => ?_)
          subst h234
          refine z_ldci X q_k_L_18 dL_numbers_237 ?_
          refine z_icmp_ne (tgt := 256) X dL_numbers_239 (by decide) (fun c239 => absurd c239 (by decide)) (fun _ => ?_)
          refine z_aload_n X dL_numbers_242 rfl rfl ?_
          refine z_iconst (v := (-1)) X dL_numbers_243 (by decide) ?_
          refine z_w7 (k := 9) (n := 54) (k' := 10) (n' := 60) (st := []) X Y aA_eq V (fun sz => w_level_I l hfl D t a p (am_m (by decide)) sz) kw_level q_ml_L_75 is24 ⟨by decide, rfl⟩ (fun u => wA t a b (T6 S p) B qb qv qc fB fV fC) (fun u => ⟨⟨by decide, rfl⟩, ⟨by decide, rfl⟩, rfl, rfl⟩) (by decide) (by decide) rfl rfl rfl (Nat.le_of_ble_eq_true rfl) ⟨by omega, by omega⟩ ⟨by omega, by omega⟩ dL_numbers_244 (fun r244 u244 h244 => ?_)
          subst h244
          refine z_ldci X q_k_L_18 dL_numbers_247 ?_
          refine z_icmp_ne (tgt := 256) X dL_numbers_249 (by decide) (fun c249 => absurd c249 (by decide)) (fun _ => ?_)
          refine z_iconst (v := nI 1) X dL_numbers_252 (by decide) ?_
          refine z_goto (tgt := 257) X dL_numbers_253 (by decide) ?_
          refine Wz.wide (k' := 30) (n' := 180) (by omega) (by omega) ?_
          refine z_iret X Z (by decide +kernel) dL_numbers_257 ?_
          exact ⟨(), rfl, fun q hq => hq⟩
        ·
          refine z_iload_n X dL_numbers_209 rfl rfl ?_
          refine z_callS1 (k := 8) (n := 48) (st := []) X (c_L_many l D t G (by omega)) k_L_many q_ml_L_106 [] ⟨by decide, rfl⟩ (by decide) rfl rfl rfl (Nat.le_of_ble_eq_true rfl) ⟨by omega, by omega⟩ dL_numbers_210 (fun r210 h210 => ?_)
          subst h210
          refine z_aload_n X dL_numbers_213 rfl rfl ?_
          refine z_callV1 (k := 8) (n := 48) (st := [.int (nI (p8 G))]) X (o_places l D t a p h) k_X3_places q_ml_L_100 is24 ⟨by decide, rfl⟩ 0 3 rfl rfl (by decide) rfl rfl rfl (Nat.le_of_ble_eq_true rfl) ⟨by omega, by omega⟩ dL_numbers_214 (fun r214 h214 => ?_)
          subst h214
          refine n_icmp_ge (tgt := 256) X dL_numbers_217 (by decide) (by omega) (by omega) (fun c217 => absurd (opN_room c206) (by omega)) (fun c217 => ?_)
          refine z_aload_n X dL_numbers_220 rfl rfl ?_
          refine z_callV1 (k := 8) (n := 48) (st := []) X (o_attack l D t a p h) k_X3_attack q_ml_L_109 is24 ⟨by decide, rfl⟩ 0 3 rfl rfl (by decide) rfl rfl rfl (Nat.le_of_ble_eq_true rfl) ⟨by omega, by omega⟩ dL_numbers_221 (fun r221 h221 => ?_)
          subst h221
          refine z_iload X dL_numbers_224 rfl ?_
          refine z_bipush (v := nI 8) X dL_numbers_226 (by decide) ?_
          refine n_idiv X dL_numbers_228 (by omega) (by decide) (by decide) ?_
          refine z_top (y := nI (atk 0 y z)) (congrArg nI (atk_y (by omega))) ?_
          refine n_icmp_ne (tgt := 256) X dL_numbers_229 (by decide) (by omega) (by omega) (fun c229 => absurd c229 (by omega)) (fun _ => ?_)
          refine z_aload_n X dL_numbers_232 rfl rfl ?_
          refine z_iconst (v := nI 3) X dL_numbers_233 (by decide) ?_
          refine z_w7 (k := 8) (n := 48) (k' := 9) (n' := 54) (st := []) X Y aA_eq V (fun sz => w_level_I l hfl D t a p (am_no (by decide) (by decide) (by decide)) sz) kw_level q_ml_L_75 is24 ⟨by decide, rfl⟩ (fun u => wA t a b (T6 S p) B qb qv qc fB fV fC) (fun u => ⟨⟨by decide, rfl⟩, ⟨by decide, rfl⟩, rfl, rfl⟩) (by decide) (by decide) rfl rfl rfl (Nat.le_of_ble_eq_true rfl) ⟨by omega, by omega⟩ ⟨by omega, by omega⟩ dL_numbers_234 (fun r234 u234 h234 => ?_)
          subst h234
          refine z_ldci X q_k_L_18 dL_numbers_237 ?_
          refine z_icmp_ne (tgt := 256) X dL_numbers_239 (by decide) (fun c239 => absurd c239 (by decide)) (fun _ => ?_)
          refine z_aload_n X dL_numbers_242 rfl rfl ?_
          refine z_iconst (v := (-1)) X dL_numbers_243 (by decide) ?_
          refine z_w7 (k := 9) (n := 54) (k' := 10) (n' := 60) (st := []) X Y aA_eq V (fun sz => w_level_I l hfl D t a p (am_m (by decide)) sz) kw_level q_ml_L_75 is24 ⟨by decide, rfl⟩ (fun u => wA t a b (T6 S p) B qb qv qc fB fV fC) (fun u => ⟨⟨by decide, rfl⟩, ⟨by decide, rfl⟩, rfl, rfl⟩) (by decide) (by decide) rfl rfl rfl (Nat.le_of_ble_eq_true rfl) ⟨by omega, by omega⟩ ⟨by omega, by omega⟩ dL_numbers_244 (fun r244 u244 h244 => ?_)
          subst h244
          refine z_ldci X q_k_L_18 dL_numbers_247 ?_
          refine z_icmp_ne (tgt := 256) X dL_numbers_249 (by decide) (fun c249 => absurd c249 (by decide)) (fun _ => ?_)
          refine z_iconst (v := nI 1) X dL_numbers_252 (by decide) ?_
          refine z_goto (tgt := 257) X dL_numbers_253 (by decide) ?_
          refine Wz.wide (k' := 30) (n' := 180) (by omega) (by omega) ?_
          refine z_iret X Z (by decide +kernel) dL_numbers_257 ?_
          exact ⟨(), rfl, fun q hq => hq⟩
    ·
      refine n_if_le (tgt := 117) X dL_numbers_109 (by decide) (by omega) (fun c109 => absurd c109 (by omega)) (fun c109 => ?_)
      refine z_iload X dL_numbers_112 rfl ?_
      refine z_goto (tgt := 119) X dL_numbers_114 (by decide) ?_
      refine z_istore X dL_numbers_119 (Nat.le_of_ble_eq_true rfl) ?_
      refine z_lv (lv' := [some (.ref (a 0)), some (.ref qc), some (.int (nI (csN sc 4))), some (.int (nI G)), some (.int (nI (opN S x y z G 8))), some (.int (nI (0 + (x * 4)))), some (.int (nI 0)), some (.int (nI 0))]) rfl ?_
      refine z_iinc (v := nI 1) X dL_numbers_121 rfl (by decide) ?_
      refine z_lv (lv' := [some (.ref (a 0)), some (.ref qc), some (.int (nI (csN sc 4))), some (.int (nI G)), some (.int (nI (opN S x y z G 8))), some (.int (nI (0 + (x * 4)))), some (.int (nI 0)), some (.int (nI 1))]) rfl ?_
      refine z_goto (tgt := 63) X dL_numbers_124 (by decide) ?_
      refine z_iload X dL_numbers_63 rfl ?_
      refine z_iconst (v := nI 3) X dL_numbers_65 (by decide) ?_
      refine n_icmp_ge (tgt := 127) X dL_numbers_66 (by decide) (by omega) (by omega) (fun c66 => absurd c66 (by decide)) (fun _ => ?_)
      refine z_iload X dL_numbers_69 rfl ?_
      refine z_aload_n X dL_numbers_71 rfl rfl ?_
      refine z_iload X dL_numbers_72 rfl ?_
      refine z_w7 (k := 2) (n := 12) (k' := 3) (n' := 18) (st := [.int (nI (0 + (x * 4)))]) X Y aA_eq V (fun sz => w_level l hfl D t a p h (show 1 < 3 by decide) sz) kw_level q_ml_L_75 is24 ⟨by decide, rfl⟩ (fun u => wA t a b (T6 S p) B qb qv qc fB fV fC) (fun u => ⟨⟨by decide, rfl⟩, ⟨by decide, rfl⟩, rfl, rfl⟩) (by decide) (by decide) rfl rfl rfl (Nat.le_of_ble_eq_true rfl) ⟨by omega, by omega⟩ ⟨by omega, by omega⟩ dL_numbers_74 (fun r74 u74 h74 => ?_)
      subst h74
      refine z_iconst (v := nI 2) X dL_numbers_77 (by decide) ?_
      refine z_iload X dL_numbers_78 rfl ?_
      refine n_imul X dL_numbers_80 ?_
      refine z_iconst (v := nI 4) X dL_numbers_81 (by decide) ?_
      refine n_iadd X dL_numbers_82 ?_
      refine z_iload X dL_numbers_83 rfl ?_
      refine n_if_lt (tgt := 92) X dL_numbers_85 (by decide) (by omega) ?_
      refine z_iconst (v := nI 1) X dL_numbers_88 (by decide) ?_
      refine z_goto (tgt := 93) X dL_numbers_89 (by decide) ?_
      refine n_isub X dL_numbers_93 (by omega) ?_
      refine n_imul X dL_numbers_94 ?_
      refine n_iadd X dL_numbers_95 ?_
      refine z_istore X dL_numbers_96 (Nat.le_of_ble_eq_true rfl) ?_
      refine z_lv (lv' := [some (.ref (a 0)), some (.ref qc), some (.int (nI (csN sc 4))), some (.int (nI G)), some (.int (nI (opN S x y z G 8))), some (.int (nI ((0 + (x * 4)) + (y * 5)))), some (.int (nI 0)), some (.int (nI 1))]) rfl ?_
      refine z_iload X dL_numbers_98 rfl ?_
      refine n_if_ge (tgt := 117) X dL_numbers_100 (by decide) (by omega) ?_
      refine z_iload X dL_numbers_117 rfl ?_
      refine z_istore X dL_numbers_119 (Nat.le_of_ble_eq_true rfl) ?_
      refine z_lv (lv' := [some (.ref (a 0)), some (.ref qc), some (.int (nI (csN sc 4))), some (.int (nI G)), some (.int (nI (opN S x y z G 8))), some (.int (nI ((0 + (x * 4)) + (y * 5)))), some (.int (nI 0)), some (.int (nI 1))]) rfl ?_
      refine z_iinc (v := nI 2) X dL_numbers_121 rfl (by decide) ?_
      refine z_lv (lv' := [some (.ref (a 0)), some (.ref qc), some (.int (nI (csN sc 4))), some (.int (nI G)), some (.int (nI (opN S x y z G 8))), some (.int (nI ((0 + (x * 4)) + (y * 5)))), some (.int (nI 0)), some (.int (nI 2))]) rfl ?_
      refine z_goto (tgt := 63) X dL_numbers_124 (by decide) ?_
      refine z_iload X dL_numbers_63 rfl ?_
      refine z_iconst (v := nI 3) X dL_numbers_65 (by decide) ?_
      refine n_icmp_ge (tgt := 127) X dL_numbers_66 (by decide) (by omega) (by omega) (fun c66 => absurd c66 (by decide)) (fun _ => ?_)
      refine z_iload X dL_numbers_69 rfl ?_
      refine z_aload_n X dL_numbers_71 rfl rfl ?_
      refine z_iload X dL_numbers_72 rfl ?_
      refine z_w7 (k := 3) (n := 18) (k' := 4) (n' := 24) (st := [.int (nI ((0 + (x * 4)) + (y * 5)))]) X Y aA_eq V (fun sz => w_level l hfl D t a p h (show 2 < 3 by decide) sz) kw_level q_ml_L_75 is24 ⟨by decide, rfl⟩ (fun u => wA t a b (T6 S p) B qb qv qc fB fV fC) (fun u => ⟨⟨by decide, rfl⟩, ⟨by decide, rfl⟩, rfl, rfl⟩) (by decide) (by decide) rfl rfl rfl (Nat.le_of_ble_eq_true rfl) ⟨by omega, by omega⟩ ⟨by omega, by omega⟩ dL_numbers_74 (fun r74 u74 h74 => ?_)
      subst h74
      refine z_iconst (v := nI 2) X dL_numbers_77 (by decide) ?_
      refine z_iload X dL_numbers_78 rfl ?_
      refine n_imul X dL_numbers_80 ?_
      refine z_iconst (v := nI 4) X dL_numbers_81 (by decide) ?_
      refine n_iadd X dL_numbers_82 ?_
      refine z_iload X dL_numbers_83 rfl ?_
      refine n_if_lt (tgt := 92) X dL_numbers_85 (by decide) (by omega) ?_
      refine z_iconst (v := nI 1) X dL_numbers_88 (by decide) ?_
      refine z_goto (tgt := 93) X dL_numbers_89 (by decide) ?_
      refine n_isub X dL_numbers_93 (by omega) ?_
      refine n_imul X dL_numbers_94 ?_
      refine n_iadd X dL_numbers_95 ?_
      refine z_istore X dL_numbers_96 (Nat.le_of_ble_eq_true rfl) ?_
      refine z_lv (lv' := [some (.ref (a 0)), some (.ref qc), some (.int (nI (csN sc 4))), some (.int (nI G)), some (.int (nI (opN S x y z G 8))), some (.int (nI (((0 + (x * 4)) + (y * 5)) + (z * 7)))), some (.int (nI 0)), some (.int (nI 2))]) rfl ?_
      refine z_iload X dL_numbers_98 rfl ?_
      refine n_if_ge (tgt := 117) X dL_numbers_100 (by decide) (by omega) ?_
      refine z_iload X dL_numbers_117 rfl ?_
      refine z_istore X dL_numbers_119 (Nat.le_of_ble_eq_true rfl) ?_
      refine z_lv (lv' := [some (.ref (a 0)), some (.ref qc), some (.int (nI (csN sc 4))), some (.int (nI G)), some (.int (nI (opN S x y z G 8))), some (.int (nI (((0 + (x * 4)) + (y * 5)) + (z * 7)))), some (.int (nI 0)), some (.int (nI 2))]) rfl ?_
      refine z_iinc (v := nI 3) X dL_numbers_121 rfl (by decide) ?_
      refine z_lv (lv' := [some (.ref (a 0)), some (.ref qc), some (.int (nI (csN sc 4))), some (.int (nI G)), some (.int (nI (opN S x y z G 8))), some (.int (nI (((0 + (x * 4)) + (y * 5)) + (z * 7)))), some (.int (nI 0)), some (.int (nI 3))]) rfl ?_
      refine z_goto (tgt := 63) X dL_numbers_124 (by decide) ?_
      refine z_iload X dL_numbers_63 rfl ?_
      refine z_iconst (v := nI 3) X dL_numbers_65 (by decide) ?_
      refine n_icmp_ge (tgt := 127) X dL_numbers_66 (by decide) (by omega) (by omega) (fun _ => ?_) (fun c66 => absurd c66 (by decide))
      refine z_aload_n X dL_numbers_127 rfl rfl ?_
      refine z_w8 (k := 4) (n := 24) (k' := 7) (n' := 42) (st := []) X Y aA_eq V (fun sz => c_L_levels l hfl D t sz a p h) k8_levels q_ml_L_96 is24 ⟨by decide, rfl⟩ (fun u => wA t a b (T6 S p) B qb qv qc fB fV fC) (fun u => ⟨⟨by decide, rfl⟩, ⟨by decide, rfl⟩, rfl, rfl⟩) (by decide) (by decide) rfl rfl rfl (Nat.le_of_ble_eq_true rfl) ⟨by omega, by omega⟩ ⟨by omega, by omega⟩ dL_numbers_128 (fun r128 u128 h128 => ?_)
      subst h128
      refine z_aload_n X dL_numbers_131 rfl rfl ?_
      refine z_iconst (v := nI 4) X dL_numbers_132 (by decide) ?_
      refine n_iald (f := fC) X 50 rfl (by omega) (by decide) dL_numbers_133 ?_
      refine z_top (y := nI (x + y + z)) (hc.2) ?_
      refine n_icmp_ne (tgt := 256) X dL_numbers_134 (by decide) (by omega) (by omega) (fun c134 => absurd c134 (by omega)) (fun _ => ?_)
      refine z_aload_n X dL_numbers_137 rfl rfl ?_
      refine z_callV1 (k := 7) (n := 42) (st := []) X (o_places l D t a p h) k_X3_places q_ml_L_100 is24 ⟨by decide, rfl⟩ 0 3 rfl rfl (by decide) rfl rfl rfl (Nat.le_of_ble_eq_true rfl) ⟨by omega, by omega⟩ dL_numbers_138 (fun r138 h138 => ?_)
      subst h138
      refine z_iconst (v := nI 1) X dL_numbers_141 (by decide) ?_
      refine z_aload_n X dL_numbers_142 rfl rfl ?_
      refine z_iconst (v := nI 4) X dL_numbers_143 (by decide) ?_
      refine n_iald (f := fC) X 50 rfl (by omega) (by decide) dL_numbers_144 ?_
      refine z_top (y := nI (x + y + z)) (hc.2) ?_
      refine z_iconst (v := nI 2) X dL_numbers_145 (by decide) ?_
      refine n_idiv X dL_numbers_146 (by omega) (by decide) (by decide) ?_
      refine n_iadd X dL_numbers_147 ?_
      refine n_icmp_ne (tgt := 256) X dL_numbers_148 (by decide) (by omega) (by omega) (fun c148 => absurd c148 (by omega)) (fun _ => ?_)
      refine z_aload_n X dL_numbers_151 rfl rfl ?_
      refine z_callV1 (k := 7) (n := 42) (st := []) X (o_points l D t a p h) k_X3_points q_ml_L_103 is24 ⟨by decide, rfl⟩ 0 3 rfl rfl (by decide) rfl rfl rfl (Nat.le_of_ble_eq_true rfl) ⟨by omega, by omega⟩ dL_numbers_152 (fun r152 h152 => ?_)
      rw [cs4_N] at h152
      subst h152
      refine z_bipush (v := nI 20) X dL_numbers_155 (by decide) ?_
      refine z_iload_n X dL_numbers_157 rfl rfl ?_
      refine n_isub X dL_numbers_158 (by omega) ?_
      refine n_icmp_ne (tgt := 256) X dL_numbers_159 (by decide) (by omega) (by omega) (fun c159 => absurd c159 (by omega)) (fun _ => ?_)
      refine z_iload_n X dL_numbers_162 rfl rfl ?_
      refine n_if_lt (tgt := 256) X dL_numbers_163 (by decide) (by omega) ?_
      refine z_iload_n X dL_numbers_166 rfl rfl ?_
      refine z_sipush (v := nI 256) X dL_numbers_167 (by decide) ?_
      refine n_icmp_ge (tgt := 256) X dL_numbers_170 (by decide) (by omega) (by omega) (fun c170 => absurd c170 (by omega)) (fun c170 => ?_)
      refine z_aload_n X dL_numbers_173 rfl rfl ?_
      refine z_callV1 (k := 7) (n := 42) (st := []) X (o_working l D t a p h) k_X3_working q_ml_L_80 is24 ⟨by decide, rfl⟩ 0 3 rfl rfl (by decide) rfl rfl rfl (Nat.le_of_ble_eq_true rfl) ⟨by omega, by omega⟩ dL_numbers_174 (fun r174 h174 => ?_)
      subst h174
      refine z_iload_n X dL_numbers_177 rfl rfl ?_
      refine z_iconst (v := (-1)) X dL_numbers_178 (by decide) ?_
      refine z_ixor X dL_numbers_179 ?_
      refine z_iand X dL_numbers_180 ?_
      refine z_top (y := nI 0) ((zn_dif _ _).trans (congrArg nI wk_dif0)) ?_
      refine n_if_ne (tgt := 256) X dL_numbers_181 (by decide) (by omega) (fun c181 => absurd c181 (by decide)) (fun _ => ?_)
      refine z_iload X dL_numbers_184 rfl ?_
      refine z_iload_n X dL_numbers_186 rfl rfl ?_
      refine n_iand X dL_numbers_187 ?_
      refine z_top (y := nI 0) (congrArg nI opN_and) ?_
      refine n_if_ne (tgt := 256) X dL_numbers_188 (by decide) (by omega) (fun c188 => absurd c188 (by decide)) (fun _ => ?_)
      refine z_iload X dL_numbers_191 rfl ?_
      refine n_if_lt (tgt := 256) X dL_numbers_193 (by decide) (by omega) ?_
      refine z_iload X dL_numbers_196 rfl ?_
      refine z_sipush (v := nI 256) X dL_numbers_198 (by decide) ?_
      refine n_icmp_ge (tgt := 256) X dL_numbers_201 (by decide) (by omega) (by omega) (fun c201 => absurd c201 (by omega)) (fun c201 => ?_)
      refine z_iload X dL_numbers_204 rfl ?_
      refine n_if_eq (tgt := 220) X dL_numbers_206 (by decide) (by omega) (fun c206 => ?_) (fun c206 => ?_)
      ·
        refine z_aload_n X dL_numbers_220 rfl rfl ?_
        refine z_callV1 (k := 7) (n := 42) (st := []) X (o_attack l D t a p h) k_X3_attack q_ml_L_109 is24 ⟨by decide, rfl⟩ 0 3 rfl rfl (by decide) rfl rfl rfl (Nat.le_of_ble_eq_true rfl) ⟨by omega, by omega⟩ dL_numbers_221 (fun r221 h221 => ?_)
        subst h221
        refine z_iload X dL_numbers_224 rfl ?_
        refine z_bipush (v := nI 8) X dL_numbers_226 (by decide) ?_
        refine n_idiv X dL_numbers_228 (by omega) (by decide) (by decide) ?_
        refine z_top (y := nI (atk x y z)) (congrArg nI (atk_x (by omega))) ?_
        refine n_icmp_ne (tgt := 256) X dL_numbers_229 (by decide) (by omega) (by omega) (fun c229 => absurd c229 (by omega)) (fun _ => ?_)
        refine z_aload_n X dL_numbers_232 rfl rfl ?_
        refine z_iconst (v := nI 3) X dL_numbers_233 (by decide) ?_
        refine z_w7 (k := 7) (n := 42) (k' := 8) (n' := 48) (st := []) X Y aA_eq V (fun sz => w_level_I l hfl D t a p (am_no (by decide) (by decide) (by decide)) sz) kw_level q_ml_L_75 is24 ⟨by decide, rfl⟩ (fun u => wA t a b (T6 S p) B qb qv qc fB fV fC) (fun u => ⟨⟨by decide, rfl⟩, ⟨by decide, rfl⟩, rfl, rfl⟩) (by decide) (by decide) rfl rfl rfl (Nat.le_of_ble_eq_true rfl) ⟨by omega, by omega⟩ ⟨by omega, by omega⟩ dL_numbers_234 (fun r234 u234 h234 => ?_)
        subst h234
        refine z_ldci X q_k_L_18 dL_numbers_237 ?_
        refine z_icmp_ne (tgt := 256) X dL_numbers_239 (by decide) (fun c239 => absurd c239 (by decide)) (fun _ => ?_)
        refine z_aload_n X dL_numbers_242 rfl rfl ?_
        refine z_iconst (v := (-1)) X dL_numbers_243 (by decide) ?_
        refine z_w7 (k := 8) (n := 48) (k' := 9) (n' := 54) (st := []) X Y aA_eq V (fun sz => w_level_I l hfl D t a p (am_m (by decide)) sz) kw_level q_ml_L_75 is24 ⟨by decide, rfl⟩ (fun u => wA t a b (T6 S p) B qb qv qc fB fV fC) (fun u => ⟨⟨by decide, rfl⟩, ⟨by decide, rfl⟩, rfl, rfl⟩) (by decide) (by decide) rfl rfl rfl (Nat.le_of_ble_eq_true rfl) ⟨by omega, by omega⟩ ⟨by omega, by omega⟩ dL_numbers_244 (fun r244 u244 h244 => ?_)
        subst h244
        refine z_ldci X q_k_L_18 dL_numbers_247 ?_
        refine z_icmp_ne (tgt := 256) X dL_numbers_249 (by decide) (fun c249 => absurd c249 (by decide)) (fun _ => ?_)
        refine z_iconst (v := nI 1) X dL_numbers_252 (by decide) ?_
        refine z_goto (tgt := 257) X dL_numbers_253 (by decide) ?_
        refine Wz.wide (k' := 30) (n' := 180) (by omega) (by omega) ?_
        refine z_iret X Z (by decide +kernel) dL_numbers_257 ?_
        exact ⟨(), rfl, fun q hq => hq⟩
      ·
        refine z_iload_n X dL_numbers_209 rfl rfl ?_
        refine z_callS1 (k := 7) (n := 42) (st := []) X (c_L_many l D t G (by omega)) k_L_many q_ml_L_106 [] ⟨by decide, rfl⟩ (by decide) rfl rfl rfl (Nat.le_of_ble_eq_true rfl) ⟨by omega, by omega⟩ dL_numbers_210 (fun r210 h210 => ?_)
        subst h210
        refine z_aload_n X dL_numbers_213 rfl rfl ?_
        refine z_callV1 (k := 7) (n := 42) (st := [.int (nI (p8 G))]) X (o_places l D t a p h) k_X3_places q_ml_L_100 is24 ⟨by decide, rfl⟩ 0 3 rfl rfl (by decide) rfl rfl rfl (Nat.le_of_ble_eq_true rfl) ⟨by omega, by omega⟩ dL_numbers_214 (fun r214 h214 => ?_)
        subst h214
        refine n_icmp_ge (tgt := 256) X dL_numbers_217 (by decide) (by omega) (by omega) (fun c217 => absurd (opN_room c206) (by omega)) (fun c217 => ?_)
        refine z_aload_n X dL_numbers_220 rfl rfl ?_
        refine z_callV1 (k := 7) (n := 42) (st := []) X (o_attack l D t a p h) k_X3_attack q_ml_L_109 is24 ⟨by decide, rfl⟩ 0 3 rfl rfl (by decide) rfl rfl rfl (Nat.le_of_ble_eq_true rfl) ⟨by omega, by omega⟩ dL_numbers_221 (fun r221 h221 => ?_)
        subst h221
        refine z_iload X dL_numbers_224 rfl ?_
        refine z_bipush (v := nI 8) X dL_numbers_226 (by decide) ?_
        refine n_idiv X dL_numbers_228 (by omega) (by decide) (by decide) ?_
        refine z_top (y := nI (atk x y z)) (congrArg nI (atk_x (by omega))) ?_
        refine n_icmp_ne (tgt := 256) X dL_numbers_229 (by decide) (by omega) (by omega) (fun c229 => absurd c229 (by omega)) (fun _ => ?_)
        refine z_aload_n X dL_numbers_232 rfl rfl ?_
        refine z_iconst (v := nI 3) X dL_numbers_233 (by decide) ?_
        refine z_w7 (k := 7) (n := 42) (k' := 8) (n' := 48) (st := []) X Y aA_eq V (fun sz => w_level_I l hfl D t a p (am_no (by decide) (by decide) (by decide)) sz) kw_level q_ml_L_75 is24 ⟨by decide, rfl⟩ (fun u => wA t a b (T6 S p) B qb qv qc fB fV fC) (fun u => ⟨⟨by decide, rfl⟩, ⟨by decide, rfl⟩, rfl, rfl⟩) (by decide) (by decide) rfl rfl rfl (Nat.le_of_ble_eq_true rfl) ⟨by omega, by omega⟩ ⟨by omega, by omega⟩ dL_numbers_234 (fun r234 u234 h234 => ?_)
        subst h234
        refine z_ldci X q_k_L_18 dL_numbers_237 ?_
        refine z_icmp_ne (tgt := 256) X dL_numbers_239 (by decide) (fun c239 => absurd c239 (by decide)) (fun _ => ?_)
        refine z_aload_n X dL_numbers_242 rfl rfl ?_
        refine z_iconst (v := (-1)) X dL_numbers_243 (by decide) ?_
        refine z_w7 (k := 8) (n := 48) (k' := 9) (n' := 54) (st := []) X Y aA_eq V (fun sz => w_level_I l hfl D t a p (am_m (by decide)) sz) kw_level q_ml_L_75 is24 ⟨by decide, rfl⟩ (fun u => wA t a b (T6 S p) B qb qv qc fB fV fC) (fun u => ⟨⟨by decide, rfl⟩, ⟨by decide, rfl⟩, rfl, rfl⟩) (by decide) (by decide) rfl rfl rfl (Nat.le_of_ble_eq_true rfl) ⟨by omega, by omega⟩ ⟨by omega, by omega⟩ dL_numbers_244 (fun r244 u244 h244 => ?_)
        subst h244
        refine z_ldci X q_k_L_18 dL_numbers_247 ?_
        refine z_icmp_ne (tgt := 256) X dL_numbers_249 (by decide) (fun c249 => absurd c249 (by decide)) (fun _ => ?_)
        refine z_iconst (v := nI 1) X dL_numbers_252 (by decide) ?_
        refine z_goto (tgt := 257) X dL_numbers_253 (by decide) ?_
        refine Wz.wide (k' := 30) (n' := 180) (by omega) (by omega) ?_
        refine z_iret X Z (by decide +kernel) dL_numbers_257 ?_
        exact ⟨(), rfl, fun q hq => hq⟩
  ·
    intro i hi_i ih_i
    have h8 := h.2.1 i hi_i
    have h81 := h8.2.1
    have h82 := h8.2.2
    refine z_iload_n X dL_numbers_4 rfl rfl ?_
    refine z_iconst (v := nI 4) X dL_numbers_5 (by decide) ?_
    refine n_icmp_ge (tgt := 43) X dL_numbers_6 (by decide) (by omega) (by omega) (fun c6 => absurd c6 (by omega)) (fun _ => ?_)
    refine z_iload_n X dL_numbers_9 rfl rfl ?_
    refine z_aload_n X dL_numbers_10 rfl rfl ?_
    refine z_iload_n X dL_numbers_11 rfl rfl ?_
    refine n_iald (f := fC) X 50 rfl (by omega) (by decide) dL_numbers_12 ?_
    refine z_top (y := nI (sc i)) (hc.1 i (by omega)) ?_
    refine z_bipush (v := nI 8) X dL_numbers_13 (by decide) ?_
    refine n_isub X dL_numbers_15 (by omega) ?_
    refine z_aload_n X dL_numbers_16 rfl rfl ?_
    refine z_iload_n X dL_numbers_17 rfl rfl ?_
    refine n_iald (f := fC) X 50 rfl (by omega) (by decide) dL_numbers_18 ?_
    refine z_top (y := nI (sc i)) (hc.1 i (by omega)) ?_
    refine z_bipush (v := nI 12) X dL_numbers_19 (by decide) ?_
    refine n_icmp_le (tgt := 33) X dL_numbers_21 (by decide) (by omega) (by omega) (fun c21 => ?_) (fun c21 => ?_)
    ·
      refine z_iconst (v := nI 0) X dL_numbers_33 (by decide) ?_
      refine n_iadd X dL_numbers_34 ?_
      refine n_iadd X dL_numbers_35 ?_
      refine z_top (y := nI (csN sc (i + 1))) (congrArg nI (show csN sc i + _ = csN sc i + (sc i - 8 + (sc i - 12)) by omega)) ?_
      refine z_istore_n X dL_numbers_36 rfl (Nat.le_of_ble_eq_true rfl) ?_
      refine z_lv (lv' := [some (.ref (a 0)), some (.ref qc), some (.int (nI (csN sc (i + 1)))), some (.int (nI i)), none, none, none, none]) rfl ?_
      refine z_iinc (v := nI (i + 1)) X dL_numbers_37 rfl (nI_add i 1) ?_
      refine z_lv (lv' := [some (.ref (a 0)), some (.ref qc), some (.int (nI (csN sc (i + 1)))), some (.int (nI (i + 1))), none, none, none, none]) rfl ?_
      refine z_goto (tgt := 4) X dL_numbers_40 (by decide) ?_
      exact ih_i
    ·
      refine z_aload_n X dL_numbers_24 rfl rfl ?_
      refine z_iload_n X dL_numbers_25 rfl rfl ?_
      refine n_iald (f := fC) X 50 rfl (by omega) (by decide) dL_numbers_26 ?_
      refine z_top (y := nI (sc i)) (hc.1 i (by omega)) ?_
      refine z_bipush (v := nI 12) X dL_numbers_27 (by decide) ?_
      refine n_isub X dL_numbers_29 (by omega) ?_
      refine z_goto (tgt := 34) X dL_numbers_30 (by decide) ?_
      refine n_iadd X dL_numbers_34 ?_
      refine n_iadd X dL_numbers_35 ?_
      refine z_top (y := nI (csN sc (i + 1))) (rfl) ?_
      refine z_istore_n X dL_numbers_36 rfl (Nat.le_of_ble_eq_true rfl) ?_
      refine z_lv (lv' := [some (.ref (a 0)), some (.ref qc), some (.int (nI (csN sc (i + 1)))), some (.int (nI i)), none, none, none, none]) rfl ?_
      refine z_iinc (v := nI (i + 1)) X dL_numbers_37 rfl (nI_add i 1) ?_
      refine z_lv (lv' := [some (.ref (a 0)), some (.ref qc), some (.int (nI (csN sc (i + 1)))), some (.int (nI (i + 1))), none, none, none, none]) rfl ?_
      refine z_goto (tgt := 4) X dL_numbers_40 (by decide) ?_
      exact ih_i
