/-! the class's rules: what they ask and what they change -/
def am (x : Int32) (m : Nat) : Prop := ∃ k, k < m ∧ x = nI k
abbrev rg (x lo hi : Int32) : Prop := lo ≤ x ∧ x ≤ hi
def nd1 (g ab ca ot : Int32) : Prop := am g 8 ∧ zo ab 4 ∧ zo ca 3 ∧ zo ot 8
def nd2 (ab sc ca lv : Int32) : Prop := (ab = -1 ∨ rg sc (nI 8) (nI 16)) ∧ (ca = -1 ∨ rg lv (nI 1) (nI 8))
abbrev ndS (S : zS) (k : Nat) (ab sc ca lv ot : Int32) : zS := va_up (va_up (va_up (va_up (va_up S 0 (upd (S 0) k ab)) 1 (upd (S 1) k sc)) 2 (upd (S 2) k ca)) 3 (upd (S 3) k lv)) 4 (upd (S 4) k ot)
def br1 (g ca : Int32) : Prop := am g 8 ∧ zo ca 3
def br2 (ca lv : Int32) : Prop := ca = -1 ∨ rg lv (nI 0) (nI 7)
abbrev brS (S : zS) (k : Nat) (ca lv : Int32) : zS := va_up (va_up S 5 (upd (S 5) k ca)) 6 (upd (S 6) k lv)
def bo1 (g v : Int32) : Prop := am g 8 ∧ zo v 6
def bo2 (kd i : Int32) : Prop := am kd 4 ∧ rg i (-9) (nI 9)
abbrev boS (S : zS) (k : Nat) (v kd i : Int32) : zS := va_up (va_up (va_up S 7 (upd (S 7) k v)) 8 (upd (S 8) k kd)) 9 (upd (S 9) k i)
def va1 (v ab ca ot : Int32) : Prop := am v 6 ∧ zo ab 4 ∧ zo ca 3 ∧ zo ot 6
def va2 (i : Int32) : Prop := rg i (-50) (nI 50)
abbrev vaS (S : zS) (k : Nat) (i ab ca ot : Int32) : zS := va_up (va_up (va_up (va_up S 10 (upd (S 10) k i)) 11 (upd (S 11) k ab)) 12 (upd (S 12) k ca)) 13 (upd (S 13) k ot)
set_option maxHeartbeats 4000000 in
set_option maxRecDepth 100000 in
theorem c_X3_setNeeds (l : Launch) (hfl : l.stackTraces = false) (D : va_G) (t : ClassId × ClassId × ClassId) (sz : Nat) (a : Nat → Nat) (S : zS) (g ab sc ca lw ot : Int32) : zM5 l yX3_setNeeds cX3_setNeeds 7 20 D t [.ref (a 0), .int g, .int ab, .int sc, .int ca, .int lw, .int ot] (wR t a S) sz (fun u : Nat => u < 8 ∧ g = nI u ∧ nd1 g ab ca ot ∧ nd2 ab sc ca lw) (fun u => wR t a (ndS S u ab sc ca lw ot)) (fun E (_ : Unit) => (E = eI ∧ ¬ nd1 g ab ca ot) ∨ (E = eA ∧ nd1 g ab ca ot ∧ ¬ nd2 ab sc ca lw)) (fun _ => wR t a S) := by
  refine z_m5 hfl (by decide +kernel) (Nat.le_of_ble_eq_true rfl) (by simp [Value.category]) ?_
  intro E X Z V Y
  refine z_lv (lv' := [some (.ref (a 0)), some (.int g), some (.int ab), some (.int sc), some (.int ca), some (.int lw), some (.int ot)]) rfl ?_
  refine z_iload_n X dX3_setNeeds_0 rfl rfl ?_
  refine z_bipush (v := nI 8) X dX3_setNeeds_1 (by decide) ?_
  refine z_callS1 (k := 0) (n := 0) (st := []) X (c_X3_isAmong_g l D t g 8 (by decide)) k_X3_isAmong q_ml_X3_53 [] ⟨by decide, rfl⟩ (by decide) rfl rfl rfl (Nat.le_of_ble_eq_true rfl) ⟨Nat.zero_le _, Nat.zero_le _⟩ dX3_setNeeds_3 (fun r3 h3 => ?_)
  rcases h3 with ⟨rfl, kg, hkg, rfl⟩ | ⟨rfl, h3⟩
  ·
    refine n_if_eq (tgt := 36) X dX3_setNeeds_6 (by decide) (by omega) (fun c6 => absurd c6 (by decide)) (fun _ => ?_)
    refine z_iload_n X dX3_setNeeds_9 rfl rfl ?_
    refine z_iconst (v := nI 4) X dX3_setNeeds_10 (by decide) ?_
    refine z_callS1 (k := 0) (n := 0) (st := []) X (c_X3_isAmongOrNone l D t ab 4 (by decide)) k_X3_isAmongOrNone q_ml_X3_57 [] ⟨by decide, rfl⟩ (by decide) rfl rfl rfl (Nat.le_of_ble_eq_true rfl) ⟨Nat.zero_le _, Nat.zero_le _⟩ dX3_setNeeds_11 (fun r11 h11 => ?_)
    rcases h11 with ⟨rfl, h11⟩ | ⟨rfl, h11⟩
    ·
      refine n_if_eq (tgt := 36) X dX3_setNeeds_14 (by decide) (by omega) (fun c14 => absurd c14 (by decide)) (fun _ => ?_)
      refine z_iload X dX3_setNeeds_17 rfl ?_
      refine z_iconst (v := nI 3) X dX3_setNeeds_19 (by decide) ?_
      refine z_callS1 (k := 0) (n := 0) (st := []) X (c_X3_isAmongOrNone l D t ca 3 (by decide)) k_X3_isAmongOrNone q_ml_X3_57 [] ⟨by decide, rfl⟩ (by decide) rfl rfl rfl (Nat.le_of_ble_eq_true rfl) ⟨Nat.zero_le _, Nat.zero_le _⟩ dX3_setNeeds_20 (fun r20 h20 => ?_)
      rcases h20 with ⟨rfl, h20⟩ | ⟨rfl, h20⟩
      ·
        refine n_if_eq (tgt := 36) X dX3_setNeeds_23 (by decide) (by omega) (fun c23 => absurd c23 (by decide)) (fun _ => ?_)
        refine z_iload X dX3_setNeeds_26 rfl ?_
        refine z_bipush (v := nI 8) X dX3_setNeeds_28 (by decide) ?_
        refine z_callS1 (k := 0) (n := 0) (st := []) X (c_X3_isAmongOrNone l D t ot 8 (by decide)) k_X3_isAmongOrNone q_ml_X3_57 [] ⟨by decide, rfl⟩ (by decide) rfl rfl rfl (Nat.le_of_ble_eq_true rfl) ⟨Nat.zero_le _, Nat.zero_le _⟩ dX3_setNeeds_30 (fun r30 h30 => ?_)
        rcases h30 with ⟨rfl, h30⟩ | ⟨rfl, h30⟩
        ·
          refine n_if_ne (tgt := 46) X dX3_setNeeds_33 (by decide) (by omega) (fun _ => ?_) (fun c33 => absurd c33 (by decide))
          refine z_iload_n X dX3_setNeeds_46 rfl rfl ?_
          refine z_iconst (v := (-1)) X dX3_setNeeds_47 (by decide) ?_
          refine z_icmp_eq (tgt := 72) X dX3_setNeeds_48 (by decide) (fun c48 => ?_) (fun c48 => ?_)
          ·
            refine z_iload X dX3_setNeeds_72 rfl ?_
            refine z_iconst (v := (-1)) X dX3_setNeeds_74 (by decide) ?_
            refine z_icmp_eq (tgt := 99) X dX3_setNeeds_75 (by decide) (fun c75 => ?_) (fun c75 => ?_)
            ·
              refine z_aload_n X dX3_setNeeds_99 rfl rfl ?_
              refine z_get X (C := RX3) (T := TX3) (N := 8) (ci := 3) (v := .ref (a 1)) inZ3 0 0 rfl rfl (by decide) q_fl_X3_12 rfl rfl dX3_setNeeds_100 ?_
              refine z_get X (C := RX1) (T := TX1) (N := 10) (ci := 1) (v := .ref (a 8)) inZ1 1 0 rfl rfl (by decide) q_fl_X3_78 rfl rfl dX3_setNeeds_103 ?_
              refine z_iload_n X dX3_setNeeds_106 rfl rfl ?_
              refine z_iload_n X dX3_setNeeds_107 rfl rfl ?_
              refine n_iast X Y 8 aR_eq rfl (by omega) (by decide) dX3_setNeeds_108 ?_
              refine Wz.eq (uR_0 (f := upd (S 0) kg ab)) ?_
              refine z_aload_n X dX3_setNeeds_109 rfl rfl ?_
              refine z_get X (C := RX3) (T := TX3) (N := 8) (ci := 3) (v := .ref (a 1)) inZ3 0 0 rfl rfl (by decide) q_fl_X3_12 rfl rfl dX3_setNeeds_110 ?_
              refine z_get X (C := RX1) (T := TX1) (N := 10) (ci := 1) (v := .ref (a 9)) inZ1 1 1 rfl rfl (by decide) q_fl_X3_81 rfl rfl dX3_setNeeds_113 ?_
              refine z_iload_n X dX3_setNeeds_116 rfl rfl ?_
              refine z_iload_n X dX3_setNeeds_117 rfl rfl ?_
              refine n_iast X Y 9 aR_eq rfl (by omega) (by decide) dX3_setNeeds_118 ?_
              refine Wz.eq (uR_1 (f := upd (S 1) kg sc)) ?_
              refine z_aload_n X dX3_setNeeds_119 rfl rfl ?_
              refine z_get X (C := RX3) (T := TX3) (N := 8) (ci := 3) (v := .ref (a 1)) inZ3 0 0 rfl rfl (by decide) q_fl_X3_12 rfl rfl dX3_setNeeds_120 ?_
              refine z_get X (C := RX1) (T := TX1) (N := 10) (ci := 1) (v := .ref (a 10)) inZ1 1 2 rfl rfl (by decide) q_fl_X3_84 rfl rfl dX3_setNeeds_123 ?_
              refine z_iload_n X dX3_setNeeds_126 rfl rfl ?_
              refine z_iload X dX3_setNeeds_127 rfl ?_
              refine n_iast X Y 10 aR_eq rfl (by omega) (by decide) dX3_setNeeds_129 ?_
              refine Wz.eq (uR_2 (f := upd (S 2) kg ca)) ?_
              refine z_aload_n X dX3_setNeeds_130 rfl rfl ?_
              refine z_get X (C := RX3) (T := TX3) (N := 8) (ci := 3) (v := .ref (a 1)) inZ3 0 0 rfl rfl (by decide) q_fl_X3_12 rfl rfl dX3_setNeeds_131 ?_
              refine z_get X (C := RX1) (T := TX1) (N := 10) (ci := 1) (v := .ref (a 11)) inZ1 1 3 rfl rfl (by decide) q_fl_X3_87 rfl rfl dX3_setNeeds_134 ?_
              refine z_iload_n X dX3_setNeeds_137 rfl rfl ?_
              refine z_iload X dX3_setNeeds_138 rfl ?_
              refine n_iast X Y 11 aR_eq rfl (by omega) (by decide) dX3_setNeeds_140 ?_
              refine Wz.eq (uR_3 (f := upd (S 3) kg lw)) ?_
              refine z_aload_n X dX3_setNeeds_141 rfl rfl ?_
              refine z_get X (C := RX3) (T := TX3) (N := 8) (ci := 3) (v := .ref (a 1)) inZ3 0 0 rfl rfl (by decide) q_fl_X3_12 rfl rfl dX3_setNeeds_142 ?_
              refine z_get X (C := RX1) (T := TX1) (N := 10) (ci := 1) (v := .ref (a 12)) inZ1 1 4 rfl rfl (by decide) q_fl_X3_90 rfl rfl dX3_setNeeds_145 ?_
              refine z_iload_n X dX3_setNeeds_148 rfl rfl ?_
              refine z_iload X dX3_setNeeds_149 rfl ?_
              refine n_iast X Y 12 aR_eq rfl (by omega) (by decide) dX3_setNeeds_151 ?_
              refine Wz.eq (uR_4 (f := upd (S 4) kg ot)) ?_
              refine z_vretX X Z dX3_setNeeds_152 ?_
              first
                | exact ⟨kg, ⟨hkg, rfl, ⟨⟨kg, hkg, rfl⟩, h11, h20, h30⟩, Or.inl c48, Or.inl c75⟩, fun q hq => hq⟩
                | exact ⟨kg, ⟨hkg, rfl, ⟨⟨kg, hkg, rfl⟩, h11, h20, h30⟩, Or.inl c48, Or.inr h83⟩, fun q hq => hq⟩
                | exact ⟨kg, ⟨hkg, rfl, ⟨⟨kg, hkg, rfl⟩, h11, h20, h30⟩, Or.inr h56, Or.inl c75⟩, fun q hq => hq⟩
                | exact ⟨kg, ⟨hkg, rfl, ⟨⟨kg, hkg, rfl⟩, h11, h20, h30⟩, Or.inr h56, Or.inr h83⟩, fun q hq => hq⟩
            ·
              refine z_iload X dX3_setNeeds_78 rfl ?_
              refine z_iconst (v := nI 1) X dX3_setNeeds_80 (by decide) ?_
              refine z_bipush (v := nI 8) X dX3_setNeeds_81 (by decide) ?_
              refine z_callS1 (k := 0) (n := 0) (st := []) X (c_X3_isFromTo l D t lw (nI 1) (nI 8)) k_X3_isFromTo q_ml_X3_67 [] ⟨by decide, rfl⟩ (by decide) rfl rfl rfl (Nat.le_of_ble_eq_true rfl) ⟨Nat.zero_le _, Nat.zero_le _⟩ dX3_setNeeds_83 (fun r83 h83 => ?_)
              rcases h83 with ⟨rfl, h83⟩ | ⟨rfl, h83⟩
              ·
                refine n_if_ne (tgt := 99) X dX3_setNeeds_86 (by decide) (by omega) (fun _ => ?_) (fun c86 => absurd c86 (by decide))
                refine z_aload_n X dX3_setNeeds_99 rfl rfl ?_
                refine z_get X (C := RX3) (T := TX3) (N := 8) (ci := 3) (v := .ref (a 1)) inZ3 0 0 rfl rfl (by decide) q_fl_X3_12 rfl rfl dX3_setNeeds_100 ?_
                refine z_get X (C := RX1) (T := TX1) (N := 10) (ci := 1) (v := .ref (a 8)) inZ1 1 0 rfl rfl (by decide) q_fl_X3_78 rfl rfl dX3_setNeeds_103 ?_
                refine z_iload_n X dX3_setNeeds_106 rfl rfl ?_
                refine z_iload_n X dX3_setNeeds_107 rfl rfl ?_
                refine n_iast X Y 8 aR_eq rfl (by omega) (by decide) dX3_setNeeds_108 ?_
                refine Wz.eq (uR_0 (f := upd (S 0) kg ab)) ?_
                refine z_aload_n X dX3_setNeeds_109 rfl rfl ?_
                refine z_get X (C := RX3) (T := TX3) (N := 8) (ci := 3) (v := .ref (a 1)) inZ3 0 0 rfl rfl (by decide) q_fl_X3_12 rfl rfl dX3_setNeeds_110 ?_
                refine z_get X (C := RX1) (T := TX1) (N := 10) (ci := 1) (v := .ref (a 9)) inZ1 1 1 rfl rfl (by decide) q_fl_X3_81 rfl rfl dX3_setNeeds_113 ?_
                refine z_iload_n X dX3_setNeeds_116 rfl rfl ?_
                refine z_iload_n X dX3_setNeeds_117 rfl rfl ?_
                refine n_iast X Y 9 aR_eq rfl (by omega) (by decide) dX3_setNeeds_118 ?_
                refine Wz.eq (uR_1 (f := upd (S 1) kg sc)) ?_
                refine z_aload_n X dX3_setNeeds_119 rfl rfl ?_
                refine z_get X (C := RX3) (T := TX3) (N := 8) (ci := 3) (v := .ref (a 1)) inZ3 0 0 rfl rfl (by decide) q_fl_X3_12 rfl rfl dX3_setNeeds_120 ?_
                refine z_get X (C := RX1) (T := TX1) (N := 10) (ci := 1) (v := .ref (a 10)) inZ1 1 2 rfl rfl (by decide) q_fl_X3_84 rfl rfl dX3_setNeeds_123 ?_
                refine z_iload_n X dX3_setNeeds_126 rfl rfl ?_
                refine z_iload X dX3_setNeeds_127 rfl ?_
                refine n_iast X Y 10 aR_eq rfl (by omega) (by decide) dX3_setNeeds_129 ?_
                refine Wz.eq (uR_2 (f := upd (S 2) kg ca)) ?_
                refine z_aload_n X dX3_setNeeds_130 rfl rfl ?_
                refine z_get X (C := RX3) (T := TX3) (N := 8) (ci := 3) (v := .ref (a 1)) inZ3 0 0 rfl rfl (by decide) q_fl_X3_12 rfl rfl dX3_setNeeds_131 ?_
                refine z_get X (C := RX1) (T := TX1) (N := 10) (ci := 1) (v := .ref (a 11)) inZ1 1 3 rfl rfl (by decide) q_fl_X3_87 rfl rfl dX3_setNeeds_134 ?_
                refine z_iload_n X dX3_setNeeds_137 rfl rfl ?_
                refine z_iload X dX3_setNeeds_138 rfl ?_
                refine n_iast X Y 11 aR_eq rfl (by omega) (by decide) dX3_setNeeds_140 ?_
                refine Wz.eq (uR_3 (f := upd (S 3) kg lw)) ?_
                refine z_aload_n X dX3_setNeeds_141 rfl rfl ?_
                refine z_get X (C := RX3) (T := TX3) (N := 8) (ci := 3) (v := .ref (a 1)) inZ3 0 0 rfl rfl (by decide) q_fl_X3_12 rfl rfl dX3_setNeeds_142 ?_
                refine z_get X (C := RX1) (T := TX1) (N := 10) (ci := 1) (v := .ref (a 12)) inZ1 1 4 rfl rfl (by decide) q_fl_X3_90 rfl rfl dX3_setNeeds_145 ?_
                refine z_iload_n X dX3_setNeeds_148 rfl rfl ?_
                refine z_iload X dX3_setNeeds_149 rfl ?_
                refine n_iast X Y 12 aR_eq rfl (by omega) (by decide) dX3_setNeeds_151 ?_
                refine Wz.eq (uR_4 (f := upd (S 4) kg ot)) ?_
                refine z_vretX X Z dX3_setNeeds_152 ?_
                first
                  | exact ⟨kg, ⟨hkg, rfl, ⟨⟨kg, hkg, rfl⟩, h11, h20, h30⟩, Or.inl c48, Or.inl c75⟩, fun q hq => hq⟩
                  | exact ⟨kg, ⟨hkg, rfl, ⟨⟨kg, hkg, rfl⟩, h11, h20, h30⟩, Or.inl c48, Or.inr h83⟩, fun q hq => hq⟩
                  | exact ⟨kg, ⟨hkg, rfl, ⟨⟨kg, hkg, rfl⟩, h11, h20, h30⟩, Or.inr h56, Or.inl c75⟩, fun q hq => hq⟩
                  | exact ⟨kg, ⟨hkg, rfl, ⟨⟨kg, hkg, rfl⟩, h11, h20, h30⟩, Or.inr h56, Or.inr h83⟩, fun q hq => hq⟩
              ·
                refine n_if_ne (tgt := 99) X dX3_setNeeds_86 (by decide) (by omega) (fun c86 => absurd c86 (by decide)) (fun _ => ?_)
                refine z_throw (h := 20) (cls := eA) (text := "the level is out of range") (is := 76) X Z V (Nat.le_of_ble_eq_true rfl) rfl zat_A q_cl_X3_71 q_in_java_lang_IllegalArgumentException (by decide +kernel) (by decide +kernel) (by decide) dX3_setNeeds_89 dX3_setNeeds_92 dX3_setNeeds_93 dX3_setNeeds_95 dX3_setNeeds_98 ?_
                exact ⟨(), Or.inr ⟨rfl, ⟨⟨kg, hkg, rfl⟩, h11, h20, h30⟩, fun q => q.2.elim c75 h83⟩, fun q hq => hq⟩
          ·
            refine z_iload_n X dX3_setNeeds_51 rfl rfl ?_
            refine z_bipush (v := nI 8) X dX3_setNeeds_52 (by decide) ?_
            refine z_bipush (v := nI 16) X dX3_setNeeds_54 (by decide) ?_
            refine z_callS1 (k := 0) (n := 0) (st := []) X (c_X3_isFromTo l D t sc (nI 8) (nI 16)) k_X3_isFromTo q_ml_X3_67 [] ⟨by decide, rfl⟩ (by decide) rfl rfl rfl (Nat.le_of_ble_eq_true rfl) ⟨Nat.zero_le _, Nat.zero_le _⟩ dX3_setNeeds_56 (fun r56 h56 => ?_)
            rcases h56 with ⟨rfl, h56⟩ | ⟨rfl, h56⟩
            ·
              refine n_if_ne (tgt := 72) X dX3_setNeeds_59 (by decide) (by omega) (fun _ => ?_) (fun c59 => absurd c59 (by decide))
              refine z_iload X dX3_setNeeds_72 rfl ?_
              refine z_iconst (v := (-1)) X dX3_setNeeds_74 (by decide) ?_
              refine z_icmp_eq (tgt := 99) X dX3_setNeeds_75 (by decide) (fun c75 => ?_) (fun c75 => ?_)
              ·
                refine z_aload_n X dX3_setNeeds_99 rfl rfl ?_
                refine z_get X (C := RX3) (T := TX3) (N := 8) (ci := 3) (v := .ref (a 1)) inZ3 0 0 rfl rfl (by decide) q_fl_X3_12 rfl rfl dX3_setNeeds_100 ?_
                refine z_get X (C := RX1) (T := TX1) (N := 10) (ci := 1) (v := .ref (a 8)) inZ1 1 0 rfl rfl (by decide) q_fl_X3_78 rfl rfl dX3_setNeeds_103 ?_
                refine z_iload_n X dX3_setNeeds_106 rfl rfl ?_
                refine z_iload_n X dX3_setNeeds_107 rfl rfl ?_
                refine n_iast X Y 8 aR_eq rfl (by omega) (by decide) dX3_setNeeds_108 ?_
                refine Wz.eq (uR_0 (f := upd (S 0) kg ab)) ?_
                refine z_aload_n X dX3_setNeeds_109 rfl rfl ?_
                refine z_get X (C := RX3) (T := TX3) (N := 8) (ci := 3) (v := .ref (a 1)) inZ3 0 0 rfl rfl (by decide) q_fl_X3_12 rfl rfl dX3_setNeeds_110 ?_
                refine z_get X (C := RX1) (T := TX1) (N := 10) (ci := 1) (v := .ref (a 9)) inZ1 1 1 rfl rfl (by decide) q_fl_X3_81 rfl rfl dX3_setNeeds_113 ?_
                refine z_iload_n X dX3_setNeeds_116 rfl rfl ?_
                refine z_iload_n X dX3_setNeeds_117 rfl rfl ?_
                refine n_iast X Y 9 aR_eq rfl (by omega) (by decide) dX3_setNeeds_118 ?_
                refine Wz.eq (uR_1 (f := upd (S 1) kg sc)) ?_
                refine z_aload_n X dX3_setNeeds_119 rfl rfl ?_
                refine z_get X (C := RX3) (T := TX3) (N := 8) (ci := 3) (v := .ref (a 1)) inZ3 0 0 rfl rfl (by decide) q_fl_X3_12 rfl rfl dX3_setNeeds_120 ?_
                refine z_get X (C := RX1) (T := TX1) (N := 10) (ci := 1) (v := .ref (a 10)) inZ1 1 2 rfl rfl (by decide) q_fl_X3_84 rfl rfl dX3_setNeeds_123 ?_
                refine z_iload_n X dX3_setNeeds_126 rfl rfl ?_
                refine z_iload X dX3_setNeeds_127 rfl ?_
                refine n_iast X Y 10 aR_eq rfl (by omega) (by decide) dX3_setNeeds_129 ?_
                refine Wz.eq (uR_2 (f := upd (S 2) kg ca)) ?_
                refine z_aload_n X dX3_setNeeds_130 rfl rfl ?_
                refine z_get X (C := RX3) (T := TX3) (N := 8) (ci := 3) (v := .ref (a 1)) inZ3 0 0 rfl rfl (by decide) q_fl_X3_12 rfl rfl dX3_setNeeds_131 ?_
                refine z_get X (C := RX1) (T := TX1) (N := 10) (ci := 1) (v := .ref (a 11)) inZ1 1 3 rfl rfl (by decide) q_fl_X3_87 rfl rfl dX3_setNeeds_134 ?_
                refine z_iload_n X dX3_setNeeds_137 rfl rfl ?_
                refine z_iload X dX3_setNeeds_138 rfl ?_
                refine n_iast X Y 11 aR_eq rfl (by omega) (by decide) dX3_setNeeds_140 ?_
                refine Wz.eq (uR_3 (f := upd (S 3) kg lw)) ?_
                refine z_aload_n X dX3_setNeeds_141 rfl rfl ?_
                refine z_get X (C := RX3) (T := TX3) (N := 8) (ci := 3) (v := .ref (a 1)) inZ3 0 0 rfl rfl (by decide) q_fl_X3_12 rfl rfl dX3_setNeeds_142 ?_
                refine z_get X (C := RX1) (T := TX1) (N := 10) (ci := 1) (v := .ref (a 12)) inZ1 1 4 rfl rfl (by decide) q_fl_X3_90 rfl rfl dX3_setNeeds_145 ?_
                refine z_iload_n X dX3_setNeeds_148 rfl rfl ?_
                refine z_iload X dX3_setNeeds_149 rfl ?_
                refine n_iast X Y 12 aR_eq rfl (by omega) (by decide) dX3_setNeeds_151 ?_
                refine Wz.eq (uR_4 (f := upd (S 4) kg ot)) ?_
                refine z_vretX X Z dX3_setNeeds_152 ?_
                first
                  | exact ⟨kg, ⟨hkg, rfl, ⟨⟨kg, hkg, rfl⟩, h11, h20, h30⟩, Or.inl c48, Or.inl c75⟩, fun q hq => hq⟩
                  | exact ⟨kg, ⟨hkg, rfl, ⟨⟨kg, hkg, rfl⟩, h11, h20, h30⟩, Or.inl c48, Or.inr h83⟩, fun q hq => hq⟩
                  | exact ⟨kg, ⟨hkg, rfl, ⟨⟨kg, hkg, rfl⟩, h11, h20, h30⟩, Or.inr h56, Or.inl c75⟩, fun q hq => hq⟩
                  | exact ⟨kg, ⟨hkg, rfl, ⟨⟨kg, hkg, rfl⟩, h11, h20, h30⟩, Or.inr h56, Or.inr h83⟩, fun q hq => hq⟩
              ·
                refine z_iload X dX3_setNeeds_78 rfl ?_
                refine z_iconst (v := nI 1) X dX3_setNeeds_80 (by decide) ?_
                refine z_bipush (v := nI 8) X dX3_setNeeds_81 (by decide) ?_
                refine z_callS1 (k := 0) (n := 0) (st := []) X (c_X3_isFromTo l D t lw (nI 1) (nI 8)) k_X3_isFromTo q_ml_X3_67 [] ⟨by decide, rfl⟩ (by decide) rfl rfl rfl (Nat.le_of_ble_eq_true rfl) ⟨Nat.zero_le _, Nat.zero_le _⟩ dX3_setNeeds_83 (fun r83 h83 => ?_)
                rcases h83 with ⟨rfl, h83⟩ | ⟨rfl, h83⟩
                ·
                  refine n_if_ne (tgt := 99) X dX3_setNeeds_86 (by decide) (by omega) (fun _ => ?_) (fun c86 => absurd c86 (by decide))
                  refine z_aload_n X dX3_setNeeds_99 rfl rfl ?_
                  refine z_get X (C := RX3) (T := TX3) (N := 8) (ci := 3) (v := .ref (a 1)) inZ3 0 0 rfl rfl (by decide) q_fl_X3_12 rfl rfl dX3_setNeeds_100 ?_
                  refine z_get X (C := RX1) (T := TX1) (N := 10) (ci := 1) (v := .ref (a 8)) inZ1 1 0 rfl rfl (by decide) q_fl_X3_78 rfl rfl dX3_setNeeds_103 ?_
                  refine z_iload_n X dX3_setNeeds_106 rfl rfl ?_
                  refine z_iload_n X dX3_setNeeds_107 rfl rfl ?_
                  refine n_iast X Y 8 aR_eq rfl (by omega) (by decide) dX3_setNeeds_108 ?_
                  refine Wz.eq (uR_0 (f := upd (S 0) kg ab)) ?_
                  refine z_aload_n X dX3_setNeeds_109 rfl rfl ?_
                  refine z_get X (C := RX3) (T := TX3) (N := 8) (ci := 3) (v := .ref (a 1)) inZ3 0 0 rfl rfl (by decide) q_fl_X3_12 rfl rfl dX3_setNeeds_110 ?_
                  refine z_get X (C := RX1) (T := TX1) (N := 10) (ci := 1) (v := .ref (a 9)) inZ1 1 1 rfl rfl (by decide) q_fl_X3_81 rfl rfl dX3_setNeeds_113 ?_
                  refine z_iload_n X dX3_setNeeds_116 rfl rfl ?_
                  refine z_iload_n X dX3_setNeeds_117 rfl rfl ?_
                  refine n_iast X Y 9 aR_eq rfl (by omega) (by decide) dX3_setNeeds_118 ?_
                  refine Wz.eq (uR_1 (f := upd (S 1) kg sc)) ?_
                  refine z_aload_n X dX3_setNeeds_119 rfl rfl ?_
                  refine z_get X (C := RX3) (T := TX3) (N := 8) (ci := 3) (v := .ref (a 1)) inZ3 0 0 rfl rfl (by decide) q_fl_X3_12 rfl rfl dX3_setNeeds_120 ?_
                  refine z_get X (C := RX1) (T := TX1) (N := 10) (ci := 1) (v := .ref (a 10)) inZ1 1 2 rfl rfl (by decide) q_fl_X3_84 rfl rfl dX3_setNeeds_123 ?_
                  refine z_iload_n X dX3_setNeeds_126 rfl rfl ?_
                  refine z_iload X dX3_setNeeds_127 rfl ?_
                  refine n_iast X Y 10 aR_eq rfl (by omega) (by decide) dX3_setNeeds_129 ?_
                  refine Wz.eq (uR_2 (f := upd (S 2) kg ca)) ?_
                  refine z_aload_n X dX3_setNeeds_130 rfl rfl ?_
                  refine z_get X (C := RX3) (T := TX3) (N := 8) (ci := 3) (v := .ref (a 1)) inZ3 0 0 rfl rfl (by decide) q_fl_X3_12 rfl rfl dX3_setNeeds_131 ?_
                  refine z_get X (C := RX1) (T := TX1) (N := 10) (ci := 1) (v := .ref (a 11)) inZ1 1 3 rfl rfl (by decide) q_fl_X3_87 rfl rfl dX3_setNeeds_134 ?_
                  refine z_iload_n X dX3_setNeeds_137 rfl rfl ?_
                  refine z_iload X dX3_setNeeds_138 rfl ?_
                  refine n_iast X Y 11 aR_eq rfl (by omega) (by decide) dX3_setNeeds_140 ?_
                  refine Wz.eq (uR_3 (f := upd (S 3) kg lw)) ?_
                  refine z_aload_n X dX3_setNeeds_141 rfl rfl ?_
                  refine z_get X (C := RX3) (T := TX3) (N := 8) (ci := 3) (v := .ref (a 1)) inZ3 0 0 rfl rfl (by decide) q_fl_X3_12 rfl rfl dX3_setNeeds_142 ?_
                  refine z_get X (C := RX1) (T := TX1) (N := 10) (ci := 1) (v := .ref (a 12)) inZ1 1 4 rfl rfl (by decide) q_fl_X3_90 rfl rfl dX3_setNeeds_145 ?_
                  refine z_iload_n X dX3_setNeeds_148 rfl rfl ?_
                  refine z_iload X dX3_setNeeds_149 rfl ?_
                  refine n_iast X Y 12 aR_eq rfl (by omega) (by decide) dX3_setNeeds_151 ?_
                  refine Wz.eq (uR_4 (f := upd (S 4) kg ot)) ?_
                  refine z_vretX X Z dX3_setNeeds_152 ?_
                  first
                    | exact ⟨kg, ⟨hkg, rfl, ⟨⟨kg, hkg, rfl⟩, h11, h20, h30⟩, Or.inl c48, Or.inl c75⟩, fun q hq => hq⟩
                    | exact ⟨kg, ⟨hkg, rfl, ⟨⟨kg, hkg, rfl⟩, h11, h20, h30⟩, Or.inl c48, Or.inr h83⟩, fun q hq => hq⟩
                    | exact ⟨kg, ⟨hkg, rfl, ⟨⟨kg, hkg, rfl⟩, h11, h20, h30⟩, Or.inr h56, Or.inl c75⟩, fun q hq => hq⟩
                    | exact ⟨kg, ⟨hkg, rfl, ⟨⟨kg, hkg, rfl⟩, h11, h20, h30⟩, Or.inr h56, Or.inr h83⟩, fun q hq => hq⟩
                ·
                  refine n_if_ne (tgt := 99) X dX3_setNeeds_86 (by decide) (by omega) (fun c86 => absurd c86 (by decide)) (fun _ => ?_)
                  refine z_throw (h := 20) (cls := eA) (text := "the level is out of range") (is := 76) X Z V (Nat.le_of_ble_eq_true rfl) rfl zat_A q_cl_X3_71 q_in_java_lang_IllegalArgumentException (by decide +kernel) (by decide +kernel) (by decide) dX3_setNeeds_89 dX3_setNeeds_92 dX3_setNeeds_93 dX3_setNeeds_95 dX3_setNeeds_98 ?_
                  exact ⟨(), Or.inr ⟨rfl, ⟨⟨kg, hkg, rfl⟩, h11, h20, h30⟩, fun q => q.2.elim c75 h83⟩, fun q hq => hq⟩
            ·
              refine n_if_ne (tgt := 72) X dX3_setNeeds_59 (by decide) (by omega) (fun c59 => absurd c59 (by decide)) (fun _ => ?_)
              refine z_throw (h := 20) (cls := eA) (text := "the score is out of range") (is := 73) X Z V (Nat.le_of_ble_eq_true rfl) rfl zat_A q_cl_X3_71 q_in_java_lang_IllegalArgumentException (by decide +kernel) (by decide +kernel) (by decide) dX3_setNeeds_62 dX3_setNeeds_65 dX3_setNeeds_66 dX3_setNeeds_68 dX3_setNeeds_71 ?_
              exact ⟨(), Or.inr ⟨rfl, ⟨⟨kg, hkg, rfl⟩, h11, h20, h30⟩, fun q => q.1.elim c48 h56⟩, fun q hq => hq⟩
        ·
          refine n_if_ne (tgt := 46) X dX3_setNeeds_33 (by decide) (by omega) (fun c33 => absurd c33 (by decide)) (fun _ => ?_)
          refine z_throw (h := 20) (cls := eI) (text := "no such gift, ability, calling or other") (is := 62) X Z V (Nat.le_of_ble_eq_true rfl) rfl zat_I q_cl_X3_60 q_in_java_lang_IndexOutOfBoundsException (by decide +kernel) (by decide +kernel) (by decide) dX3_setNeeds_36 dX3_setNeeds_39 dX3_setNeeds_40 dX3_setNeeds_42 dX3_setNeeds_45 ?_
          first
            | exact ⟨(), Or.inl ⟨rfl, fun q => h30 q.2.2.2⟩, fun q hq => hq⟩
            | exact ⟨(), Or.inl ⟨rfl, fun q => h20 q.2.2.1⟩, fun q hq => hq⟩
            | exact ⟨(), Or.inl ⟨rfl, fun q => h11 q.2.1⟩, fun q hq => hq⟩
            | exact ⟨(), Or.inl ⟨rfl, fun q => h3 q.1⟩, fun q hq => hq⟩
      ·
        refine n_if_eq (tgt := 36) X dX3_setNeeds_23 (by decide) (by omega) (fun _ => ?_) (fun c23 => absurd c23 (by decide))
        refine z_throw (h := 20) (cls := eI) (text := "no such gift, ability, calling or other") (is := 62) X Z V (Nat.le_of_ble_eq_true rfl) rfl zat_I q_cl_X3_60 q_in_java_lang_IndexOutOfBoundsException (by decide +kernel) (by decide +kernel) (by decide) dX3_setNeeds_36 dX3_setNeeds_39 dX3_setNeeds_40 dX3_setNeeds_42 dX3_setNeeds_45 ?_
        first
          | exact ⟨(), Or.inl ⟨rfl, fun q => h30 q.2.2.2⟩, fun q hq => hq⟩
          | exact ⟨(), Or.inl ⟨rfl, fun q => h20 q.2.2.1⟩, fun q hq => hq⟩
          | exact ⟨(), Or.inl ⟨rfl, fun q => h11 q.2.1⟩, fun q hq => hq⟩
          | exact ⟨(), Or.inl ⟨rfl, fun q => h3 q.1⟩, fun q hq => hq⟩
    ·
      refine n_if_eq (tgt := 36) X dX3_setNeeds_14 (by decide) (by omega) (fun _ => ?_) (fun c14 => absurd c14 (by decide))
      refine z_throw (h := 20) (cls := eI) (text := "no such gift, ability, calling or other") (is := 62) X Z V (Nat.le_of_ble_eq_true rfl) rfl zat_I q_cl_X3_60 q_in_java_lang_IndexOutOfBoundsException (by decide +kernel) (by decide +kernel) (by decide) dX3_setNeeds_36 dX3_setNeeds_39 dX3_setNeeds_40 dX3_setNeeds_42 dX3_setNeeds_45 ?_
      first
        | exact ⟨(), Or.inl ⟨rfl, fun q => h30 q.2.2.2⟩, fun q hq => hq⟩
        | exact ⟨(), Or.inl ⟨rfl, fun q => h20 q.2.2.1⟩, fun q hq => hq⟩
        | exact ⟨(), Or.inl ⟨rfl, fun q => h11 q.2.1⟩, fun q hq => hq⟩
        | exact ⟨(), Or.inl ⟨rfl, fun q => h3 q.1⟩, fun q hq => hq⟩
  ·
    refine n_if_eq (tgt := 36) X dX3_setNeeds_6 (by decide) (by omega) (fun _ => ?_) (fun c6 => absurd c6 (by decide))
    refine z_throw (h := 20) (cls := eI) (text := "no such gift, ability, calling or other") (is := 62) X Z V (Nat.le_of_ble_eq_true rfl) rfl zat_I q_cl_X3_60 q_in_java_lang_IndexOutOfBoundsException (by decide +kernel) (by decide +kernel) (by decide) dX3_setNeeds_36 dX3_setNeeds_39 dX3_setNeeds_40 dX3_setNeeds_42 dX3_setNeeds_45 ?_
    first
      | exact ⟨(), Or.inl ⟨rfl, fun q => h30 q.2.2.2⟩, fun q hq => hq⟩
      | exact ⟨(), Or.inl ⟨rfl, fun q => h20 q.2.2.1⟩, fun q hq => hq⟩
      | exact ⟨(), Or.inl ⟨rfl, fun q => h11 q.2.1⟩, fun q hq => hq⟩
      | exact ⟨(), Or.inl ⟨rfl, fun q => h3 q.1⟩, fun q hq => hq⟩
set_option maxHeartbeats 4000000 in
set_option maxRecDepth 100000 in
theorem c_X3_bar (l : Launch) (hfl : l.stackTraces = false) (D : va_G) (t : ClassId × ClassId × ClassId) (sz : Nat) (a : Nat → Nat) (S : zS) (g ca lw : Int32) : zM5 l yX3_bar cX3_bar 4 20 D t [.ref (a 0), .int g, .int ca, .int lw] (wR t a S) sz (fun u : Nat => u < 8 ∧ g = nI u ∧ br1 g ca ∧ br2 ca lw) (fun u => wR t a (brS S u ca lw)) (fun E (_ : Unit) => (E = eI ∧ ¬ br1 g ca) ∨ (E = eA ∧ br1 g ca ∧ ¬ br2 ca lw)) (fun _ => wR t a S) := by
  refine z_m5 hfl (by decide +kernel) (Nat.le_of_ble_eq_true rfl) (by simp [Value.category]) ?_
  intro E X Z V Y
  refine z_lv (lv' := [some (.ref (a 0)), some (.int g), some (.int ca), some (.int lw)]) rfl ?_
  refine z_iload_n X dX3_bar_0 rfl rfl ?_
  refine z_bipush (v := nI 8) X dX3_bar_1 (by decide) ?_
  refine z_callS1 (k := 0) (n := 0) (st := []) X (c_X3_isAmong_g l D t g 8 (by decide)) k_X3_isAmong q_ml_X3_53 [] ⟨by decide, rfl⟩ (by decide) rfl rfl rfl (Nat.le_of_ble_eq_true rfl) ⟨Nat.zero_le _, Nat.zero_le _⟩ dX3_bar_3 (fun r3 h3 => ?_)
  rcases h3 with ⟨rfl, kg, hkg, rfl⟩ | ⟨rfl, h3⟩
  ·
    refine n_if_eq (tgt := 17) X dX3_bar_6 (by decide) (by omega) (fun c6 => absurd c6 (by decide)) (fun _ => ?_)
    refine z_iload_n X dX3_bar_9 rfl rfl ?_
    refine z_iconst (v := nI 3) X dX3_bar_10 (by decide) ?_
    refine z_callS1 (k := 0) (n := 0) (st := []) X (c_X3_isAmongOrNone l D t ca 3 (by decide)) k_X3_isAmongOrNone q_ml_X3_57 [] ⟨by decide, rfl⟩ (by decide) rfl rfl rfl (Nat.le_of_ble_eq_true rfl) ⟨Nat.zero_le _, Nat.zero_le _⟩ dX3_bar_11 (fun r11 h11 => ?_)
    rcases h11 with ⟨rfl, h11⟩ | ⟨rfl, h11⟩
    ·
      refine n_if_ne (tgt := 27) X dX3_bar_14 (by decide) (by omega) (fun _ => ?_) (fun c14 => absurd c14 (by decide))
      refine z_iload_n X dX3_bar_27 rfl rfl ?_
      refine z_iconst (v := (-1)) X dX3_bar_28 (by decide) ?_
      refine z_icmp_eq (tgt := 52) X dX3_bar_29 (by decide) (fun c29 => ?_) (fun c29 => ?_)
      ·
        refine z_aload_n X dX3_bar_52 rfl rfl ?_
        refine z_get X (C := RX3) (T := TX3) (N := 8) (ci := 3) (v := .ref (a 1)) inZ3 0 0 rfl rfl (by decide) q_fl_X3_12 rfl rfl dX3_bar_53 ?_
        refine z_get X (C := RX1) (T := TX1) (N := 10) (ci := 1) (v := .ref (a 13)) inZ1 1 5 rfl rfl (by decide) q_fl_X3_95 rfl rfl dX3_bar_56 ?_
        refine z_iload_n X dX3_bar_59 rfl rfl ?_
        refine z_iload_n X dX3_bar_60 rfl rfl ?_
        refine n_iast X Y 13 aR_eq rfl (by omega) (by decide) dX3_bar_61 ?_
        refine Wz.eq (uR_5 (f := upd (S 5) kg ca)) ?_
        refine z_aload_n X dX3_bar_62 rfl rfl ?_
        refine z_get X (C := RX3) (T := TX3) (N := 8) (ci := 3) (v := .ref (a 1)) inZ3 0 0 rfl rfl (by decide) q_fl_X3_12 rfl rfl dX3_bar_63 ?_
        refine z_get X (C := RX1) (T := TX1) (N := 10) (ci := 1) (v := .ref (a 14)) inZ1 1 6 rfl rfl (by decide) q_fl_X3_98 rfl rfl dX3_bar_66 ?_
        refine z_iload_n X dX3_bar_69 rfl rfl ?_
        refine z_iload_n X dX3_bar_70 rfl rfl ?_
        refine n_iast X Y 14 aR_eq rfl (by omega) (by decide) dX3_bar_71 ?_
        refine Wz.eq (uR_6 (f := upd (S 6) kg lw)) ?_
        refine z_vretX X Z dX3_bar_72 ?_
        first
          | exact ⟨kg, ⟨hkg, rfl, ⟨⟨kg, hkg, rfl⟩, h11⟩, Or.inl c29⟩, fun q hq => hq⟩
          | exact ⟨kg, ⟨hkg, rfl, ⟨⟨kg, hkg, rfl⟩, h11⟩, Or.inr h36⟩, fun q hq => hq⟩
      ·
        refine z_iload_n X dX3_bar_32 rfl rfl ?_
        refine z_iconst (v := nI 0) X dX3_bar_33 (by decide) ?_
        refine z_bipush (v := nI 7) X dX3_bar_34 (by decide) ?_
        refine z_callS1 (k := 0) (n := 0) (st := []) X (c_X3_isFromTo l D t lw (nI 0) (nI 7)) k_X3_isFromTo q_ml_X3_67 [] ⟨by decide, rfl⟩ (by decide) rfl rfl rfl (Nat.le_of_ble_eq_true rfl) ⟨Nat.zero_le _, Nat.zero_le _⟩ dX3_bar_36 (fun r36 h36 => ?_)
        rcases h36 with ⟨rfl, h36⟩ | ⟨rfl, h36⟩
        ·
          refine n_if_ne (tgt := 52) X dX3_bar_39 (by decide) (by omega) (fun _ => ?_) (fun c39 => absurd c39 (by decide))
          refine z_aload_n X dX3_bar_52 rfl rfl ?_
          refine z_get X (C := RX3) (T := TX3) (N := 8) (ci := 3) (v := .ref (a 1)) inZ3 0 0 rfl rfl (by decide) q_fl_X3_12 rfl rfl dX3_bar_53 ?_
          refine z_get X (C := RX1) (T := TX1) (N := 10) (ci := 1) (v := .ref (a 13)) inZ1 1 5 rfl rfl (by decide) q_fl_X3_95 rfl rfl dX3_bar_56 ?_
          refine z_iload_n X dX3_bar_59 rfl rfl ?_
          refine z_iload_n X dX3_bar_60 rfl rfl ?_
          refine n_iast X Y 13 aR_eq rfl (by omega) (by decide) dX3_bar_61 ?_
          refine Wz.eq (uR_5 (f := upd (S 5) kg ca)) ?_
          refine z_aload_n X dX3_bar_62 rfl rfl ?_
          refine z_get X (C := RX3) (T := TX3) (N := 8) (ci := 3) (v := .ref (a 1)) inZ3 0 0 rfl rfl (by decide) q_fl_X3_12 rfl rfl dX3_bar_63 ?_
          refine z_get X (C := RX1) (T := TX1) (N := 10) (ci := 1) (v := .ref (a 14)) inZ1 1 6 rfl rfl (by decide) q_fl_X3_98 rfl rfl dX3_bar_66 ?_
          refine z_iload_n X dX3_bar_69 rfl rfl ?_
          refine z_iload_n X dX3_bar_70 rfl rfl ?_
          refine n_iast X Y 14 aR_eq rfl (by omega) (by decide) dX3_bar_71 ?_
          refine Wz.eq (uR_6 (f := upd (S 6) kg lw)) ?_
          refine z_vretX X Z dX3_bar_72 ?_
          first
            | exact ⟨kg, ⟨hkg, rfl, ⟨⟨kg, hkg, rfl⟩, h11⟩, Or.inl c29⟩, fun q hq => hq⟩
            | exact ⟨kg, ⟨hkg, rfl, ⟨⟨kg, hkg, rfl⟩, h11⟩, Or.inr h36⟩, fun q hq => hq⟩
        ·
          refine n_if_ne (tgt := 52) X dX3_bar_39 (by decide) (by omega) (fun c39 => absurd c39 (by decide)) (fun _ => ?_)
          refine z_throw (h := 20) (cls := eA) (text := "the level is out of range") (is := 76) X Z V (Nat.le_of_ble_eq_true rfl) rfl zat_A q_cl_X3_71 q_in_java_lang_IllegalArgumentException (by decide +kernel) (by decide +kernel) (by decide) dX3_bar_42 dX3_bar_45 dX3_bar_46 dX3_bar_48 dX3_bar_51 ?_
          exact ⟨(), Or.inr ⟨rfl, ⟨⟨kg, hkg, rfl⟩, h11⟩, fun q => q.elim c29 h36⟩, fun q hq => hq⟩
    ·
      refine n_if_ne (tgt := 27) X dX3_bar_14 (by decide) (by omega) (fun c14 => absurd c14 (by decide)) (fun _ => ?_)
      refine z_throw (h := 20) (cls := eI) (text := "no such gift or calling") (is := 93) X Z V (Nat.le_of_ble_eq_true rfl) rfl zat_I q_cl_X3_60 q_in_java_lang_IndexOutOfBoundsException (by decide +kernel) (by decide +kernel) (by decide) dX3_bar_17 dX3_bar_20 dX3_bar_21 dX3_bar_23 dX3_bar_26 ?_
      first
        | exact ⟨(), Or.inl ⟨rfl, fun q => h11 q.2⟩, fun q hq => hq⟩
        | exact ⟨(), Or.inl ⟨rfl, fun q => h3 q.1⟩, fun q hq => hq⟩
  ·
    refine n_if_eq (tgt := 17) X dX3_bar_6 (by decide) (by omega) (fun _ => ?_) (fun c6 => absurd c6 (by decide))
    refine z_throw (h := 20) (cls := eI) (text := "no such gift or calling") (is := 93) X Z V (Nat.le_of_ble_eq_true rfl) rfl zat_I q_cl_X3_60 q_in_java_lang_IndexOutOfBoundsException (by decide +kernel) (by decide +kernel) (by decide) dX3_bar_17 dX3_bar_20 dX3_bar_21 dX3_bar_23 dX3_bar_26 ?_
    first
      | exact ⟨(), Or.inl ⟨rfl, fun q => h11 q.2⟩, fun q hq => hq⟩
      | exact ⟨(), Or.inl ⟨rfl, fun q => h3 q.1⟩, fun q hq => hq⟩
set_option maxHeartbeats 4000000 in
set_option maxRecDepth 100000 in
theorem c_X3_setBonus (l : Launch) (hfl : l.stackTraces = false) (D : va_G) (t : ClassId × ClassId × ClassId) (sz : Nat) (a : Nat → Nat) (S : zS) (g v kd i : Int32) : zM5 l yX3_setBonus cX3_setBonus 5 20 D t [.ref (a 0), .int g, .int v, .int kd, .int i] (wR t a S) sz (fun u : Nat × Nat => u.1 < 8 ∧ g = nI u.1 ∧ u.2 < 4 ∧ kd = nI u.2 ∧ bo1 g v ∧ bo2 kd i) (fun u => wR t a (boS S u.1 v (nI u.2) i)) (fun E (_ : Unit) => (E = eI ∧ ¬ bo1 g v) ∨ (E = eA ∧ bo1 g v ∧ ¬ bo2 kd i)) (fun _ => wR t a S) := by
  refine z_m5 hfl (by decide +kernel) (Nat.le_of_ble_eq_true rfl) (by simp [Value.category]) ?_
  intro E X Z V Y
  refine z_lv (lv' := [some (.ref (a 0)), some (.int g), some (.int v), some (.int kd), some (.int i)]) rfl ?_
  refine z_iload_n X dX3_setBonus_0 rfl rfl ?_
  refine z_bipush (v := nI 8) X dX3_setBonus_1 (by decide) ?_
  refine z_callS1 (k := 0) (n := 0) (st := []) X (c_X3_isAmong_g l D t g 8 (by decide)) k_X3_isAmong q_ml_X3_53 [] ⟨by decide, rfl⟩ (by decide) rfl rfl rfl (Nat.le_of_ble_eq_true rfl) ⟨Nat.zero_le _, Nat.zero_le _⟩ dX3_setBonus_3 (fun r3 h3 => ?_)
  rcases h3 with ⟨rfl, kg, hkg, rfl⟩ | ⟨rfl, h3⟩
  ·
    refine n_if_eq (tgt := 18) X dX3_setBonus_6 (by decide) (by omega) (fun c6 => absurd c6 (by decide)) (fun _ => ?_)
    refine z_iload_n X dX3_setBonus_9 rfl rfl ?_
    refine z_bipush (v := nI 6) X dX3_setBonus_10 (by decide) ?_
    refine z_callS1 (k := 0) (n := 0) (st := []) X (c_X3_isAmongOrNone l D t v 6 (by decide)) k_X3_isAmongOrNone q_ml_X3_57 [] ⟨by decide, rfl⟩ (by decide) rfl rfl rfl (Nat.le_of_ble_eq_true rfl) ⟨Nat.zero_le _, Nat.zero_le _⟩ dX3_setBonus_12 (fun r12 h12 => ?_)
    rcases h12 with ⟨rfl, h12⟩ | ⟨rfl, h12⟩
    ·
      refine n_if_ne (tgt := 28) X dX3_setBonus_15 (by decide) (by omega) (fun _ => ?_) (fun c15 => absurd c15 (by decide))
      refine z_iload_n X dX3_setBonus_28 rfl rfl ?_
      refine z_iconst (v := nI 4) X dX3_setBonus_29 (by decide) ?_
      refine z_callS1 (k := 0) (n := 0) (st := []) X (c_X3_isAmong_g l D t kd 4 (by decide)) k_X3_isAmong q_ml_X3_53 [] ⟨by decide, rfl⟩ (by decide) rfl rfl rfl (Nat.le_of_ble_eq_true rfl) ⟨Nat.zero_le _, Nat.zero_le _⟩ dX3_setBonus_30 (fun r30 h30 => ?_)
      rcases h30 with ⟨rfl, kkd, hkkd, rfl⟩ | ⟨rfl, h30⟩
      ·
        refine n_if_eq (tgt := 48) X dX3_setBonus_33 (by decide) (by omega) (fun c33 => absurd c33 (by decide)) (fun _ => ?_)
        refine z_iload X dX3_setBonus_36 rfl ?_
        refine z_bipush (v := (-9)) X dX3_setBonus_38 (by decide) ?_
        refine z_bipush (v := nI 9) X dX3_setBonus_40 (by decide) ?_
        refine z_callS1 (k := 0) (n := 0) (st := []) X (c_X3_isFromTo l D t i (-9) (nI 9)) k_X3_isFromTo q_ml_X3_67 [] ⟨by decide, rfl⟩ (by decide) rfl rfl rfl (Nat.le_of_ble_eq_true rfl) ⟨Nat.zero_le _, Nat.zero_le _⟩ dX3_setBonus_42 (fun r42 h42 => ?_)
        rcases h42 with ⟨rfl, h42⟩ | ⟨rfl, h42⟩
        ·
          refine n_if_ne (tgt := 58) X dX3_setBonus_45 (by decide) (by omega) (fun _ => ?_) (fun c45 => absurd c45 (by decide))
          refine z_aload_n X dX3_setBonus_58 rfl rfl ?_
          refine z_get X (C := RX3) (T := TX3) (N := 8) (ci := 3) (v := .ref (a 1)) inZ3 0 0 rfl rfl (by decide) q_fl_X3_12 rfl rfl dX3_setBonus_59 ?_
          refine z_get X (C := RX1) (T := TX1) (N := 10) (ci := 1) (v := .ref (a 15)) inZ1 1 7 rfl rfl (by decide) q_fl_X3_105 rfl rfl dX3_setBonus_62 ?_
          refine z_iload_n X dX3_setBonus_65 rfl rfl ?_
          refine z_iload_n X dX3_setBonus_66 rfl rfl ?_
          refine n_iast X Y 15 aR_eq rfl (by omega) (by decide) dX3_setBonus_67 ?_
          refine Wz.eq (uR_7 (f := upd (S 7) kg v)) ?_
          refine z_aload_n X dX3_setBonus_68 rfl rfl ?_
          refine z_get X (C := RX3) (T := TX3) (N := 8) (ci := 3) (v := .ref (a 1)) inZ3 0 0 rfl rfl (by decide) q_fl_X3_12 rfl rfl dX3_setBonus_69 ?_
          refine z_get X (C := RX1) (T := TX1) (N := 10) (ci := 1) (v := .ref (a 16)) inZ1 1 8 rfl rfl (by decide) q_fl_X3_108 rfl rfl dX3_setBonus_72 ?_
          refine z_iload_n X dX3_setBonus_75 rfl rfl ?_
          refine z_iload_n X dX3_setBonus_76 rfl rfl ?_
          refine n_iast X Y 16 aR_eq rfl (by omega) (by decide) dX3_setBonus_77 ?_
          refine Wz.eq (uR_8 (f := upd (S 8) kg (nI kkd))) ?_
          refine z_aload_n X dX3_setBonus_78 rfl rfl ?_
          refine z_get X (C := RX3) (T := TX3) (N := 8) (ci := 3) (v := .ref (a 1)) inZ3 0 0 rfl rfl (by decide) q_fl_X3_12 rfl rfl dX3_setBonus_79 ?_
          refine z_get X (C := RX1) (T := TX1) (N := 10) (ci := 1) (v := .ref (a 17)) inZ1 1 9 rfl rfl (by decide) q_fl_X3_111 rfl rfl dX3_setBonus_82 ?_
          refine z_iload_n X dX3_setBonus_85 rfl rfl ?_
          refine z_iload X dX3_setBonus_86 rfl ?_
          refine n_iast X Y 17 aR_eq rfl (by omega) (by decide) dX3_setBonus_88 ?_
          refine Wz.eq (uR_9 (f := upd (S 9) kg i)) ?_
          refine z_vretX X Z dX3_setBonus_89 ?_
          exact ⟨(kg, kkd), ⟨hkg, rfl, hkkd, rfl, ⟨⟨kg, hkg, rfl⟩, h12⟩, ⟨⟨kkd, hkkd, rfl⟩, h42⟩⟩, fun q hq => hq⟩
        ·
          refine n_if_ne (tgt := 58) X dX3_setBonus_45 (by decide) (by omega) (fun c45 => absurd c45 (by decide)) (fun _ => ?_)
          refine z_throw (h := 20) (cls := eA) (text := "the kind or the amount is out of range") (is := 103) X Z V (Nat.le_of_ble_eq_true rfl) rfl zat_A q_cl_X3_71 q_in_java_lang_IllegalArgumentException (by decide +kernel) (by decide +kernel) (by decide) dX3_setBonus_48 dX3_setBonus_51 dX3_setBonus_52 dX3_setBonus_54 dX3_setBonus_57 ?_
          first
            | exact ⟨(), Or.inr ⟨rfl, ⟨⟨kg, hkg, rfl⟩, h12⟩, fun q => h42 q.2⟩, fun q hq => hq⟩
            | exact ⟨(), Or.inr ⟨rfl, ⟨⟨kg, hkg, rfl⟩, h12⟩, fun q => h30 q.1⟩, fun q hq => hq⟩
      ·
        refine n_if_eq (tgt := 48) X dX3_setBonus_33 (by decide) (by omega) (fun _ => ?_) (fun c33 => absurd c33 (by decide))
        refine z_throw (h := 20) (cls := eA) (text := "the kind or the amount is out of range") (is := 103) X Z V (Nat.le_of_ble_eq_true rfl) rfl zat_A q_cl_X3_71 q_in_java_lang_IllegalArgumentException (by decide +kernel) (by decide +kernel) (by decide) dX3_setBonus_48 dX3_setBonus_51 dX3_setBonus_52 dX3_setBonus_54 dX3_setBonus_57 ?_
        first
          | exact ⟨(), Or.inr ⟨rfl, ⟨⟨kg, hkg, rfl⟩, h12⟩, fun q => h42 q.2⟩, fun q hq => hq⟩
          | exact ⟨(), Or.inr ⟨rfl, ⟨⟨kg, hkg, rfl⟩, h12⟩, fun q => h30 q.1⟩, fun q hq => hq⟩
    ·
      refine n_if_ne (tgt := 28) X dX3_setBonus_15 (by decide) (by omega) (fun c15 => absurd c15 (by decide)) (fun _ => ?_)
      refine z_throw (h := 20) (cls := eI) (text := "no such gift or value") (is := 101) X Z V (Nat.le_of_ble_eq_true rfl) rfl zat_I q_cl_X3_60 q_in_java_lang_IndexOutOfBoundsException (by decide +kernel) (by decide +kernel) (by decide) dX3_setBonus_18 dX3_setBonus_21 dX3_setBonus_22 dX3_setBonus_24 dX3_setBonus_27 ?_
      first
        | exact ⟨(), Or.inl ⟨rfl, fun q => h12 q.2⟩, fun q hq => hq⟩
        | exact ⟨(), Or.inl ⟨rfl, fun q => h3 q.1⟩, fun q hq => hq⟩
  ·
    refine n_if_eq (tgt := 18) X dX3_setBonus_6 (by decide) (by omega) (fun _ => ?_) (fun c6 => absurd c6 (by decide))
    refine z_throw (h := 20) (cls := eI) (text := "no such gift or value") (is := 101) X Z V (Nat.le_of_ble_eq_true rfl) rfl zat_I q_cl_X3_60 q_in_java_lang_IndexOutOfBoundsException (by decide +kernel) (by decide +kernel) (by decide) dX3_setBonus_18 dX3_setBonus_21 dX3_setBonus_22 dX3_setBonus_24 dX3_setBonus_27 ?_
    first
      | exact ⟨(), Or.inl ⟨rfl, fun q => h12 q.2⟩, fun q hq => hq⟩
      | exact ⟨(), Or.inl ⟨rfl, fun q => h3 q.1⟩, fun q hq => hq⟩
set_option maxHeartbeats 4000000 in
set_option maxRecDepth 100000 in
theorem c_X3_setValue (l : Launch) (hfl : l.stackTraces = false) (D : va_G) (t : ClassId × ClassId × ClassId) (sz : Nat) (a : Nat → Nat) (S : zS) (v i ab ca ot : Int32) : zM5 l yX3_setValue cX3_setValue 6 20 D t [.ref (a 0), .int v, .int i, .int ab, .int ca, .int ot] (wR t a S) sz (fun u : Nat => u < 6 ∧ v = nI u ∧ va1 v ab ca ot ∧ va2 i) (fun u => wR t a (vaS S u i ab ca ot)) (fun E (_ : Unit) => (E = eI ∧ ¬ va1 v ab ca ot) ∨ (E = eA ∧ va1 v ab ca ot ∧ ¬ va2 i)) (fun _ => wR t a S) := by
  refine z_m5 hfl (by decide +kernel) (Nat.le_of_ble_eq_true rfl) (by simp [Value.category]) ?_
  intro E X Z V Y
  refine z_lv (lv' := [some (.ref (a 0)), some (.int v), some (.int i), some (.int ab), some (.int ca), some (.int ot)]) rfl ?_
  refine z_iload_n X dX3_setValue_0 rfl rfl ?_
  refine z_bipush (v := nI 6) X dX3_setValue_1 (by decide) ?_
  refine z_callS1 (k := 0) (n := 0) (st := []) X (c_X3_isAmong_g l D t v 6 (by decide)) k_X3_isAmong q_ml_X3_53 [] ⟨by decide, rfl⟩ (by decide) rfl rfl rfl (Nat.le_of_ble_eq_true rfl) ⟨Nat.zero_le _, Nat.zero_le _⟩ dX3_setValue_3 (fun r3 h3 => ?_)
  rcases h3 with ⟨rfl, kv, hkv, rfl⟩ | ⟨rfl, h3⟩
  ·
    refine n_if_eq (tgt := 36) X dX3_setValue_6 (by decide) (by omega) (fun c6 => absurd c6 (by decide)) (fun _ => ?_)
    refine z_iload_n X dX3_setValue_9 rfl rfl ?_
    refine z_iconst (v := nI 4) X dX3_setValue_10 (by decide) ?_
    refine z_callS1 (k := 0) (n := 0) (st := []) X (c_X3_isAmongOrNone l D t ab 4 (by decide)) k_X3_isAmongOrNone q_ml_X3_57 [] ⟨by decide, rfl⟩ (by decide) rfl rfl rfl (Nat.le_of_ble_eq_true rfl) ⟨Nat.zero_le _, Nat.zero_le _⟩ dX3_setValue_11 (fun r11 h11 => ?_)
    rcases h11 with ⟨rfl, h11⟩ | ⟨rfl, h11⟩
    ·
      refine n_if_eq (tgt := 36) X dX3_setValue_14 (by decide) (by omega) (fun c14 => absurd c14 (by decide)) (fun _ => ?_)
      refine z_iload X dX3_setValue_17 rfl ?_
      refine z_iconst (v := nI 3) X dX3_setValue_19 (by decide) ?_
      refine z_callS1 (k := 0) (n := 0) (st := []) X (c_X3_isAmongOrNone l D t ca 3 (by decide)) k_X3_isAmongOrNone q_ml_X3_57 [] ⟨by decide, rfl⟩ (by decide) rfl rfl rfl (Nat.le_of_ble_eq_true rfl) ⟨Nat.zero_le _, Nat.zero_le _⟩ dX3_setValue_20 (fun r20 h20 => ?_)
      rcases h20 with ⟨rfl, h20⟩ | ⟨rfl, h20⟩
      ·
        refine n_if_eq (tgt := 36) X dX3_setValue_23 (by decide) (by omega) (fun c23 => absurd c23 (by decide)) (fun _ => ?_)
        refine z_iload X dX3_setValue_26 rfl ?_
        refine z_bipush (v := nI 6) X dX3_setValue_28 (by decide) ?_
        refine z_callS1 (k := 0) (n := 0) (st := []) X (c_X3_isAmongOrNone l D t ot 6 (by decide)) k_X3_isAmongOrNone q_ml_X3_57 [] ⟨by decide, rfl⟩ (by decide) rfl rfl rfl (Nat.le_of_ble_eq_true rfl) ⟨Nat.zero_le _, Nat.zero_le _⟩ dX3_setValue_30 (fun r30 h30 => ?_)
        rcases h30 with ⟨rfl, h30⟩ | ⟨rfl, h30⟩
        ·
          refine n_if_ne (tgt := 46) X dX3_setValue_33 (by decide) (by omega) (fun _ => ?_) (fun c33 => absurd c33 (by decide))
          refine z_iload_n X dX3_setValue_46 rfl rfl ?_
          refine z_bipush (v := (-50)) X dX3_setValue_47 (by decide) ?_
          refine z_bipush (v := nI 50) X dX3_setValue_49 (by decide) ?_
          refine z_callS1 (k := 0) (n := 0) (st := []) X (c_X3_isFromTo l D t i (-50) (nI 50)) k_X3_isFromTo q_ml_X3_67 [] ⟨by decide, rfl⟩ (by decide) rfl rfl rfl (Nat.le_of_ble_eq_true rfl) ⟨Nat.zero_le _, Nat.zero_le _⟩ dX3_setValue_51 (fun r51 h51 => ?_)
          rcases h51 with ⟨rfl, h51⟩ | ⟨rfl, h51⟩
          ·
            refine n_if_ne (tgt := 67) X dX3_setValue_54 (by decide) (by omega) (fun _ => ?_) (fun c54 => absurd c54 (by decide))
            refine z_aload_n X dX3_setValue_67 rfl rfl ?_
            refine z_get X (C := RX3) (T := TX3) (N := 8) (ci := 3) (v := .ref (a 2)) inZ3 0 1 rfl rfl (by decide) q_fl_X3_19 rfl rfl dX3_setValue_68 ?_
            refine z_get X (C := RX2) (T := TX2) (N := 4) (ci := 2) (v := .ref (a 18)) inZ2 2 0 rfl rfl (by decide) q_fl_X3_118 rfl rfl dX3_setValue_71 ?_
            refine z_iload_n X dX3_setValue_74 rfl rfl ?_
            refine z_iload_n X dX3_setValue_75 rfl rfl ?_
            refine n_iast X Y 18 aR_eq rfl (by omega) (by decide) dX3_setValue_76 ?_
            refine Wz.eq (uR_10 (f := upd (S 10) kv i)) ?_
            refine z_aload_n X dX3_setValue_77 rfl rfl ?_
            refine z_get X (C := RX3) (T := TX3) (N := 8) (ci := 3) (v := .ref (a 2)) inZ3 0 1 rfl rfl (by decide) q_fl_X3_19 rfl rfl dX3_setValue_78 ?_
            refine z_get X (C := RX2) (T := TX2) (N := 4) (ci := 2) (v := .ref (a 19)) inZ2 2 1 rfl rfl (by decide) q_fl_X3_121 rfl rfl dX3_setValue_81 ?_
            refine z_iload_n X dX3_setValue_84 rfl rfl ?_
            refine z_iload_n X dX3_setValue_85 rfl rfl ?_
            refine n_iast X Y 19 aR_eq rfl (by omega) (by decide) dX3_setValue_86 ?_
            refine Wz.eq (uR_11 (f := upd (S 11) kv ab)) ?_
            refine z_aload_n X dX3_setValue_87 rfl rfl ?_
            refine z_get X (C := RX3) (T := TX3) (N := 8) (ci := 3) (v := .ref (a 2)) inZ3 0 1 rfl rfl (by decide) q_fl_X3_19 rfl rfl dX3_setValue_88 ?_
            refine z_get X (C := RX2) (T := TX2) (N := 4) (ci := 2) (v := .ref (a 20)) inZ2 2 2 rfl rfl (by decide) q_fl_X3_122 rfl rfl dX3_setValue_91 ?_
            refine z_iload_n X dX3_setValue_94 rfl rfl ?_
            refine z_iload X dX3_setValue_95 rfl ?_
            refine n_iast X Y 20 aR_eq rfl (by omega) (by decide) dX3_setValue_97 ?_
            refine Wz.eq (uR_12 (f := upd (S 12) kv ca)) ?_
            refine z_aload_n X dX3_setValue_98 rfl rfl ?_
            refine z_get X (C := RX3) (T := TX3) (N := 8) (ci := 3) (v := .ref (a 2)) inZ3 0 1 rfl rfl (by decide) q_fl_X3_19 rfl rfl dX3_setValue_99 ?_
            refine z_get X (C := RX2) (T := TX2) (N := 4) (ci := 2) (v := .ref (a 21)) inZ2 2 3 rfl rfl (by decide) q_fl_X3_123 rfl rfl dX3_setValue_102 ?_
            refine z_iload_n X dX3_setValue_105 rfl rfl ?_
            refine z_iload X dX3_setValue_106 rfl ?_
            refine n_iast X Y 21 aR_eq rfl (by omega) (by decide) dX3_setValue_108 ?_
            refine Wz.eq (uR_13 (f := upd (S 13) kv ot)) ?_
            refine z_vretX X Z dX3_setValue_109 ?_
            exact ⟨kv, ⟨hkv, rfl, ⟨⟨kv, hkv, rfl⟩, h11, h20, h30⟩, h51⟩, fun q hq => hq⟩
          ·
            refine n_if_ne (tgt := 67) X dX3_setValue_54 (by decide) (by omega) (fun c54 => absurd c54 (by decide)) (fun _ => ?_)
            refine z_throw (h := 20) (cls := eA) (text := "the base is out of range") (is := 116) X Z V (Nat.le_of_ble_eq_true rfl) rfl zat_A q_cl_X3_71 q_in_java_lang_IllegalArgumentException (by decide +kernel) (by decide +kernel) (by decide) dX3_setValue_57 dX3_setValue_60 dX3_setValue_61 dX3_setValue_63 dX3_setValue_66 ?_
            exact ⟨(), Or.inr ⟨rfl, ⟨⟨kv, hkv, rfl⟩, h11, h20, h30⟩, h51⟩, fun q hq => hq⟩
        ·
          refine n_if_ne (tgt := 46) X dX3_setValue_33 (by decide) (by omega) (fun c33 => absurd c33 (by decide)) (fun _ => ?_)
          refine z_throw (h := 20) (cls := eI) (text := "no such value, ability, calling or other") (is := 114) X Z V (Nat.le_of_ble_eq_true rfl) rfl zat_I q_cl_X3_60 q_in_java_lang_IndexOutOfBoundsException (by decide +kernel) (by decide +kernel) (by decide) dX3_setValue_36 dX3_setValue_39 dX3_setValue_40 dX3_setValue_42 dX3_setValue_45 ?_
          first
            | exact ⟨(), Or.inl ⟨rfl, fun q => h30 q.2.2.2⟩, fun q hq => hq⟩
            | exact ⟨(), Or.inl ⟨rfl, fun q => h20 q.2.2.1⟩, fun q hq => hq⟩
            | exact ⟨(), Or.inl ⟨rfl, fun q => h11 q.2.1⟩, fun q hq => hq⟩
            | exact ⟨(), Or.inl ⟨rfl, fun q => h3 q.1⟩, fun q hq => hq⟩
      ·
        refine n_if_eq (tgt := 36) X dX3_setValue_23 (by decide) (by omega) (fun _ => ?_) (fun c23 => absurd c23 (by decide))
        refine z_throw (h := 20) (cls := eI) (text := "no such value, ability, calling or other") (is := 114) X Z V (Nat.le_of_ble_eq_true rfl) rfl zat_I q_cl_X3_60 q_in_java_lang_IndexOutOfBoundsException (by decide +kernel) (by decide +kernel) (by decide) dX3_setValue_36 dX3_setValue_39 dX3_setValue_40 dX3_setValue_42 dX3_setValue_45 ?_
        first
          | exact ⟨(), Or.inl ⟨rfl, fun q => h30 q.2.2.2⟩, fun q hq => hq⟩
          | exact ⟨(), Or.inl ⟨rfl, fun q => h20 q.2.2.1⟩, fun q hq => hq⟩
          | exact ⟨(), Or.inl ⟨rfl, fun q => h11 q.2.1⟩, fun q hq => hq⟩
          | exact ⟨(), Or.inl ⟨rfl, fun q => h3 q.1⟩, fun q hq => hq⟩
    ·
      refine n_if_eq (tgt := 36) X dX3_setValue_14 (by decide) (by omega) (fun _ => ?_) (fun c14 => absurd c14 (by decide))
      refine z_throw (h := 20) (cls := eI) (text := "no such value, ability, calling or other") (is := 114) X Z V (Nat.le_of_ble_eq_true rfl) rfl zat_I q_cl_X3_60 q_in_java_lang_IndexOutOfBoundsException (by decide +kernel) (by decide +kernel) (by decide) dX3_setValue_36 dX3_setValue_39 dX3_setValue_40 dX3_setValue_42 dX3_setValue_45 ?_
      first
        | exact ⟨(), Or.inl ⟨rfl, fun q => h30 q.2.2.2⟩, fun q hq => hq⟩
        | exact ⟨(), Or.inl ⟨rfl, fun q => h20 q.2.2.1⟩, fun q hq => hq⟩
        | exact ⟨(), Or.inl ⟨rfl, fun q => h11 q.2.1⟩, fun q hq => hq⟩
        | exact ⟨(), Or.inl ⟨rfl, fun q => h3 q.1⟩, fun q hq => hq⟩
  ·
    refine n_if_eq (tgt := 36) X dX3_setValue_6 (by decide) (by omega) (fun _ => ?_) (fun c6 => absurd c6 (by decide))
    refine z_throw (h := 20) (cls := eI) (text := "no such value, ability, calling or other") (is := 114) X Z V (Nat.le_of_ble_eq_true rfl) rfl zat_I q_cl_X3_60 q_in_java_lang_IndexOutOfBoundsException (by decide +kernel) (by decide +kernel) (by decide) dX3_setValue_36 dX3_setValue_39 dX3_setValue_40 dX3_setValue_42 dX3_setValue_45 ?_
    first
      | exact ⟨(), Or.inl ⟨rfl, fun q => h30 q.2.2.2⟩, fun q hq => hq⟩
      | exact ⟨(), Or.inl ⟨rfl, fun q => h20 q.2.2.1⟩, fun q hq => hq⟩
      | exact ⟨(), Or.inl ⟨rfl, fun q => h11 q.2.1⟩, fun q hq => hq⟩
      | exact ⟨(), Or.inl ⟨rfl, fun q => h3 q.1⟩, fun q hq => hq⟩
/-- the scores with one more -/
def scU (sc : Nat → Nat) (k j : Nat) : Nat → Nat := fun i => if i = k then j else sc i
theorem scU_cs {sc : Nat → Nat} {k j : Nat} (hk : k < 4) : cs4 (scU sc k j) + cst (sc k) = cs4 sc + cst j := by
  unfold cs4 scU
  rcases (show k = 0 ∨ k = 1 ∨ k = 2 ∨ k = 3 by omega) with rfl | rfl | rfl | rfl <;> simp <;> omega
theorem cst_le {j : Nat} (h : j ≤ 16) : cst j ≤ 12 := by unfold cst; omega
theorem sub_neg : ∀ a, a < 33 → ∀ b, b < 13 → a < b → nI a - nI b < 0 := by decide +kernel
theorem rg_nI {x : Int32} {a b : Nat} (ha : a < 2 ^ 31) (hb : b < 2 ^ 31) (h : rg x (nI a) (nI b)) : ∃ k, a ≤ k ∧ k ≤ b ∧ x = nI k := (zr_ft ha hb).mp h
theorem cs_one {sc : Nat → Nat} {k : Nat} (hk : k < 4) : cst (sc k) ≤ cs4 sc := by
  unfold cs4
  rcases (show k = 0 ∨ k = 1 ∨ k = 2 ∨ k = 3 by omega) with rfl | rfl | rfl | rfl <;> omega
set_option maxHeartbeats 4000000 in
set_option maxRecDepth 100000 in
theorem c_X3_setScore (l : Launch) (hfl : l.stackTraces = false) (D : va_G) (t : ClassId × ClassId × ClassId) (sz : Nat) (a : Nat → Nat) (S : zS) (sc : Nat → Nat) (ab v : Int32) (hsc : zSc S sc) (hc : cs4 sc ≤ 20) : zM4 l yX3_setScore cX3_setScore 4 (some .int) 20 D t [.ref (a 0), .int ab, .int v] (wR t a S) sz (fun r (u : Nat × Nat) => u.1 < 4 ∧ ab = nI u.1 ∧ 8 ≤ u.2 ∧ u.2 ≤ 16 ∧ v = nI u.2 ∧ cs4 (scU sc u.1 u.2) ≤ 20 ∧ r = nI (20 - cs4 (scU sc u.1 u.2))) (fun u => wR t a (va_up S 14 (upd (S 14) u.1 (nI u.2)))) (fun E (_ : Unit) => (E = eI ∧ ¬ am ab 4) ∨ (E = eA ∧ am ab 4 ∧ ¬ rg v (nI 8) (nI 16)) ∨ (E = eS ∧ ∃ k j, k < 4 ∧ ab = nI k ∧ 8 ≤ j ∧ j ≤ 16 ∧ v = nI j ∧ 20 < cs4 (scU sc k j))) (fun _ => wR t a S) := by
  refine z_m4 hfl (by decide +kernel) (Nat.le_of_ble_eq_true rfl) (by simp [Value.category]) ?_
  intro E X Z V Y
  refine z_lv (lv' := [some (.ref (a 0)), some (.int ab), some (.int v), none]) rfl ?_
  refine z_iload_n X dX3_setScore_0 rfl rfl ?_
  refine z_iconst (v := nI 4) X dX3_setScore_1 (by decide) ?_
  refine z_callS1 (k := 0) (n := 0) (st := []) X (c_X3_isAmong_g l D t ab 4 (by decide)) k_X3_isAmong q_ml_X3_53 [] ⟨by decide, rfl⟩ (by decide) rfl rfl rfl (Nat.le_of_ble_eq_true rfl) ⟨Nat.zero_le _, Nat.zero_le _⟩ dX3_setScore_2 (fun r2 h2 => ?_)
  rcases h2 with ⟨rfl, kab, hkab, rfl⟩ | ⟨rfl, h2⟩
  ·
    refine n_if_ne (tgt := 18) X dX3_setScore_5 (by decide) (by omega) (fun _ => ?_) (fun c5 => absurd c5 (by decide))
    refine z_iload_n X dX3_setScore_18 rfl rfl ?_
    refine z_bipush (v := nI 8) X dX3_setScore_19 (by decide) ?_
    refine z_bipush (v := nI 16) X dX3_setScore_21 (by decide) ?_
    refine z_callS1 (k := 0) (n := 0) (st := []) X (c_X3_isFromTo l D t v (nI 8) (nI 16)) k_X3_isFromTo q_ml_X3_67 [] ⟨by decide, rfl⟩ (by decide) rfl rfl rfl (Nat.le_of_ble_eq_true rfl) ⟨Nat.zero_le _, Nat.zero_le _⟩ dX3_setScore_23 (fun r23 h23 => ?_)
    rcases h23 with ⟨rfl, h23⟩ | ⟨rfl, h23⟩
    ·
      refine n_if_ne (tgt := 39) X dX3_setScore_26 (by decide) (by omega) (fun _ => ?_) (fun c26 => absurd c26 (by decide))
      obtain ⟨j, hj8, hj16, rfl⟩ := rg_nI (by decide) (by decide) h23
      obtain ⟨e9, l9, u9⟩ := hsc kab hkab
      have hcj := cst_le hj16
      have hck := cst_le u9
      have hcu := scU_cs (sc := sc) (j := j) hkab
      have hc1 := cs_one (sc := sc) hkab
      refine z_aload_n X dX3_setScore_39 rfl rfl ?_
      refine z_callV1 (k := 0) (n := 0) (st := []) X (c_X3_pointsLeft l D t a S sc hsc hc) k_X3_pointsLeft q_ml_X3_126 is24 ⟨by decide, rfl⟩ 0 3 rfl rfl (by decide) rfl rfl rfl (Nat.le_of_ble_eq_true rfl) ⟨Nat.zero_le _, Nat.zero_le _⟩ dX3_setScore_40 (fun r40 h40 => ?_)
      subst h40
      refine z_aload_n X dX3_setScore_43 rfl rfl ?_
      refine z_get X (C := RX3) (T := TX3) (N := 8) (ci := 3) (v := .ref (a 3)) inZ3 0 2 rfl rfl (by decide) q_fl_X3_23 rfl rfl dX3_setScore_44 ?_
      refine z_iload_n X dX3_setScore_47 rfl rfl ?_
      refine n_iald (f := S 14) X 3 rfl (by omega) (by decide) dX3_setScore_48 ?_
      refine z_top (y := nI (sc kab)) (e9) ?_
      refine z_callS1 (k := 0) (n := 0) (st := [.int (nI (20 - cs4 sc))]) X (c_X3_costOf l D t (sc kab) (by omega) (by omega)) k_X3_costOf q_ml_X3_130 [] ⟨by decide, rfl⟩ (by decide) rfl rfl rfl (Nat.le_of_ble_eq_true rfl) ⟨Nat.zero_le _, Nat.zero_le _⟩ dX3_setScore_49 (fun r49 h49 => ?_)
      subst h49
      refine n_iadd X dX3_setScore_52 ?_
      refine z_iload_n X dX3_setScore_53 rfl rfl ?_
      refine z_callS1 (k := 0) (n := 0) (st := [.int (nI ((20 - cs4 sc) + (cst (sc kab))))]) X (c_X3_costOf l D t j (by omega) (by omega)) k_X3_costOf q_ml_X3_130 [] ⟨by decide, rfl⟩ (by decide) rfl rfl rfl (Nat.le_of_ble_eq_true rfl) ⟨Nat.zero_le _, Nat.zero_le _⟩ dX3_setScore_54 (fun r54 h54 => ?_)
      subst h54
      rcases Nat.lt_or_ge (20 - cs4 sc + cst (sc kab)) (cst j) with h57 | h57
      ·
        refine z_isub X dX3_setScore_57 ?_
        refine z_istore_n X dX3_setScore_58 rfl (Nat.le_of_ble_eq_true rfl) ?_
        refine z_lv (lv' := [some (.ref (a 0)), some (.int (nI kab)), some (.int (nI j)), some (.int (nI (20 - cs4 sc + cst (sc kab)) - nI (cst j)))]) rfl ?_
        refine z_iload_n X dX3_setScore_59 rfl rfl ?_
        refine z_if_ge (tgt := 73) X dX3_setScore_60 (by decide) (fun c60 => absurd c60 (Int32.not_le.mpr (sub_neg _ (by omega) _ (by omega) h57))) (fun c60 => ?_)
        refine z_throw (h := 20) (cls := eS) (text := "all scores would cost too much") (is := 136) X Z V (Nat.le_of_ble_eq_true rfl) rfl zat_S q_cl_X3_134 q_in_java_lang_IllegalStateException (by decide +kernel) (by decide +kernel) (by decide) dX3_setScore_63 dX3_setScore_66 dX3_setScore_67 dX3_setScore_69 dX3_setScore_72 ?_
        exact ⟨(), Or.inr (Or.inr ⟨rfl, kab, j, hkab, rfl, hj8, hj16, rfl, by omega⟩), fun q hq => hq⟩
      ·
        refine n_isub X dX3_setScore_57 h57 ?_
        refine z_istore_n X dX3_setScore_58 rfl (Nat.le_of_ble_eq_true rfl) ?_
        refine z_lv (lv' := [some (.ref (a 0)), some (.int (nI kab)), some (.int (nI j)), some (.int (nI ((20 - cs4 sc + cst (sc kab)) - cst j)))]) rfl ?_
        refine z_iload_n X dX3_setScore_59 rfl rfl ?_
        refine n_if_ge (tgt := 73) X dX3_setScore_60 (by decide) (by omega) ?_
        refine z_aload_n X dX3_setScore_73 rfl rfl ?_
        refine z_get X (C := RX3) (T := TX3) (N := 8) (ci := 3) (v := .ref (a 3)) inZ3 0 2 rfl rfl (by decide) q_fl_X3_23 rfl rfl dX3_setScore_74 ?_
        refine z_iload_n X dX3_setScore_77 rfl rfl ?_
        refine z_iload_n X dX3_setScore_78 rfl rfl ?_
        refine n_iast X Y 3 aR_eq rfl (by omega) (by decide) dX3_setScore_79 ?_
        refine Wz.eq (uR_14 (f := upd (S 14) kab (nI j))) ?_
        refine z_iload_n X dX3_setScore_80 rfl rfl ?_
        refine z_iretX X Z rfl dX3_setScore_81 ?_
        have q1 : cs4 (scU sc kab j) ≤ 20 := by omega
        have q2 : 20 - cs4 sc + cst (sc kab) - cst j = 20 - cs4 (scU sc kab j) := by omega
        exact ⟨(kab, j), ⟨hkab, rfl, hj8, hj16, rfl, q1, congrArg nI q2⟩, fun q hq => hq⟩
    ·
      refine n_if_ne (tgt := 39) X dX3_setScore_26 (by decide) (by omega) (fun c26 => absurd c26 (by decide)) (fun _ => ?_)
      refine z_throw (h := 20) (cls := eA) (text := "the score is out of range") (is := 73) X Z V (Nat.le_of_ble_eq_true rfl) rfl zat_A q_cl_X3_71 q_in_java_lang_IllegalArgumentException (by decide +kernel) (by decide +kernel) (by decide) dX3_setScore_29 dX3_setScore_32 dX3_setScore_33 dX3_setScore_35 dX3_setScore_38 ?_
      exact ⟨(), Or.inr (Or.inl ⟨rfl, ⟨kab, hkab, rfl⟩, h23⟩), fun q hq => hq⟩
  ·
    refine n_if_ne (tgt := 18) X dX3_setScore_5 (by decide) (by omega) (fun c5 => absurd c5 (by decide)) (fun _ => ?_)
    refine z_throw (h := 20) (cls := eI) (text := "no such ability") (is := 124) X Z V (Nat.le_of_ble_eq_true rfl) rfl zat_I q_cl_X3_60 q_in_java_lang_IndexOutOfBoundsException (by decide +kernel) (by decide +kernel) (by decide) dX3_setScore_8 dX3_setScore_11 dX3_setScore_12 dX3_setScore_14 dX3_setScore_17 ?_
    exact ⟨(), Or.inl ⟨rfl, h2⟩, fun q hq => hq⟩
