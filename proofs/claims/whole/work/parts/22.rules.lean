/-! the class's rules: what they ask and what they change -/
def am (x : Int32) (m : Nat) : Prop := ∃ k, k < m ∧ x = nI k
abbrev rg (x lo hi : Int32) : Prop := lo ≤ x ∧ x ≤ hi
def nd1 (g ab ca ot : Int32) : Prop := am g 8 ∧ zo ab 4 ∧ zo ca 3 ∧ zo ot 8
def nd2 (ab sc ca lv : Int32) : Prop := (ab = -1 ∨ rg sc (nI 8) (nI 16)) ∧ (ca = -1 ∨ rg lv (nI 1) (nI 8))
abbrev ndS (S : zS) (k : Nat) (ab sc ca lv ot : Int32) : zS := va_up (va_up (va_up (va_up (va_up S 0 (upd (S 0) k ab)) 1 (upd (S 1) k sc)) 2 (upd (S 2) k ca)) 3 (upd (S 3) k lv)) 4 (upd (S 4) k ot)
def br1 (g ca : Int32) : Prop := am g 8 ∧ zo ca 3
def br2 (ca lv : Int32) : Prop := ca = -1 ∨ rg lv (nI 0) (nI 7)
abbrev brS (S : zS) (k : Nat) (ca lv : Int32) : zS := va_up (va_up S 5 (upd (S 5) k ca)) 6 (upd (S 6) k lv)
def bo1 (g v : Int32) : Prop := am g 8 ∧ zo v 6
def bo2 (kd i : Int32) : Prop := am kd 4 ∧ rg i (-9) (nI 9)
abbrev boS (S : zS) (k : Nat) (v kd i : Int32) : zS := va_up (va_up (va_up S 7 (upd (S 7) k v)) 8 (upd (S 8) k kd)) 9 (upd (S 9) k i)
def va1 (v ab ca ot : Int32) : Prop := am v 6 ∧ zo ab 4 ∧ zo ca 3 ∧ zo ot 6
def va2 (i : Int32) : Prop := rg i (-50) (nI 50)
abbrev vaS (S : zS) (k : Nat) (i ab ca ot : Int32) : zS := va_up (va_up (va_up (va_up S 10 (upd (S 10) k i)) 11 (upd (S 11) k ab)) 12 (upd (S 12) k ca)) 13 (upd (S 13) k ot)
set_option maxHeartbeats 4000000 in
set_option maxRecDepth 100000 in
theorem c_X3_setNeeds (l : Launch) (hfl : l.stackTraces = false) (D : va_G) (t : ClassId × ClassId × ClassId) (sz : Nat) (a : Nat → Nat) (S : zS) (g ab sc ca lw ot : Int32) : zM5 l yX3_setNeeds cX3_setNeeds 7 20 D t [.ref (a 0), .int g, .int ab, .int sc, .int ca, .int lw, .int ot] (wR t a S) sz (fun u : Nat => u < 8 ∧ g = nI u ∧ nd1 g ab ca ot ∧ nd2 ab sc ca lw) (fun u => wR t a (ndS S u ab sc ca lw ot)) (fun E (_ : Unit) => (E = eI ∧ ¬ nd1 g ab ca ot) ∨ (E = eA ∧ nd1 g ab ca ot ∧ ¬ nd2 ab sc ca lw)) (fun _ => wR t a S) := by
  refine z_m5 hfl (by decide +kernel) (Nat.le_of_ble_eq_true rfl) (by simp [Value.category]) ?_
  intro E X Z V Y
  refine z_lv (lv' := [some (.ref (a 0)), some (.int g), some (.int ab), some (.int sc), some (.int ca), some (.int lw), some (.int ot)]) rfl ?_
  refine z_iload_n X dX3_setNeeds_0 rfl rfl ?_
  refine z_bipush (v := nI 8) X dX3_setNeeds_1 (by decide) ?_
  refine z_callS1 (k := 0) (n := 0) (st := []) X (c_X3_isAmong_g l D t g 8 (by decide)) k_X3_isAmong q_ml_X3_53 [] ⟨by decide, rfl⟩ (by decide) rfl rfl rfl (Nat.le_of_ble_eq_true rfl) ⟨Nat.zero_le _, Nat.zero_le _⟩ dX3_setNeeds_3 (fun r3 h3 => ?_)
  rcases h3 with ⟨rfl, kg, hkg, rfl⟩ | ⟨rfl, h3⟩
  ·
    refine n_if_eq (tgt := 36) X dX3_setNeeds_6 (by decide) (by omega) (fun c6 => absurd c6 (by decide)) (fun _ => ?_)
    refine z_iload_n X dX3_setNeeds_9 rfl rfl ?_
    refine z_iconst (v := nI 4) X dX3_setNeeds_10 (by decide) ?_
    refine z_callS1 (k := 0) (n := 0) (st := []) X (c_X3_isAmongOrNone l D t ab 4 (by decide)) k_X3_isAmongOrNone q_ml_X3_57 [] ⟨by decide, rfl⟩ (by decide) rfl rfl rfl (Nat.le_of_ble_eq_true rfl) ⟨Nat.zero_le _, Nat.zero_le _⟩ dX3_setNeeds_11 (fun r11 h11 => ?_)
    rcases h11 with ⟨rfl, h11⟩ | ⟨rfl, h11⟩
    ·
      refine n_if_eq (tgt := 36) X dX3_setNeeds_14 (by decide) (by omega) (fun c14 => absurd c14 (by decide)) (fun _ => ?_)
      refine z_iload X dX3_setNeeds_17 rfl ?_
      refine z_iconst (v := nI 3) X dX3_setNeeds_19 (by decide) ?_
      refine z_callS1 (k := 0) (n := 0) (st := []) X (c_X3_isAmongOrNone l D t ca 3 (by decide)) k_X3_isAmongOrNone q_ml_X3_57 [] ⟨by decide, rfl⟩ (by decide) rfl rfl rfl (Nat.le_of_ble_eq_true rfl) ⟨Nat.zero_le _, Nat.zero_le _⟩ dX3_setNeeds_20 (fun r20 h20 => ?_)
      rcases h20 with ⟨rfl, h20⟩ | ⟨rfl, h20⟩
      ·
        refine n_if_eq (tgt := 36) X dX3_setNeeds_23 (by decide) (by omega) (fun c23 => absurd c23 (by decide)) (fun _ => ?_)
        refine z_iload X dX3_setNeeds_26 rfl ?_
        refine z_bipush (v := nI 8) X dX3_setNeeds_28 (by decide) ?_
        refine z_callS1 (k := 0) (n := 0) (st := []) X (c_X3_isAmongOrNone l D t ot 8 (by decide)) k_X3_isAmongOrNone q_ml_X3_57 [] ⟨by decide, rfl⟩ (by decide) rfl rfl rfl (Nat.le_of_ble_eq_true rfl) ⟨Nat.zero_le _, Nat.zero_le _⟩ dX3_setNeeds_30 (fun r30 h30 => ?_)
        rcases h30 with ⟨rfl, h30⟩ | ⟨rfl, h30⟩
        ·
          refine n_if_ne (tgt := 46) X dX3_setNeeds_33 (by decide) (by omega) (fun _ => ?_) (fun c33 => absurd c33 (by decide))
          refine z_iload_n X dX3_setNeeds_46 rfl rfl ?_
          refine z_iconst (v := (-1)) X dX3_setNeeds_47 (by decide) ?_
          refine z_icmp_eq (tgt := 72) X dX3_setNeeds_48 (by decide) (fun c48 => ?_) (fun c48 => ?_)
          ·
            refine z_iload X dX3_setNeeds_72 rfl ?_
            refine z_iconst (v := (-1)) X dX3_setNeeds_74 (by decide) ?_
            refine z_icmp_eq (tgt := 99) X dX3_setNeeds_75 (by decide) (fun c75 => ?_) (fun c75 => ?_)
            ·
              refine z_aload_n X dX3_setNeeds_99 rfl rfl ?_
              refine z_get X (C := RX3) (T := TX3) (N := 8) (ci := 3) (v := .ref (a 1)) inZ3 0 0 rfl rfl (by decide) q_fl_X3_12 rfl rfl dX3_setNeeds_100 ?_
              refine z_get X (C := RX1) (T := TX1) (N := 10) (ci := 1) (v := .ref (a 8)) inZ1 1 0 rfl rfl (by decide) q_fl_X3_78 rfl rfl dX3_setNeeds_103 ?_
              refine z_iload_n X dX3_setNeeds_106 rfl rfl ?_
              refine z_iload_n X dX3_setNeeds_107 rfl rfl ?_
              refine n_iast X Y 8 aR_eq rfl (by omega) (by decide) dX3_setNeeds_108 ?_
              refine Wz.eq (uR_0 (f := upd (S 0) kg ab)) ?_
              refine z_aload_n X dX3_setNeeds_109 rfl rfl ?_
              refine z_get X (C := RX3) (T := TX3) (N := 8) (ci := 3) (v := .ref (a 1)) inZ3 0 0 rfl rfl (by decide) q_fl_X3_12 rfl rfl dX3_setNeeds_110 ?_
              refine z_get X (C := RX1) (T := TX1) (N := 10) (ci := 1) (v := .ref (a 9)) inZ1 1 1 rfl rfl (by decide) q_fl_X3_81 rfl rfl dX3_setNeeds_113 ?_
              refine z_iload_n X dX3_setNeeds_116 rfl rfl ?_
              refine z_iload_n X dX3_setNeeds_117 rfl rfl ?_
              refine n_iast X Y 9 aR_eq rfl (by omega) (by decide) dX3_setNeeds_118 ?_
              refine Wz.eq (uR_1 (f := upd (S 1) kg sc)) ?_
              refine z_aload_n X dX3_setNeeds_119 rfl rfl ?_
              refine z_get X (C := RX3) (T := TX3) (N := 8) (ci := 3) (v := .ref (a 1)) inZ3 0 0 rfl rfl (by decide) q_fl_X3_12 rfl rfl dX3_setNeeds_120 ?_
              refine z_get X (C := RX1) (T := TX1) (N := 10) (ci := 1) (v := .ref (a 10)) inZ1 1 2 rfl rfl (by decide) q_fl_X3_84 rfl rfl dX3_setNeeds_123 ?_
              refine z_iload_n X dX3_setNeeds_126 rfl rfl ?_
              refine z_iload X dX3_setNeeds_127 rfl ?_
              refine n_iast X Y 10 aR_eq rfl (by omega) (by decide) dX3_setNeeds_129 ?_
              refine Wz.eq (uR_2 (f := upd (S 2) kg ca)) ?_
              refine z_aload_n X dX3_setNeeds_130 rfl rfl ?_
              refine z_get X (C := RX3) (T := TX3) (N := 8) (ci := 3) (v := .ref (a 1)) inZ3 0 0 rfl rfl (by decide) q_fl_X3_12 rfl rfl dX3_setNeeds_131 ?_
              refine z_get X (C := RX1) (T := TX1) (N := 10) (ci := 1) (v := .ref (a 11)) inZ1 1 3 rfl rfl (by decide) q_fl_X3_87 rfl rfl dX3_setNeeds_134 ?_
              refine z_iload_n X dX3_setNeeds_137 rfl rfl ?_
              refine z_iload X dX3_setNeeds_138 rfl ?_
              refine n_iast X Y 11 aR_eq rfl (by omega) (by decide) dX3_setNeeds_140 ?_
              refine Wz.eq (uR_3 (f := upd (S 3) kg lw)) ?_
              refine z_aload_n X dX3_setNeeds_141 rfl rfl ?_
              refine z_get X (C := RX3) (T := TX3) (N := 8) (ci := 3) (v := .ref (a 1)) inZ3 0 0 rfl rfl (by decide) q_fl_X3_12 rfl rfl dX3_setNeeds_142 ?_
              refine z_get X (C := RX1) (T := TX1) (N := 10) (ci := 1) (v := .ref (a 12)) inZ1 1 4 rfl rfl (by decide) q_fl_X3_90 rfl rfl dX3_setNeeds_145 ?_
              refine z_iload_n X dX3_setNeeds_148 rfl rfl ?_
              refine z_iload X dX3_setNeeds_149 rfl ?_
              refine n_iast X Y 12 aR_eq rfl (by omega) (by decide) dX3_setNeeds_151 ?_
              refine Wz.eq (uR_4 (f := upd (S 4) kg ot)) ?_
              refine z_vretX X Z dX3_setNeeds_152 ?_
              first
                | exact ⟨kg, ⟨hkg, rfl, ⟨⟨kg, hkg, rfl⟩, h11, h20, h30⟩, Or.inl c48, Or.inl c75⟩, fun q hq => hq⟩
                | exact ⟨kg, ⟨hkg, rfl, ⟨⟨kg, hkg, rfl⟩, h11, h20, h30⟩, Or.inl c48, Or.inr h83⟩, fun q hq => hq⟩
                | exact ⟨kg, ⟨hkg, rfl, ⟨⟨kg, hkg, rfl⟩, h11, h20, h30⟩, Or.inr h56, Or.inl c75⟩, fun q hq => hq⟩
                | exact ⟨kg, ⟨hkg, rfl, ⟨⟨kg, hkg, rfl⟩, h11, h20, h30⟩, Or.inr h56, Or.inr h83⟩, fun q hq => hq⟩
            ·
              refine z_iload X dX3_setNeeds_78 rfl ?_
              refine z_iconst (v := nI 1) X dX3_setNeeds_80 (by decide) ?_
              refine z_bipush (v := nI 8) X dX3_setNeeds_81 (by decide) ?_
              refine z_callS1 (k := 0) (n := 0) (st := []) X (c_X3_isFromTo l D t lw (nI 1) (nI 8)) k_X3_isFromTo q_ml_X3_67 [] ⟨by decide, rfl⟩ (by decide) rfl rfl rfl (Nat.le_of_ble_eq_true rfl) ⟨Nat.zero_le _, Nat.zero_le _⟩ dX3_setNeeds_83 (fun r83 h83 => ?_)
              rcases h83 with ⟨rfl, h83⟩ | ⟨rfl, h83⟩
              ·
                refine n_if_ne (tgt := 99) X dX3_setNeeds_86 (by decide) (by omega) (fun _ => ?_) (fun c86 => absurd c86 (by decide))
                refine z_aload_n X dX3_setNeeds_99 rfl rfl ?_
                refine z_get X (C := RX3) (T := TX3) (N := 8) (ci := 3) (v := .ref (a 1)) inZ3 0 0 rfl rfl (by decide) q_fl_X3_12 rfl rfl dX3_setNeeds_100 ?_
                refine z_get X (C := RX1) (T := TX1) (N := 10) (ci := 1) (v := .ref (a 8)) inZ1 1 0 rfl rfl (by decide) q_fl_X3_78 rfl rfl dX3_setNeeds_103 ?_
                refine z_iload_n X dX3_setNeeds_106 rfl rfl ?_
                refine z_iload_n X dX3_setNeeds_107 rfl rfl ?_
                refine n_iast X Y 8 aR_eq rfl (by omega) (by decide) dX3_setNeeds_108 ?_
                refine Wz.eq (uR_0 (f := upd (S 0) kg ab)) ?_
                refine z_aload_n X dX3_setNeeds_109 rfl rfl ?_
                refine z_get X (C := RX3) (T := TX3) (N := 8) (ci := 3) (v := .ref (a 1)) inZ3 0 0 rfl rfl (by decide) q_fl_X3_12 rfl rfl dX3_setNeeds_110 ?_
                refine z_get X (C := RX1) (T := TX1) (N := 10) (ci := 1) (v := .ref (a 9)) inZ1 1 1 rfl rfl (by decide) q_fl_X3_81 rfl rfl dX3_setNeeds_113 ?_
                refine z_iload_n X dX3_setNeeds_116 rfl rfl ?_
                refine z_iload_n X dX3_setNeeds_117 rfl rfl ?_
                refine n_iast X Y 9 aR_eq rfl (by omega) (by decide) dX3_setNeeds_118 ?_
                refine Wz.eq (uR_1 (f := upd (S 1) kg sc)) ?_
                refine z_aload_n X dX3_setNeeds_119 rfl rfl ?_
                refine z_get X (C := RX3) (T := TX3) (N := 8) (ci := 3) (v := .ref (a 1)) inZ3 0 0 rfl rfl (by decide) q_fl_X3_12 rfl rfl dX3_setNeeds_120 ?_
                refine z_get X (C := RX1) (T := TX1) (N := 10) (ci := 1) (v := .ref (a 10)) inZ1 1 2 rfl rfl (by decide) q_fl_X3_84 rfl rfl dX3_setNeeds_123 ?_
                refine z_iload_n X dX3_setNeeds_126 rfl rfl ?_
                refine z_iload X dX3_setNeeds_127 rfl ?_
                refine n_iast X Y 10 aR_eq rfl (by omega) (by decide) dX3_setNeeds_129 ?_
                refine Wz.eq (uR_2 (f := upd (S 2) kg ca)) ?_
                refine z_aload_n X dX3_setNeeds_130 rfl rfl ?_
                refine z_get X (C := RX3) (T := TX3) (N := 8) (ci := 3) (v := .ref (a 1)) inZ3 0 0 rfl rfl (by decide) q_fl_X3_12 rfl rfl dX3_setNeeds_131 ?_
                refine z_get X (C := RX1) (T := TX1) (N := 10) (ci := 1) (v := .ref (a 11)) inZ1 1 3 rfl rfl (by decide) q_fl_X3_87 rfl rfl dX3_setNeeds_134 ?_
                refine z_iload_n X dX3_setNeeds_137 rfl rfl ?_
                refine z_iload X dX3_setNeeds_138 rfl ?_
                refine n_iast X Y 11 aR_eq rfl (by omega) (by decide) dX3_setNeeds_140 ?_
                refine Wz.eq (uR_3 (f := upd (S 3) kg lw)) ?_
                refine z_aload_n X dX3_setNeeds_141 rfl rfl ?_
                refine z_get X (C := RX3) (T := TX3) (N := 8) (ci := 3) (v := .ref (a 1)) inZ3 0 0 rfl rfl (by decide) q_fl_X3_12 rfl rfl dX3_setNeeds_142 ?_
                refine z_get X (C := RX1) (T := TX1) (N := 10) (ci := 1) (v := .ref (a 12)) inZ1 1 4 rfl rfl (by decide) q_fl_X3_90 rfl rfl dX3_setNeeds_145 ?_
                refine z_iload_n X dX3_setNeeds_148 rfl rfl ?_
                refine z_iload X dX3_setNeeds_149 rfl ?_
                refine n_iast X Y 12 aR_eq rfl (by omega) (by decide) dX3_setNeeds_151 ?_
                refine Wz.eq (uR_4 (f := upd (S 4) kg ot)) ?_
                refine z_vretX X Z dX3_setNeeds_152 ?_
                first
                  | exact ⟨kg, ⟨hkg, rfl, ⟨⟨kg, hkg, rfl⟩, h11, h20, h30⟩, Or.inl c48, Or.inl c75⟩, fun q hq => hq⟩
                  | exact ⟨kg, ⟨hkg, rfl, ⟨⟨kg, hkg, rfl⟩, h11, h20, h30⟩, Or.inl c48, Or.inr h83⟩, fun q hq => hq⟩
                  | exact ⟨kg, ⟨hkg, rfl, ⟨⟨kg, hkg, rfl⟩, h11, h20, h30⟩, Or.inr h56, Or.inl c75⟩, fun q hq => hq⟩
                  | exact ⟨kg, ⟨hkg, rfl, ⟨⟨kg, hkg, rfl⟩, h11, h20, h30⟩, Or.inr h56, Or.inr h83⟩, fun q hq => hq⟩
              ·
                refine n_if_ne (tgt := 99) X dX3_setNeeds_86 (by decide) (by omega) (fun c86 => absurd c86 (by decide)) (fun _ => ?_)
                refine z_throw (h := 20) (cls := eA) (text := "the level is out of range") (is := 76) X Z V (Nat.le_of_ble_eq_true rfl) rfl zat_A q_cl_X3_71 q_in_java_lang_IllegalArgumentException (by decide +kernel) (by decide +kernel) (by decide) dX3_setNeeds_89 dX3_setNeeds_92 dX3_setNeeds_93 dX3_setNeeds_95 dX3_setNeeds_98 ?_
                exact ⟨(), Or.inr ⟨rfl, ⟨⟨kg, hkg, rfl⟩, h11, h20, h30⟩, fun q => q.2.elim c75 h83⟩, fun q hq => hq⟩
          ·
            refine z_iload_n X dX3_setNeeds_51 rfl rfl ?_
            refine z_bipush (v := nI 8) X dX3_setNeeds_52 (by decide) ?_
            refine z_bipush (v := nI 16) X dX3_setNeeds_54 (by decide) ?_
            refine z_callS1 (k := 0) (n := 0) (st := []) X (c_X3_isFromTo l D t sc (nI 8) (nI 16)) k_X3_isFromTo q_ml_X3_67 [] ⟨by decide, rfl⟩ (by decide) rfl rfl rfl (Nat.le_of_ble_eq_true rfl) ⟨Nat.zero_le _, Nat.zero_le _⟩ dX3_setNeeds_56 (fun r56 h56 => ?_)
            rcases h56 with ⟨rfl, h56⟩ | ⟨rfl, h56⟩
            ·
              refine n_if_ne (tgt := 72) X dX3_setNeeds_59 (by decide) (by omega) (fun _ => ?_) (fun c59 => absurd c59 (by decide))
              refine z_iload X dX3_setNeeds_72 rfl ?_
              refine z_iconst (v := (-1)) X dX3_setNeeds_74 (by decide) ?_
              refine z_icmp_eq (tgt := 99) X dX3_setNeeds_75 (by decide) (fun c75 => ?_) (fun c75 => ?_)
              ·
                refine z_aload_n X dX3_setNeeds_99 rfl rfl ?_
                refine z_get X (C := RX3) (T := TX3) (N := 8) (ci := 3) (v := .ref (a 1)) inZ3 0 0 rfl rfl (by decide) q_fl_X3_12 rfl rfl dX3_setNeeds_100 ?_
                refine z_get X (C := RX1) (T := TX1) (N := 10) (ci := 1) (v := .ref (a 8)) inZ1 1 0 rfl rfl (by decide) q_fl_X3_78 rfl rfl dX3_setNeeds_103 ?_
                refine z_iload_n X dX3_setNeeds_106 rfl rfl ?_
                refine z_iload_n X dX3_setNeeds_107 rfl rfl ?_
                refine n_iast X Y 8 aR_eq rfl (by omega) (by decide) dX3_setNeeds_108 ?_
                refine Wz.eq (uR_0 (f := upd (S 0) kg ab)) ?_
                refine z_aload_n X dX3_setNeeds_109 rfl rfl ?_
                refine z_get X (C := RX3) (T := TX3) (N := 8) (ci := 3) (v := .ref (a 1)) inZ3 0 0 rfl rfl (by decide) q_fl_X3_12 rfl rfl dX3_setNeeds_110 ?_
                refine z_get X (C := RX1) (T := TX1) (N := 10) (ci := 1) (v := .ref (a 9)) inZ1 1 1 rfl rfl (by decide) q_fl_X3_81 rfl rfl dX3_setNeeds_113 ?_
                refine z_iload_n X dX3_setNeeds_116 rfl rfl ?_
                refine z_iload_n X dX3_setNeeds_117 rfl rfl ?_
                refine n_iast X Y 9 aR_eq rfl (by omega) (by decide) dX3_setNeeds_118 ?_
                refine Wz.eq (uR_1 (f := upd (S 1) kg sc)) ?_
                refine z_aload_n X dX3_setNeeds_119 rfl rfl ?_
                refine z_get X (C := RX3) (T := TX3) (N := 8) (ci := 3) (v := .ref (a 1)) inZ3 0 0 rfl rfl (by decide) q_fl_X3_12 rfl rfl dX3_setNeeds_120 ?_
                refine z_get X (C := RX1) (T := TX1) (N := 10) (ci := 1) (v := .ref (a 10)) inZ1 1 2 rfl rfl (by decide) q_fl_X3_84 rfl rfl dX3_setNeeds_123 ?_
                refine z_iload_n X dX3_setNeeds_126 rfl rfl ?_
                refine z_iload X dX3_setNeeds_127 rfl ?_
                refine n_iast X Y 10 aR_eq rfl (by omega) (by decide) dX3_setNeeds_129 ?_
                refine Wz.eq (uR_2 (f := upd (S 2) kg ca)) ?_
                refine z_aload_n X dX3_setNeeds_130 rfl rfl ?_
                refine z_get X (C := RX3) (T := TX3) (N := 8) (ci := 3) (v := .ref (a 1)) inZ3 0 0 rfl rfl (by decide) q_fl_X3_12 rfl rfl dX3_setNeeds_131 ?_
                refine z_get X (C := RX1) (T := TX1) (N := 10) (ci := 1) (v := .ref (a 11)) inZ1 1 3 rfl rfl (by decide) q_fl_X3_87 rfl rfl dX3_setNeeds_134 ?_
                refine z_iload_n X dX3_setNeeds_137 rfl rfl ?_
                refine z_iload X dX3_setNeeds_138 rfl ?_
                refine n_iast X Y 11 aR_eq rfl (by omega) (by decide) dX3_setNeeds_140 ?_
                refine Wz.eq (uR_3 (f := upd (S 3) kg lw)) ?_
                refine z_aload_n X dX3_setNeeds_141 rfl rfl ?_
                refine z_get X (C := RX3) (T := TX3) (N := 8) (ci := 3) (v := .ref (a 1)) inZ3 0 0 rfl rfl (by decide) q_fl_X3_12 rfl rfl dX3_setNeeds_142 ?_
                refine z_get X (C := RX1) (T := TX1) (N := 10) (ci := 1) (v := .ref (a 12)) inZ1 1 4 rfl rfl (by decide) q_fl_X3_90 rfl rfl dX3_setNeeds_145 ?_
                refine z_iload_n X dX3_setNeeds_148 rfl rfl ?_
                refine z_iload X dX3_setNeeds_149 rfl ?_
                refine n_iast X Y 12 aR_eq rfl (by omega) (by decide) dX3_setNeeds_151 ?_
                refine Wz.eq (uR_4 (f := upd (S 4) kg ot)) ?_
                refine z_vretX X Z dX3_setNeeds_152 ?_
                first
                  | exact ⟨kg, ⟨hkg, rfl, ⟨⟨kg, hkg, rfl⟩, h11, h20, h30⟩, Or.inl c48, Or.inl c75⟩, fun q hq => hq⟩
                  | exact ⟨kg, ⟨hkg, rfl, ⟨⟨kg, hkg, rfl⟩, h11, h20, h30⟩, Or.inl c48, Or.inr h83⟩, fun q hq => hq⟩
                  | exact ⟨kg, ⟨hkg, rfl, ⟨⟨kg, hkg, rfl⟩, h11, h20, h30⟩, Or.inr h56, Or.inl c75⟩, fun q hq => hq⟩
                  | exact ⟨kg, ⟨hkg, rfl, ⟨⟨kg, hkg, rfl⟩, h11, h20, h30⟩, Or.inr h56, Or.inr h83⟩, fun q hq => hq⟩
              ·
                refine z_iload X dX3_setNeeds_78 rfl ?_
                refine z_iconst (v := nI 1) X dX3_setNeeds_80 (by decide) ?_
                refine z_bipush (v := nI 8) X dX3_setNeeds_81 (by decide) ?_
                refine z_callS1 (k := 0) (n := 0) (st := []) X (c_X3_isFromTo l D t lw (nI 1) (nI 8)) k_X3_isFromTo q_ml_X3_67 [] ⟨by decide, rfl⟩ (by decide) rfl rfl rfl (Nat.le_of_ble_eq_true rfl) ⟨Nat.zero_le _, Nat.zero_le _⟩ dX3_setNeeds_83 (fun r83 h83 => ?_)
                rcases h83 with ⟨rfl, h83⟩ | ⟨rfl, h83⟩
                ·
                  refine n_if_ne (tgt := 99) X dX3_setNeeds_86 (by decide) (by omega) (fun _ => ?_) (fun c86 => absurd c86 (by decide))
                  refine z_aload_n X dX3_setNeeds_99 rfl rfl ?_
                  refine z_get X (C := RX3) (T := TX3) (N := 8) (ci := 3) (v := .ref (a 1)) inZ3 0 0 rfl rfl (by decide) q_fl_X3_12 rfl rfl dX3_setNeeds_100 ?_
                  refine z_get X (C := RX1) (T := TX1) (N := 10) (ci := 1) (v := .ref (a 8)) inZ1 1 0 rfl rfl (by decide) q_fl_X3_78 rfl rfl dX3_setNeeds_103 ?_
                  refine z_iload_n X dX3_setNeeds_106 rfl rfl ?_
                  refine z_iload_n X dX3_setNeeds_107 rfl rfl ?_
                  refine n_iast X Y 8 aR_eq rfl (by omega) (by decide) dX3_setNeeds_108 ?_
                  refine Wz.eq (uR_0 (f := upd (S 0) kg ab)) ?_
                  refine z_aload_n X dX3_setNeeds_109 rfl rfl ?_
                  refine z_get X (C := RX3) (T := TX3) (N := 8) (ci := 3) (v := .ref (a 1)) inZ3 0 0 rfl rfl (by decide) q_fl_X3_12 rfl rfl dX3_setNeeds_110 ?_
                  refine z_get X (C := RX1) (T := TX1) (N := 10) (ci := 1) (v := .ref (a 9)) inZ1 1 1 rfl rfl (by decide) q_fl_X3_81 rfl rfl dX3_setNeeds_113 ?_
                  refine z_iload_n X dX3_setNeeds_116 rfl rfl ?_
                  refine z_iload_n X dX3_setNeeds_117 rfl rfl ?_
                  refine n_iast X Y 9 aR_eq rfl (by omega) (by decide) dX3_setNeeds_118 ?_
                  refine Wz.eq (uR_1 (f := upd (S 1) kg sc)) ?_
                  refine z_aload_n X dX3_setNeeds_119 rfl rfl ?_
                  refine z_get X (C := RX3) (T := TX3) (N := 8) (ci := 3) (v := .ref (a 1)) inZ3 0 0 rfl rfl (by decide) q_fl_X3_12 rfl rfl dX3_setNeeds_120 ?_
                  refine z_get X (C := RX1) (T := TX1) (N := 10) (ci := 1) (v := .ref (a 10)) inZ1 1 2 rfl rfl (by decide) q_fl_X3_84 rfl rfl dX3_setNeeds_123 ?_
                  refine z_iload_n X dX3_setNeeds_126 rfl rfl ?_
                  refine z_iload X dX3_setNeeds_127 rfl ?_
                  refine n_iast X Y 10 aR_eq rfl (by omega) (by decide) dX3_setNeeds_129 ?_
                  refine Wz.eq (uR_2 (f := upd (S 2) kg ca)) ?_
                  refine z_aload_n X dX3_setNeeds_130 rfl rfl ?_
                  refine z_get X (C := RX3) (T := TX3) (N := 8) (ci := 3) (v := .ref (a 1)) inZ3 0 0 rfl rfl (by decide) q_fl_X3_12 rfl rfl dX3_setNeeds_131 ?_
                  refine z_get X (C := RX1) (T := TX1) (N := 10) (ci := 1) (v := .ref (a 11)) inZ1 1 3 rfl rfl (by decide) q_fl_X3_87 rfl rfl dX3_setNeeds_134 ?_
                  refine z_iload_n X dX3_setNeeds_137 rfl rfl ?_
                  refine z_iload X dX3_setNeeds_138 rfl ?_
                  refine n_iast X Y 11 aR_eq rfl (by omega) (by decide) dX3_setNeeds_140 ?_
                  refine Wz.eq (uR_3 (f := upd (S 3) kg lw)) ?_
                  refine z_aload_n X dX3_setNeeds_141 rfl rfl ?_
                  refine z_get X (C := RX3) (T := TX3) (N := 8) (ci := 3) (v := .ref (a 1)) inZ3 0 0 rfl rfl (by decide) q_fl_X3_12 rfl rfl dX3_setNeeds_142 ?_
                  refine z_get X (C := RX1) (T := TX1) (N := 10) (ci := 1) (v := .ref (a 12)) inZ1 1 4 rfl rfl (by decide) q_fl_X3_90 rfl rfl dX3_setNeeds_145 ?_
                  refine z_iload_n X dX3_setNeeds_148 rfl rfl ?_
                  refine z_iload X dX3_setNeeds_149 rfl ?_
                  refine n_iast X Y 12 aR_eq rfl (by omega) (by decide) dX3_setNeeds_151 ?_
                  refine Wz.eq (uR_4 (f := upd (S 4) kg ot)) ?_
                  refine z_vretX X Z dX3_setNeeds_152 ?_
                  first
                    | exact ⟨kg, ⟨hkg, rfl, ⟨⟨kg, hkg, rfl⟩, h11, h20, h30⟩, Or.inl c48, Or.inl c75⟩, fun q hq => hq⟩
                    | exact ⟨kg, ⟨hkg, rfl, ⟨⟨kg, hkg, rfl⟩, h11, h20, h30⟩, Or.inl c48, Or.inr h83⟩, fun q hq => hq⟩
                    | exact ⟨kg, ⟨hkg, rfl, ⟨⟨kg, hkg, rfl⟩, h11, h20, h30⟩, Or.inr h56, Or.inl c75⟩, fun q hq => hq⟩
                    | exact ⟨kg, ⟨hkg, rfl, ⟨⟨kg, hkg, rfl⟩, h11, h20, h30⟩, Or.inr h56, Or.inr h83⟩, fun q hq => hq⟩
                ·
                  refine n_if_ne (tgt := 99) X dX3_setNeeds_86 (by decide) (by omega) (fun c86 => absurd c86 (by decide)) (fun _ => ?_)
                  refine z_throw (h := 20) (cls := eA) (text := "the level is out of range") (is := 76) X Z V (Nat.le_of_ble_eq_true rfl) rfl zat_A q_cl_X3_71 q_in_java_lang_IllegalArgumentException (by decide +kernel) (by decide +kernel) (by decide) dX3_setNeeds_89 dX3_setNeeds_92 dX3_setNeeds_93 dX3_setNeeds_95 dX3_setNeeds_98 ?_
                  exact ⟨(), Or.inr ⟨rfl, ⟨⟨kg, hkg, rfl⟩, h11, h20, h30⟩, fun q => q.2.elim c75 h83⟩, fun q hq => hq⟩
            ·
              refine n_if_ne (tgt := 72) X dX3_setNeeds_59 (by decide) (by omega) (fun c59 => absurd c59 (by decide)) (fun _ => ?_)
              refine z_throw (h := 20) (cls := eA) (text := "the score is out of range") (is := 73) X Z V (Nat.le_of_ble_eq_true rfl) rfl zat_A q_cl_X3_71 q_in_java_lang_IllegalArgumentException (by decide +kernel) (by decide +kernel) (by decide) dX3_setNeeds_62 dX3_setNeeds_65 dX3_setNeeds_66 dX3_setNeeds_68 dX3_setNeeds_71 ?_
              exact ⟨(), Or.inr ⟨rfl, ⟨⟨kg, hkg, rfl⟩, h11, h20, h30⟩, fun q => q.1.elim c48 h56⟩, fun q hq => hq⟩
        ·
          refine n_if_ne (tgt := 46) X dX3_setNeeds_33 (by decide) (by omega) (fun c33 => absurd c33 (by decide)) (fun _ => ?_)
          refine z_throw (h := 20) (cls := eI) (text := "no such gift, ability, calling or other") (is := 62) X Z V (Nat.le_of_ble_eq_true rfl) rfl zat_I q_cl_X3_60 q_in_java_lang_IndexOutOfBoundsException (by decide +kernel) (by decide +kernel) (by decide) dX3_setNeeds_36 dX3_setNeeds_39 dX3_setNeeds_40 dX3_setNeeds_42 dX3_setNeeds_45 ?_
          first
            | exact ⟨(), Or.inl ⟨rfl, fun q => h30 q.2.2.2⟩, fun q hq => hq⟩
            | exact ⟨(), Or.inl ⟨rfl, fun q => h20 q.2.2.1⟩, fun q hq => hq⟩
            | exact ⟨(), Or.inl ⟨rfl, fun q => h11 q.2.1⟩, fun q hq => hq⟩
            | exact ⟨(), Or.inl ⟨rfl, fun q => h3 q.1⟩, fun q hq => hq⟩
      ·
        refine n_if_eq (tgt := 36) X dX3_setNeeds_23 (by decide) (by omega) (fun _ => ?_) (fun c23 => absurd c23 (by decide))
        refine z_throw (h := 20) (cls := eI) (text := "no such gift, ability, calling or other") (is := 62) X Z V (Nat.le_of_ble_eq_true rfl) rfl zat_I q_cl_X3_60 q_in_java_lang_IndexOutOfBoundsException (by decide +kernel) (by decide +kernel) (by decide) dX3_setNeeds_36 dX3_setNeeds_39 dX3_setNeeds_40 dX3_setNeeds_42 dX3_setNeeds_45 ?_
        first
          | exact ⟨(), Or.inl ⟨rfl, fun q => h30 q.2.2.2⟩, fun q hq => hq⟩
          | exact ⟨(), Or.inl ⟨rfl, fun q => h20 q.2.2.1⟩, fun q hq => hq⟩
          | exact ⟨(), Or.inl ⟨rfl, fun q => h11 q.2.1⟩, fun q hq => hq⟩
          | exact ⟨(), Or.inl ⟨rfl, fun q => h3 q.1⟩, fun q hq => hq⟩
    ·
      refine n_if_eq (tgt := 36) X dX3_setNeeds_14 (by decide) (by omega) (fun _ => ?_) (fun c14 => absurd c14 (by decide))
      refine z_throw (h := 20) (cls := eI) (text := "no such gift, ability, calling or other") (is := 62) X Z V (Nat.le_of_ble_eq_true rfl) rfl zat_I q_cl_X3_60 q_in_java_lang_IndexOutOfBoundsException (by decide +kernel) (by decide +kernel) (by decide) dX3_setNeeds_36 dX3_setNeeds_39 dX3_setNeeds_40 dX3_setNeeds_42 dX3_setNeeds_45 ?_
      first
        | exact ⟨(), Or.inl ⟨rfl, fun q => h30 q.2.2.2⟩, fun q hq => hq⟩
        | exact ⟨(), Or.inl ⟨rfl, fun q => h20 q.2.2.1⟩, fun q hq => hq⟩
        | exact ⟨(), Or.inl ⟨rfl, fun q => h11 q.2.1⟩, fun q hq => hq⟩
        | exact ⟨(), Or.inl ⟨rfl, fun q => h3 q.1⟩, fun q hq => hq⟩
  ·
    refine n_if_eq (tgt := 36) X dX3_setNeeds_6 (by decide) (by omega) (fun _ => ?_) (fun c6 => absurd c6 (by decide))
    refine z_throw (h := 20) (cls := eI) (text := "no such gift, ability, calling or other") (is := 62) X Z V (Nat.le_of_ble_eq_true rfl) rfl zat_I q_cl_X3_60 q_in_java_lang_IndexOutOfBoundsException (by decide +kernel) (by decide +kernel) (by decide) dX3_setNeeds_36 dX3_setNeeds_39 dX3_setNeeds_40 dX3_setNeeds_42 dX3_setNeeds_45 ?_
    first
      | exact ⟨(), Or.inl ⟨rfl, fun q => h30 q.2.2.2⟩, fun q hq => hq⟩
      | exact ⟨(), Or.inl ⟨rfl, fun q => h20 q.2.2.1⟩, fun q hq => hq⟩
      | exact ⟨(), Or.inl ⟨rfl, fun q => h11 q.2.1⟩, fun q hq => hq⟩
      | exact ⟨(), Or.inl ⟨rfl, fun q => h3 q.1⟩, fun q hq => hq⟩
set_option maxHeartbeats 4000000 in
set_option maxRecDepth 100000 in
theorem c_X3_bar (l : Launch) (hfl : l.stackTraces = false) (D : va_G) (t : ClassId × ClassId × ClassId) (sz : Nat) (a : Nat → Nat) (S : zS) (g ca lw : Int32) : zM5 l yX3_bar cX3_bar 4 20 D t [.ref (a 0), .int g, .int ca, .int lw] (wR t a S) sz (fun u : Nat => u < 8 ∧ g = nI u ∧ br1 g ca ∧ br2 ca lw) (fun u => wR t a (brS S u ca lw)) (fun E (_ : Unit) => (E = eI ∧ ¬ br1 g ca) ∨ (E = eA ∧ br1 g ca ∧ ¬ br2 ca lw)) (fun _ => wR t a S) := by
  refine z_m5 hfl (by decide +kernel) (Nat.le_of_ble_eq_true rfl) (by simp [Value.category]) ?_
  intro E X Z V Y
  refine z_lv (lv' := [some (.ref (a 0)), some (.int g), some (.int ca), some (.int lw)]) rfl ?_
  refine z_iload_n X dX3_bar_0 rfl rfl ?_
  refine z_bipush (v := nI 8) X dX3_bar_1 (by decide) ?_
  refine z_callS1 (k := 0) (n := 0) (st := []) X (c_X3_isAmong_g l D t g 8 (by decide)) k_X3_isAmong q_ml_X3_53 [] ⟨by decide, rfl⟩ (by decide) rfl rfl rfl (Nat.le_of_ble_eq_true rfl) ⟨Nat.zero_le _, Nat.zero_le _⟩ dX3_bar_3 (fun r3 h3 => ?_)
  rcases h3 with ⟨rfl, kg, hkg, rfl⟩ | ⟨rfl, h3⟩
  ·
    refine n_if_eq (tgt := 17) X dX3_bar_6 (by decide) (by omega) (fun c6 => absurd c6 (by decide)) (fun _ => ?_)
    refine z_iload_n X dX3_bar_9 rfl rfl ?_
    refine z_iconst (v := nI 3) X dX3_bar_10 (by decide) ?_
    refine z_callS1 (k := 0) (n := 0) (st := []) X (c_X3_isAmongOrNone l D t ca 3 (by decide)) k_X3_isAmongOrNone q_ml_X3_57 [] ⟨by decide, rfl⟩ (by decide) rfl rfl rfl (Nat.le_of_ble_eq_true rfl) ⟨Nat.zero_le _, Nat.zero_le _⟩ dX3_bar_11 (fun r11 h11 => ?_)
    rcases h11 with ⟨rfl, h11⟩ | ⟨rfl, h11⟩
    ·
      refine n_if_ne (tgt := 27) X dX3_bar_14 (by decide) (by omega) (fun _ => ?_) (fun c14 => absurd c14 (by decide))
      refine z_iload_n X dX3_bar_27 rfl rfl ?_
      refine z_iconst (v := (-1)) X dX3_bar_28 (by decide) ?_
      refine z_icmp_eq (tgt := 52) X dX3_bar_29 (by decide) (fun c29 => ?_) (fun c29 => ?_)
      ·
        refine z_aload_n X dX3_bar_52 rfl rfl ?_
        refine z_get X (C := RX3) (T := TX3) (N := 8) (ci := 3) (v := .ref (a 1)) inZ3 0 0 rfl rfl (by decide) q_fl_X3_12 rfl rfl dX3_bar_53 ?_
        refine z_get X (C := RX1) (T := TX1) (N := 10) (ci := 1) (v := .ref (a 13)) inZ1 1 5 rfl rfl (by decide) q_fl_X3_95 rfl rfl dX3_bar_56 ?_
        refine z_iload_n X dX3_bar_59 rfl rfl ?_
        refine z_iload_n X dX3_bar_60 rfl rfl ?_
        refine n_iast X Y 13 aR_eq rfl (by omega) (by decide) dX3_bar_61 ?_
        refine Wz.eq (uR_5 (f := upd (S 5) kg ca)) ?_
        refine z_aload_n X dX3_bar_62 rfl rfl ?_
        refine z_get X (C := RX3) (T := TX3) (N := 8) (ci := 3) (v := .ref (a 1)) inZ3 0 0 rfl rfl (by decide) q_fl_X3_12 rfl rfl dX3_bar_63 ?_
        refine z_get X (C := RX1) (T := TX1) (N := 10) (ci := 1) (v := .ref (a 14)) inZ1 1 6 rfl rfl (by decide) q_fl_X3_98 rfl rfl dX3_bar_66 ?_
        refine z_iload_n X dX3_bar_69 rfl rfl ?_
        refine z_iload_n X dX3_bar_70 rfl rfl ?_
        refine n_iast X Y 14 aR_eq rfl (by omega) (by decide) dX3_bar_71 ?_
        refine Wz.eq (uR_6 (f := upd (S 6) kg lw)) ?_
        refine z_vretX X Z dX3_bar_72 ?_
        first
          | exact ⟨kg, ⟨hkg, rfl, ⟨⟨kg, hkg, rfl⟩, h11⟩, Or.inl c29⟩, fun q hq => hq⟩
          | exact ⟨kg, ⟨hkg, rfl, ⟨⟨kg, hkg, rfl⟩, h11⟩, Or.inr h36⟩, fun q hq => hq⟩
      ·
        refine z_iload_n X dX3_bar_32 rfl rfl ?_
        refine z_iconst (v := nI 0) X dX3_bar_33 (by decide) ?_
        refine z_bipush (v := nI 7) X dX3_bar_34 (by decide) ?_
        refine z_callS1 (k := 0) (n := 0) (st := []) X (c_X3_isFromTo l D t lw (nI 0) (nI 7)) k_X3_isFromTo q_ml_X3_67 [] ⟨by decide, rfl⟩ (by decide) rfl rfl rfl (Nat.le_of_ble_eq_true rfl) ⟨Nat.zero_le _, Nat.zero_le _⟩ dX3_bar_36 (fun r36 h36 => ?_)
        rcases h36 with ⟨rfl, h36⟩ | ⟨rfl, h36⟩
        ·
          refine n_if_ne (tgt := 52) X dX3_bar_39 (by decide) (by omega) (fun _ => ?_) (fun c39 => absurd c39 (by decide))
          refine z_aload_n X dX3_bar_52 rfl rfl ?_
          refine z_get X (C := RX3) (T := TX3) (N := 8) (ci := 3) (v := .ref (a 1)) inZ3 0 0 rfl rfl (by decide) q_fl_X3_12 rfl rfl dX3_bar_53 ?_
          refine z_get X (C := RX1) (T := TX1) (N := 10) (ci := 1) (v := .ref (a 13)) inZ1 1 5 rfl rfl (by decide) q_fl_X3_95 rfl rfl dX3_bar_56 ?_
          refine z_iload_n X dX3_bar_59 rfl rfl ?_
          refine z_iload_n X dX3_bar_60 rfl rfl ?_
          refine n_iast X Y 13 aR_eq rfl (by omega) (by decide) dX3_bar_61 ?_
          refine Wz.eq (uR_5 (f := upd (S 5) kg ca)) ?_
          refine z_aload_n X dX3_bar_62 rfl rfl ?_
          refine z_get X (C := RX3) (T := TX3) (N := 8) (ci := 3) (v := .ref (a 1)) inZ3 0 0 rfl rfl (by decide) q_fl_X3_12 rfl rfl dX3_bar_63 ?_
          refine z_get X (C := RX1) (T := TX1) (N := 10) (ci := 1) (v := .ref (a 14)) inZ1 1 6 rfl rfl (by decide) q_fl_X3_98 rfl rfl dX3_bar_66 ?_
          refine z_iload_n X dX3_bar_69 rfl rfl ?_
          refine z_iload_n X dX3_bar_70 rfl rfl ?_
          refine n_iast X Y 14 aR_eq rfl (by omega) (by decide) dX3_bar_71 ?_
          refine Wz.eq (uR_6 (f := upd (S 6) kg lw)) ?_
          refine z_vretX X Z dX3_bar_72 ?_
          first
            | exact ⟨kg, ⟨hkg, rfl, ⟨⟨kg, hkg, rfl⟩, h11⟩, Or.inl c29⟩, fun q hq => hq⟩
            | exact ⟨kg, ⟨hkg, rfl, ⟨⟨kg, hkg, rfl⟩, h11⟩, Or.inr h36⟩, fun q hq => hq⟩
        ·
          refine n_if_ne (tgt := 52) X dX3_bar_39 (by decide) (by omega) (fun c39 => absurd c39 (by decide)) (fun _ => ?_)
          refine z_throw (h := 20) (cls := eA) (text := "the level is out of range") (is := 76) X Z V (Nat.le_of_ble_eq_true rfl) rfl zat_A q_cl_X3_71 q_in_java_lang_IllegalArgumentException (by decide +kernel) (by decide +kernel) (by decide) dX3_bar_42 dX3_bar_45 dX3_bar_46 dX3_bar_48 dX3_bar_51 ?_
          exact ⟨(), Or.inr ⟨rfl, ⟨⟨kg, hkg, rfl⟩, h11⟩, fun q => q.elim c29 h36⟩, fun q hq => hq⟩
    ·
      refine n_if_ne (tgt := 27) X dX3_bar_14 (by decide) (by omega) (fun c14 => absurd c14 (by decide)) (fun _ => ?_)
      refine z_throw (h := 20) (cls := eI) (text := "no such gift or calling") (is := 93) X Z V (Nat.le_of_ble_eq_true rfl) rfl zat_I q_cl_X3_60 q_in_java_lang_IndexOutOfBoundsException (by decide +kernel) (by decide +kernel) (by decide) dX3_bar_17 dX3_bar_20 dX3_bar_21 dX3_bar_23 dX3_bar_26 ?_
      first
        | exact ⟨(), Or.inl ⟨rfl, fun q => h11 q.2⟩, fun q hq => hq⟩
        | exact ⟨(), Or.inl ⟨rfl, fun q => h3 q.1⟩, fun q hq => hq⟩
  ·
    refine n_if_eq (tgt := 17) X dX3_bar_6 (by decide) (by omega) (fun _ => ?_) (fun c6 => absurd c6 (by decide))
    refine z_throw (h := 20) (cls := eI) (text := "no such gift or calling") (is := 93) X Z V (Nat.le_of_ble_eq_true rfl) rfl zat_I q_cl_X3_60 q_in_java_lang_IndexOutOfBoundsException (by decide +kernel) (by decide +kernel) (by decide) dX3_bar_17 dX3_bar_20 dX3_bar_21 dX3_bar_23 dX3_bar_26 ?_
    first
      | exact ⟨(), Or.inl ⟨rfl, fun q => h11 q.2⟩, fun q hq => hq⟩
      | exact ⟨(), Or.inl ⟨rfl, fun q => h3 q.1⟩, fun q hq => hq⟩
