set_option maxHeartbeats 2000000 in
set_option maxRecDepth 100000 in
theorem c_L_setNeeds (l : Launch) (hfl : l.stackTraces = false) (D : va_G) (t : ClassId × ClassId × ClassId) (sz : Nat) (a : Nat → Nat) (S : zS) (g ab sc ca lw ot : Int32) : zM7 l yL_setNeeds cL_setNeeds 8 [(0, 13, 16, 13), (0, 13, 20, 15)] 24 D t [.ref (a 0), .int g, .int ab, .int sc, .int ca, .int lw, .int ot] (wR t a S) sz (fun k (w9 : zS) => (k = nI 0 ∧ ∃ u : Nat, (fun u : Nat => u < 8 ∧ g = nI u ∧ nd1 g ab ca ot ∧ nd2 ab sc ca lw) u ∧ w9 = (fun u : Nat => (ndS S u ab sc ca lw ot)) u) ∨ ∃ (C : String) (u : Unit), (fun E (_ : Unit) => (E = eI ∧ ¬ nd1 g ab ca ot) ∨ (E = eA ∧ nd1 g ab ca ot ∧ ¬ nd2 ab sc ca lw)) C u ∧ k = (fun C : String => if C = eI then nI 1 else nI 2) C ∧ w9 = (fun _ : Unit => S) u) (fun w9 => wR t a w9) := by
  refine z_m7 (by decide +kernel) (Nat.le_of_ble_eq_true rfl) (by simp [Value.category]) ?_
  intro E X Z V hT Y
  refine z_lv (lv' := [some (.ref (a 0)), some (.int g), some (.int ab), some (.int sc), some (.int ca), some (.int lw), some (.int ot), none]) rfl ?_
  refine z_aload_n X dL_setNeeds_0 rfl rfl ?_
  refine z_iload_n X dL_setNeeds_1 rfl rfl ?_
  refine z_iload_n X dL_setNeeds_2 rfl rfl ?_
  refine z_iload_n X dL_setNeeds_3 rfl rfl ?_
  refine z_iload X dL_setNeeds_4 rfl ?_
  refine z_iload X dL_setNeeds_6 rfl ?_
  refine z_iload X dL_setNeeds_8 rfl ?_
  refine z_tryv X Y rfl V (fun sz => c_X3_setNeeds l hfl D t sz a S g ab sc ca lw ot) k_X3_setNeeds q_ml_L_7 is24 ⟨by decide, rfl⟩ (fun u => wR t a (ndS S u ab sc ca lw ot)) (fun _ => ⟨⟨by decide, rfl⟩, ⟨by decide, rfl⟩, rfl, rfl⟩) (fun _ => wR t a S) (fun _ => ⟨⟨by decide, rfl⟩, ⟨by decide, rfl⟩, rfl, rfl⟩) 0 3 rfl rfl (by decide) rfl rfl rfl (Nat.le_of_ble_eq_true rfl) dL_setNeeds_10 (fun C u hx => ?_) (fun u hu => ?_)
  ·
    have hx9 := hx
    rcases hx with ⟨rfl, _⟩ | ⟨rfl, _⟩
    ·
      refine z_catch X [] ⟨0, 13, 16, 13⟩ [⟨0, 13, 20, 15⟩] (hT.trans rfl) (fun z hz => absurd hz List.not_mem_nil) rfl (by decide) q_cl_L_13 (V.cast X zc_I) (fun q => ?_)
      refine z_astore X dL_setNeeds_16 (Nat.le_of_ble_eq_true rfl) ?_
      refine z_lv (lv' := [some (.ref (a 0)), some (.int g), some (.int ab), some (.int sc), some (.int ca), some (.int lw), some (.int ot), some (.ref q)]) rfl ?_
      refine z_iconst (v := nI 1) X dL_setNeeds_18 (by decide) ?_
      refine z_iret X Z rfl dL_setNeeds_19 ?_
      exact ⟨((fun _ : Unit => S) u), Or.inr ⟨eI, u, hx9, (by show _ = ite _ _ _; first | rfl | decide), rfl⟩, fun q hq => hq⟩
    ·
      refine z_catch X [⟨0, 13, 16, 13⟩] ⟨0, 13, 20, 15⟩ [] (hT.trans rfl) (fun z hz => by rw [List.mem_singleton.mp hz]; exact Or.inr ⟨by decide, eI, q_cl_L_13, V.2.2.2.1 (eA, eI) (by decide)⟩) rfl (by decide) q_cl_L_15 (V.cast X zc_A) (fun q => ?_)
      refine z_astore X dL_setNeeds_20 (Nat.le_of_ble_eq_true rfl) ?_
      refine z_lv (lv' := [some (.ref (a 0)), some (.int g), some (.int ab), some (.int sc), some (.int ca), some (.int lw), some (.int ot), some (.ref q)]) rfl ?_
      refine z_iconst (v := nI 2) X dL_setNeeds_22 (by decide) ?_
      refine z_iret X Z rfl dL_setNeeds_23 ?_
      exact ⟨((fun _ : Unit => S) u), Or.inr ⟨eA, u, hx9, (by show _ = ite _ _ _; first | rfl | decide), rfl⟩, fun q hq => hq⟩
  ·
    refine z_goto (tgt := 24) X dL_setNeeds_13 (by decide) ?_
    refine z_iconst (v := nI 0) X dL_setNeeds_24 (by decide) ?_
    refine z_iret X Z rfl dL_setNeeds_25 ?_
    exact ⟨((fun u : Nat => (ndS S u ab sc ca lw ot)) u), Or.inl ⟨rfl, u, hu, rfl⟩, fun q hq => hq⟩
set_option maxHeartbeats 2000000 in
set_option maxRecDepth 100000 in
theorem c_L_bar (l : Launch) (hfl : l.stackTraces = false) (D : va_G) (t : ClassId × ClassId × ClassId) (sz : Nat) (a : Nat → Nat) (S : zS) (g ca lw : Int32) : zM7 l yL_bar cL_bar 5 [(0, 7, 10, 13), (0, 7, 14, 15)] 24 D t [.ref (a 0), .int g, .int ca, .int lw] (wR t a S) sz (fun k (w9 : zS) => (k = nI 0 ∧ ∃ u : Nat, (fun u : Nat => u < 8 ∧ g = nI u ∧ br1 g ca ∧ br2 ca lw) u ∧ w9 = (fun u : Nat => (brS S u ca lw)) u) ∨ ∃ (C : String) (u : Unit), (fun E (_ : Unit) => (E = eI ∧ ¬ br1 g ca) ∨ (E = eA ∧ br1 g ca ∧ ¬ br2 ca lw)) C u ∧ k = (fun C : String => if C = eI then nI 1 else nI 2) C ∧ w9 = (fun _ : Unit => S) u) (fun w9 => wR t a w9) := by
  refine z_m7 (by decide +kernel) (Nat.le_of_ble_eq_true rfl) (by simp [Value.category]) ?_
  intro E X Z V hT Y
  refine z_lv (lv' := [some (.ref (a 0)), some (.int g), some (.int ca), some (.int lw), none]) rfl ?_
  refine z_aload_n X dL_bar_0 rfl rfl ?_
  refine z_iload_n X dL_bar_1 rfl rfl ?_
  refine z_iload_n X dL_bar_2 rfl rfl ?_
  refine z_iload_n X dL_bar_3 rfl rfl ?_
  refine z_tryv X Y rfl V (fun sz => c_X3_bar l hfl D t sz a S g ca lw) k_X3_bar q_ml_L_17 is24 ⟨by decide, rfl⟩ (fun u => wR t a (brS S u ca lw)) (fun _ => ⟨⟨by decide, rfl⟩, ⟨by decide, rfl⟩, rfl, rfl⟩) (fun _ => wR t a S) (fun _ => ⟨⟨by decide, rfl⟩, ⟨by decide, rfl⟩, rfl, rfl⟩) 0 3 rfl rfl (by decide) rfl rfl rfl (Nat.le_of_ble_eq_true rfl) dL_bar_4 (fun C u hx => ?_) (fun u hu => ?_)
  ·
    have hx9 := hx
    rcases hx with ⟨rfl, _⟩ | ⟨rfl, _⟩
    ·
      refine z_catch X [] ⟨0, 7, 10, 13⟩ [⟨0, 7, 14, 15⟩] (hT.trans rfl) (fun z hz => absurd hz List.not_mem_nil) rfl (by decide) q_cl_L_13 (V.cast X zc_I) (fun q => ?_)
      refine z_astore X dL_bar_10 (Nat.le_of_ble_eq_true rfl) ?_
      refine z_lv (lv' := [some (.ref (a 0)), some (.int g), some (.int ca), some (.int lw), some (.ref q)]) rfl ?_
      refine z_iconst (v := nI 1) X dL_bar_12 (by decide) ?_
      refine z_iret X Z rfl dL_bar_13 ?_
      exact ⟨((fun _ : Unit => S) u), Or.inr ⟨eI, u, hx9, (by show _ = ite _ _ _; first | rfl | decide), rfl⟩, fun q hq => hq⟩
    ·
      refine z_catch X [⟨0, 7, 10, 13⟩] ⟨0, 7, 14, 15⟩ [] (hT.trans rfl) (fun z hz => by rw [List.mem_singleton.mp hz]; exact Or.inr ⟨by decide, eI, q_cl_L_13, V.2.2.2.1 (eA, eI) (by decide)⟩) rfl (by decide) q_cl_L_15 (V.cast X zc_A) (fun q => ?_)
      refine z_astore X dL_bar_14 (Nat.le_of_ble_eq_true rfl) ?_
      refine z_lv (lv' := [some (.ref (a 0)), some (.int g), some (.int ca), some (.int lw), some (.ref q)]) rfl ?_
      refine z_iconst (v := nI 2) X dL_bar_16 (by decide) ?_
      refine z_iret X Z rfl dL_bar_17 ?_
      exact ⟨((fun _ : Unit => S) u), Or.inr ⟨eA, u, hx9, (by show _ = ite _ _ _; first | rfl | decide), rfl⟩, fun q hq => hq⟩
  ·
    refine z_goto (tgt := 18) X dL_bar_7 (by decide) ?_
    refine z_iconst (v := nI 0) X dL_bar_18 (by decide) ?_
    refine z_iret X Z rfl dL_bar_19 ?_
    exact ⟨((fun u : Nat => (brS S u ca lw)) u), Or.inl ⟨rfl, u, hu, rfl⟩, fun q hq => hq⟩
set_option maxHeartbeats 2000000 in
set_option maxRecDepth 100000 in
theorem c_L_setBonus (l : Launch) (hfl : l.stackTraces = false) (D : va_G) (t : ClassId × ClassId × ClassId) (sz : Nat) (a : Nat → Nat) (S : zS) (g v kd i : Int32) : zM7 l yL_setBonus cL_setBonus 6 [(0, 9, 12, 13), (0, 9, 16, 15)] 24 D t [.ref (a 0), .int g, .int v, .int kd, .int i] (wR t a S) sz (fun k (w9 : zS) => (k = nI 0 ∧ ∃ u : Nat × Nat, (fun u : Nat × Nat => u.1 < 8 ∧ g = nI u.1 ∧ u.2 < 4 ∧ kd = nI u.2 ∧ bo1 g v ∧ bo2 kd i) u ∧ w9 = (fun u : Nat × Nat => (boS S u.1 v (nI u.2) i)) u) ∨ ∃ (C : String) (u : Unit), (fun E (_ : Unit) => (E = eI ∧ ¬ bo1 g v) ∨ (E = eA ∧ bo1 g v ∧ ¬ bo2 kd i)) C u ∧ k = (fun C : String => if C = eI then nI 1 else nI 2) C ∧ w9 = (fun _ : Unit => S) u) (fun w9 => wR t a w9) := by
  refine z_m7 (by decide +kernel) (Nat.le_of_ble_eq_true rfl) (by simp [Value.category]) ?_
  intro E X Z V hT Y
  refine z_lv (lv' := [some (.ref (a 0)), some (.int g), some (.int v), some (.int kd), some (.int i), none]) rfl ?_
  refine z_aload_n X dL_setBonus_0 rfl rfl ?_
  refine z_iload_n X dL_setBonus_1 rfl rfl ?_
  refine z_iload_n X dL_setBonus_2 rfl rfl ?_
  refine z_iload_n X dL_setBonus_3 rfl rfl ?_
  refine z_iload X dL_setBonus_4 rfl ?_
  refine z_tryv X Y rfl V (fun sz => c_X3_setBonus l hfl D t sz a S g v kd i) k_X3_setBonus q_ml_L_21 is24 ⟨by decide, rfl⟩ (fun u => wR t a (boS S u.1 v (nI u.2) i)) (fun _ => ⟨⟨by decide, rfl⟩, ⟨by decide, rfl⟩, rfl, rfl⟩) (fun _ => wR t a S) (fun _ => ⟨⟨by decide, rfl⟩, ⟨by decide, rfl⟩, rfl, rfl⟩) 0 3 rfl rfl (by decide) rfl rfl rfl (Nat.le_of_ble_eq_true rfl) dL_setBonus_6 (fun C u hx => ?_) (fun u hu => ?_)
  ·
    have hx9 := hx
    rcases hx with ⟨rfl, _⟩ | ⟨rfl, _⟩
    ·
      refine z_catch X [] ⟨0, 9, 12, 13⟩ [⟨0, 9, 16, 15⟩] (hT.trans rfl) (fun z hz => absurd hz List.not_mem_nil) rfl (by decide) q_cl_L_13 (V.cast X zc_I) (fun q => ?_)
      refine z_astore X dL_setBonus_12 (Nat.le_of_ble_eq_true rfl) ?_
      refine z_lv (lv' := [some (.ref (a 0)), some (.int g), some (.int v), some (.int kd), some (.int i), some (.ref q)]) rfl ?_
      refine z_iconst (v := nI 1) X dL_setBonus_14 (by decide) ?_
      refine z_iret X Z rfl dL_setBonus_15 ?_
      exact ⟨((fun _ : Unit => S) u), Or.inr ⟨eI, u, hx9, (by show _ = ite _ _ _; first | rfl | decide), rfl⟩, fun q hq => hq⟩
    ·
      refine z_catch X [⟨0, 9, 12, 13⟩] ⟨0, 9, 16, 15⟩ [] (hT.trans rfl) (fun z hz => by rw [List.mem_singleton.mp hz]; exact Or.inr ⟨by decide, eI, q_cl_L_13, V.2.2.2.1 (eA, eI) (by decide)⟩) rfl (by decide) q_cl_L_15 (V.cast X zc_A) (fun q => ?_)
      refine z_astore X dL_setBonus_16 (Nat.le_of_ble_eq_true rfl) ?_
      refine z_lv (lv' := [some (.ref (a 0)), some (.int g), some (.int v), some (.int kd), some (.int i), some (.ref q)]) rfl ?_
      refine z_iconst (v := nI 2) X dL_setBonus_18 (by decide) ?_
      refine z_iret X Z rfl dL_setBonus_19 ?_
      exact ⟨((fun _ : Unit => S) u), Or.inr ⟨eA, u, hx9, (by show _ = ite _ _ _; first | rfl | decide), rfl⟩, fun q hq => hq⟩
  ·
    refine z_goto (tgt := 20) X dL_setBonus_9 (by decide) ?_
    refine z_iconst (v := nI 0) X dL_setBonus_20 (by decide) ?_
    refine z_iret X Z rfl dL_setBonus_21 ?_
    exact ⟨((fun u : Nat × Nat => (boS S u.1 v (nI u.2) i)) u), Or.inl ⟨rfl, u, hu, rfl⟩, fun q hq => hq⟩
set_option maxHeartbeats 2000000 in
set_option maxRecDepth 100000 in
theorem c_L_setValue (l : Launch) (hfl : l.stackTraces = false) (D : va_G) (t : ClassId × ClassId × ClassId) (sz : Nat) (a : Nat → Nat) (S : zS) (v i ab ca ot : Int32) : zM7 l yL_setValue cL_setValue 7 [(0, 11, 14, 13), (0, 11, 18, 15)] 24 D t [.ref (a 0), .int v, .int i, .int ab, .int ca, .int ot] (wR t a S) sz (fun k (w9 : zS) => (k = nI 0 ∧ ∃ u : Nat, (fun u : Nat => u < 6 ∧ v = nI u ∧ va1 v ab ca ot ∧ va2 i) u ∧ w9 = (fun u : Nat => (vaS S u i ab ca ot)) u) ∨ ∃ (C : String) (u : Unit), (fun E (_ : Unit) => (E = eI ∧ ¬ va1 v ab ca ot) ∨ (E = eA ∧ va1 v ab ca ot ∧ ¬ va2 i)) C u ∧ k = (fun C : String => if C = eI then nI 1 else nI 2) C ∧ w9 = (fun _ : Unit => S) u) (fun w9 => wR t a w9) := by
  refine z_m7 (by decide +kernel) (Nat.le_of_ble_eq_true rfl) (by simp [Value.category]) ?_
  intro E X Z V hT Y
  refine z_lv (lv' := [some (.ref (a 0)), some (.int v), some (.int i), some (.int ab), some (.int ca), some (.int ot), none]) rfl ?_
  refine z_aload_n X dL_setValue_0 rfl rfl ?_
  refine z_iload_n X dL_setValue_1 rfl rfl ?_
  refine z_iload_n X dL_setValue_2 rfl rfl ?_
  refine z_iload_n X dL_setValue_3 rfl rfl ?_
  refine z_iload X dL_setValue_4 rfl ?_
  refine z_iload X dL_setValue_6 rfl ?_
  refine z_tryv X Y rfl V (fun sz => c_X3_setValue l hfl D t sz a S v i ab ca ot) k_X3_setValue q_ml_L_25 is24 ⟨by decide, rfl⟩ (fun u => wR t a (vaS S u i ab ca ot)) (fun _ => ⟨⟨by decide, rfl⟩, ⟨by decide, rfl⟩, rfl, rfl⟩) (fun _ => wR t a S) (fun _ => ⟨⟨by decide, rfl⟩, ⟨by decide, rfl⟩, rfl, rfl⟩) 0 3 rfl rfl (by decide) rfl rfl rfl (Nat.le_of_ble_eq_true rfl) dL_setValue_8 (fun C u hx => ?_) (fun u hu => ?_)
  ·
    have hx9 := hx
    rcases hx with ⟨rfl, _⟩ | ⟨rfl, _⟩
    ·
      refine z_catch X [] ⟨0, 11, 14, 13⟩ [⟨0, 11, 18, 15⟩] (hT.trans rfl) (fun z hz => absurd hz List.not_mem_nil) rfl (by decide) q_cl_L_13 (V.cast X zc_I) (fun q => ?_)
      refine z_astore X dL_setValue_14 (Nat.le_of_ble_eq_true rfl) ?_
      refine z_lv (lv' := [some (.ref (a 0)), some (.int v), some (.int i), some (.int ab), some (.int ca), some (.int ot), some (.ref q)]) rfl ?_
      refine z_iconst (v := nI 1) X dL_setValue_16 (by decide) ?_
      refine z_iret X Z rfl dL_setValue_17 ?_
      exact ⟨((fun _ : Unit => S) u), Or.inr ⟨eI, u, hx9, (by show _ = ite _ _ _; first | rfl | decide), rfl⟩, fun q hq => hq⟩
    ·
      refine z_catch X [⟨0, 11, 14, 13⟩] ⟨0, 11, 18, 15⟩ [] (hT.trans rfl) (fun z hz => by rw [List.mem_singleton.mp hz]; exact Or.inr ⟨by decide, eI, q_cl_L_13, V.2.2.2.1 (eA, eI) (by decide)⟩) rfl (by decide) q_cl_L_15 (V.cast X zc_A) (fun q => ?_)
      refine z_astore X dL_setValue_18 (Nat.le_of_ble_eq_true rfl) ?_
      refine z_lv (lv' := [some (.ref (a 0)), some (.int v), some (.int i), some (.int ab), some (.int ca), some (.int ot), some (.ref q)]) rfl ?_
      refine z_iconst (v := nI 2) X dL_setValue_20 (by decide) ?_
      refine z_iret X Z rfl dL_setValue_21 ?_
      exact ⟨((fun _ : Unit => S) u), Or.inr ⟨eA, u, hx9, (by show _ = ite _ _ _; first | rfl | decide), rfl⟩, fun q hq => hq⟩
  ·
    refine z_goto (tgt := 22) X dL_setValue_11 (by decide) ?_
    refine z_iconst (v := nI 0) X dL_setValue_22 (by decide) ?_
    refine z_iret X Z rfl dL_setValue_23 ?_
    exact ⟨((fun u : Nat => (vaS S u i ab ca ot)) u), Or.inl ⟨rfl, u, hu, rfl⟩, fun q hq => hq⟩
set_option maxHeartbeats 2000000 in
set_option maxRecDepth 100000 in
theorem c_L_setScore (l : Launch) (hfl : l.stackTraces = false) (D : va_G) (t : ClassId × ClassId × ClassId) (sz : Nat) (a : Nat → Nat) (S : zS) (sc : Nat → Nat) (ab v : Int32) (hsc : zSc S sc) (hc : cs4 sc ≤ 20) (o9 : Nat) (g9 : Nat → Int64) : zM7 l yL_setScore cL_setScore 5 [(0, 10, 13, 13), (0, 10, 17, 15), (0, 10, 21, 33)] 24 D t [.ref (a 0), .int ab, .int v, .ref o9] ((wR t a S ++ [(o9, .inl (t.2.2, 1, .inr (.inl g9)))])) sz (fun k (w9 : zS × (Nat → Int64)) => (k = nI 0 ∧ ∃ (r : Int32) (u : Nat × Nat), (fun r (u : Nat × Nat) => u.1 < 4 ∧ ab = nI u.1 ∧ 8 ≤ u.2 ∧ u.2 ≤ 16 ∧ v = nI u.2 ∧ cs4 (scU sc u.1 u.2) ≤ 20 ∧ r = nI (20 - cs4 (scU sc u.1 u.2))) r u ∧ w9.1 = (fun u : Nat × Nat => (va_up S 14 (upd (S 14) u.1 (nI u.2)))) u ∧ w9.2 = vp_updL g9 0 r.toInt64) ∨ ∃ (C : String) (u : Unit), (fun E (_ : Unit) => (E = eI ∧ ¬ am ab 4) ∨ (E = eA ∧ am ab 4 ∧ ¬ rg v (nI 8) (nI 16)) ∨ (E = eS ∧ ∃ k j, k < 4 ∧ ab = nI k ∧ 8 ≤ j ∧ j ≤ 16 ∧ v = nI j ∧ 20 < cs4 (scU sc k j))) C u ∧ k = (fun C : String => if C = eI then nI 1 else if C = eA then nI 2 else nI 3) C ∧ w9.1 = (fun _ : Unit => S) u ∧ w9.2 = g9) (fun w9 => wR t a w9.1 ++ [(o9, .inl (t.2.2, 1, .inr (.inl w9.2)))]) := by
  refine z_m7 (by decide +kernel) (Nat.le_of_ble_eq_true rfl) (by simp [Value.category]) ?_
  intro E X Z V hT Y
  refine z_lv (lv' := [some (.ref (a 0)), some (.int ab), some (.int v), some (.ref o9), none]) rfl ?_
  refine z_aload_n X dL_setScore_0 rfl rfl ?_
  refine z_iconst (v := nI 0) X dL_setScore_1 (by decide) ?_
  refine z_aload_n X dL_setScore_2 rfl rfl ?_
  refine z_iload_n X dL_setScore_3 rfl rfl ?_
  refine z_iload_n X dL_setScore_4 rfl rfl ?_
  refine z_tryi X Y rfl V (fun sz => c_X3_setScore l hfl D t sz a S sc ab v hsc hc) k_X3_setScore q_ml_L_29 is24 ⟨by decide, rfl⟩ (fun u => (wR t a (va_up S 14 (upd (S 14) u.1 (nI u.2))) ++ [(o9, .inl (t.2.2, 1, .inr (.inl g9)))])) (fun _ => ⟨⟨by decide, rfl⟩, ⟨by decide, rfl⟩, rfl, rfl⟩) (fun _ => (wR t a S ++ [(o9, .inl (t.2.2, 1, .inr (.inl g9)))])) (fun _ => ⟨⟨by decide, rfl⟩, ⟨by decide, rfl⟩, rfl, rfl⟩) 0 3 rfl rfl (by decide) rfl rfl rfl (Nat.le_of_ble_eq_true rfl) dL_setScore_5 (fun C u hx => ?_) (fun r u hu => ?_)
  ·
    have hx9 := hx
    rcases hx with ⟨rfl, _⟩ | ⟨rfl, _⟩ | ⟨rfl, _⟩
    ·
      refine z_catch X [] ⟨0, 10, 13, 13⟩ [⟨0, 10, 17, 15⟩, ⟨0, 10, 21, 33⟩] (hT.trans rfl) (fun z hz => absurd hz List.not_mem_nil) rfl (by decide) q_cl_L_13 (V.cast X zc_I) (fun q => ?_)
      refine z_astore X dL_setScore_13 (Nat.le_of_ble_eq_true rfl) ?_
      refine z_lv (lv' := [some (.ref (a 0)), some (.int ab), some (.int v), some (.ref o9), some (.ref q)]) rfl ?_
      refine z_iconst (v := nI 1) X dL_setScore_15 (by decide) ?_
      refine z_iret X Z rfl dL_setScore_16 ?_
      exact ⟨(((fun _ : Unit => S) u), g9), Or.inr ⟨eI, u, hx9, (by show _ = ite _ _ _; first | rfl | decide), rfl, rfl⟩, fun q hq => hq⟩
    ·
      refine z_catch X [⟨0, 10, 13, 13⟩] ⟨0, 10, 17, 15⟩ [⟨0, 10, 21, 33⟩] (hT.trans rfl) (fun z hz => by rw [List.mem_singleton.mp hz]; exact Or.inr ⟨by decide, eI, q_cl_L_13, V.2.2.2.1 (eA, eI) (by decide)⟩) rfl (by decide) q_cl_L_15 (V.cast X zc_A) (fun q => ?_)
      refine z_astore X dL_setScore_17 (Nat.le_of_ble_eq_true rfl) ?_
      refine z_lv (lv' := [some (.ref (a 0)), some (.int ab), some (.int v), some (.ref o9), some (.ref q)]) rfl ?_
      refine z_iconst (v := nI 2) X dL_setScore_19 (by decide) ?_
      refine z_iret X Z rfl dL_setScore_20 ?_
      exact ⟨(((fun _ : Unit => S) u), g9), Or.inr ⟨eA, u, hx9, (by show _ = ite _ _ _; first | rfl | decide), rfl, rfl⟩, fun q hq => hq⟩
    ·
      refine z_catch X [⟨0, 10, 13, 13⟩, ⟨0, 10, 17, 15⟩] ⟨0, 10, 21, 33⟩ [] (hT.trans rfl) (fun z hz => by rcases List.mem_cons.mp hz with rfl | hz; exact Or.inr ⟨by decide, eI, q_cl_L_13, V.2.2.2.1 (eS, eI) (by decide)⟩; rw [List.mem_singleton.mp hz]; exact Or.inr ⟨by decide, eA, q_cl_L_15, V.2.2.2.1 (eS, eA) (by decide)⟩) rfl (by decide) q_cl_L_33 (V.cast X zc_S) (fun q => ?_)
      refine z_astore X dL_setScore_21 (Nat.le_of_ble_eq_true rfl) ?_
      refine z_lv (lv' := [some (.ref (a 0)), some (.int ab), some (.int v), some (.ref o9), some (.ref q)]) rfl ?_
      refine z_iconst (v := nI 3) X dL_setScore_23 (by decide) ?_
      refine z_iret X Z rfl dL_setScore_24 ?_
      exact ⟨(((fun _ : Unit => S) u), g9), Or.inr ⟨eS, u, hx9, (by show _ = ite _ _ _; first | rfl | decide), rfl, rfl⟩, fun q hq => hq⟩
  ·
    refine z_i2l X dL_setScore_8 ?_
    refine z_last X Y (f := g9) 24 rfl rfl (by unfold vp_in; decide) dL_setScore_9 ?_
    refine Wz.eq (ws' := (wR t a ((fun u : Nat × Nat => (va_up S 14 (upd (S 14) u.1 (nI u.2)))) u) ++ [(o9, .inl (t.2.2, 1, .inr (.inl (vp_updL g9 0 (r.toInt64)))))])) rfl ?_
    refine z_goto (tgt := 25) X dL_setScore_10 (by decide) ?_
    refine z_iconst (v := nI 0) X dL_setScore_25 (by decide) ?_
    refine z_iret X Z rfl dL_setScore_26 ?_
    exact ⟨(((fun u : Nat × Nat => (va_up S 14 (upd (S 14) u.1 (nI u.2)))) u), vp_updL g9 0 (r.toInt64)), Or.inl ⟨rfl, _, u, hu, rfl, rfl⟩, fun q hq => hq⟩
set_option maxHeartbeats 2000000 in
set_option maxRecDepth 100000 in
theorem c_L_takeLevel (l : Launch) (hfl : l.stackTraces = false) (D : va_G) (t : ClassId × ClassId × ClassId) (sz : Nat) (a : Nat → Nat) (S : zS) (m : Nat) (c : Int32) (h17 : S 17 0 = nI m) (hm : m ≤ 8) (o9 : Nat) (g9 : Nat → Int64) : zM7 l yL_takeLevel cL_takeLevel 4 [(0, 9, 12, 13), (0, 9, 15, 33)] 24 D t [.ref (a 0), .int c, .ref o9] ((wR t a S ++ [(o9, .inl (t.2.2, 1, .inr (.inl g9)))])) sz (fun k (w9 : zS × (Nat → Int64)) => (k = nI 0 ∧ ∃ (r : Int32) (u : Nat), (fun r (u : Nat) => u < 3 ∧ c = nI u ∧ m < 8 ∧ r = nI (m + 1)) r u ∧ w9.1 = (fun u : Nat => (va_up (va_up (va_up S 16 (upd (S 16) m (nI u))) 17 (fun _ => nI (m + 1))) 15 (upd (S 15) u (S 15 u + nI 1)))) u ∧ w9.2 = vp_updL g9 0 r.toInt64) ∨ ∃ (C : String) (u : Unit), (fun E (_ : Unit) => (E = eI ∧ ¬ am c 3) ∨ (E = eS ∧ am c 3 ∧ m = 8)) C u ∧ k = (fun C : String => if C = eI then nI 1 else nI 2) C ∧ w9.1 = (fun _ : Unit => S) u ∧ w9.2 = g9) (fun w9 => wR t a w9.1 ++ [(o9, .inl (t.2.2, 1, .inr (.inl w9.2)))]) := by
  refine z_m7 (by decide +kernel) (Nat.le_of_ble_eq_true rfl) (by simp [Value.category]) ?_
  intro E X Z V hT Y
  refine z_lv (lv' := [some (.ref (a 0)), some (.int c), some (.ref o9), none]) rfl ?_
  refine z_aload_n X dL_takeLevel_0 rfl rfl ?_
  refine z_iconst (v := nI 0) X dL_takeLevel_1 (by decide) ?_
  refine z_aload_n X dL_takeLevel_2 rfl rfl ?_
  refine z_iload_n X dL_takeLevel_3 rfl rfl ?_
  refine z_tryi X Y rfl V (fun sz => c_X3_takeLevel l hfl D t sz a S m c h17 hm) k_X3_takeLevel q_ml_L_35 is24 ⟨by decide, rfl⟩ (fun u => (wR t a (va_up (va_up (va_up S 16 (upd (S 16) m (nI u))) 17 (fun _ => nI (m + 1))) 15 (upd (S 15) u (S 15 u + nI 1))) ++ [(o9, .inl (t.2.2, 1, .inr (.inl g9)))])) (fun _ => ⟨⟨by decide, rfl⟩, ⟨by decide, rfl⟩, rfl, rfl⟩) (fun _ => (wR t a S ++ [(o9, .inl (t.2.2, 1, .inr (.inl g9)))])) (fun _ => ⟨⟨by decide, rfl⟩, ⟨by decide, rfl⟩, rfl, rfl⟩) 0 3 rfl rfl (by decide) rfl rfl rfl (Nat.le_of_ble_eq_true rfl) dL_takeLevel_4 (fun C u hx => ?_) (fun r u hu => ?_)
  ·
    have hx9 := hx
    rcases hx with ⟨rfl, _⟩ | ⟨rfl, _⟩
    ·
      refine z_catch X [] ⟨0, 9, 12, 13⟩ [⟨0, 9, 15, 33⟩] (hT.trans rfl) (fun z hz => absurd hz List.not_mem_nil) rfl (by decide) q_cl_L_13 (V.cast X zc_I) (fun q => ?_)
      refine z_astore_n X dL_takeLevel_12 rfl (Nat.le_of_ble_eq_true rfl) ?_
      refine z_lv (lv' := [some (.ref (a 0)), some (.int c), some (.ref o9), some (.ref q)]) rfl ?_
      refine z_iconst (v := nI 1) X dL_takeLevel_13 (by decide) ?_
      refine z_iret X Z rfl dL_takeLevel_14 ?_
      exact ⟨(((fun _ : Unit => S) u), g9), Or.inr ⟨eI, u, hx9, (by show _ = ite _ _ _; first | rfl | decide), rfl, rfl⟩, fun q hq => hq⟩
    ·
      refine z_catch X [⟨0, 9, 12, 13⟩] ⟨0, 9, 15, 33⟩ [] (hT.trans rfl) (fun z hz => by rw [List.mem_singleton.mp hz]; exact Or.inr ⟨by decide, eI, q_cl_L_13, V.2.2.2.1 (eS, eI) (by decide)⟩) rfl (by decide) q_cl_L_33 (V.cast X zc_S) (fun q => ?_)
      refine z_astore_n X dL_takeLevel_15 rfl (Nat.le_of_ble_eq_true rfl) ?_
      refine z_lv (lv' := [some (.ref (a 0)), some (.int c), some (.ref o9), some (.ref q)]) rfl ?_
      refine z_iconst (v := nI 2) X dL_takeLevel_16 (by decide) ?_
      refine z_iret X Z rfl dL_takeLevel_17 ?_
      exact ⟨(((fun _ : Unit => S) u), g9), Or.inr ⟨eS, u, hx9, (by show _ = ite _ _ _; first | rfl | decide), rfl, rfl⟩, fun q hq => hq⟩
  ·
    refine z_i2l X dL_takeLevel_7 ?_
    refine z_last X Y (f := g9) 24 rfl rfl (by unfold vp_in; decide) dL_takeLevel_8 ?_
    refine Wz.eq (ws' := (wR t a ((fun u : Nat => (va_up (va_up (va_up S 16 (upd (S 16) m (nI u))) 17 (fun _ => nI (m + 1))) 15 (upd (S 15) u (S 15 u + nI 1)))) u) ++ [(o9, .inl (t.2.2, 1, .inr (.inl (vp_updL g9 0 (r.toInt64)))))])) rfl ?_
    refine z_goto (tgt := 18) X dL_takeLevel_9 (by decide) ?_
    refine z_iconst (v := nI 0) X dL_takeLevel_18 (by decide) ?_
    refine z_iret X Z rfl dL_takeLevel_19 ?_
    exact ⟨(((fun u : Nat => (va_up (va_up (va_up S 16 (upd (S 16) m (nI u))) 17 (fun _ => nI (m + 1))) 15 (upd (S 15) u (S 15 u + nI 1)))) u), vp_updL g9 0 (r.toInt64)), Or.inl ⟨rfl, _, u, hu, rfl, rfl⟩, fun q hq => hq⟩
set_option maxHeartbeats 2000000 in
set_option maxRecDepth 100000 in
theorem c_L_takeGift (l : Launch) (hfl : l.stackTraces = false) (D : va_G) (t : ClassId × ClassId × ClassId) (sz : Nat) (a : Nat → Nat) (S : zS) (x y z G : Nat) (h15 : S 15 = l3 x y z) (h18 : S 18 0 = nI G) (hG : G < 256) (hX : x + y + z ≤ 8) (hI : zI S) (g : Int32) (o9 : Nat) (g9 : Nat → Int64) : zM7 l yL_takeGift cL_takeGift 4 [(0, 9, 12, 13), (0, 9, 15, 33)] 24 D t [.ref (a 0), .int g, .ref o9] ((wR t a S ++ [(o9, .inl (t.2.2, 1, .inr (.inl g9)))])) sz (fun k (w9 : zS × (Nat → Int64)) => (k = nI 0 ∧ ∃ (r : Int32) (u : Nat), (fun r (u : Nat) => u < 8 ∧ g = nI u ∧ mt S x y z G u ∧ r = nI (p8 (G ||| 2 ^ u))) r u ∧ w9.1 = (fun u : Nat => (va_up S 18 (fun _ => nI (G ||| 2 ^ u)))) u ∧ w9.2 = vp_updL g9 0 r.toInt64) ∨ ∃ (C : String) (u : Unit), (fun E (_ : Unit) => (E = eI ∧ ¬ am g 8) ∨ (E = eS ∧ ∃ k, k < 8 ∧ g = nI k ∧ ¬ mt S x y z G k)) C u ∧ k = (fun C : String => if C = eI then nI 1 else nI 2) C ∧ w9.1 = (fun _ : Unit => S) u ∧ w9.2 = g9) (fun w9 => wR t a w9.1 ++ [(o9, .inl (t.2.2, 1, .inr (.inl w9.2)))]) := by
  refine z_m7 (by decide +kernel) (Nat.le_of_ble_eq_true rfl) (by simp [Value.category]) ?_
  intro E X Z V hT Y
  refine z_lv (lv' := [some (.ref (a 0)), some (.int g), some (.ref o9), none]) rfl ?_
  refine z_aload_n X dL_takeGift_0 rfl rfl ?_
  refine z_iconst (v := nI 0) X dL_takeGift_1 (by decide) ?_
  refine z_aload_n X dL_takeGift_2 rfl rfl ?_
  refine z_iload_n X dL_takeGift_3 rfl rfl ?_
  refine z_tryi X Y rfl V (fun sz => c_X3_takeGift l hfl D t sz a S x y z G h15 h18 hG hX hI g) k_X3_takeGift q_ml_L_39 is24 ⟨by decide, rfl⟩ (fun u => (wR t a (va_up S 18 (fun _ => nI (G ||| 2 ^ u))) ++ [(o9, .inl (t.2.2, 1, .inr (.inl g9)))])) (fun _ => ⟨⟨by decide, rfl⟩, ⟨by decide, rfl⟩, rfl, rfl⟩) (fun _ => (wR t a S ++ [(o9, .inl (t.2.2, 1, .inr (.inl g9)))])) (fun _ => ⟨⟨by decide, rfl⟩, ⟨by decide, rfl⟩, rfl, rfl⟩) 0 3 rfl rfl (by decide) rfl rfl rfl (Nat.le_of_ble_eq_true rfl) dL_takeGift_4 (fun C u hx => ?_) (fun r u hu => ?_)
  ·
    have hx9 := hx
    rcases hx with ⟨rfl, _⟩ | ⟨rfl, _⟩
    ·
      refine z_catch X [] ⟨0, 9, 12, 13⟩ [⟨0, 9, 15, 33⟩] (hT.trans rfl) (fun z hz => absurd hz List.not_mem_nil) rfl (by decide) q_cl_L_13 (V.cast X zc_I) (fun q => ?_)
      refine z_astore_n X dL_takeGift_12 rfl (Nat.le_of_ble_eq_true rfl) ?_
      refine z_lv (lv' := [some (.ref (a 0)), some (.int g), some (.ref o9), some (.ref q)]) rfl ?_
      refine z_iconst (v := nI 1) X dL_takeGift_13 (by decide) ?_
      refine z_iret X Z rfl dL_takeGift_14 ?_
      exact ⟨(((fun _ : Unit => S) u), g9), Or.inr ⟨eI, u, hx9, (by show _ = ite _ _ _; first | rfl | decide), rfl, rfl⟩, fun q hq => hq⟩
    ·
      refine z_catch X [⟨0, 9, 12, 13⟩] ⟨0, 9, 15, 33⟩ [] (hT.trans rfl) (fun z hz => by rw [List.mem_singleton.mp hz]; exact Or.inr ⟨by decide, eI, q_cl_L_13, V.2.2.2.1 (eS, eI) (by decide)⟩) rfl (by decide) q_cl_L_33 (V.cast X zc_S) (fun q => ?_)
      refine z_astore_n X dL_takeGift_15 rfl (Nat.le_of_ble_eq_true rfl) ?_
      refine z_lv (lv' := [some (.ref (a 0)), some (.int g), some (.ref o9), some (.ref q)]) rfl ?_
      refine z_iconst (v := nI 2) X dL_takeGift_16 (by decide) ?_
      refine z_iret X Z rfl dL_takeGift_17 ?_
      exact ⟨(((fun _ : Unit => S) u), g9), Or.inr ⟨eS, u, hx9, (by show _ = ite _ _ _; first | rfl | decide), rfl, rfl⟩, fun q hq => hq⟩
  ·
    refine z_i2l X dL_takeGift_7 ?_
    refine z_last X Y (f := g9) 24 rfl rfl (by unfold vp_in; decide) dL_takeGift_8 ?_
    refine Wz.eq (ws' := (wR t a ((fun u : Nat => (va_up S 18 (fun _ => nI (G ||| 2 ^ u)))) u) ++ [(o9, .inl (t.2.2, 1, .inr (.inl (vp_updL g9 0 (r.toInt64)))))])) rfl ?_
    refine z_goto (tgt := 18) X dL_takeGift_9 (by decide) ?_
    refine z_iconst (v := nI 0) X dL_takeGift_18 (by decide) ?_
    refine z_iret X Z rfl dL_takeGift_19 ?_
    exact ⟨(((fun u : Nat => (va_up S 18 (fun _ => nI (G ||| 2 ^ u)))) u), vp_updL g9 0 (r.toInt64)), Or.inl ⟨rfl, _, u, hu, rfl, rfl⟩, fun q hq => hq⟩
set_option maxHeartbeats 2000000 in
set_option maxRecDepth 100000 in
theorem c_L_loseLevel (l : Launch) (hfl : l.stackTraces = false) (D : va_G) (t : ClassId × ClassId × ClassId) (sz : Nat) (a : Nat → Nat) (S : zS) (m : Nat) (tk : Nat → Nat) (h17 : S 17 0 = nI m) (hm : m ≤ 8) (h16 : ∀ j, j < m → tk j < 3 ∧ S 16 j = nI (tk j)) (o9 : Nat) (g9 : Nat → Int64) : zM7 l yL_loseLevel cL_loseLevel 3 [(0, 8, 11, 33)] 24 D t [.ref (a 0), .ref o9] ((wR t a S ++ [(o9, .inl (t.2.2, 1, .inr (.inl g9)))])) sz (fun k (w9 : zS × (Nat → Int64)) => (k = nI 0 ∧ ∃ (r : Int32) (u : Unit), (fun r (_ : Unit) => 0 < m ∧ r = nI (tk (m - 1))) r u ∧ w9.1 = (fun _ : Unit => (va_up (va_up S 17 (fun _ => nI (m - 1))) 15 (upd (S 15) (tk (m - 1)) (S 15 (tk (m - 1)) + (-1))))) u ∧ w9.2 = vp_updL g9 0 r.toInt64) ∨ ∃ (C : String) (u : Unit), (fun E (_ : Unit) => E = eS ∧ m = 0) C u ∧ k = (fun C : String => nI 1) C ∧ w9.1 = (fun _ : Unit => S) u ∧ w9.2 = g9) (fun w9 => wR t a w9.1 ++ [(o9, .inl (t.2.2, 1, .inr (.inl w9.2)))]) := by
  refine z_m7 (by decide +kernel) (Nat.le_of_ble_eq_true rfl) (by simp [Value.category]) ?_
  intro E X Z V hT Y
  refine z_lv (lv' := [some (.ref (a 0)), some (.ref o9), none]) rfl ?_
  refine z_aload_n X dL_loseLevel_0 rfl rfl ?_
  refine z_iconst (v := nI 0) X dL_loseLevel_1 (by decide) ?_
  refine z_aload_n X dL_loseLevel_2 rfl rfl ?_
  refine z_tryi X Y rfl V (fun sz => c_X3_loseLevel l hfl D t sz a S m tk h17 hm h16) k_X3_loseLevel q_ml_L_42 is24 ⟨by decide, rfl⟩ (fun _ => (wR t a (va_up (va_up S 17 (fun _ => nI (m - 1))) 15 (upd (S 15) (tk (m - 1)) (S 15 (tk (m - 1)) + (-1)))) ++ [(o9, .inl (t.2.2, 1, .inr (.inl g9)))])) (fun _ => ⟨⟨by decide, rfl⟩, ⟨by decide, rfl⟩, rfl, rfl⟩) (fun _ => (wR t a S ++ [(o9, .inl (t.2.2, 1, .inr (.inl g9)))])) (fun _ => ⟨⟨by decide, rfl⟩, ⟨by decide, rfl⟩, rfl, rfl⟩) 0 3 rfl rfl (by decide) rfl rfl rfl (Nat.le_of_ble_eq_true rfl) dL_loseLevel_3 (fun C u hx => ?_) (fun r u hu => ?_)
  ·
    have hx9 := hx
    have hC : C = eS := hx.1
    subst hC
    refine z_catch X [] ⟨0, 8, 11, 33⟩ [] (hT.trans rfl) (fun z hz => absurd hz List.not_mem_nil) rfl (by decide) q_cl_L_33 (V.cast X zc_S) (fun q => ?_)
    refine z_astore_n X dL_loseLevel_11 rfl (Nat.le_of_ble_eq_true rfl) ?_
    refine z_lv (lv' := [some (.ref (a 0)), some (.ref o9), some (.ref q)]) rfl ?_
    refine z_iconst (v := nI 1) X dL_loseLevel_12 (by decide) ?_
    refine z_iret X Z rfl dL_loseLevel_13 ?_
    exact ⟨(((fun _ : Unit => S) u), g9), Or.inr ⟨eS, u, hx9, rfl, rfl, rfl⟩, fun q hq => hq⟩
  ·
    refine z_i2l X dL_loseLevel_6 ?_
    refine z_last X Y (f := g9) 24 rfl rfl (by unfold vp_in; decide) dL_loseLevel_7 ?_
    refine Wz.eq (ws' := (wR t a ((fun _ : Unit => (va_up (va_up S 17 (fun _ => nI (m - 1))) 15 (upd (S 15) (tk (m - 1)) (S 15 (tk (m - 1)) + (-1))))) u) ++ [(o9, .inl (t.2.2, 1, .inr (.inl (vp_updL g9 0 (r.toInt64)))))])) rfl ?_
    refine z_goto (tgt := 14) X dL_loseLevel_8 (by decide) ?_
    refine z_iconst (v := nI 0) X dL_loseLevel_14 (by decide) ?_
    refine z_iret X Z rfl dL_loseLevel_15 ?_
    exact ⟨(((fun _ : Unit => (va_up (va_up S 17 (fun _ => nI (m - 1))) 15 (upd (S 15) (tk (m - 1)) (S 15 (tk (m - 1)) + (-1))))) u), vp_updL g9 0 (r.toInt64)), Or.inl ⟨rfl, _, u, hu, rfl, rfl⟩, fun q hq => hq⟩
set_option maxHeartbeats 2000000 in
set_option maxRecDepth 100000 in
theorem c_L_exchange (l : Launch) (hfl : l.stackTraces = false) (D : va_G) (t : ClassId × ClassId × ClassId) (sz : Nat) (a : Nat → Nat) (S : zS) (Xn Yn Zn G : Nat) (h15 : S 15 = l3 Xn Yn Zn) (h18 : S 18 0 = nI G) (hG : G < 256) (hX : Xn + Yn + Zn ≤ 8) (hI : zI S) (h17 : S 17 0 = nI (Xn + Yn + Zn)) (x y z s : Nat) (e : Nat → Int32) (g o : Int32) (o9 : Nat) (g9 : Nat → Int64) : zM7 l yL_exchange cL_exchange 5 [(0, 10, 13, 13), (0, 10, 17, 33)] 24 D t [.ref (a 0), .int g, .int o, .ref o9] ((wR t a (T3 S x y z s e) ++ [(o9, .inl (t.2.2, 1, .inr (.inl g9)))])) sz (fun k (w9 : zS × (Nat → Int64)) => (k = nI 0 ∧ ∃ (r : Int32) (u : Nat × Nat × (Nat → Int32)), (fun r (u : Nat × Nat × (Nat → Int32)) => u.1 < 8 ∧ u.2.1 < 8 ∧ g = nI u.1 ∧ o = nI u.2.1 ∧ G.testBit u.1 = true ∧ G.testBit u.2.1 = false ∧ Rc S Xn Yn Zn (exN G u.1 u.2.1) 0 0 0 0 ∧ r = nI (p8 (faN S (S 15) G u.1 u.2.1))) r u ∧ w9.1 = (fun u : Nat × Nat × (Nat → Int32) => (va_up (T3 S 0 0 0 0 u.2.2) 18 (fun _ => nI (exN G u.1 u.2.1)))) u ∧ w9.2 = vp_updL g9 0 r.toInt64) ∨ ∃ (C : String) (u : Nat × Nat × Nat × Nat × (Nat → Int32)), (fun E (u : Nat × Nat × Nat × Nat × (Nat → Int32)) => (E = eI ∧ ¬ (am g 8 ∧ am o 8)) ∨ (E = eS ∧ ∃ k j, k < 8 ∧ j < 8 ∧ g = nI k ∧ o = nI j ∧ ¬ (G.testBit k = true ∧ G.testBit j = false ∧ Rc S Xn Yn Zn (exN G k j) 0 0 0 0))) C u ∧ k = (fun C : String => if C = eI then nI 1 else nI 2) C ∧ w9.1 = (fun u : Nat × Nat × Nat × Nat × (Nat → Int32) => (T3 S u.1 u.2.1 u.2.2.1 u.2.2.2.1 u.2.2.2.2)) u ∧ w9.2 = g9) (fun w9 => wR t a w9.1 ++ [(o9, .inl (t.2.2, 1, .inr (.inl w9.2)))]) := by
  refine z_m7 (by decide +kernel) (Nat.le_of_ble_eq_true rfl) (by simp [Value.category]) ?_
  intro E X Z V hT Y
  refine z_lv (lv' := [some (.ref (a 0)), some (.int g), some (.int o), some (.ref o9), none]) rfl ?_
  refine z_aload_n X dL_exchange_0 rfl rfl ?_
  refine z_iconst (v := nI 0) X dL_exchange_1 (by decide) ?_
  refine z_aload_n X dL_exchange_2 rfl rfl ?_
  refine z_iload_n X dL_exchange_3 rfl rfl ?_
  refine z_iload_n X dL_exchange_4 rfl rfl ?_
  refine z_tryi X Y rfl V (fun sz => c_X3_exchange l hfl D t sz a S Xn Yn Zn G h15 h18 hG hX hI h17 x y z s e g o) k_X3_exchange q_ml_L_46 is24 ⟨by decide, rfl⟩ (fun u => (wR t a (va_up (T3 S 0 0 0 0 u.2.2) 18 (fun _ => nI (exN G u.1 u.2.1))) ++ [(o9, .inl (t.2.2, 1, .inr (.inl g9)))])) (fun _ => ⟨⟨by decide, rfl⟩, ⟨by decide, rfl⟩, rfl, rfl⟩) (fun u => (wR t a (T3 S u.1 u.2.1 u.2.2.1 u.2.2.2.1 u.2.2.2.2) ++ [(o9, .inl (t.2.2, 1, .inr (.inl g9)))])) (fun _ => ⟨⟨by decide, rfl⟩, ⟨by decide, rfl⟩, rfl, rfl⟩) 0 3 rfl rfl (by decide) rfl rfl rfl (Nat.le_of_ble_eq_true rfl) dL_exchange_5 (fun C u hx => ?_) (fun r u hu => ?_)
  ·
    have hx9 := hx
    rcases hx with ⟨rfl, _⟩ | ⟨rfl, _⟩
    ·
      refine z_catch X [] ⟨0, 10, 13, 13⟩ [⟨0, 10, 17, 33⟩] (hT.trans rfl) (fun z hz => absurd hz List.not_mem_nil) rfl (by decide) q_cl_L_13 (V.cast X zc_I) (fun q => ?_)
      refine z_astore X dL_exchange_13 (Nat.le_of_ble_eq_true rfl) ?_
      refine z_lv (lv' := [some (.ref (a 0)), some (.int g), some (.int o), some (.ref o9), some (.ref q)]) rfl ?_
      refine z_iconst (v := nI 1) X dL_exchange_15 (by decide) ?_
      refine z_iret X Z rfl dL_exchange_16 ?_
      exact ⟨(((fun u : Nat × Nat × Nat × Nat × (Nat → Int32) => (T3 S u.1 u.2.1 u.2.2.1 u.2.2.2.1 u.2.2.2.2)) u), g9), Or.inr ⟨eI, u, hx9, (by show _ = ite _ _ _; first | rfl | decide), rfl, rfl⟩, fun q hq => hq⟩
    ·
      refine z_catch X [⟨0, 10, 13, 13⟩] ⟨0, 10, 17, 33⟩ [] (hT.trans rfl) (fun z hz => by rw [List.mem_singleton.mp hz]; exact Or.inr ⟨by decide, eI, q_cl_L_13, V.2.2.2.1 (eS, eI) (by decide)⟩) rfl (by decide) q_cl_L_33 (V.cast X zc_S) (fun q => ?_)
      refine z_astore X dL_exchange_17 (Nat.le_of_ble_eq_true rfl) ?_
      refine z_lv (lv' := [some (.ref (a 0)), some (.int g), some (.int o), some (.ref o9), some (.ref q)]) rfl ?_
      refine z_iconst (v := nI 2) X dL_exchange_19 (by decide) ?_
      refine z_iret X Z rfl dL_exchange_20 ?_
      exact ⟨(((fun u : Nat × Nat × Nat × Nat × (Nat → Int32) => (T3 S u.1 u.2.1 u.2.2.1 u.2.2.2.1 u.2.2.2.2)) u), g9), Or.inr ⟨eS, u, hx9, (by show _ = ite _ _ _; first | rfl | decide), rfl, rfl⟩, fun q hq => hq⟩
  ·
    refine z_i2l X dL_exchange_8 ?_
    refine z_last X Y (f := g9) 24 rfl rfl (by unfold vp_in; decide) dL_exchange_9 ?_
    refine Wz.eq (ws' := (wR t a ((fun u : Nat × Nat × (Nat → Int32) => (va_up (T3 S 0 0 0 0 u.2.2) 18 (fun _ => nI (exN G u.1 u.2.1)))) u) ++ [(o9, .inl (t.2.2, 1, .inr (.inl (vp_updL g9 0 (r.toInt64)))))])) rfl ?_
    refine z_goto (tgt := 21) X dL_exchange_10 (by decide) ?_
    refine z_iconst (v := nI 0) X dL_exchange_21 (by decide) ?_
    refine z_iret X Z rfl dL_exchange_22 ?_
    exact ⟨(((fun u : Nat × Nat × (Nat → Int32) => (va_up (T3 S 0 0 0 0 u.2.2) 18 (fun _ => nI (exN G u.1 u.2.1)))) u), vp_updL g9 0 (r.toInt64)), Or.inl ⟨rfl, _, u, hu, rfl, rfl⟩, fun q hq => hq⟩
set_option maxHeartbeats 2000000 in
set_option maxRecDepth 100000 in
theorem c_L_level (l : Launch) (hfl : l.stackTraces = false) (D : va_G) (t : ClassId × ClassId × ClassId) (sz : Nat) (a : Nat → Nat) (S : zS) (c : Int32) (o9 : Nat) (g9 : Nat → Int64) : zM7 l yL_level cL_level 4 [(0, 9, 12, 13)] 24 D t [.ref (a 0), .int c, .ref o9] ((wR t a S ++ [(o9, .inl (t.2.2, 1, .inr (.inl g9)))])) sz (fun k (w9 : zS × (Nat → Int64)) => (k = nI 0 ∧ ∃ (r : Int32) (u : Nat), (fun r (u : Nat) => u < 3 ∧ c = nI u ∧ r = S 15 u) r u ∧ w9.1 = (fun _ : Nat => S) u ∧ w9.2 = vp_updL g9 0 r.toInt64) ∨ ∃ (C : String) (u : Unit), (fun E (_ : Unit) => E = eI ∧ ¬ am c 3) C u ∧ k = (fun C : String => nI 1) C ∧ w9.1 = (fun _ : Unit => S) u ∧ w9.2 = g9) (fun w9 => wR t a w9.1 ++ [(o9, .inl (t.2.2, 1, .inr (.inl w9.2)))]) := by
  refine z_m7 (by decide +kernel) (Nat.le_of_ble_eq_true rfl) (by simp [Value.category]) ?_
  intro E X Z V hT Y
  refine z_lv (lv' := [some (.ref (a 0)), some (.int c), some (.ref o9), none]) rfl ?_
  refine z_aload_n X dL_level_0 rfl rfl ?_
  refine z_iconst (v := nI 0) X dL_level_1 (by decide) ?_
  refine z_aload_n X dL_level_2 rfl rfl ?_
  refine z_iload_n X dL_level_3 rfl rfl ?_
  refine z_tryi X Y rfl V (fun sz => c_X3_level l hfl D t sz a S c) k_X3_level q_ml_L_49 is24 ⟨by decide, rfl⟩ (fun _ => (wR t a S ++ [(o9, .inl (t.2.2, 1, .inr (.inl g9)))])) (fun _ => ⟨⟨by decide, rfl⟩, ⟨by decide, rfl⟩, rfl, rfl⟩) (fun _ => (wR t a S ++ [(o9, .inl (t.2.2, 1, .inr (.inl g9)))])) (fun _ => ⟨⟨by decide, rfl⟩, ⟨by decide, rfl⟩, rfl, rfl⟩) 0 3 rfl rfl (by decide) rfl rfl rfl (Nat.le_of_ble_eq_true rfl) dL_level_4 (fun C u hx => ?_) (fun r u hu => ?_)
  ·
    have hx9 := hx
    have hC : C = eI := hx.1
    subst hC
    refine z_catch X [] ⟨0, 9, 12, 13⟩ [] (hT.trans rfl) (fun z hz => absurd hz List.not_mem_nil) rfl (by decide) q_cl_L_13 (V.cast X zc_I) (fun q => ?_)
    refine z_astore_n X dL_level_12 rfl (Nat.le_of_ble_eq_true rfl) ?_
    refine z_lv (lv' := [some (.ref (a 0)), some (.int c), some (.ref o9), some (.ref q)]) rfl ?_
    refine z_iconst (v := nI 1) X dL_level_13 (by decide) ?_
    refine z_iret X Z rfl dL_level_14 ?_
    exact ⟨(((fun _ : Unit => S) u), g9), Or.inr ⟨eI, u, hx9, rfl, rfl, rfl⟩, fun q hq => hq⟩
  ·
    refine z_i2l X dL_level_7 ?_
    refine z_last X Y (f := g9) 24 rfl rfl (by unfold vp_in; decide) dL_level_8 ?_
    refine Wz.eq (ws' := (wR t a ((fun _ : Nat => S) u) ++ [(o9, .inl (t.2.2, 1, .inr (.inl (vp_updL g9 0 (r.toInt64)))))])) rfl ?_
    refine z_goto (tgt := 15) X dL_level_9 (by decide) ?_
    refine z_iconst (v := nI 0) X dL_level_15 (by decide) ?_
    refine z_iret X Z rfl dL_level_16 ?_
    exact ⟨(((fun _ : Nat => S) u), vp_updL g9 0 (r.toInt64)), Or.inl ⟨rfl, _, u, hu, rfl, rfl⟩, fun q hq => hq⟩
set_option maxHeartbeats 2000000 in
set_option maxRecDepth 100000 in
theorem c_L_value (l : Launch) (hfl : l.stackTraces = false) (D : va_G) (t : ClassId × ClassId × ClassId) (sz : Nat) (a : Nat → Nat) (S : zS) (v : Int32) (G : Nat) (h18 : S 18 0 = nI G) (hG : G < 256) (hI : zI S) (o9 : Nat) (g9 : Nat → Int64) : zM7 l yL_value cL_value 4 [(0, 9, 12, 13), (0, 9, 15, 33)] 24 D t [.ref (a 0), .int v, .ref o9] ((wR t a S ++ [(o9, .inl (t.2.2, 1, .inr (.inl g9)))])) sz (fun k (w9 : zS × (Nat → Int64)) => (k = nI 0 ∧ ∃ (r : Int32) (u : Nat), (fun r (u : Nat) => u < 6 ∧ v = nI u ∧ ch S (nI u) 6 = -1 ∧ r = vl S (S 15) (wk S (S 15) G) 6 (nI u)) r u ∧ w9.1 = (fun _ : Nat => S) u ∧ w9.2 = vp_updL g9 0 r.toInt64) ∨ ∃ (C : String) (u : Unit), (fun E (_ : Unit) => (E = eI ∧ ¬ am v 6) ∨ (E = eS ∧ ∃ k, k < 6 ∧ v = nI k ∧ ¬ ch S (nI k) 6 = -1)) C u ∧ k = (fun C : String => if C = eI then nI 1 else nI 2) C ∧ w9.1 = (fun _ : Unit => S) u ∧ w9.2 = g9) (fun w9 => wR t a w9.1 ++ [(o9, .inl (t.2.2, 1, .inr (.inl w9.2)))]) := by
  refine z_m7 (by decide +kernel) (Nat.le_of_ble_eq_true rfl) (by simp [Value.category]) ?_
  intro E X Z V hT Y
  refine z_lv (lv' := [some (.ref (a 0)), some (.int v), some (.ref o9), none]) rfl ?_
  refine z_aload_n X dL_value_0 rfl rfl ?_
  refine z_iconst (v := nI 0) X dL_value_1 (by decide) ?_
  refine z_aload_n X dL_value_2 rfl rfl ?_
  refine z_iload_n X dL_value_3 rfl rfl ?_
  refine z_tryi X Y rfl V (fun sz => c_X3_value l hfl D t sz a S v G h18 hG hI) k_X3_value q_ml_L_52 is24 ⟨by decide, rfl⟩ (fun _ => (wR t a S ++ [(o9, .inl (t.2.2, 1, .inr (.inl g9)))])) (fun _ => ⟨⟨by decide, rfl⟩, ⟨by decide, rfl⟩, rfl, rfl⟩) (fun _ => (wR t a S ++ [(o9, .inl (t.2.2, 1, .inr (.inl g9)))])) (fun _ => ⟨⟨by decide, rfl⟩, ⟨by decide, rfl⟩, rfl, rfl⟩) 0 3 rfl rfl (by decide) rfl rfl rfl (Nat.le_of_ble_eq_true rfl) dL_value_4 (fun C u hx => ?_) (fun r u hu => ?_)
  ·
    have hx9 := hx
    rcases hx with ⟨rfl, _⟩ | ⟨rfl, _⟩
    ·
      refine z_catch X [] ⟨0, 9, 12, 13⟩ [⟨0, 9, 15, 33⟩] (hT.trans rfl) (fun z hz => absurd hz List.not_mem_nil) rfl (by decide) q_cl_L_13 (V.cast X zc_I) (fun q => ?_)
      refine z_astore_n X dL_value_12 rfl (Nat.le_of_ble_eq_true rfl) ?_
      refine z_lv (lv' := [some (.ref (a 0)), some (.int v), some (.ref o9), some (.ref q)]) rfl ?_
      refine z_iconst (v := nI 1) X dL_value_13 (by decide) ?_
      refine z_iret X Z rfl dL_value_14 ?_
      exact ⟨(((fun _ : Unit => S) u), g9), Or.inr ⟨eI, u, hx9, (by show _ = ite _ _ _; first | rfl | decide), rfl, rfl⟩, fun q hq => hq⟩
    ·
      refine z_catch X [⟨0, 9, 12, 13⟩] ⟨0, 9, 15, 33⟩ [] (hT.trans rfl) (fun z hz => by rw [List.mem_singleton.mp hz]; exact Or.inr ⟨by decide, eI, q_cl_L_13, V.2.2.2.1 (eS, eI) (by decide)⟩) rfl (by decide) q_cl_L_33 (V.cast X zc_S) (fun q => ?_)
      refine z_astore_n X dL_value_15 rfl (Nat.le_of_ble_eq_true rfl) ?_
      refine z_lv (lv' := [some (.ref (a 0)), some (.int v), some (.ref o9), some (.ref q)]) rfl ?_
      refine z_iconst (v := nI 2) X dL_value_16 (by decide) ?_
      refine z_iret X Z rfl dL_value_17 ?_
      exact ⟨(((fun _ : Unit => S) u), g9), Or.inr ⟨eS, u, hx9, (by show _ = ite _ _ _; first | rfl | decide), rfl, rfl⟩, fun q hq => hq⟩
  ·
    refine z_i2l X dL_value_7 ?_
    refine z_last X Y (f := g9) 24 rfl rfl (by unfold vp_in; decide) dL_value_8 ?_
    refine Wz.eq (ws' := (wR t a ((fun _ : Nat => S) u) ++ [(o9, .inl (t.2.2, 1, .inr (.inl (vp_updL g9 0 (r.toInt64)))))])) rfl ?_
    refine z_goto (tgt := 18) X dL_value_9 (by decide) ?_
    refine z_iconst (v := nI 0) X dL_value_18 (by decide) ?_
    refine z_iret X Z rfl dL_value_19 ?_
    exact ⟨(((fun _ : Nat => S) u), vp_updL g9 0 (r.toInt64)), Or.inl ⟨rfl, _, u, hu, rfl, rfl⟩, fun q hq => hq⟩
set_option maxHeartbeats 2000000 in
set_option maxRecDepth 100000 in
theorem c_L_bonus (l : Launch) (hfl : l.stackTraces = false) (D : va_G) (t : ClassId × ClassId × ClassId) (sz : Nat) (a : Nat → Nat) (S : zS) (v kd : Int32) (G : Nat) (h18 : S 18 0 = nI G) (hG : G < 256) (hI : zI S) (o9 : Nat) (g9 : Nat → Int64) : zM7 l yL_bonus cL_bonus 5 [(0, 10, 13, 13), (0, 10, 17, 15)] 24 D t [.ref (a 0), .int v, .int kd, .ref o9] ((wR t a S ++ [(o9, .inl (t.2.2, 1, .inr (.inl g9)))])) sz (fun k (w9 : zS × (Nat → Int64)) => (k = nI 0 ∧ ∃ (r : Int32) (u : Unit), (fun r (_ : Unit) => am v 6 ∧ am kd 4 ∧ r = bn S (wk S (S 15) G) v kd) r u ∧ w9.1 = (fun _ : Unit => S) u ∧ w9.2 = vp_updL g9 0 r.toInt64) ∨ ∃ (C : String) (u : Unit), (fun E (_ : Unit) => (E = eI ∧ ¬ am v 6) ∨ (E = eA ∧ am v 6 ∧ ¬ am kd 4)) C u ∧ k = (fun C : String => if C = eI then nI 1 else nI 2) C ∧ w9.1 = (fun _ : Unit => S) u ∧ w9.2 = g9) (fun w9 => wR t a w9.1 ++ [(o9, .inl (t.2.2, 1, .inr (.inl w9.2)))]) := by
  refine z_m7 (by decide +kernel) (Nat.le_of_ble_eq_true rfl) (by simp [Value.category]) ?_
  intro E X Z V hT Y
  refine z_lv (lv' := [some (.ref (a 0)), some (.int v), some (.int kd), some (.ref o9), none]) rfl ?_
  refine z_aload_n X dL_bonus_0 rfl rfl ?_
  refine z_iconst (v := nI 0) X dL_bonus_1 (by decide) ?_
  refine z_aload_n X dL_bonus_2 rfl rfl ?_
  refine z_iload_n X dL_bonus_3 rfl rfl ?_
  refine z_iload_n X dL_bonus_4 rfl rfl ?_
  refine z_tryi X Y rfl V (fun sz => c_X3_bonus l hfl D t sz a S v kd G h18 hG hI) k_X3_bonus q_ml_L_55 is24 ⟨by decide, rfl⟩ (fun _ => (wR t a S ++ [(o9, .inl (t.2.2, 1, .inr (.inl g9)))])) (fun _ => ⟨⟨by decide, rfl⟩, ⟨by decide, rfl⟩, rfl, rfl⟩) (fun _ => (wR t a S ++ [(o9, .inl (t.2.2, 1, .inr (.inl g9)))])) (fun _ => ⟨⟨by decide, rfl⟩, ⟨by decide, rfl⟩, rfl, rfl⟩) 0 3 rfl rfl (by decide) rfl rfl rfl (Nat.le_of_ble_eq_true rfl) dL_bonus_5 (fun C u hx => ?_) (fun r u hu => ?_)
  ·
    have hx9 := hx
    rcases hx with ⟨rfl, _⟩ | ⟨rfl, _⟩
    ·
      refine z_catch X [] ⟨0, 10, 13, 13⟩ [⟨0, 10, 17, 15⟩] (hT.trans rfl) (fun z hz => absurd hz List.not_mem_nil) rfl (by decide) q_cl_L_13 (V.cast X zc_I) (fun q => ?_)
      refine z_astore X dL_bonus_13 (Nat.le_of_ble_eq_true rfl) ?_
      refine z_lv (lv' := [some (.ref (a 0)), some (.int v), some (.int kd), some (.ref o9), some (.ref q)]) rfl ?_
      refine z_iconst (v := nI 1) X dL_bonus_15 (by decide) ?_
      refine z_iret X Z rfl dL_bonus_16 ?_
      exact ⟨(((fun _ : Unit => S) u), g9), Or.inr ⟨eI, u, hx9, (by show _ = ite _ _ _; first | rfl | decide), rfl, rfl⟩, fun q hq => hq⟩
    ·
      refine z_catch X [⟨0, 10, 13, 13⟩] ⟨0, 10, 17, 15⟩ [] (hT.trans rfl) (fun z hz => by rw [List.mem_singleton.mp hz]; exact Or.inr ⟨by decide, eI, q_cl_L_13, V.2.2.2.1 (eA, eI) (by decide)⟩) rfl (by decide) q_cl_L_15 (V.cast X zc_A) (fun q => ?_)
      refine z_astore X dL_bonus_17 (Nat.le_of_ble_eq_true rfl) ?_
      refine z_lv (lv' := [some (.ref (a 0)), some (.int v), some (.int kd), some (.ref o9), some (.ref q)]) rfl ?_
      refine z_iconst (v := nI 2) X dL_bonus_19 (by decide) ?_
      refine z_iret X Z rfl dL_bonus_20 ?_
      exact ⟨(((fun _ : Unit => S) u), g9), Or.inr ⟨eA, u, hx9, (by show _ = ite _ _ _; first | rfl | decide), rfl, rfl⟩, fun q hq => hq⟩
  ·
    refine z_i2l X dL_bonus_8 ?_
    refine z_last X Y (f := g9) 24 rfl rfl (by unfold vp_in; decide) dL_bonus_9 ?_
    refine Wz.eq (ws' := (wR t a ((fun _ : Unit => S) u) ++ [(o9, .inl (t.2.2, 1, .inr (.inl (vp_updL g9 0 (r.toInt64)))))])) rfl ?_
    refine z_goto (tgt := 21) X dL_bonus_10 (by decide) ?_
    refine z_iconst (v := nI 0) X dL_bonus_21 (by decide) ?_
    refine z_iret X Z rfl dL_bonus_22 ?_
    exact ⟨(((fun _ : Unit => S) u), vp_updL g9 0 (r.toInt64)), Or.inl ⟨rfl, _, u, hu, rfl, rfl⟩, fun q hq => hq⟩
set_option maxHeartbeats 2000000 in
set_option maxRecDepth 100000 in
theorem c_L_isRing (l : Launch) (hfl : l.stackTraces = false) (D : va_G) (t : ClassId × ClassId × ClassId) (sz : Nat) (a : Nat → Nat) (S : zS) (v : Int32) (hI : zI S) (o9 : Nat) (g9 : Nat → Int64) : zM7 l yL_isRing cL_isRing 4 [(0, 16, 19, 13)] 24 D t [.ref (a 0), .int v, .ref o9] ((wR t a S ++ [(o9, .inl (t.2.2, 1, .inr (.inl g9)))])) sz (fun k (w9 : zS × (Nat → Int64)) => (k = nI 0 ∧ ∃ (r : Int32) (u : Nat), (fun r (u : Nat) => u < 6 ∧ v = nI u ∧ bz r (¬ ch S (nI u) 6 = -1)) r u ∧ w9.1 = (fun _ : Nat => S) u ∧ w9.2 = vp_updL g9 0 r.toInt64) ∨ ∃ (C : String) (u : Unit), (fun E (_ : Unit) => E = eI ∧ ¬ am v 6) C u ∧ k = (fun C : String => nI 1) C ∧ w9.1 = (fun _ : Unit => S) u ∧ w9.2 = g9) (fun w9 => wR t a w9.1 ++ [(o9, .inl (t.2.2, 1, .inr (.inl w9.2)))]) := by
  refine z_m7 (by decide +kernel) (Nat.le_of_ble_eq_true rfl) (by simp [Value.category]) ?_
  intro E X Z V hT Y
  refine z_lv (lv' := [some (.ref (a 0)), some (.int v), some (.ref o9), none]) rfl ?_
  refine z_aload_n X dL_isRing_0 rfl rfl ?_
  refine z_iconst (v := nI 0) X dL_isRing_1 (by decide) ?_
  refine z_aload_n X dL_isRing_2 rfl rfl ?_
  refine z_iload_n X dL_isRing_3 rfl rfl ?_
  refine z_tryi X Y rfl V (fun sz => c_X3_isRing l hfl D t sz a S v hI) k_X3_isRing q_ml_L_58 is24 ⟨by decide, rfl⟩ (fun _ => (wR t a S ++ [(o9, .inl (t.2.2, 1, .inr (.inl g9)))])) (fun _ => ⟨⟨by decide, rfl⟩, ⟨by decide, rfl⟩, rfl, rfl⟩) (fun _ => (wR t a S ++ [(o9, .inl (t.2.2, 1, .inr (.inl g9)))])) (fun _ => ⟨⟨by decide, rfl⟩, ⟨by decide, rfl⟩, rfl, rfl⟩) 0 3 rfl rfl (by decide) rfl rfl rfl (Nat.le_of_ble_eq_true rfl) dL_isRing_4 (fun C u hx => ?_) (fun r u hu => ?_)
  ·
    have hx9 := hx
    have hC : C = eI := hx.1
    subst hC
    refine z_catch X [] ⟨0, 16, 19, 13⟩ [] (hT.trans rfl) (fun z hz => absurd hz List.not_mem_nil) rfl (by decide) q_cl_L_13 (V.cast X zc_I) (fun q => ?_)
    refine z_astore_n X dL_isRing_19 rfl (Nat.le_of_ble_eq_true rfl) ?_
    refine z_lv (lv' := [some (.ref (a 0)), some (.int v), some (.ref o9), some (.ref q)]) rfl ?_
    refine z_iconst (v := nI 1) X dL_isRing_20 (by decide) ?_
    refine z_iret X Z rfl dL_isRing_21 ?_
    exact ⟨(((fun _ : Unit => S) u), g9), Or.inr ⟨eI, u, hx9, rfl, rfl, rfl⟩, fun q hq => hq⟩
  ·
    have hb : r = nI 1 ∨ r = nI 0 := by first | exact hu.2.2.elim (fun q => Or.inl q.1) (fun q => Or.inr q.1) | exact hu.1.elim (fun q => Or.inl q.1) (fun q => Or.inr q.1)
    rcases hb with rfl | rfl
    ·
      refine n_if_eq (tgt := 14) X dL_isRing_7 (by decide) (by decide) (fun c => absurd c (by decide)) (fun _ => ?_)
      refine z_lconst (v := (nI 1).toInt64) X dL_isRing_10 (by decide) ?_
      refine z_goto (tgt := 15) X dL_isRing_11 (by decide) ?_
      refine z_last X Y (f := g9) 24 rfl rfl (by unfold vp_in; decide) dL_isRing_15 ?_
      refine Wz.eq (ws' := (wR t a ((fun _ : Nat => S) u) ++ [(o9, .inl (t.2.2, 1, .inr (.inl (vp_updL g9 0 ((nI 1).toInt64)))))])) rfl ?_
      refine z_goto (tgt := 22) X dL_isRing_16 (by decide) ?_
      refine z_iconst (v := nI 0) X dL_isRing_22 (by decide) ?_
      refine z_iret X Z rfl dL_isRing_23 ?_
      exact ⟨(((fun _ : Nat => S) u), vp_updL g9 0 ((nI 1).toInt64)), Or.inl ⟨rfl, _, u, hu, rfl, rfl⟩, fun q hq => hq⟩
    ·
      refine n_if_eq (tgt := 14) X dL_isRing_7 (by decide) (by decide) (fun _ => ?_) (fun c => absurd rfl c)
      refine z_lconst (v := (nI 0).toInt64) X dL_isRing_14 (by decide) ?_
      refine z_last X Y (f := g9) 24 rfl rfl (by unfold vp_in; decide) dL_isRing_15 ?_
      refine Wz.eq (ws' := (wR t a ((fun _ : Nat => S) u) ++ [(o9, .inl (t.2.2, 1, .inr (.inl (vp_updL g9 0 ((nI 0).toInt64)))))])) rfl ?_
      refine z_goto (tgt := 22) X dL_isRing_16 (by decide) ?_
      refine z_iconst (v := nI 0) X dL_isRing_22 (by decide) ?_
      refine z_iret X Z rfl dL_isRing_23 ?_
      exact ⟨(((fun _ : Nat => S) u), vp_updL g9 0 ((nI 0).toInt64)), Or.inl ⟨rfl, _, u, hu, rfl, rfl⟩, fun q hq => hq⟩
set_option maxHeartbeats 2000000 in
set_option maxRecDepth 100000 in
theorem c_L_isLawfulByOrders (l : Launch) (hfl : l.stackTraces = false) (D : va_G) (t : ClassId × ClassId × ClassId) (sz : Nat) (a : Nat → Nat) (S : zS) (Xn Yn Zn G : Nat) (h15 : S 15 = l3 Xn Yn Zn) (h18 : S 18 0 = nI G) (hG : G < 256) (hX : Xn + Yn + Zn ≤ 8) (hI : zI S) (h17 : S 17 0 = nI (Xn + Yn + Zn)) (x y z s : Nat) (e : Nat → Int32) (o9 : Nat) (g9 : Nat → Int64) : zM7 l yL_isLawfulByOrders cL_isLawfulByOrders 3 [(0, 15, 18, 33)] 24 D t [.ref (a 0), .ref o9] ((wR t a (T3 S x y z s e) ++ [(o9, .inl (t.2.2, 1, .inr (.inl g9)))])) sz (fun k (w9 : zS × (Nat → Int64)) => (k = nI 0 ∧ ∃ (r : Int32) (u : Unit), (fun r (_ : Unit) => bz r (Rc S Xn Yn Zn G 0 0 0 0) ∧ Xn + Yn + Zn + p8 G ≤ 8) r u ∧ w9.1 = (fun _ : Unit => (T3 S 0 0 0 0 e)) u ∧ w9.2 = vp_updL g9 0 r.toInt64) ∨ ∃ (C : String) (u : Unit), (fun E (_ : Unit) => E = eS ∧ 8 < Xn + Yn + Zn + p8 G) C u ∧ k = (fun C : String => nI 1) C ∧ w9.1 = (fun _ : Unit => (T3 S x y z s e)) u ∧ w9.2 = g9) (fun w9 => wR t a w9.1 ++ [(o9, .inl (t.2.2, 1, .inr (.inl w9.2)))]) := by
  refine z_m7 (by decide +kernel) (Nat.le_of_ble_eq_true rfl) (by simp [Value.category]) ?_
  intro E X Z V hT Y
  refine z_lv (lv' := [some (.ref (a 0)), some (.ref o9), none]) rfl ?_
  refine z_aload_n X dL_isLawfulByOrders_0 rfl rfl ?_
  refine z_iconst (v := nI 0) X dL_isLawfulByOrders_1 (by decide) ?_
  refine z_aload_n X dL_isLawfulByOrders_2 rfl rfl ?_
  refine z_tryi X Y rfl V (fun sz => c_X3_isLawfulByOrders l hfl D t sz a S Xn Yn Zn G h15 h18 hG hX hI h17 x y z s e) k_X3_isLawfulByOrders q_ml_L_62 is24 ⟨by decide, rfl⟩ (fun _ => (wR t a (T3 S 0 0 0 0 e) ++ [(o9, .inl (t.2.2, 1, .inr (.inl g9)))])) (fun _ => ⟨⟨by decide, rfl⟩, ⟨by decide, rfl⟩, rfl, rfl⟩) (fun _ => (wR t a (T3 S x y z s e) ++ [(o9, .inl (t.2.2, 1, .inr (.inl g9)))])) (fun _ => ⟨⟨by decide, rfl⟩, ⟨by decide, rfl⟩, rfl, rfl⟩) 0 3 rfl rfl (by decide) rfl rfl rfl (Nat.le_of_ble_eq_true rfl) dL_isLawfulByOrders_3 (fun C u hx => ?_) (fun r u hu => ?_)
  ·
    have hx9 := hx
    have hC : C = eS := hx.1
    subst hC
    refine z_catch X [] ⟨0, 15, 18, 33⟩ [] (hT.trans rfl) (fun z hz => absurd hz List.not_mem_nil) rfl (by decide) q_cl_L_33 (V.cast X zc_S) (fun q => ?_)
    refine z_astore_n X dL_isLawfulByOrders_18 rfl (Nat.le_of_ble_eq_true rfl) ?_
    refine z_lv (lv' := [some (.ref (a 0)), some (.ref o9), some (.ref q)]) rfl ?_
    refine z_iconst (v := nI 1) X dL_isLawfulByOrders_19 (by decide) ?_
    refine z_iret X Z rfl dL_isLawfulByOrders_20 ?_
    exact ⟨(((fun _ : Unit => (T3 S x y z s e)) u), g9), Or.inr ⟨eS, u, hx9, rfl, rfl, rfl⟩, fun q hq => hq⟩
  ·
    have hb : r = nI 1 ∨ r = nI 0 := by first | exact hu.2.2.elim (fun q => Or.inl q.1) (fun q => Or.inr q.1) | exact hu.1.elim (fun q => Or.inl q.1) (fun q => Or.inr q.1)
    rcases hb with rfl | rfl
    ·
      refine n_if_eq (tgt := 13) X dL_isLawfulByOrders_6 (by decide) (by decide) (fun c => absurd c (by decide)) (fun _ => ?_)
      refine z_lconst (v := (nI 1).toInt64) X dL_isLawfulByOrders_9 (by decide) ?_
      refine z_goto (tgt := 14) X dL_isLawfulByOrders_10 (by decide) ?_
      refine z_last X Y (f := g9) 24 rfl rfl (by unfold vp_in; decide) dL_isLawfulByOrders_14 ?_
      refine Wz.eq (ws' := (wR t a ((fun _ : Unit => (T3 S 0 0 0 0 e)) u) ++ [(o9, .inl (t.2.2, 1, .inr (.inl (vp_updL g9 0 ((nI 1).toInt64)))))])) rfl ?_
      refine z_goto (tgt := 21) X dL_isLawfulByOrders_15 (by decide) ?_
      refine z_iconst (v := nI 0) X dL_isLawfulByOrders_21 (by decide) ?_
      refine z_iret X Z rfl dL_isLawfulByOrders_22 ?_
      exact ⟨(((fun _ : Unit => (T3 S 0 0 0 0 e)) u), vp_updL g9 0 ((nI 1).toInt64)), Or.inl ⟨rfl, _, u, hu, rfl, rfl⟩, fun q hq => hq⟩
    ·
      refine n_if_eq (tgt := 13) X dL_isLawfulByOrders_6 (by decide) (by decide) (fun _ => ?_) (fun c => absurd rfl c)
      refine z_lconst (v := (nI 0).toInt64) X dL_isLawfulByOrders_13 (by decide) ?_
      refine z_last X Y (f := g9) 24 rfl rfl (by unfold vp_in; decide) dL_isLawfulByOrders_14 ?_
      refine Wz.eq (ws' := (wR t a ((fun _ : Unit => (T3 S 0 0 0 0 e)) u) ++ [(o9, .inl (t.2.2, 1, .inr (.inl (vp_updL g9 0 ((nI 0).toInt64)))))])) rfl ?_
      refine z_goto (tgt := 21) X dL_isLawfulByOrders_15 (by decide) ?_
      refine z_iconst (v := nI 0) X dL_isLawfulByOrders_21 (by decide) ?_
      refine z_iret X Z rfl dL_isLawfulByOrders_22 ?_
      exact ⟨(((fun _ : Unit => (T3 S 0 0 0 0 e)) u), vp_updL g9 0 ((nI 0).toInt64)), Or.inl ⟨rfl, _, u, hu, rfl, rfl⟩, fun q hq => hq⟩
set_option maxHeartbeats 2000000 in
set_option maxRecDepth 100000 in
theorem c_L_stepAt (l : Launch) (hfl : l.stackTraces = false) (D : va_G) (t : ClassId × ClassId × ClassId) (sz : Nat) (a : Nat → Nat) (S : zS) (Xn Yn Zn G : Nat) (h15 : S 15 = l3 Xn Yn Zn) (h18 : S 18 0 = nI G) (hG : G < 256) (hX : Xn + Yn + Zn ≤ 8) (hI : zI S) (h17 : S 17 0 = nI (Xn + Yn + Zn)) (x y z s : Nat) (e : Nat → Int32) (v : Int32) (o9 : Nat) (g9 : Nat → Int64) : zM7 l yL_stepAt cL_stepAt 4 [(0, 9, 12, 13), (0, 9, 15, 33)] 24 D t [.ref (a 0), .int v, .ref o9] ((wR t a (T3 S x y z s e) ++ [(o9, .inl (t.2.2, 1, .inr (.inl g9)))])) sz (fun k (w9 : zS × (Nat → Int64)) => (k = nI 0 ∧ ∃ (r : Int32) (u : Nat × Nat × Nat × Nat × (Nat → Int32)), (fun r (u : Nat × Nat × Nat × Nat × (Nat → Int32)) => ∃ w, w < 2 ^ 31 ∧ v = nI w ∧ Rc S Xn Yn Zn G 0 0 0 0 ∧ ((Xn + Yn + Zn + p8 G ≤ w ∧ r = -1) ∨ (w < Xn + Yn + Zn + p8 G ∧ ∃ c k, pth S Xn Yn Zn G w c ∧ lead S Xn Yn Zn G c k ∧ r = nI (cnv k)))) r u ∧ w9.1 = (fun u : Nat × Nat × Nat × Nat × (Nat → Int32) => (T3 S u.1 u.2.1 u.2.2.1 u.2.2.2.1 u.2.2.2.2)) u ∧ w9.2 = vp_updL g9 0 r.toInt64) ∨ ∃ (C : String) (u : Nat × Nat × Nat × Nat × (Nat → Int32)), (fun E (u : Nat × Nat × Nat × Nat × (Nat → Int32)) => (E = eI ∧ v < 0) ∨ (E = eS ∧ ¬ v < 0 ∧ ¬ Rc S Xn Yn Zn G 0 0 0 0)) C u ∧ k = (fun C : String => if C = eI then nI 1 else nI 2) C ∧ w9.1 = (fun u : Nat × Nat × Nat × Nat × (Nat → Int32) => (T3 S u.1 u.2.1 u.2.2.1 u.2.2.2.1 u.2.2.2.2)) u ∧ w9.2 = g9) (fun w9 => wR t a w9.1 ++ [(o9, .inl (t.2.2, 1, .inr (.inl w9.2)))]) := by
  refine z_m7 (by decide +kernel) (Nat.le_of_ble_eq_true rfl) (by simp [Value.category]) ?_
  intro E X Z V hT Y
  refine z_lv (lv' := [some (.ref (a 0)), some (.int v), some (.ref o9), none]) rfl ?_
  refine z_aload_n X dL_stepAt_0 rfl rfl ?_
  refine z_iconst (v := nI 0) X dL_stepAt_1 (by decide) ?_
  refine z_aload_n X dL_stepAt_2 rfl rfl ?_
  refine z_iload_n X dL_stepAt_3 rfl rfl ?_
  refine z_tryi X Y rfl V (fun sz => c_X3_stepAt l hfl D t sz a S Xn Yn Zn G h15 h18 hG hX hI h17 x y z s e v) k_X3_stepAt q_ml_L_66 is24 ⟨by decide, rfl⟩ (fun u => (wR t a (T3 S u.1 u.2.1 u.2.2.1 u.2.2.2.1 u.2.2.2.2) ++ [(o9, .inl (t.2.2, 1, .inr (.inl g9)))])) (fun _ => ⟨⟨by decide, rfl⟩, ⟨by decide, rfl⟩, rfl, rfl⟩) (fun u => (wR t a (T3 S u.1 u.2.1 u.2.2.1 u.2.2.2.1 u.2.2.2.2) ++ [(o9, .inl (t.2.2, 1, .inr (.inl g9)))])) (fun _ => ⟨⟨by decide, rfl⟩, ⟨by decide, rfl⟩, rfl, rfl⟩) 0 3 rfl rfl (by decide) rfl rfl rfl (Nat.le_of_ble_eq_true rfl) dL_stepAt_4 (fun C u hx => ?_) (fun r u hu => ?_)
  ·
    have hx9 := hx
    rcases hx with ⟨rfl, _⟩ | ⟨rfl, _⟩
    ·
      refine z_catch X [] ⟨0, 9, 12, 13⟩ [⟨0, 9, 15, 33⟩] (hT.trans rfl) (fun z hz => absurd hz List.not_mem_nil) rfl (by decide) q_cl_L_13 (V.cast X zc_I) (fun q => ?_)
      refine z_astore_n X dL_stepAt_12 rfl (Nat.le_of_ble_eq_true rfl) ?_
      refine z_lv (lv' := [some (.ref (a 0)), some (.int v), some (.ref o9), some (.ref q)]) rfl ?_
      refine z_iconst (v := nI 1) X dL_stepAt_13 (by decide) ?_
      refine z_iret X Z rfl dL_stepAt_14 ?_
      exact ⟨(((fun u : Nat × Nat × Nat × Nat × (Nat → Int32) => (T3 S u.1 u.2.1 u.2.2.1 u.2.2.2.1 u.2.2.2.2)) u), g9), Or.inr ⟨eI, u, hx9, (by show _ = ite _ _ _; first | rfl | decide), rfl, rfl⟩, fun q hq => hq⟩
    ·
      refine z_catch X [⟨0, 9, 12, 13⟩] ⟨0, 9, 15, 33⟩ [] (hT.trans rfl) (fun z hz => by rw [List.mem_singleton.mp hz]; exact Or.inr ⟨by decide, eI, q_cl_L_13, V.2.2.2.1 (eS, eI) (by decide)⟩) rfl (by decide) q_cl_L_33 (V.cast X zc_S) (fun q => ?_)
      refine z_astore_n X dL_stepAt_15 rfl (Nat.le_of_ble_eq_true rfl) ?_
      refine z_lv (lv' := [some (.ref (a 0)), some (.int v), some (.ref o9), some (.ref q)]) rfl ?_
      refine z_iconst (v := nI 2) X dL_stepAt_16 (by decide) ?_
      refine z_iret X Z rfl dL_stepAt_17 ?_
      exact ⟨(((fun u : Nat × Nat × Nat × Nat × (Nat → Int32) => (T3 S u.1 u.2.1 u.2.2.1 u.2.2.2.1 u.2.2.2.2)) u), g9), Or.inr ⟨eS, u, hx9, (by show _ = ite _ _ _; first | rfl | decide), rfl, rfl⟩, fun q hq => hq⟩
  ·
    refine z_i2l X dL_stepAt_7 ?_
    refine z_last X Y (f := g9) 24 rfl rfl (by unfold vp_in; decide) dL_stepAt_8 ?_
    refine Wz.eq (ws' := (wR t a ((fun u : Nat × Nat × Nat × Nat × (Nat → Int32) => (T3 S u.1 u.2.1 u.2.2.1 u.2.2.2.1 u.2.2.2.2)) u) ++ [(o9, .inl (t.2.2, 1, .inr (.inl (vp_updL g9 0 (r.toInt64)))))])) rfl ?_
    refine z_goto (tgt := 18) X dL_stepAt_9 (by decide) ?_
    refine z_iconst (v := nI 0) X dL_stepAt_18 (by decide) ?_
    refine z_iret X Z rfl dL_stepAt_19 ?_
    exact ⟨(((fun u : Nat × Nat × Nat × Nat × (Nat → Int32) => (T3 S u.1 u.2.1 u.2.2.1 u.2.2.2.1 u.2.2.2.2)) u), vp_updL g9 0 (r.toInt64)), Or.inl ⟨rfl, _, u, hu, rfl, rfl⟩, fun q hq => hq⟩
