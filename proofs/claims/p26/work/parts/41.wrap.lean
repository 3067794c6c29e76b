/-! the law's wrappers -/
def zcd (C : String) : Int32 := if C = eI then -1000001 else if C = eA then -1000002 else -1000003
theorem zcd_I : zcd eI = -1000001 := by decide +kernel
theorem zcd_A : zcd eA = -1000002 := by decide +kernel
theorem zcd_S : zcd eS = -1000003 := by decide +kernel
theorem z_ldci {E : zE} {k n pc : Nat} {lv : List (Option Value)} {st : List Value} {ws : va_W} {own : String} {cc : ByteArray} {nL : Nat} {rm : Room} {D : va_G} {t : ClassId × ClassId × ClassId} {l : Launch} (X : zX E own cc nL rm D t l) {i : Nat} {v : Int32} (hw : Cond.constant own i v ∈ zTs) (hd : decode cc pc = .ok (.ldc i, 2)) (kk : Wz E k n (pc + 2) lv (.int v :: st) ws) : Wz E k n pc lv st ws :=
  fun ls H locs hl hP hD hS => lv_ldc X.1 X.2.1 X.2.2.2.1 (X.2.2.2.2.2.2.1 _ hw) hd (kk ls H locs hl hP hD hS)
set_option maxHeartbeats 2000000 in
set_option maxRecDepth 100000 in
theorem c_L_loseLevel (l : Launch) (hfl : l.stackTraces = false) (D : va_G) (t : ClassId × ClassId × ClassId) (sz : Nat) (a : Nat → Nat) (S : zS) (m : Nat) (tk : Nat → Nat) (h17 : S 17 0 = nI m) (hm : m ≤ 8) (h16 : ∀ j, j < m → tk j < 3 ∧ S 16 j = nI (tk j)) : zM7 l yL_loseLevel cL_loseLevel 2 [(0, 4, 5, 38)] 24 D t [.ref (a 0)] (wR t a S) sz (fun k (w9 : zS) => (∃ (r : Int32) (u : Unit), (fun r (_ : Unit) => 0 < m ∧ r = nI (tk (m - 1))) r u ∧ k = r ∧ w9 = (fun _ : Unit => (va_up (va_up S 17 (fun _ => nI (m - 1))) 15 (upd (S 15) (tk (m - 1)) (S 15 (tk (m - 1)) + (-1))))) u) ∨ ∃ (C : String) (u : Unit), (fun E (_ : Unit) => E = eS ∧ m = 0) C u ∧ k = zcd C ∧ w9 = (fun _ : Unit => S) u) (fun w9 => wR t a w9) := by
  refine z_m7 (by decide +kernel) (Nat.le_of_ble_eq_true rfl) (by simp [Value.category]) ?_
  intro E X Z V hT Y
  refine z_lv (lv' := [some (.ref (a 0)), none]) rfl ?_
  refine z_aload_n X dL_loseLevel_0 rfl rfl ?_
  refine z_tryi X Y rfl V (fun sz => c_X3_loseLevel l hfl D t sz a S m tk h17 hm h16) k_X3_loseLevel q_ml_L_48 is24 ⟨by decide, rfl⟩ (fun _ => wR t a (va_up (va_up S 17 (fun _ => nI (m - 1))) 15 (upd (S 15) (tk (m - 1)) (S 15 (tk (m - 1)) + (-1))))) (fun _ => ⟨⟨by decide, rfl⟩, ⟨by decide, rfl⟩, rfl, rfl⟩) (fun _ => wR t a S) (fun _ => ⟨⟨by decide, rfl⟩, ⟨by decide, rfl⟩, rfl, rfl⟩) 0 3 rfl rfl (by decide) rfl rfl rfl (Nat.le_of_ble_eq_true rfl) dL_loseLevel_1 (fun C u hx => ?_) (fun r u hu => ?_)
  ·
    have hx9 := hx
    have hC : C = eS := hx.1
    subst hC
    refine z_catch X [] ⟨0, 4, 5, 38⟩ [] (hT.trans rfl) (fun z hz => absurd hz List.not_mem_nil) rfl (by decide) q_cl_L_38 (V.cast X zc_S) (fun q => ?_)
    refine z_astore_n X dL_loseLevel_5 rfl (Nat.le_of_ble_eq_true rfl) ?_
    refine z_lv (lv' := [some (.ref (a 0)), some (.ref q)]) rfl ?_
    refine z_ldci X q_k_L_40 dL_loseLevel_6 ?_
    refine z_iret X Z rfl dL_loseLevel_8 ?_
    exact ⟨((fun _ : Unit => S) u), Or.inr ⟨eS, u, hx9, zcd_S.symm, rfl⟩, fun q hq => hq⟩
  ·
    refine z_iret X Z rfl dL_loseLevel_4 ?_
    exact ⟨((fun _ : Unit => (va_up (va_up S 17 (fun _ => nI (m - 1))) 15 (upd (S 15) (tk (m - 1)) (S 15 (tk (m - 1)) + (-1))))) u), Or.inl ⟨_, u, hu, rfl, rfl⟩, fun q hq => hq⟩
set_option maxHeartbeats 2000000 in
set_option maxRecDepth 100000 in
theorem c_L_bonus (l : Launch) (hfl : l.stackTraces = false) (D : va_G) (t : ClassId × ClassId × ClassId) (sz : Nat) (a : Nat → Nat) (S : zS) (v kd : Int32) (G : Nat) (h18 : S 18 0 = nI G) (hG : G < 256) (hI : zI S) : zM7 l yL_bonus cL_bonus 4 [(0, 6, 7, 16), (0, 6, 11, 19)] 24 D t [.ref (a 0), .int v, .int kd] (wR t a S) sz (fun k (w9 : zS) => (∃ (r : Int32) (u : Unit), (fun r (_ : Unit) => am v 6 ∧ am kd 4 ∧ r = bn S (wk S (S 15) G) v kd) r u ∧ k = r ∧ w9 = (fun _ : Unit => S) u) ∨ ∃ (C : String) (u : Unit), (fun E (_ : Unit) => (E = eI ∧ ¬ am v 6) ∨ (E = eA ∧ am v 6 ∧ ¬ am kd 4)) C u ∧ k = zcd C ∧ w9 = (fun _ : Unit => S) u) (fun w9 => wR t a w9) := by
  refine z_m7 (by decide +kernel) (Nat.le_of_ble_eq_true rfl) (by simp [Value.category]) ?_
  intro E X Z V hT Y
  refine z_lv (lv' := [some (.ref (a 0)), some (.int v), some (.int kd), none]) rfl ?_
  refine z_aload_n X dL_bonus_0 rfl rfl ?_
  refine z_iload_n X dL_bonus_1 rfl rfl ?_
  refine z_iload_n X dL_bonus_2 rfl rfl ?_
  refine z_tryi X Y rfl V (fun sz => c_X3_bonus l hfl D t sz a S v kd G h18 hG hI) k_X3_bonus q_ml_L_61 is24 ⟨by decide, rfl⟩ (fun _ => wR t a S) (fun _ => ⟨⟨by decide, rfl⟩, ⟨by decide, rfl⟩, rfl, rfl⟩) (fun _ => wR t a S) (fun _ => ⟨⟨by decide, rfl⟩, ⟨by decide, rfl⟩, rfl, rfl⟩) 0 3 rfl rfl (by decide) rfl rfl rfl (Nat.le_of_ble_eq_true rfl) dL_bonus_3 (fun C u hx => ?_) (fun r u hu => ?_)
  ·
    have hx9 := hx
    rcases hx with ⟨rfl, _⟩ | ⟨rfl, _⟩
    ·
      refine z_catch X [] ⟨0, 6, 7, 16⟩ [⟨0, 6, 11, 19⟩] (hT.trans rfl) (fun z hz => absurd hz List.not_mem_nil) rfl (by decide) q_cl_L_16 (V.cast X zc_I) (fun q => ?_)
      refine z_astore_n X dL_bonus_7 rfl (Nat.le_of_ble_eq_true rfl) ?_
      refine z_lv (lv' := [some (.ref (a 0)), some (.int v), some (.int kd), some (.ref q)]) rfl ?_
      refine z_ldci X q_k_L_18 dL_bonus_8 ?_
      refine z_iret X Z rfl dL_bonus_10 ?_
      exact ⟨((fun _ : Unit => S) u), Or.inr ⟨eI, u, hx9, zcd_I.symm, rfl⟩, fun q hq => hq⟩
    ·
      refine z_catch X [⟨0, 6, 7, 16⟩] ⟨0, 6, 11, 19⟩ [] (hT.trans rfl) (fun z hz => by rw [List.mem_singleton.mp hz]; exact Or.inr ⟨by decide, eI, q_cl_L_16, V.2.2.2.1 (eA, eI) (by decide)⟩) rfl (by decide) q_cl_L_19 (V.cast X zc_A) (fun q => ?_)
      refine z_astore_n X dL_bonus_11 rfl (Nat.le_of_ble_eq_true rfl) ?_
      refine z_lv (lv' := [some (.ref (a 0)), some (.int v), some (.int kd), some (.ref q)]) rfl ?_
      refine z_ldci X q_k_L_21 dL_bonus_12 ?_
      refine z_iret X Z rfl dL_bonus_14 ?_
      exact ⟨((fun _ : Unit => S) u), Or.inr ⟨eA, u, hx9, zcd_A.symm, rfl⟩, fun q hq => hq⟩
  ·
    refine z_iret X Z rfl dL_bonus_6 ?_
    exact ⟨((fun _ : Unit => S) u), Or.inl ⟨_, u, hu, rfl, rfl⟩, fun q hq => hq⟩
set_option maxHeartbeats 2000000 in
set_option maxRecDepth 100000 in
theorem c_L_level (l : Launch) (hfl : l.stackTraces = false) (D : va_G) (t : ClassId × ClassId × ClassId) (sz : Nat) (a : Nat → Nat) (S : zS) (c : Int32) : zM7 l yL_level cL_level 3 [(0, 5, 6, 16)] 24 D t [.ref (a 0), .int c] (wR t a S) sz (fun k (w9 : zS) => (∃ (r : Int32) (u : Nat), (fun r (u : Nat) => u < 3 ∧ c = nI u ∧ r = S 15 u) r u ∧ k = r ∧ w9 = (fun _ : Nat => S) u) ∨ ∃ (C : String) (u : Unit), (fun E (_ : Unit) => E = eI ∧ ¬ am c 3) C u ∧ k = zcd C ∧ w9 = (fun _ : Unit => S) u) (fun w9 => wR t a w9) := by
  refine z_m7 (by decide +kernel) (Nat.le_of_ble_eq_true rfl) (by simp [Value.category]) ?_
  intro E X Z V hT Y
  refine z_lv (lv' := [some (.ref (a 0)), some (.int c), none]) rfl ?_
  refine z_aload_n X dL_level_0 rfl rfl ?_
  refine z_iload_n X dL_level_1 rfl rfl ?_
  refine z_tryi X Y rfl V (fun sz => c_X3_level l hfl D t sz a S c) k_X3_level q_ml_L_55 is24 ⟨by decide, rfl⟩ (fun _ => wR t a S) (fun _ => ⟨⟨by decide, rfl⟩, ⟨by decide, rfl⟩, rfl, rfl⟩) (fun _ => wR t a S) (fun _ => ⟨⟨by decide, rfl⟩, ⟨by decide, rfl⟩, rfl, rfl⟩) 0 3 rfl rfl (by decide) rfl rfl rfl (Nat.le_of_ble_eq_true rfl) dL_level_2 (fun C u hx => ?_) (fun r u hu => ?_)
  ·
    have hx9 := hx
    have hC : C = eI := hx.1
    subst hC
    refine z_catch X [] ⟨0, 5, 6, 16⟩ [] (hT.trans rfl) (fun z hz => absurd hz List.not_mem_nil) rfl (by decide) q_cl_L_16 (V.cast X zc_I) (fun q => ?_)
    refine z_astore_n X dL_level_6 rfl (Nat.le_of_ble_eq_true rfl) ?_
    refine z_lv (lv' := [some (.ref (a 0)), some (.int c), some (.ref q)]) rfl ?_
    refine z_ldci X q_k_L_18 dL_level_7 ?_
    refine z_iret X Z rfl dL_level_9 ?_
    exact ⟨((fun _ : Unit => S) u), Or.inr ⟨eI, u, hx9, zcd_I.symm, rfl⟩, fun q hq => hq⟩
  ·
    refine z_iret X Z rfl dL_level_5 ?_
    exact ⟨((fun _ : Nat => S) u), Or.inl ⟨_, u, hu, rfl, rfl⟩, fun q hq => hq⟩
set_option maxHeartbeats 2000000 in
set_option maxRecDepth 100000 in
theorem c_L_isRing (l : Launch) (hfl : l.stackTraces = false) (D : va_G) (t : ClassId × ClassId × ClassId) (sz : Nat) (a : Nat → Nat) (S : zS) (v : Int32) (hI : zI S) : zM7 l yL_isRing cL_isRing 3 [(0, 13, 14, 16)] 24 D t [.ref (a 0), .int v] (wR t a S) sz (fun k (w9 : zS) => (∃ (r : Int32) (u : Nat), (fun r (u : Nat) => u < 6 ∧ v = nI u ∧ bz r (¬ ch S (nI u) 6 = -1)) r u ∧ k = r ∧ w9 = (fun _ : Nat => S) u) ∨ ∃ (C : String) (u : Unit), (fun E (_ : Unit) => E = eI ∧ ¬ am v 6) C u ∧ k = zcd C ∧ w9 = (fun _ : Unit => S) u) (fun w9 => wR t a w9) := by
  refine z_m7 (by decide +kernel) (Nat.le_of_ble_eq_true rfl) (by simp [Value.category]) ?_
  intro E X Z V hT Y
  refine z_lv (lv' := [some (.ref (a 0)), some (.int v), none]) rfl ?_
  refine z_aload_n X dL_isRing_0 rfl rfl ?_
  refine z_iload_n X dL_isRing_1 rfl rfl ?_
  refine z_tryi X Y rfl V (fun sz => c_X3_isRing l hfl D t sz a S v hI) k_X3_isRing q_ml_L_64 is24 ⟨by decide, rfl⟩ (fun _ => wR t a S) (fun _ => ⟨⟨by decide, rfl⟩, ⟨by decide, rfl⟩, rfl, rfl⟩) (fun _ => wR t a S) (fun _ => ⟨⟨by decide, rfl⟩, ⟨by decide, rfl⟩, rfl, rfl⟩) 0 3 rfl rfl (by decide) rfl rfl rfl (Nat.le_of_ble_eq_true rfl) dL_isRing_2 (fun C u hx => ?_) (fun r u hu => ?_)
  ·
    have hx9 := hx
    have hC : C = eI := hx.1
    subst hC
    refine z_catch X [] ⟨0, 13, 14, 16⟩ [] (hT.trans rfl) (fun z hz => absurd hz List.not_mem_nil) rfl (by decide) q_cl_L_16 (V.cast X zc_I) (fun q => ?_)
    refine z_astore_n X dL_isRing_14 rfl (Nat.le_of_ble_eq_true rfl) ?_
    refine z_lv (lv' := [some (.ref (a 0)), some (.int v), some (.ref q)]) rfl ?_
    refine z_ldci X q_k_L_18 dL_isRing_15 ?_
    refine z_iret X Z rfl dL_isRing_17 ?_
    exact ⟨((fun _ : Unit => S) u), Or.inr ⟨eI, u, hx9, zcd_I.symm, rfl⟩, fun q hq => hq⟩
  ·
    have hb : r = nI 1 ∨ r = nI 0 := by first | exact hu.2.2.elim (fun q => Or.inl q.1) (fun q => Or.inr q.1) | exact hu.1.elim (fun q => Or.inl q.1) (fun q => Or.inr q.1)
    rcases hb with rfl | rfl
    ·
      refine n_if_eq (tgt := 12) X dL_isRing_5 (by decide) (by decide) (fun c => absurd c (by decide)) (fun _ => ?_)
      refine z_iconst (v := nI 1) X dL_isRing_8 (by decide) ?_
      refine z_goto (tgt := 13) X dL_isRing_9 (by decide) ?_
      refine z_iret X Z rfl dL_isRing_13 ?_
      exact ⟨((fun _ : Nat => S) u), Or.inl ⟨_, u, hu, rfl, rfl⟩, fun q hq => hq⟩
    ·
      refine n_if_eq (tgt := 12) X dL_isRing_5 (by decide) (by decide) (fun _ => ?_) (fun c => absurd rfl c)
      refine z_iconst (v := nI 0) X dL_isRing_12 (by decide) ?_
      refine z_iret X Z rfl dL_isRing_13 ?_
      exact ⟨((fun _ : Nat => S) u), Or.inl ⟨_, u, hu, rfl, rfl⟩, fun q hq => hq⟩
set_option maxHeartbeats 2000000 in
set_option maxRecDepth 100000 in
theorem c_L_value (l : Launch) (hfl : l.stackTraces = false) (D : va_G) (t : ClassId × ClassId × ClassId) (sz : Nat) (a : Nat → Nat) (S : zS) (v : Int32) (G : Nat) (h18 : S 18 0 = nI G) (hG : G < 256) (hI : zI S) : zM7 l yL_value cL_value 3 [(0, 5, 6, 16), (0, 5, 10, 38)] 24 D t [.ref (a 0), .int v] (wR t a S) sz (fun k (w9 : zS) => (∃ (r : Int32) (u : Nat), (fun r (u : Nat) => u < 6 ∧ v = nI u ∧ ch S (nI u) 6 = -1 ∧ r = vl S (S 15) (wk S (S 15) G) 6 (nI u)) r u ∧ k = r ∧ w9 = (fun _ : Nat => S) u) ∨ ∃ (C : String) (u : Unit), (fun E (_ : Unit) => (E = eI ∧ ¬ am v 6) ∨ (E = eS ∧ ∃ k, k < 6 ∧ v = nI k ∧ ¬ ch S (nI k) 6 = -1)) C u ∧ k = zcd C ∧ w9 = (fun _ : Unit => S) u) (fun w9 => wR t a w9) := by
  refine z_m7 (by decide +kernel) (Nat.le_of_ble_eq_true rfl) (by simp [Value.category]) ?_
  intro E X Z V hT Y
  refine z_lv (lv' := [some (.ref (a 0)), some (.int v), none]) rfl ?_
  refine z_aload_n X dL_value_0 rfl rfl ?_
  refine z_iload_n X dL_value_1 rfl rfl ?_
  refine z_tryi X Y rfl V (fun sz => c_X3_value l hfl D t sz a S v G h18 hG hI) k_X3_value q_ml_L_58 is24 ⟨by decide, rfl⟩ (fun _ => wR t a S) (fun _ => ⟨⟨by decide, rfl⟩, ⟨by decide, rfl⟩, rfl, rfl⟩) (fun _ => wR t a S) (fun _ => ⟨⟨by decide, rfl⟩, ⟨by decide, rfl⟩, rfl, rfl⟩) 0 3 rfl rfl (by decide) rfl rfl rfl (Nat.le_of_ble_eq_true rfl) dL_value_2 (fun C u hx => ?_) (fun r u hu => ?_)
  ·
    have hx9 := hx
    rcases hx with ⟨rfl, _⟩ | ⟨rfl, _⟩
    ·
      refine z_catch X [] ⟨0, 5, 6, 16⟩ [⟨0, 5, 10, 38⟩] (hT.trans rfl) (fun z hz => absurd hz List.not_mem_nil) rfl (by decide) q_cl_L_16 (V.cast X zc_I) (fun q => ?_)
      refine z_astore_n X dL_value_6 rfl (Nat.le_of_ble_eq_true rfl) ?_
      refine z_lv (lv' := [some (.ref (a 0)), some (.int v), some (.ref q)]) rfl ?_
      refine z_ldci X q_k_L_18 dL_value_7 ?_
      refine z_iret X Z rfl dL_value_9 ?_
      exact ⟨((fun _ : Unit => S) u), Or.inr ⟨eI, u, hx9, zcd_I.symm, rfl⟩, fun q hq => hq⟩
    ·
      refine z_catch X [⟨0, 5, 6, 16⟩] ⟨0, 5, 10, 38⟩ [] (hT.trans rfl) (fun z hz => by rw [List.mem_singleton.mp hz]; exact Or.inr ⟨by decide, eI, q_cl_L_16, V.2.2.2.1 (eS, eI) (by decide)⟩) rfl (by decide) q_cl_L_38 (V.cast X zc_S) (fun q => ?_)
      refine z_astore_n X dL_value_10 rfl (Nat.le_of_ble_eq_true rfl) ?_
      refine z_lv (lv' := [some (.ref (a 0)), some (.int v), some (.ref q)]) rfl ?_
      refine z_ldci X q_k_L_40 dL_value_11 ?_
      refine z_iret X Z rfl dL_value_13 ?_
      exact ⟨((fun _ : Unit => S) u), Or.inr ⟨eS, u, hx9, zcd_S.symm, rfl⟩, fun q hq => hq⟩
  ·
    refine z_iret X Z rfl dL_value_5 ?_
    exact ⟨((fun _ : Nat => S) u), Or.inl ⟨_, u, hu, rfl, rfl⟩, fun q hq => hq⟩
set_option maxHeartbeats 2000000 in
set_option maxRecDepth 100000 in
theorem c_L_byOrders (l : Launch) (hfl : l.stackTraces = false) (D : va_G) (t : ClassId × ClassId × ClassId) (sz : Nat) (a : Nat → Nat) (S : zS) (Xn Yn Zn G : Nat) (h15 : S 15 = l3 Xn Yn Zn) (h18 : S 18 0 = nI G) (hG : G < 256) (hX : Xn + Yn + Zn ≤ 8) (hI : zI S) (h17 : S 17 0 = nI (Xn + Yn + Zn)) (x y z s : Nat) (e : Nat → Int32) : zM7 l yL_byOrders cL_byOrders 2 [(0, 12, 13, 38)] 24 D t [.ref (a 0)] (wR t a (T3 S x y z s e)) sz (fun k (w9 : zS) => (∃ (r : Int32) (u : Unit), (fun r (_ : Unit) => bz r (Rc S Xn Yn Zn G 0 0 0 0) ∧ Xn + Yn + Zn + p8 G ≤ 8) r u ∧ k = r ∧ w9 = (fun _ : Unit => (T3 S 0 0 0 0 e)) u) ∨ ∃ (C : String) (u : Unit), (fun E (_ : Unit) => E = eS ∧ 8 < Xn + Yn + Zn + p8 G) C u ∧ k = zcd C ∧ w9 = (fun _ : Unit => (T3 S x y z s e)) u) (fun w9 => wR t a w9) := by
  refine z_m7 (by decide +kernel) (Nat.le_of_ble_eq_true rfl) (by simp [Value.category]) ?_
  intro E X Z V hT Y
  refine z_lv (lv' := [some (.ref (a 0)), none]) rfl ?_
  refine z_aload_n X dL_byOrders_0 rfl rfl ?_
  refine z_tryi X Y rfl V (fun sz => c_X3_isLawfulByOrders l hfl D t sz a S Xn Yn Zn G h15 h18 hG hX hI h17 x y z s e) k_X3_isLawfulByOrders q_ml_L_68 is24 ⟨by decide, rfl⟩ (fun _ => wR t a (T3 S 0 0 0 0 e)) (fun _ => ⟨⟨by decide, rfl⟩, ⟨by decide, rfl⟩, rfl, rfl⟩) (fun _ => wR t a (T3 S x y z s e)) (fun _ => ⟨⟨by decide, rfl⟩, ⟨by decide, rfl⟩, rfl, rfl⟩) 0 3 rfl rfl (by decide) rfl rfl rfl (Nat.le_of_ble_eq_true rfl) dL_byOrders_1 (fun C u hx => ?_) (fun r u hu => ?_)
  ·
    have hx9 := hx
    have hC : C = eS := hx.1
    subst hC
    refine z_catch X [] ⟨0, 12, 13, 38⟩ [] (hT.trans rfl) (fun z hz => absurd hz List.not_mem_nil) rfl (by decide) q_cl_L_38 (V.cast X zc_S) (fun q => ?_)
    refine z_astore_n X dL_byOrders_13 rfl (Nat.le_of_ble_eq_true rfl) ?_
    refine z_lv (lv' := [some (.ref (a 0)), some (.ref q)]) rfl ?_
    refine z_ldci X q_k_L_40 dL_byOrders_14 ?_
    refine z_iret X Z rfl dL_byOrders_16 ?_
    exact ⟨((fun _ : Unit => (T3 S x y z s e)) u), Or.inr ⟨eS, u, hx9, zcd_S.symm, rfl⟩, fun q hq => hq⟩
  ·
    have hb : r = nI 1 ∨ r = nI 0 := by first | exact hu.2.2.elim (fun q => Or.inl q.1) (fun q => Or.inr q.1) | exact hu.1.elim (fun q => Or.inl q.1) (fun q => Or.inr q.1)
    rcases hb with rfl | rfl
    ·
      refine n_if_eq (tgt := 11) X dL_byOrders_4 (by decide) (by decide) (fun c => absurd c (by decide)) (fun _ => ?_)
      refine z_iconst (v := nI 1) X dL_byOrders_7 (by decide) ?_
      refine z_goto (tgt := 12) X dL_byOrders_8 (by decide) ?_
      refine z_iret X Z rfl dL_byOrders_12 ?_
      exact ⟨((fun _ : Unit => (T3 S 0 0 0 0 e)) u), Or.inl ⟨_, u, hu, rfl, rfl⟩, fun q hq => hq⟩
    ·
      refine n_if_eq (tgt := 11) X dL_byOrders_4 (by decide) (by decide) (fun _ => ?_) (fun c => absurd rfl c)
      refine z_iconst (v := nI 0) X dL_byOrders_11 (by decide) ?_
      refine z_iret X Z rfl dL_byOrders_12 ?_
      exact ⟨((fun _ : Unit => (T3 S 0 0 0 0 e)) u), Or.inl ⟨_, u, hu, rfl, rfl⟩, fun q hq => hq⟩
set_option maxHeartbeats 2000000 in
set_option maxRecDepth 100000 in
theorem c_L_stepAt (l : Launch) (hfl : l.stackTraces = false) (D : va_G) (t : ClassId × ClassId × ClassId) (sz : Nat) (a : Nat → Nat) (S : zS) (Xn Yn Zn G : Nat) (h15 : S 15 = l3 Xn Yn Zn) (h18 : S 18 0 = nI G) (hG : G < 256) (hX : Xn + Yn + Zn ≤ 8) (hI : zI S) (h17 : S 17 0 = nI (Xn + Yn + Zn)) (x y z s : Nat) (e : Nat → Int32) (v : Int32) : zM7 l yL_stepAt cL_stepAt 3 [(0, 5, 6, 16), (0, 5, 10, 38)] 24 D t [.ref (a 0), .int v] (wR t a (T3 S x y z s e)) sz (fun k (w9 : zS) => (∃ (r : Int32) (u : Nat × Nat × Nat × Nat × (Nat → Int32)), (fun r (u : Nat × Nat × Nat × Nat × (Nat → Int32)) => ∃ w, w < 2 ^ 31 ∧ v = nI w ∧ Rc S Xn Yn Zn G 0 0 0 0 ∧ ((Xn + Yn + Zn + p8 G ≤ w ∧ r = -1) ∨ (w < Xn + Yn + Zn + p8 G ∧ ∃ c k, pth S Xn Yn Zn G w c ∧ lead S Xn Yn Zn G c k ∧ r = nI (cnv k)))) r u ∧ k = r ∧ w9 = (fun u : Nat × Nat × Nat × Nat × (Nat → Int32) => (T3 S u.1 u.2.1 u.2.2.1 u.2.2.2.1 u.2.2.2.2)) u) ∨ ∃ (C : String) (u : Nat × Nat × Nat × Nat × (Nat → Int32)), (fun E (u : Nat × Nat × Nat × Nat × (Nat → Int32)) => (E = eI ∧ v < 0) ∨ (E = eS ∧ ¬ v < 0 ∧ ¬ Rc S Xn Yn Zn G 0 0 0 0)) C u ∧ k = zcd C ∧ w9 = (fun u : Nat × Nat × Nat × Nat × (Nat → Int32) => (T3 S u.1 u.2.1 u.2.2.1 u.2.2.2.1 u.2.2.2.2)) u) (fun w9 => wR t a w9) := by
  refine z_m7 (by decide +kernel) (Nat.le_of_ble_eq_true rfl) (by simp [Value.category]) ?_
  intro E X Z V hT Y
  refine z_lv (lv' := [some (.ref (a 0)), some (.int v), none]) rfl ?_
  refine z_aload_n X dL_stepAt_0 rfl rfl ?_
  refine z_iload_n X dL_stepAt_1 rfl rfl ?_
  refine z_tryi X Y rfl V (fun sz => c_X3_stepAt l hfl D t sz a S Xn Yn Zn G h15 h18 hG hX hI h17 x y z s e v) k_X3_stepAt q_ml_L_72 is24 ⟨by decide, rfl⟩ (fun u => wR t a (T3 S u.1 u.2.1 u.2.2.1 u.2.2.2.1 u.2.2.2.2)) (fun _ => ⟨⟨by decide, rfl⟩, ⟨by decide, rfl⟩, rfl, rfl⟩) (fun u => wR t a (T3 S u.1 u.2.1 u.2.2.1 u.2.2.2.1 u.2.2.2.2)) (fun _ => ⟨⟨by decide, rfl⟩, ⟨by decide, rfl⟩, rfl, rfl⟩) 0 3 rfl rfl (by decide) rfl rfl rfl (Nat.le_of_ble_eq_true rfl) dL_stepAt_2 (fun C u hx => ?_) (fun r u hu => ?_)
  ·
    have hx9 := hx
    rcases hx with ⟨rfl, _⟩ | ⟨rfl, _⟩
    ·
      refine z_catch X [] ⟨0, 5, 6, 16⟩ [⟨0, 5, 10, 38⟩] (hT.trans rfl) (fun z hz => absurd hz List.not_mem_nil) rfl (by decide) q_cl_L_16 (V.cast X zc_I) (fun q => ?_)
      refine z_astore_n X dL_stepAt_6 rfl (Nat.le_of_ble_eq_true rfl) ?_
      refine z_lv (lv' := [some (.ref (a 0)), some (.int v), some (.ref q)]) rfl ?_
      refine z_ldci X q_k_L_18 dL_stepAt_7 ?_
      refine z_iret X Z rfl dL_stepAt_9 ?_
      exact ⟨((fun u : Nat × Nat × Nat × Nat × (Nat → Int32) => (T3 S u.1 u.2.1 u.2.2.1 u.2.2.2.1 u.2.2.2.2)) u), Or.inr ⟨eI, u, hx9, zcd_I.symm, rfl⟩, fun q hq => hq⟩
    ·
      refine z_catch X [⟨0, 5, 6, 16⟩] ⟨0, 5, 10, 38⟩ [] (hT.trans rfl) (fun z hz => by rw [List.mem_singleton.mp hz]; exact Or.inr ⟨by decide, eI, q_cl_L_16, V.2.2.2.1 (eS, eI) (by decide)⟩) rfl (by decide) q_cl_L_38 (V.cast X zc_S) (fun q => ?_)
      refine z_astore_n X dL_stepAt_10 rfl (Nat.le_of_ble_eq_true rfl) ?_
      refine z_lv (lv' := [some (.ref (a 0)), some (.int v), some (.ref q)]) rfl ?_
      refine z_ldci X q_k_L_40 dL_stepAt_11 ?_
      refine z_iret X Z rfl dL_stepAt_13 ?_
      exact ⟨((fun u : Nat × Nat × Nat × Nat × (Nat → Int32) => (T3 S u.1 u.2.1 u.2.2.1 u.2.2.2.1 u.2.2.2.2)) u), Or.inr ⟨eS, u, hx9, zcd_S.symm, rfl⟩, fun q hq => hq⟩
  ·
    refine z_iret X Z rfl dL_stepAt_5 ?_
    exact ⟨((fun u : Nat × Nat × Nat × Nat × (Nat → Int32) => (T3 S u.1 u.2.1 u.2.2.1 u.2.2.2.1 u.2.2.2.2)) u), Or.inl ⟨_, u, hu, rfl, rfl⟩, fun q hq => hq⟩
set_option maxHeartbeats 2000000 in
set_option maxRecDepth 100000 in
theorem c_L_takeLevel (l : Launch) (hfl : l.stackTraces = false) (D : va_G) (t : ClassId × ClassId × ClassId) (sz : Nat) (a : Nat → Nat) (S : zS) (m : Nat) (c : Int32) (h17 : S 17 0 = nI m) (hm : m ≤ 8) : zM7 l yL_takeLevel cL_takeLevel 3 [(0, 5, 6, 16), (0, 5, 10, 38)] 24 D t [.ref (a 0), .int c] (wR t a S) sz (fun k (w9 : zS) => (∃ (r : Int32) (u : Nat), (fun r (u : Nat) => u < 3 ∧ c = nI u ∧ m < 8 ∧ r = nI (m + 1)) r u ∧ k = r ∧ w9 = (fun u : Nat => (va_up (va_up (va_up S 16 (upd (S 16) m (nI u))) 17 (fun _ => nI (m + 1))) 15 (upd (S 15) u (S 15 u + nI 1)))) u) ∨ ∃ (C : String) (u : Unit), (fun E (_ : Unit) => (E = eI ∧ ¬ am c 3) ∨ (E = eS ∧ am c 3 ∧ m = 8)) C u ∧ k = zcd C ∧ w9 = (fun _ : Unit => S) u) (fun w9 => wR t a w9) := by
  refine z_m7 (by decide +kernel) (Nat.le_of_ble_eq_true rfl) (by simp [Value.category]) ?_
  intro E X Z V hT Y
  refine z_lv (lv' := [some (.ref (a 0)), some (.int c), none]) rfl ?_
  refine z_aload_n X dL_takeLevel_0 rfl rfl ?_
  refine z_iload_n X dL_takeLevel_1 rfl rfl ?_
  refine z_tryi X Y rfl V (fun sz => c_X3_takeLevel l hfl D t sz a S m c h17 hm) k_X3_takeLevel q_ml_L_41 is24 ⟨by decide, rfl⟩ (fun u => wR t a (va_up (va_up (va_up S 16 (upd (S 16) m (nI u))) 17 (fun _ => nI (m + 1))) 15 (upd (S 15) u (S 15 u + nI 1)))) (fun _ => ⟨⟨by decide, rfl⟩, ⟨by decide, rfl⟩, rfl, rfl⟩) (fun _ => wR t a S) (fun _ => ⟨⟨by decide, rfl⟩, ⟨by decide, rfl⟩, rfl, rfl⟩) 0 3 rfl rfl (by decide) rfl rfl rfl (Nat.le_of_ble_eq_true rfl) dL_takeLevel_2 (fun C u hx => ?_) (fun r u hu => ?_)
  ·
    have hx9 := hx
    rcases hx with ⟨rfl, _⟩ | ⟨rfl, _⟩
    ·
      refine z_catch X [] ⟨0, 5, 6, 16⟩ [⟨0, 5, 10, 38⟩] (hT.trans rfl) (fun z hz => absurd hz List.not_mem_nil) rfl (by decide) q_cl_L_16 (V.cast X zc_I) (fun q => ?_)
      refine z_astore_n X dL_takeLevel_6 rfl (Nat.le_of_ble_eq_true rfl) ?_
      refine z_lv (lv' := [some (.ref (a 0)), some (.int c), some (.ref q)]) rfl ?_
      refine z_ldci X q_k_L_18 dL_takeLevel_7 ?_
      refine z_iret X Z rfl dL_takeLevel_9 ?_
      exact ⟨((fun _ : Unit => S) u), Or.inr ⟨eI, u, hx9, zcd_I.symm, rfl⟩, fun q hq => hq⟩
    ·
      refine z_catch X [⟨0, 5, 6, 16⟩] ⟨0, 5, 10, 38⟩ [] (hT.trans rfl) (fun z hz => by rw [List.mem_singleton.mp hz]; exact Or.inr ⟨by decide, eI, q_cl_L_16, V.2.2.2.1 (eS, eI) (by decide)⟩) rfl (by decide) q_cl_L_38 (V.cast X zc_S) (fun q => ?_)
      refine z_astore_n X dL_takeLevel_10 rfl (Nat.le_of_ble_eq_true rfl) ?_
      refine z_lv (lv' := [some (.ref (a 0)), some (.int c), some (.ref q)]) rfl ?_
      refine z_ldci X q_k_L_40 dL_takeLevel_11 ?_
      refine z_iret X Z rfl dL_takeLevel_13 ?_
      exact ⟨((fun _ : Unit => S) u), Or.inr ⟨eS, u, hx9, zcd_S.symm, rfl⟩, fun q hq => hq⟩
  ·
    refine z_iret X Z rfl dL_takeLevel_5 ?_
    exact ⟨((fun u : Nat => (va_up (va_up (va_up S 16 (upd (S 16) m (nI u))) 17 (fun _ => nI (m + 1))) 15 (upd (S 15) u (S 15 u + nI 1)))) u), Or.inl ⟨_, u, hu, rfl, rfl⟩, fun q hq => hq⟩
set_option maxHeartbeats 2000000 in
set_option maxRecDepth 100000 in
theorem c_L_takeGift (l : Launch) (hfl : l.stackTraces = false) (D : va_G) (t : ClassId × ClassId × ClassId) (sz : Nat) (a : Nat → Nat) (S : zS) (x y z G : Nat) (h15 : S 15 = l3 x y z) (h18 : S 18 0 = nI G) (hG : G < 256) (hX : x + y + z ≤ 8) (hI : zI S) (g : Int32) : zM7 l yL_takeGift cL_takeGift 3 [(0, 5, 6, 16), (0, 5, 10, 38)] 24 D t [.ref (a 0), .int g] (wR t a S) sz (fun k (w9 : zS) => (∃ (r : Int32) (u : Nat), (fun r (u : Nat) => u < 8 ∧ g = nI u ∧ mt S x y z G u ∧ r = nI (p8 (G ||| 2 ^ u))) r u ∧ k = r ∧ w9 = (fun u : Nat => (va_up S 18 (fun _ => nI (G ||| 2 ^ u)))) u) ∨ ∃ (C : String) (u : Unit), (fun E (_ : Unit) => (E = eI ∧ ¬ am g 8) ∨ (E = eS ∧ ∃ k, k < 8 ∧ g = nI k ∧ ¬ mt S x y z G k)) C u ∧ k = zcd C ∧ w9 = (fun _ : Unit => S) u) (fun w9 => wR t a w9) := by
  refine z_m7 (by decide +kernel) (Nat.le_of_ble_eq_true rfl) (by simp [Value.category]) ?_
  intro E X Z V hT Y
  refine z_lv (lv' := [some (.ref (a 0)), some (.int g), none]) rfl ?_
  refine z_aload_n X dL_takeGift_0 rfl rfl ?_
  refine z_iload_n X dL_takeGift_1 rfl rfl ?_
  refine z_tryi X Y rfl V (fun sz => c_X3_takeGift l hfl D t sz a S x y z G h15 h18 hG hX hI g) k_X3_takeGift q_ml_L_45 is24 ⟨by decide, rfl⟩ (fun u => wR t a (va_up S 18 (fun _ => nI (G ||| 2 ^ u)))) (fun _ => ⟨⟨by decide, rfl⟩, ⟨by decide, rfl⟩, rfl, rfl⟩) (fun _ => wR t a S) (fun _ => ⟨⟨by decide, rfl⟩, ⟨by decide, rfl⟩, rfl, rfl⟩) 0 3 rfl rfl (by decide) rfl rfl rfl (Nat.le_of_ble_eq_true rfl) dL_takeGift_2 (fun C u hx => ?_) (fun r u hu => ?_)
  ·
    have hx9 := hx
    rcases hx with ⟨rfl, _⟩ | ⟨rfl, _⟩
    ·
      refine z_catch X [] ⟨0, 5, 6, 16⟩ [⟨0, 5, 10, 38⟩] (hT.trans rfl) (fun z hz => absurd hz List.not_mem_nil) rfl (by decide) q_cl_L_16 (V.cast X zc_I) (fun q => ?_)
      refine z_astore_n X dL_takeGift_6 rfl (Nat.le_of_ble_eq_true rfl) ?_
      refine z_lv (lv' := [some (.ref (a 0)), some (.int g), some (.ref q)]) rfl ?_
      refine z_ldci X q_k_L_18 dL_takeGift_7 ?_
      refine z_iret X Z rfl dL_takeGift_9 ?_
      exact ⟨((fun _ : Unit => S) u), Or.inr ⟨eI, u, hx9, zcd_I.symm, rfl⟩, fun q hq => hq⟩
    ·
      refine z_catch X [⟨0, 5, 6, 16⟩] ⟨0, 5, 10, 38⟩ [] (hT.trans rfl) (fun z hz => by rw [List.mem_singleton.mp hz]; exact Or.inr ⟨by decide, eI, q_cl_L_16, V.2.2.2.1 (eS, eI) (by decide)⟩) rfl (by decide) q_cl_L_38 (V.cast X zc_S) (fun q => ?_)
      refine z_astore_n X dL_takeGift_10 rfl (Nat.le_of_ble_eq_true rfl) ?_
      refine z_lv (lv' := [some (.ref (a 0)), some (.int g), some (.ref q)]) rfl ?_
      refine z_ldci X q_k_L_40 dL_takeGift_11 ?_
      refine z_iret X Z rfl dL_takeGift_13 ?_
      exact ⟨((fun _ : Unit => S) u), Or.inr ⟨eS, u, hx9, zcd_S.symm, rfl⟩, fun q hq => hq⟩
  ·
    refine z_iret X Z rfl dL_takeGift_5 ?_
    exact ⟨((fun u : Nat => (va_up S 18 (fun _ => nI (G ||| 2 ^ u)))) u), Or.inl ⟨_, u, hu, rfl, rfl⟩, fun q hq => hq⟩
set_option maxHeartbeats 2000000 in
set_option maxRecDepth 100000 in
theorem c_L_setNeeds (l : Launch) (hfl : l.stackTraces = false) (D : va_G) (t : ClassId × ClassId × ClassId) (sz : Nat) (a : Nat → Nat) (S : zS) (g ab sc ca lw ot : Int32) : zM7 l yL_setNeeds cL_setNeeds 8 [(0, 14, 15, 16), (0, 14, 20, 19)] 24 D t [.ref (a 0), .int g, .int ab, .int sc, .int ca, .int lw, .int ot] (wR t a S) sz (fun k (w9 : zS) => (k = nI 0 ∧ ∃ u : Nat, (fun u : Nat => u < 8 ∧ g = nI u ∧ nd1 g ab ca ot ∧ nd2 ab sc ca lw) u ∧ w9 = (fun u : Nat => (ndS S u ab sc ca lw ot)) u) ∨ ∃ (C : String) (u : Unit), (fun E (_ : Unit) => (E = eI ∧ ¬ nd1 g ab ca ot) ∨ (E = eA ∧ nd1 g ab ca ot ∧ ¬ nd2 ab sc ca lw)) C u ∧ k = zcd C ∧ w9 = (fun _ : Unit => S) u) (fun w9 => wR t a w9) := by
  refine z_m7 (by decide +kernel) (Nat.le_of_ble_eq_true rfl) (by simp [Value.category]) ?_
  intro E X Z V hT Y
  refine z_lv (lv' := [some (.ref (a 0)), some (.int g), some (.int ab), some (.int sc), some (.int ca), some (.int lw), some (.int ot), none]) rfl ?_
  refine z_aload_n X dL_setNeeds_0 rfl rfl ?_
  refine z_iload_n X dL_setNeeds_1 rfl rfl ?_
  refine z_iload_n X dL_setNeeds_2 rfl rfl ?_
  refine z_iload_n X dL_setNeeds_3 rfl rfl ?_
  refine z_iload X dL_setNeeds_4 rfl ?_
  refine z_iload X dL_setNeeds_6 rfl ?_
  refine z_iload X dL_setNeeds_8 rfl ?_
  refine z_tryv X Y rfl V (fun sz => c_X3_setNeeds l hfl D t sz a S g ab sc ca lw ot) k_X3_setNeeds q_ml_L_10 is24 ⟨by decide, rfl⟩ (fun u => wR t a (ndS S u ab sc ca lw ot)) (fun _ => ⟨⟨by decide, rfl⟩, ⟨by decide, rfl⟩, rfl, rfl⟩) (fun _ => wR t a S) (fun _ => ⟨⟨by decide, rfl⟩, ⟨by decide, rfl⟩, rfl, rfl⟩) 0 3 rfl rfl (by decide) rfl rfl rfl (Nat.le_of_ble_eq_true rfl) dL_setNeeds_10 (fun C u hx => ?_) (fun u hu => ?_)
  ·
    have hx9 := hx
    rcases hx with ⟨rfl, _⟩ | ⟨rfl, _⟩
    ·
      refine z_catch X [] ⟨0, 14, 15, 16⟩ [⟨0, 14, 20, 19⟩] (hT.trans rfl) (fun z hz => absurd hz List.not_mem_nil) rfl (by decide) q_cl_L_16 (V.cast X zc_I) (fun q => ?_)
      refine z_astore X dL_setNeeds_15 (Nat.le_of_ble_eq_true rfl) ?_
      refine z_lv (lv' := [some (.ref (a 0)), some (.int g), some (.int ab), some (.int sc), some (.int ca), some (.int lw), some (.int ot), some (.ref q)]) rfl ?_
      refine z_ldci X q_k_L_18 dL_setNeeds_17 ?_
      refine z_iret X Z rfl dL_setNeeds_19 ?_
      exact ⟨((fun _ : Unit => S) u), Or.inr ⟨eI, u, hx9, zcd_I.symm, rfl⟩, fun q hq => hq⟩
    ·
      refine z_catch X [⟨0, 14, 15, 16⟩] ⟨0, 14, 20, 19⟩ [] (hT.trans rfl) (fun z hz => by rw [List.mem_singleton.mp hz]; exact Or.inr ⟨by decide, eI, q_cl_L_16, V.2.2.2.1 (eA, eI) (by decide)⟩) rfl (by decide) q_cl_L_19 (V.cast X zc_A) (fun q => ?_)
      refine z_astore X dL_setNeeds_20 (Nat.le_of_ble_eq_true rfl) ?_
      refine z_lv (lv' := [some (.ref (a 0)), some (.int g), some (.int ab), some (.int sc), some (.int ca), some (.int lw), some (.int ot), some (.ref q)]) rfl ?_
      refine z_ldci X q_k_L_21 dL_setNeeds_22 ?_
      refine z_iret X Z rfl dL_setNeeds_24 ?_
      exact ⟨((fun _ : Unit => S) u), Or.inr ⟨eA, u, hx9, zcd_A.symm, rfl⟩, fun q hq => hq⟩
  ·
    refine z_iconst (v := nI 0) X dL_setNeeds_13 (by decide) ?_
    refine z_iret X Z rfl dL_setNeeds_14 ?_
    exact ⟨((fun u : Nat => (ndS S u ab sc ca lw ot)) u), Or.inl ⟨rfl, u, hu, rfl⟩, fun q hq => hq⟩
set_option maxHeartbeats 2000000 in
set_option maxRecDepth 100000 in
theorem c_L_bar (l : Launch) (hfl : l.stackTraces = false) (D : va_G) (t : ClassId × ClassId × ClassId) (sz : Nat) (a : Nat → Nat) (S : zS) (g ca lw : Int32) : zM7 l yL_bar cL_bar 5 [(0, 8, 9, 16), (0, 8, 14, 19)] 24 D t [.ref (a 0), .int g, .int ca, .int lw] (wR t a S) sz (fun k (w9 : zS) => (k = nI 0 ∧ ∃ u : Nat, (fun u : Nat => u < 8 ∧ g = nI u ∧ br1 g ca ∧ br2 ca lw) u ∧ w9 = (fun u : Nat => (brS S u ca lw)) u) ∨ ∃ (C : String) (u : Unit), (fun E (_ : Unit) => (E = eI ∧ ¬ br1 g ca) ∨ (E = eA ∧ br1 g ca ∧ ¬ br2 ca lw)) C u ∧ k = zcd C ∧ w9 = (fun _ : Unit => S) u) (fun w9 => wR t a w9) := by
  refine z_m7 (by decide +kernel) (Nat.le_of_ble_eq_true rfl) (by simp [Value.category]) ?_
  intro E X Z V hT Y
  refine z_lv (lv' := [some (.ref (a 0)), some (.int g), some (.int ca), some (.int lw), none]) rfl ?_
  refine z_aload_n X dL_bar_0 rfl rfl ?_
  refine z_iload_n X dL_bar_1 rfl rfl ?_
  refine z_iload_n X dL_bar_2 rfl rfl ?_
  refine z_iload_n X dL_bar_3 rfl rfl ?_
  refine z_tryv X Y rfl V (fun sz => c_X3_bar l hfl D t sz a S g ca lw) k_X3_bar q_ml_L_22 is24 ⟨by decide, rfl⟩ (fun u => wR t a (brS S u ca lw)) (fun _ => ⟨⟨by decide, rfl⟩, ⟨by decide, rfl⟩, rfl, rfl⟩) (fun _ => wR t a S) (fun _ => ⟨⟨by decide, rfl⟩, ⟨by decide, rfl⟩, rfl, rfl⟩) 0 3 rfl rfl (by decide) rfl rfl rfl (Nat.le_of_ble_eq_true rfl) dL_bar_4 (fun C u hx => ?_) (fun u hu => ?_)
  ·
    have hx9 := hx
    rcases hx with ⟨rfl, _⟩ | ⟨rfl, _⟩
    ·
      refine z_catch X [] ⟨0, 8, 9, 16⟩ [⟨0, 8, 14, 19⟩] (hT.trans rfl) (fun z hz => absurd hz List.not_mem_nil) rfl (by decide) q_cl_L_16 (V.cast X zc_I) (fun q => ?_)
      refine z_astore X dL_bar_9 (Nat.le_of_ble_eq_true rfl) ?_
      refine z_lv (lv' := [some (.ref (a 0)), some (.int g), some (.int ca), some (.int lw), some (.ref q)]) rfl ?_
      refine z_ldci X q_k_L_18 dL_bar_11 ?_
      refine z_iret X Z rfl dL_bar_13 ?_
      exact ⟨((fun _ : Unit => S) u), Or.inr ⟨eI, u, hx9, zcd_I.symm, rfl⟩, fun q hq => hq⟩
    ·
      refine z_catch X [⟨0, 8, 9, 16⟩] ⟨0, 8, 14, 19⟩ [] (hT.trans rfl) (fun z hz => by rw [List.mem_singleton.mp hz]; exact Or.inr ⟨by decide, eI, q_cl_L_16, V.2.2.2.1 (eA, eI) (by decide)⟩) rfl (by decide) q_cl_L_19 (V.cast X zc_A) (fun q => ?_)
      refine z_astore X dL_bar_14 (Nat.le_of_ble_eq_true rfl) ?_
      refine z_lv (lv' := [some (.ref (a 0)), some (.int g), some (.int ca), some (.int lw), some (.ref q)]) rfl ?_
      refine z_ldci X q_k_L_21 dL_bar_16 ?_
      refine z_iret X Z rfl dL_bar_18 ?_
      exact ⟨((fun _ : Unit => S) u), Or.inr ⟨eA, u, hx9, zcd_A.symm, rfl⟩, fun q hq => hq⟩
  ·
    refine z_iconst (v := nI 0) X dL_bar_7 (by decide) ?_
    refine z_iret X Z rfl dL_bar_8 ?_
    exact ⟨((fun u : Nat => (brS S u ca lw)) u), Or.inl ⟨rfl, u, hu, rfl⟩, fun q hq => hq⟩
set_option maxHeartbeats 2000000 in
set_option maxRecDepth 100000 in
theorem c_L_setBonus (l : Launch) (hfl : l.stackTraces = false) (D : va_G) (t : ClassId × ClassId × ClassId) (sz : Nat) (a : Nat → Nat) (S : zS) (g v kd i : Int32) : zM7 l yL_setBonus cL_setBonus 6 [(0, 10, 11, 16), (0, 10, 16, 19)] 24 D t [.ref (a 0), .int g, .int v, .int kd, .int i] (wR t a S) sz (fun k (w9 : zS) => (k = nI 0 ∧ ∃ u : Nat × Nat, (fun u : Nat × Nat => u.1 < 8 ∧ g = nI u.1 ∧ u.2 < 4 ∧ kd = nI u.2 ∧ bo1 g v ∧ bo2 kd i) u ∧ w9 = (fun u : Nat × Nat => (boS S u.1 v (nI u.2) i)) u) ∨ ∃ (C : String) (u : Unit), (fun E (_ : Unit) => (E = eI ∧ ¬ bo1 g v) ∨ (E = eA ∧ bo1 g v ∧ ¬ bo2 kd i)) C u ∧ k = zcd C ∧ w9 = (fun _ : Unit => S) u) (fun w9 => wR t a w9) := by
  refine z_m7 (by decide +kernel) (Nat.le_of_ble_eq_true rfl) (by simp [Value.category]) ?_
  intro E X Z V hT Y
  refine z_lv (lv' := [some (.ref (a 0)), some (.int g), some (.int v), some (.int kd), some (.int i), none]) rfl ?_
  refine z_aload_n X dL_setBonus_0 rfl rfl ?_
  refine z_iload_n X dL_setBonus_1 rfl rfl ?_
  refine z_iload_n X dL_setBonus_2 rfl rfl ?_
  refine z_iload_n X dL_setBonus_3 rfl rfl ?_
  refine z_iload X dL_setBonus_4 rfl ?_
  refine z_tryv X Y rfl V (fun sz => c_X3_setBonus l hfl D t sz a S g v kd i) k_X3_setBonus q_ml_L_26 is24 ⟨by decide, rfl⟩ (fun u => wR t a (boS S u.1 v (nI u.2) i)) (fun _ => ⟨⟨by decide, rfl⟩, ⟨by decide, rfl⟩, rfl, rfl⟩) (fun _ => wR t a S) (fun _ => ⟨⟨by decide, rfl⟩, ⟨by decide, rfl⟩, rfl, rfl⟩) 0 3 rfl rfl (by decide) rfl rfl rfl (Nat.le_of_ble_eq_true rfl) dL_setBonus_6 (fun C u hx => ?_) (fun u hu => ?_)
  ·
    have hx9 := hx
    rcases hx with ⟨rfl, _⟩ | ⟨rfl, _⟩
    ·
      refine z_catch X [] ⟨0, 10, 11, 16⟩ [⟨0, 10, 16, 19⟩] (hT.trans rfl) (fun z hz => absurd hz List.not_mem_nil) rfl (by decide) q_cl_L_16 (V.cast X zc_I) (fun q => ?_)
      refine z_astore X dL_setBonus_11 (Nat.le_of_ble_eq_true rfl) ?_
      refine z_lv (lv' := [some (.ref (a 0)), some (.int g), some (.int v), some (.int kd), some (.int i), some (.ref q)]) rfl ?_
      refine z_ldci X q_k_L_18 dL_setBonus_13 ?_
      refine z_iret X Z rfl dL_setBonus_15 ?_
      exact ⟨((fun _ : Unit => S) u), Or.inr ⟨eI, u, hx9, zcd_I.symm, rfl⟩, fun q hq => hq⟩
    ·
      refine z_catch X [⟨0, 10, 11, 16⟩] ⟨0, 10, 16, 19⟩ [] (hT.trans rfl) (fun z hz => by rw [List.mem_singleton.mp hz]; exact Or.inr ⟨by decide, eI, q_cl_L_16, V.2.2.2.1 (eA, eI) (by decide)⟩) rfl (by decide) q_cl_L_19 (V.cast X zc_A) (fun q => ?_)
      refine z_astore X dL_setBonus_16 (Nat.le_of_ble_eq_true rfl) ?_
      refine z_lv (lv' := [some (.ref (a 0)), some (.int g), some (.int v), some (.int kd), some (.int i), some (.ref q)]) rfl ?_
      refine z_ldci X q_k_L_21 dL_setBonus_18 ?_
      refine z_iret X Z rfl dL_setBonus_20 ?_
      exact ⟨((fun _ : Unit => S) u), Or.inr ⟨eA, u, hx9, zcd_A.symm, rfl⟩, fun q hq => hq⟩
  ·
    refine z_iconst (v := nI 0) X dL_setBonus_9 (by decide) ?_
    refine z_iret X Z rfl dL_setBonus_10 ?_
    exact ⟨((fun u : Nat × Nat => (boS S u.1 v (nI u.2) i)) u), Or.inl ⟨rfl, u, hu, rfl⟩, fun q hq => hq⟩
set_option maxHeartbeats 2000000 in
set_option maxRecDepth 100000 in
theorem c_L_setValue (l : Launch) (hfl : l.stackTraces = false) (D : va_G) (t : ClassId × ClassId × ClassId) (sz : Nat) (a : Nat → Nat) (S : zS) (v i ab ca ot : Int32) : zM7 l yL_setValue cL_setValue 7 [(0, 12, 13, 16), (0, 12, 18, 19)] 24 D t [.ref (a 0), .int v, .int i, .int ab, .int ca, .int ot] (wR t a S) sz (fun k (w9 : zS) => (k = nI 0 ∧ ∃ u : Nat, (fun u : Nat => u < 6 ∧ v = nI u ∧ va1 v ab ca ot ∧ va2 i) u ∧ w9 = (fun u : Nat => (vaS S u i ab ca ot)) u) ∨ ∃ (C : String) (u : Unit), (fun E (_ : Unit) => (E = eI ∧ ¬ va1 v ab ca ot) ∨ (E = eA ∧ va1 v ab ca ot ∧ ¬ va2 i)) C u ∧ k = zcd C ∧ w9 = (fun _ : Unit => S) u) (fun w9 => wR t a w9) := by
  refine z_m7 (by decide +kernel) (Nat.le_of_ble_eq_true rfl) (by simp [Value.category]) ?_
  intro E X Z V hT Y
  refine z_lv (lv' := [some (.ref (a 0)), some (.int v), some (.int i), some (.int ab), some (.int ca), some (.int ot), none]) rfl ?_
  refine z_aload_n X dL_setValue_0 rfl rfl ?_
  refine z_iload_n X dL_setValue_1 rfl rfl ?_
  refine z_iload_n X dL_setValue_2 rfl rfl ?_
  refine z_iload_n X dL_setValue_3 rfl rfl ?_
  refine z_iload X dL_setValue_4 rfl ?_
  refine z_iload X dL_setValue_6 rfl ?_
  refine z_tryv X Y rfl V (fun sz => c_X3_setValue l hfl D t sz a S v i ab ca ot) k_X3_setValue q_ml_L_30 is24 ⟨by decide, rfl⟩ (fun u => wR t a (vaS S u i ab ca ot)) (fun _ => ⟨⟨by decide, rfl⟩, ⟨by decide, rfl⟩, rfl, rfl⟩) (fun _ => wR t a S) (fun _ => ⟨⟨by decide, rfl⟩, ⟨by decide, rfl⟩, rfl, rfl⟩) 0 3 rfl rfl (by decide) rfl rfl rfl (Nat.le_of_ble_eq_true rfl) dL_setValue_8 (fun C u hx => ?_) (fun u hu => ?_)
  ·
    have hx9 := hx
    rcases hx with ⟨rfl, _⟩ | ⟨rfl, _⟩
    ·
      refine z_catch X [] ⟨0, 12, 13, 16⟩ [⟨0, 12, 18, 19⟩] (hT.trans rfl) (fun z hz => absurd hz List.not_mem_nil) rfl (by decide) q_cl_L_16 (V.cast X zc_I) (fun q => ?_)
      refine z_astore X dL_setValue_13 (Nat.le_of_ble_eq_true rfl) ?_
      refine z_lv (lv' := [some (.ref (a 0)), some (.int v), some (.int i), some (.int ab), some (.int ca), some (.int ot), some (.ref q)]) rfl ?_
      refine z_ldci X q_k_L_18 dL_setValue_15 ?_
      refine z_iret X Z rfl dL_setValue_17 ?_
      exact ⟨((fun _ : Unit => S) u), Or.inr ⟨eI, u, hx9, zcd_I.symm, rfl⟩, fun q hq => hq⟩
    ·
      refine z_catch X [⟨0, 12, 13, 16⟩] ⟨0, 12, 18, 19⟩ [] (hT.trans rfl) (fun z hz => by rw [List.mem_singleton.mp hz]; exact Or.inr ⟨by decide, eI, q_cl_L_16, V.2.2.2.1 (eA, eI) (by decide)⟩) rfl (by decide) q_cl_L_19 (V.cast X zc_A) (fun q => ?_)
      refine z_astore X dL_setValue_18 (Nat.le_of_ble_eq_true rfl) ?_
      refine z_lv (lv' := [some (.ref (a 0)), some (.int v), some (.int i), some (.int ab), some (.int ca), some (.int ot), some (.ref q)]) rfl ?_
      refine z_ldci X q_k_L_21 dL_setValue_20 ?_
      refine z_iret X Z rfl dL_setValue_22 ?_
      exact ⟨((fun _ : Unit => S) u), Or.inr ⟨eA, u, hx9, zcd_A.symm, rfl⟩, fun q hq => hq⟩
  ·
    refine z_iconst (v := nI 0) X dL_setValue_11 (by decide) ?_
    refine z_iret X Z rfl dL_setValue_12 ?_
    exact ⟨((fun u : Nat => (vaS S u i ab ca ot)) u), Or.inl ⟨rfl, u, hu, rfl⟩, fun q hq => hq⟩
set_option maxHeartbeats 2000000 in
set_option maxRecDepth 100000 in
theorem c_L_setScore (l : Launch) (hfl : l.stackTraces = false) (D : va_G) (t : ClassId × ClassId × ClassId) (sz : Nat) (a : Nat → Nat) (S : zS) (sc : Nat → Nat) (ab v : Int32) (hsc : zSc S sc) (hc : cs4 sc ≤ 20) : zM7 l yL_setScore cL_setScore 4 [(0, 6, 7, 16), (0, 6, 11, 19), (0, 6, 15, 38)] 24 D t [.ref (a 0), .int ab, .int v] (wR t a S) sz (fun k (w9 : zS) => (∃ (r : Int32) (u : Nat × Nat), (fun r (u : Nat × Nat) => u.1 < 4 ∧ ab = nI u.1 ∧ 8 ≤ u.2 ∧ u.2 ≤ 16 ∧ v = nI u.2 ∧ cs4 (scU sc u.1 u.2) ≤ 20 ∧ r = nI (20 - cs4 (scU sc u.1 u.2))) r u ∧ k = r ∧ w9 = (fun u : Nat × Nat => (va_up S 14 (upd (S 14) u.1 (nI u.2)))) u) ∨ ∃ (C : String) (u : Unit), (fun E (_ : Unit) => (E = eI ∧ ¬ am ab 4) ∨ (E = eA ∧ am ab 4 ∧ ¬ rg v (nI 8) (nI 16)) ∨ (E = eS ∧ ∃ k j, k < 4 ∧ ab = nI k ∧ 8 ≤ j ∧ j ≤ 16 ∧ v = nI j ∧ 20 < cs4 (scU sc k j))) C u ∧ k = zcd C ∧ w9 = (fun _ : Unit => S) u) (fun w9 => wR t a w9) := by
  refine z_m7 (by decide +kernel) (Nat.le_of_ble_eq_true rfl) (by simp [Value.category]) ?_
  intro E X Z V hT Y
  refine z_lv (lv' := [some (.ref (a 0)), some (.int ab), some (.int v), none]) rfl ?_
  refine z_aload_n X dL_setScore_0 rfl rfl ?_
  refine z_iload_n X dL_setScore_1 rfl rfl ?_
  refine z_iload_n X dL_setScore_2 rfl rfl ?_
  refine z_tryi X Y rfl V (fun sz => c_X3_setScore l hfl D t sz a S sc ab v hsc hc) k_X3_setScore q_ml_L_34 is24 ⟨by decide, rfl⟩ (fun u => wR t a (va_up S 14 (upd (S 14) u.1 (nI u.2)))) (fun _ => ⟨⟨by decide, rfl⟩, ⟨by decide, rfl⟩, rfl, rfl⟩) (fun _ => wR t a S) (fun _ => ⟨⟨by decide, rfl⟩, ⟨by decide, rfl⟩, rfl, rfl⟩) 0 3 rfl rfl (by decide) rfl rfl rfl (Nat.le_of_ble_eq_true rfl) dL_setScore_3 (fun C u hx => ?_) (fun r u hu => ?_)
  ·
    have hx9 := hx
    rcases hx with ⟨rfl, _⟩ | ⟨rfl, _⟩ | ⟨rfl, _⟩
    ·
      refine z_catch X [] ⟨0, 6, 7, 16⟩ [⟨0, 6, 11, 19⟩, ⟨0, 6, 15, 38⟩] (hT.trans rfl) (fun z hz => absurd hz List.not_mem_nil) rfl (by decide) q_cl_L_16 (V.cast X zc_I) (fun q => ?_)
      refine z_astore_n X dL_setScore_7 rfl (Nat.le_of_ble_eq_true rfl) ?_
      refine z_lv (lv' := [some (.ref (a 0)), some (.int ab), some (.int v), some (.ref q)]) rfl ?_
      refine z_ldci X q_k_L_18 dL_setScore_8 ?_
      refine z_iret X Z rfl dL_setScore_10 ?_
      exact ⟨((fun _ : Unit => S) u), Or.inr ⟨eI, u, hx9, zcd_I.symm, rfl⟩, fun q hq => hq⟩
    ·
      refine z_catch X [⟨0, 6, 7, 16⟩] ⟨0, 6, 11, 19⟩ [⟨0, 6, 15, 38⟩] (hT.trans rfl) (fun z hz => by rw [List.mem_singleton.mp hz]; exact Or.inr ⟨by decide, eI, q_cl_L_16, V.2.2.2.1 (eA, eI) (by decide)⟩) rfl (by decide) q_cl_L_19 (V.cast X zc_A) (fun q => ?_)
      refine z_astore_n X dL_setScore_11 rfl (Nat.le_of_ble_eq_true rfl) ?_
      refine z_lv (lv' := [some (.ref (a 0)), some (.int ab), some (.int v), some (.ref q)]) rfl ?_
      refine z_ldci X q_k_L_21 dL_setScore_12 ?_
      refine z_iret X Z rfl dL_setScore_14 ?_
      exact ⟨((fun _ : Unit => S) u), Or.inr ⟨eA, u, hx9, zcd_A.symm, rfl⟩, fun q hq => hq⟩
    ·
      refine z_catch X [⟨0, 6, 7, 16⟩, ⟨0, 6, 11, 19⟩] ⟨0, 6, 15, 38⟩ [] (hT.trans rfl) (fun z hz => by rcases List.mem_cons.mp hz with rfl | hz; exact Or.inr ⟨by decide, eI, q_cl_L_16, V.2.2.2.1 (eS, eI) (by decide)⟩; rw [List.mem_singleton.mp hz]; exact Or.inr ⟨by decide, eA, q_cl_L_19, V.2.2.2.1 (eS, eA) (by decide)⟩) rfl (by decide) q_cl_L_38 (V.cast X zc_S) (fun q => ?_)
      refine z_astore_n X dL_setScore_15 rfl (Nat.le_of_ble_eq_true rfl) ?_
      refine z_lv (lv' := [some (.ref (a 0)), some (.int ab), some (.int v), some (.ref q)]) rfl ?_
      refine z_ldci X q_k_L_40 dL_setScore_16 ?_
      refine z_iret X Z rfl dL_setScore_18 ?_
      exact ⟨((fun _ : Unit => S) u), Or.inr ⟨eS, u, hx9, zcd_S.symm, rfl⟩, fun q hq => hq⟩
  ·
    refine z_iret X Z rfl dL_setScore_6 ?_
    exact ⟨((fun u : Nat × Nat => (va_up S 14 (upd (S 14) u.1 (nI u.2)))) u), Or.inl ⟨_, u, hu, rfl, rfl⟩, fun q hq => hq⟩
set_option maxHeartbeats 2000000 in
set_option maxRecDepth 100000 in
theorem c_L_exchange (l : Launch) (hfl : l.stackTraces = false) (D : va_G) (t : ClassId × ClassId × ClassId) (sz : Nat) (a : Nat → Nat) (S : zS) (Xn Yn Zn G : Nat) (h15 : S 15 = l3 Xn Yn Zn) (h18 : S 18 0 = nI G) (hG : G < 256) (hX : Xn + Yn + Zn ≤ 8) (hI : zI S) (h17 : S 17 0 = nI (Xn + Yn + Zn)) (x y z s : Nat) (e : Nat → Int32) (g o : Int32) : zM7 l yL_exchange cL_exchange 4 [(0, 6, 7, 16), (0, 6, 11, 38)] 24 D t [.ref (a 0), .int g, .int o] (wR t a (T3 S x y z s e)) sz (fun k (w9 : zS) => (∃ (r : Int32) (u : Nat × Nat × (Nat → Int32)), (fun r (u : Nat × Nat × (Nat → Int32)) => u.1 < 8 ∧ u.2.1 < 8 ∧ g = nI u.1 ∧ o = nI u.2.1 ∧ G.testBit u.1 = true ∧ G.testBit u.2.1 = false ∧ Rc S Xn Yn Zn (exN G u.1 u.2.1) 0 0 0 0 ∧ r = nI (p8 (faN S (S 15) G u.1 u.2.1))) r u ∧ k = r ∧ w9 = (fun u : Nat × Nat × (Nat → Int32) => (va_up (T3 S 0 0 0 0 u.2.2) 18 (fun _ => nI (exN G u.1 u.2.1)))) u) ∨ ∃ (C : String) (u : Nat × Nat × Nat × Nat × (Nat → Int32)), (fun E (u : Nat × Nat × Nat × Nat × (Nat → Int32)) => (E = eI ∧ ¬ (am g 8 ∧ am o 8)) ∨ (E = eS ∧ ∃ k j, k < 8 ∧ j < 8 ∧ g = nI k ∧ o = nI j ∧ ¬ (G.testBit k = true ∧ G.testBit j = false ∧ Rc S Xn Yn Zn (exN G k j) 0 0 0 0))) C u ∧ k = zcd C ∧ w9 = (fun u : Nat × Nat × Nat × Nat × (Nat → Int32) => (T3 S u.1 u.2.1 u.2.2.1 u.2.2.2.1 u.2.2.2.2)) u) (fun w9 => wR t a w9) := by
  refine z_m7 (by decide +kernel) (Nat.le_of_ble_eq_true rfl) (by simp [Value.category]) ?_
  intro E X Z V hT Y
  refine z_lv (lv' := [some (.ref (a 0)), some (.int g), some (.int o), none]) rfl ?_
  refine z_aload_n X dL_exchange_0 rfl rfl ?_
  refine z_iload_n X dL_exchange_1 rfl rfl ?_
  refine z_iload_n X dL_exchange_2 rfl rfl ?_
  refine z_tryi X Y rfl V (fun sz => c_X3_exchange l hfl D t sz a S Xn Yn Zn G h15 h18 hG hX hI h17 x y z s e g o) k_X3_exchange q_ml_L_52 is24 ⟨by decide, rfl⟩ (fun u => wR t a (va_up (T3 S 0 0 0 0 u.2.2) 18 (fun _ => nI (exN G u.1 u.2.1)))) (fun _ => ⟨⟨by decide, rfl⟩, ⟨by decide, rfl⟩, rfl, rfl⟩) (fun u => wR t a (T3 S u.1 u.2.1 u.2.2.1 u.2.2.2.1 u.2.2.2.2)) (fun _ => ⟨⟨by decide, rfl⟩, ⟨by decide, rfl⟩, rfl, rfl⟩) 0 3 rfl rfl (by decide) rfl rfl rfl (Nat.le_of_ble_eq_true rfl) dL_exchange_3 (fun C u hx => ?_) (fun r u hu => ?_)
  ·
    have hx9 := hx
    rcases hx with ⟨rfl, _⟩ | ⟨rfl, _⟩
    ·
      refine z_catch X [] ⟨0, 6, 7, 16⟩ [⟨0, 6, 11, 38⟩] (hT.trans rfl) (fun z hz => absurd hz List.not_mem_nil) rfl (by decide) q_cl_L_16 (V.cast X zc_I) (fun q => ?_)
      refine z_astore_n X dL_exchange_7 rfl (Nat.le_of_ble_eq_true rfl) ?_
      refine z_lv (lv' := [some (.ref (a 0)), some (.int g), some (.int o), some (.ref q)]) rfl ?_
      refine z_ldci X q_k_L_18 dL_exchange_8 ?_
      refine z_iret X Z rfl dL_exchange_10 ?_
      exact ⟨((fun u : Nat × Nat × Nat × Nat × (Nat → Int32) => (T3 S u.1 u.2.1 u.2.2.1 u.2.2.2.1 u.2.2.2.2)) u), Or.inr ⟨eI, u, hx9, zcd_I.symm, rfl⟩, fun q hq => hq⟩
    ·
      refine z_catch X [⟨0, 6, 7, 16⟩] ⟨0, 6, 11, 38⟩ [] (hT.trans rfl) (fun z hz => by rw [List.mem_singleton.mp hz]; exact Or.inr ⟨by decide, eI, q_cl_L_16, V.2.2.2.1 (eS, eI) (by decide)⟩) rfl (by decide) q_cl_L_38 (V.cast X zc_S) (fun q => ?_)
      refine z_astore_n X dL_exchange_11 rfl (Nat.le_of_ble_eq_true rfl) ?_
      refine z_lv (lv' := [some (.ref (a 0)), some (.int g), some (.int o), some (.ref q)]) rfl ?_
      refine z_ldci X q_k_L_40 dL_exchange_12 ?_
      refine z_iret X Z rfl dL_exchange_14 ?_
      exact ⟨((fun u : Nat × Nat × Nat × Nat × (Nat → Int32) => (T3 S u.1 u.2.1 u.2.2.1 u.2.2.2.1 u.2.2.2.2)) u), Or.inr ⟨eS, u, hx9, zcd_S.symm, rfl⟩, fun q hq => hq⟩
  ·
    refine z_iret X Z rfl dL_exchange_6 ?_
    exact ⟨((fun u : Nat × Nat × (Nat → Int32) => (va_up (T3 S 0 0 0 0 u.2.2) 18 (fun _ => nI (exN G u.1 u.2.1)))) u), Or.inl ⟨_, u, hu, rfl, rfl⟩, fun q hq => hq⟩
