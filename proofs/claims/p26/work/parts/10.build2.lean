theorem zn_clr : ∀ h, h < 256 → ∀ j, j < 8 → h.testBit j = false → nI (h ||| 2 ^ j) &&& (nI (2 ^ j) ^^^ (-1)) = nI h := by decide +kernel
theorem zn_or8 : ∀ h, h < 256 → ∀ j, j < 8 → h ||| 2 ^ j < 256 := by decide +kernel
section
variable {t : ClassId × ClassId × ClassId} {a b : Nat → Nat} {S S' : zS} {f : Nat → Int32} {v : Int32}
abbrev is24 : List Nat := [0, 1, 2, 3, 4, 5, 6, 7, 8, 9, 10, 11, 12, 13, 14, 15, 16, 17, 18, 19, 20, 21, 22, 23]
abbrev is19 : List Nat := [0, 1, 2, 3, 4, 5, 6, 7, 8, 9, 10, 11, 12, 13, 14, 15, 16, 17, 18]
theorem ppR : zPart (wR t a S) is24 (wR t a S) := ⟨by decide, rfl⟩
theorem swR : zSwap (wR t a S) is24 (wR t a S) (wR t a S') (wR t a S') := ⟨ppR, ppR, rfl, rfl⟩
abbrev wC (t : ClassId × ClassId × ClassId) (a : Nat → Nat) (x : Int32) (f : Nat → Int32) : va_W := [(a 4, .inr (0, [.ref (a 22), .int x])), (a 22, .inl (t.1, 3, .inl f))]
abbrev wT (t : ClassId × ClassId × ClassId) (a : Nat → Nat) (x : Int32) (f : Nat → Int32) : va_W := [(a 6, .inr (0, [.ref (a 23), .int x])), (a 23, .inl (t.1, 3, .inl f))]
theorem ppC : zPart (wR t a S) [4, 22] (wC t a (S 18 0) (S 15)) := ⟨by decide, rfl⟩
theorem ppT : zPart (wR t a S) [6, 23] (wT t a (S 20 0) (S 19)) := ⟨by decide, rfl⟩
theorem swC_f : zSwap (wR t a S) [4, 22] (wC t a (S 18 0) (S 15)) (wC t a (S 18 0) f) (wR t a (va_up S 15 f)) := ⟨ppC, ⟨by decide, rfl⟩, rfl, rfl⟩
theorem swC_xf : zSwap (wR t a S) [4, 22] (wC t a (S 18 0) (S 15)) (wC t a v f) (wR t a (va_up (va_up S 18 (fun _ => v)) 15 f)) := ⟨ppC, ⟨by decide, rfl⟩, rfl, rfl⟩
theorem swT_f : zSwap (wR t a S) [6, 23] (wT t a (S 20 0) (S 19)) (wT t a (S 20 0) f) (wR t a (va_up S 19 f)) := ⟨ppT, ⟨by decide, rfl⟩, rfl, rfl⟩
theorem swT_x : zSwap (wR t a S) [6, 23] (wT t a (S 20 0) (S 19)) (wT t a v (S 19)) (wR t a (va_up S 20 (fun _ => v))) := ⟨ppT, ⟨by decide, rfl⟩, rfl, rfl⟩
theorem swT_xf : zSwap (wR t a S) [6, 23] (wT t a (S 20 0) (S 19)) (wT t a v f) (wR t a (va_up (va_up S 20 (fun _ => v)) 19 f)) := ⟨ppT, ⟨by decide, rfl⟩, rfl, rfl⟩
theorem ppE : zPart (wR t a S) [7] [(a 7, .inl (t.1, 384, .inl (S 21)))] := ⟨by decide, rfl⟩
theorem swE : zSwap (wR t a S) [7] [(a 7, .inl (t.1, 384, .inl (S 21)))] [(a 7, .inl (t.1, 384, .inl f))] (wR t a (va_up S 21 f)) := ⟨ppE, ⟨by decide, rfl⟩, rfl, rfl⟩
end
set_option maxHeartbeats 4000000 in
set_option maxRecDepth 100000 in
theorem c_X0_goOnG (l : Launch) (D : va_G) (t : ClassId × ClassId × ClassId) (b q h j : Nat) (x : Int32) (f : Nat → Int32) (hh : h < 256) (hj : j < 8) (hx : x = nI h) : zM3 l yX0_goOn cX0_goOn 2 2 D t [.ref b, .int (nI (j + 3))] ([(b, .inr (0, [.ref q, .int x])), (q, .inl (t.1, 3, .inl f))]) (fun _ : Unit => True) (fun _ => [(b, .inr (0, [.ref q, .int (nI (h ||| 2 ^ j))])), (q, .inl (t.1, 3, .inl f))]) := by
  refine z_m3 (by decide +kernel) (Nat.le_of_ble_eq_true rfl) (by simp [Value.category]) ?_
  intro E X Z Y
  refine z_lv (lv' := [some (.ref b), some (.int (nI (j + 3)))]) rfl ?_
  refine z_iload_n X dX0_goOn_0 rfl rfl ?_
  refine z_iconst (v := nI 3) X dX0_goOn_1 (by decide) ?_
  refine n_icmp_lt (tgt := 22) X dX0_goOn_2 (by decide) (by omega) (by omega) (fun c2 => absurd c2 (by omega)) (fun c2 => ?_)
  refine z_aload_n X dX0_goOn_5 rfl rfl ?_
  refine z_dup X dX0_goOn_6 rfl ?_
  refine z_get X (C := RX0) (T := TX0) (N := 2) (ci := 0) (v := .int x) inZ0 0 1 rfl rfl (by decide) q_fl_X0_15 rfl rfl dX0_goOn_7 ?_
  refine z_top (y := nI h) (hx) ?_
  refine z_iconst (v := nI 1) X dX0_goOn_10 (by decide) ?_
  refine z_iload_n X dX0_goOn_11 rfl rfl ?_
  refine z_iconst (v := nI 3) X dX0_goOn_12 (by decide) ?_
  refine n_isub X dX0_goOn_13 (by omega) ?_
  refine z_top (y := nI j) (by rw [Nat.add_sub_cancel]) ?_
  refine n_ishl1 X dX0_goOn_14 (by omega) ?_
  refine n_ior X dX0_goOn_15 ?_
  refine z_put X Y (C := RX0) (T := TX0) (N := 2) (ci := 0) (ty := .int) inZ0 tyX0 tyX0_ok nmX0 0 1 rfl rfl rfl (by decide) q_fl_X0_15 rfl rfl (by decide +kernel) rfl rfl (Nat.le_of_ble_eq_true rfl) dX0_goOn_16 ?_
  refine Wz.eq (ws' := [(b, .inr (0, [.ref q, .int (nI (h ||| 2 ^ j))])), (q, .inl (t.1, 3, .inl f))]) rfl ?_
  refine z_goto (tgt := 28) X dX0_goOn_19 (by decide) ?_
  refine z_vret X Z dX0_goOn_28 ?_
  exact ⟨(), trivial, fun q hq => hq⟩
set_option maxHeartbeats 4000000 in
set_option maxRecDepth 100000 in
theorem c_X0_goOnL (l : Launch) (D : va_G) (t : ClassId × ClassId × ClassId) (b q k : Nat) (x : Int32) (f : Nat → Int32) (hk : k < 3) : zM3 l yX0_goOn cX0_goOn 2 2 D t [.ref b, .int (nI k)] ([(b, .inr (0, [.ref q, .int x])), (q, .inl (t.1, 3, .inl f))]) (fun _ : Unit => True) (fun _ => [(b, .inr (0, [.ref q, .int x])), (q, .inl (t.1, 3, .inl (upd f k (f k + nI 1))))]) := by
  refine z_m3 (by decide +kernel) (Nat.le_of_ble_eq_true rfl) (by simp [Value.category]) ?_
  intro E X Z Y
  refine z_lv (lv' := [some (.ref b), some (.int (nI k))]) rfl ?_
  refine z_iload_n X dX0_goOn_0 rfl rfl ?_
  refine z_iconst (v := nI 3) X dX0_goOn_1 (by decide) ?_
  refine n_icmp_lt (tgt := 22) X dX0_goOn_2 (by decide) (by omega) (by omega) (fun _ => ?_) (fun c2 => absurd c2 (by omega))
  refine z_aload_n X dX0_goOn_22 rfl rfl ?_
  refine z_iload_n X dX0_goOn_23 rfl rfl ?_
  refine z_iconst (v := nI 1) X dX0_goOn_24 (by decide) ?_
  refine z_callV3 (k := 0) (n := 0) (st := []) X Y rfl (c_X0_changeLevel l D t b q k x (nI 1) f hk) k_X0_changeLevel q_ml_X0_35 [0, 1] (fun _ => [(b, .inr (0, [.ref q, .int x])), (q, .inl (t.1, 3, .inl (upd f k (f k + nI 1))))]) (fun _ => ⟨⟨by decide, rfl⟩, ⟨by decide, rfl⟩, rfl, rfl⟩) ⟨by decide, rfl⟩ 0 0 rfl rfl (by decide) rfl rfl rfl (Nat.le_of_ble_eq_true rfl) ⟨Nat.zero_le _, Nat.zero_le _⟩ dX0_goOn_25 (fun _ _ => ?_)
  refine z_vret X Z dX0_goOn_28 ?_
  exact ⟨(), trivial, fun q hq => hq⟩
set_option maxHeartbeats 4000000 in
set_option maxRecDepth 100000 in
theorem c_X0_goBackG (l : Launch) (D : va_G) (t : ClassId × ClassId × ClassId) (b q h j : Nat) (x : Int32) (f : Nat → Int32) (hh : h < 256) (hj : j < 8) (hb : h.testBit j = false) (hx : x = nI (h ||| 2 ^ j)) : zM3 l yX0_goBack cX0_goBack 2 2 D t [.ref b, .int (nI (j + 3))] ([(b, .inr (0, [.ref q, .int x])), (q, .inl (t.1, 3, .inl f))]) (fun _ : Unit => True) (fun _ => [(b, .inr (0, [.ref q, .int (nI h)])), (q, .inl (t.1, 3, .inl f))]) := by
  refine z_m3 (by decide +kernel) (Nat.le_of_ble_eq_true rfl) (by simp [Value.category]) ?_
  intro E X Z Y
  refine z_lv (lv' := [some (.ref b), some (.int (nI (j + 3)))]) rfl ?_
  refine z_iload_n X dX0_goBack_0 rfl rfl ?_
  refine z_iconst (v := nI 3) X dX0_goBack_1 (by decide) ?_
  refine n_icmp_lt (tgt := 24) X dX0_goBack_2 (by decide) (by omega) (by omega) (fun c2 => absurd c2 (by omega)) (fun c2 => ?_)
  refine z_aload_n X dX0_goBack_5 rfl rfl ?_
  refine z_dup X dX0_goBack_6 rfl ?_
  refine z_get X (C := RX0) (T := TX0) (N := 2) (ci := 0) (v := .int x) inZ0 0 1 rfl rfl (by decide) q_fl_X0_15 rfl rfl dX0_goBack_7 ?_
  refine z_top (y := nI (h ||| 2 ^ j)) (hx) ?_
  refine z_iconst (v := nI 1) X dX0_goBack_10 (by decide) ?_
  refine z_iload_n X dX0_goBack_11 rfl rfl ?_
  refine z_iconst (v := nI 3) X dX0_goBack_12 (by decide) ?_
  refine n_isub X dX0_goBack_13 (by omega) ?_
  refine z_top (y := nI j) (by rw [Nat.add_sub_cancel]) ?_
  refine n_ishl1 X dX0_goBack_14 (by omega) ?_
  refine z_iconst (v := (-1)) X dX0_goBack_15 (by decide) ?_
  refine z_ixor X dX0_goBack_16 ?_
  refine z_iand X dX0_goBack_17 ?_
  refine z_top (y := nI h) (zn_clr h hh j hj hb) ?_
  refine z_put X Y (C := RX0) (T := TX0) (N := 2) (ci := 0) (ty := .int) inZ0 tyX0 tyX0_ok nmX0 0 1 rfl rfl rfl (by decide) q_fl_X0_15 rfl rfl (by decide +kernel) rfl rfl (Nat.le_of_ble_eq_true rfl) dX0_goBack_18 ?_
  refine Wz.eq (ws' := [(b, .inr (0, [.ref q, .int (nI h)])), (q, .inl (t.1, 3, .inl f))]) rfl ?_
  refine z_goto (tgt := 30) X dX0_goBack_21 (by decide) ?_
  refine z_vret X Z dX0_goBack_30 ?_
  exact ⟨(), trivial, fun q hq => hq⟩
set_option maxHeartbeats 4000000 in
set_option maxRecDepth 100000 in
theorem c_X0_goBackL (l : Launch) (D : va_G) (t : ClassId × ClassId × ClassId) (b q k : Nat) (x : Int32) (f : Nat → Int32) (hk : k < 3) : zM3 l yX0_goBack cX0_goBack 2 2 D t [.ref b, .int (nI k)] ([(b, .inr (0, [.ref q, .int x])), (q, .inl (t.1, 3, .inl f))]) (fun _ : Unit => True) (fun _ => [(b, .inr (0, [.ref q, .int x])), (q, .inl (t.1, 3, .inl (upd f k (f k + (-1)))))]) := by
  refine z_m3 (by decide +kernel) (Nat.le_of_ble_eq_true rfl) (by simp [Value.category]) ?_
  intro E X Z Y
  refine z_lv (lv' := [some (.ref b), some (.int (nI k))]) rfl ?_
  refine z_iload_n X dX0_goBack_0 rfl rfl ?_
  refine z_iconst (v := nI 3) X dX0_goBack_1 (by decide) ?_
  refine n_icmp_lt (tgt := 24) X dX0_goBack_2 (by decide) (by omega) (by omega) (fun _ => ?_) (fun c2 => absurd c2 (by omega))
  refine z_aload_n X dX0_goBack_24 rfl rfl ?_
  refine z_iload_n X dX0_goBack_25 rfl rfl ?_
  refine z_iconst (v := (-1)) X dX0_goBack_26 (by decide) ?_
  refine z_callV3 (k := 0) (n := 0) (st := []) X Y rfl (c_X0_changeLevel l D t b q k x (-1) f hk) k_X0_changeLevel q_ml_X0_35 [0, 1] (fun _ => [(b, .inr (0, [.ref q, .int x])), (q, .inl (t.1, 3, .inl (upd f k (f k + (-1)))))]) (fun _ => ⟨⟨by decide, rfl⟩, ⟨by decide, rfl⟩, rfl, rfl⟩) ⟨by decide, rfl⟩ 0 0 rfl rfl (by decide) rfl rfl rfl (Nat.le_of_ble_eq_true rfl) ⟨Nat.zero_le _, Nat.zero_le _⟩ dX0_goBack_27 (fun _ _ => ?_)
  refine z_vret X Z dX0_goBack_30 ?_
  exact ⟨(), trivial, fun q hq => hq⟩
set_option maxHeartbeats 4000000 in
set_option maxRecDepth 100000 in
theorem c_X0_empty (l : Launch) (D : va_G) (t : ClassId × ClassId × ClassId) (b q : Nat) (x : Int32) (f : Nat → Int32) : zM3 l yX0_empty cX0_empty 1 1 D t [.ref b] ([(b, .inr (0, [.ref q, .int x])), (q, .inl (t.1, 3, .inl f))]) (fun _ : Unit => True) (fun _ => [(b, .inr (0, [.ref q, .int (nI 0)])), (q, .inl (t.1, 3, .inl (fun _ => nI 0)))]) := by
  refine z_m3 (by decide +kernel) (Nat.le_of_ble_eq_true rfl) (by simp [Value.category]) ?_
  intro E X Z Y
  refine z_lv (lv' := [some (.ref b)]) rfl ?_
  refine z_aload_n X dX0_empty_0 rfl rfl ?_
  refine z_get X (C := RX0) (T := TX0) (N := 2) (ci := 0) (v := .ref q) inZ0 0 0 rfl rfl (by decide) q_fl_X0_9 rfl rfl dX0_empty_1 ?_
  refine z_iconst (v := nI 0) X dX0_empty_4 (by decide) ?_
  refine z_callS3 (k := 0) (n := 0) (st := []) X Y rfl (c_J7_fill_53178 l D t q 3 f (nI 0) (by decide)) k_J7_fill_53178 q_ml_X0_19 [1] (fun _ => [(b, .inr (0, [.ref q, .int x])), (q, .inl (t.1, 3, .inl (fun _ => nI 0)))]) (fun _ => ⟨⟨by decide, rfl⟩, ⟨by decide, rfl⟩, rfl, rfl⟩) ⟨by decide, rfl⟩ (by decide) rfl rfl rfl (Nat.le_of_ble_eq_true rfl) ⟨Nat.zero_le _, Nat.zero_le _⟩ dX0_empty_5 (fun _ _ => ?_)
  refine z_aload_n X dX0_empty_8 rfl rfl ?_
  refine z_iconst (v := nI 0) X dX0_empty_9 (by decide) ?_
  refine z_put X Y (C := RX0) (T := TX0) (N := 2) (ci := 0) (ty := .int) inZ0 tyX0 tyX0_ok nmX0 0 1 rfl rfl rfl (by decide) q_fl_X0_15 rfl rfl (by decide +kernel) rfl rfl (Nat.le_of_ble_eq_true rfl) dX0_empty_10 ?_
  refine Wz.eq (ws' := [(b, .inr (0, [.ref q, .int (nI 0)])), (q, .inl (t.1, 3, .inl (fun _ => nI 0)))]) rfl ?_
  refine z_vret X Z dX0_empty_13 ?_
  exact ⟨(), trivial, fun q hq => hq⟩
