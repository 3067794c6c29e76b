/-! the trial: its levels, its gifts, the marks -/
def T3 (S : zS) (x y z s : Nat) (e : Nat → Int32) : zS := va_up (va_up (va_up S 19 (l3 x y z)) 20 (fun _ => nI s)) 21 e
section
variable {S : zS} {x y z s x' y' z' s' k : Nat} {e e' : Nat → Int32} {t : ClassId × ClassId × ClassId} {a : Nat → Nat} {f : Nat → Int32}
theorem T3I (h : zI S) : zI (T3 S x y z s e) := h
theorem T3mt {s9 x9 y9 z9 j : Nat} : mt (T3 S x y z s e) x9 y9 z9 s9 j ↔ mt S x9 y9 z9 s9 j := Iff.rfl
theorem swT3 : zSwap (wR t a (T3 S x y z s e)) [6, 23] (wT t a (nI s) (l3 x y z)) (wT t a (nI s') (l3 x' y' z')) (wR t a (T3 S x' y' z' s' e)) := ⟨⟨by decide, rfl⟩, ⟨by decide, rfl⟩, rfl, rfl⟩
theorem ppT3 : zPart (wR t a (T3 S x y z s e)) [6, 23] (wT t a (nI s) (l3 x y z)) := ⟨by decide, rfl⟩
theorem T3_20 : wR t a (va_up (T3 S x y z s e) 20 (fun _ => nI s')) = wR t a (T3 S x y z s' e) := rfl
theorem T3_21 : wR t a (va_up (T3 S x y z s e) 21 e') = wR t a (T3 S x y z s e') := rfl
theorem T3_19 : wR t a (va_up (T3 S x y z s e) 19 (l3 x' y' z')) = wR t a (T3 S x' y' z' s e) := rfl
theorem l3u_0 : upd (l3 x y z) 0 (l3 x y z 0 + nI 1) = l3 (x + 1) y z := by
  funext i; unfold upd l3
  by_cases h : i = 0
  · simp [h, nI_add]
  · simp [h]
theorem l3u_1 : upd (l3 x y z) 1 (l3 x y z 1 + nI 1) = l3 x (y + 1) z := by
  funext i; unfold upd l3
  by_cases h : i = 1
  · simp [h, nI_add]
  · simp [h]
theorem l3z {x y z x' y' z' : Nat} : ∀ i, i < 3 → upd (l3 x y z) 2 (nI z') i = l3 x y z' i := by
  intro i hi
  unfold upd l3
  rcases (show i = 0 ∨ i = 1 ∨ i = 2 by omega) with rfl | rfl | rfl <;> simp
theorem l3w_0 : upd (l3 x y z) 0 (nI x') = l3 x' y z := by
  funext i; unfold upd l3
  by_cases h : i = 0 <;> simp [h]
theorem l3w_1 : upd (l3 x y z) 1 (nI y') = l3 x y' z := by
  funext i; unfold upd l3
  by_cases h : i = 1 <;> simp [h]
theorem l3d_0 : upd (l3 (x + 1) y z) 0 (l3 (x + 1) y z 0 + (-1)) = l3 x y z := by
  rw [show l3 (x + 1) y z 0 + (-1) = nI x from pk_m1 x]; exact l3w_0
theorem l3d_1 : upd (l3 x (y + 1) z) 1 (l3 x (y + 1) z 1 + (-1)) = l3 x y z := by
  rw [show l3 x (y + 1) z 1 + (-1) = nI y from pk_m1 y]; exact l3w_1
/-- three places are all that a cell has -/
theorem zPw {D : va_G} {H : Heap} {v : Int32} {g : Nat → Int32} (h : ∀ i, i < 3 → f i = g i) (hP : va_P D vwCl (wT t a v f) H) : va_P D vwCl (wT t a v g) H := by
  intro k q hq
  rcases k with - | - | k
  · exact hP 0 q hq
  · exact zcell h (fun k q hq => by cases k with | zero => exact hP 1 q hq | succ k => simp at hq) 0 q hq
  · simp at hq
end
theorem zM3.w' {S : Type} {l : Launch} {y : MethodName} {c : ByteArray} {n h : Nat} {D : va_G} {t : ClassId × ClassId × ClassId} {As : List Value} {w : va_W} {φ : S → Prop} {w1 w2 : S → va_W} (e : ∀ u H, va_P D vwCl (w1 u) H → va_P D vwCl (w2 u) H) (hM : zM3 l y c n h D t As w φ w1) : zM3 l y c n h D t As w φ w2 := by
  intro p e1 ha hc hk s m args below hf happ hP hK
  obtain ⟨i, o, h1, h2, h3, ⟨⟨⟨u, h4, h5, h6⟩, h7⟩, h8⟩⟩ := hM p e1 ha hc hk s m args below hf happ hP hK
  exact ⟨i, o, h1, h2, h3, ⟨⟨⟨u, h4, h5, e u _ h6⟩, h7⟩, h8⟩⟩
theorem c_goOnT (l : Launch) (D : va_G) (t : ClassId × ClassId × ClassId) (a : Nat → Nat) (x y z s k : Nat) (hs : s < 256) (hk : k < 11) : zM3 l yX0_goOn cX0_goOn 2 2 D t [.ref (a 6), .int (nI k)] (wT t a (nI s) (l3 x y z)) (fun _ : Unit => True) (fun _ => wT t a (nI (gs k s)) (l3 (gx k x) (gy k y) (gz k z))) := by
  rcases (show k = 0 ∨ k = 1 ∨ k = 2 ∨ 3 ≤ k by omega) with rfl | rfl | rfl | h
  · have h := c_X0_goOnL l D t (a 6) (a 23) 0 (nI s) (l3 x y z) (by decide)
    rw [l3u_0] at h; exact h
  · have h := c_X0_goOnL l D t (a 6) (a 23) 1 (nI s) (l3 x y z) (by decide)
    rw [l3u_1] at h; exact h
  · have h := c_X0_goOnL l D t (a 6) (a 23) 2 (nI s) (l3 x y z) (by decide)
    rw [show l3 x y z 2 + nI 1 = nI (z + 1) from nI_add z 1] at h
    exact h.w' (fun _ H hP => zPw (l3z (x' := 0) (y' := 0)) hP)
  · obtain ⟨j, rfl⟩ : ∃ j, k = j + 3 := ⟨k - 3, by omega⟩
    have h1 := c_X0_goOnG l D t (a 6) (a 23) s j (nI s) (l3 x y z) hs (by omega) rfl
    rw [show gs (j + 3) s = s ||| 2 ^ j from by unfold gs; rw [if_pos h]; rfl, show gx (j + 3) x = x from rfl, show gy (j + 3) y = y from by unfold gy; rw [if_neg (by omega)], show gz (j + 3) z = z from by unfold gz; rw [if_neg (by omega)]]
    exact h1
theorem c_goBackT (l : Launch) (D : va_G) (t : ClassId × ClassId × ClassId) (a : Nat → Nat) (x y z s k : Nat) (hs : s < 256) (hk : k < 11) (hb : 3 ≤ k → s.testBit (k - 3) = false) : zM3 l yX0_goBack cX0_goBack 2 2 D t [.ref (a 6), .int (nI k)] (wT t a (nI (gs k s)) (l3 (gx k x) (gy k y) (gz k z))) (fun _ : Unit => True) (fun _ => wT t a (nI s) (l3 x y z)) := by
  rcases (show k = 0 ∨ k = 1 ∨ k = 2 ∨ 3 ≤ k by omega) with rfl | rfl | rfl | h
  · have h := c_X0_goBackL l D t (a 6) (a 23) 0 (nI s) (l3 (x + 1) y z) (by decide)
    rw [l3d_0] at h; exact h
  · have h := c_X0_goBackL l D t (a 6) (a 23) 1 (nI s) (l3 x (y + 1) z) (by decide)
    rw [l3d_1] at h; exact h
  · have h := c_X0_goBackL l D t (a 6) (a 23) 2 (nI s) (l3 x y (z + 1)) (by decide)
    rw [show l3 x y (z + 1) 2 + (-1) = nI z from pk_m1 z] at h
    exact h.w' (fun _ H hP => zPw (l3z (x' := 0) (y' := 0)) hP)
  · obtain ⟨j, rfl⟩ : ∃ j, k = j + 3 := ⟨k - 3, by omega⟩
    have h1 := c_X0_goBackG l D t (a 6) (a 23) s j (nI (s ||| 2 ^ j)) (l3 x y z) hs (by omega) (by have := hb h; rwa [Nat.add_sub_cancel] at this) rfl
    rw [show gs (j + 3) s = s ||| 2 ^ j from by unfold gs; rw [if_pos h]; rfl, show gx (j + 3) x = x from rfl, show gy (j + 3) y = y from by unfold gy; rw [if_neg (by omega)], show gz (j + 3) z = z from by unfold gz; rw [if_neg (by omega)]]
    exact h1
/-- the place of a stage with its gifts -/
def wd (Y Z x y z s : Nat) : Nat := stg Y Z x y z * 8 + s / 32
def mkd (e : Nat → Int32) (Y Z x y z s : Nat) : Prop := btm (e (wd Y Z x y z s)) (s % 32)
theorem wd_lt {X Y Z x y z s : Nat} (hX : X + Y + Z ≤ 8) (hx : x ≤ X) (hy : y ≤ Y) (hz : z ≤ Z) (hs : s < 256) : wd Y Z x y z s < 384 := by
  have := stg_lt hX hx hy hz
  unfold wd; omega
set_option maxHeartbeats 4000000 in
set_option maxRecDepth 100000 in
theorem c_X3_wordOfTrial (l : Launch) (D : va_G) (t : ClassId × ClassId × ClassId) (a : Nat → Nat) (S : zS) (Xn Yn Zn x y z s : Nat) (e : Nat → Int32) (h15 : S 15 = l3 Xn Yn Zn) (hs : s < 256) : zM1 l yX3_wordOfTrial cX3_wordOfTrial 3 (some .int) 0 D t [.ref (a 0)] (wR t a (T3 S x y z s e)) (fun r => r = nI (wd Yn Zn x y z s)) := by
  refine z_m1 (by decide +kernel) (Nat.le_of_ble_eq_true rfl) (by simp [Value.category]) ?_
  intro E X Z
  refine z_lv (lv' := [some (.ref (a 0)), none, none]) rfl ?_
  refine z_aload_n X dX3_wordOfTrial_0 rfl rfl ?_
  refine z_get X (C := RX3) (T := TX3) (N := 8) (ci := 3) (v := .ref (a 6)) inZ3 0 6 rfl rfl (by decide) q_fl_X3_41 rfl rfl dX3_wordOfTrial_1 ?_
  refine z_get X (C := RX0) (T := TX0) (N := 2) (ci := 0) (v := .ref (a 23)) inZ0 6 0 rfl rfl (by decide) q_fl_X3_236 rfl rfl dX3_wordOfTrial_4 ?_
  refine z_iconst (v := nI 0) X dX3_wordOfTrial_7 (by decide) ?_
  refine n_iald (f := l3 x y z) X 23 rfl (by omega) (by decide) dX3_wordOfTrial_8 ?_
  refine z_top (y := nI x) (rfl) ?_
  refine z_istore_n X dX3_wordOfTrial_9 rfl (Nat.le_of_ble_eq_true rfl) ?_
  refine z_lv (lv' := [some (.ref (a 0)), some (.int (nI x)), none]) rfl ?_
  refine z_iconst (v := nI 1) X dX3_wordOfTrial_10 (by decide) ?_
  refine z_istore_n X dX3_wordOfTrial_11 rfl (Nat.le_of_ble_eq_true rfl) ?_
  refine z_lv (lv' := [some (.ref (a 0)), some (.int (nI x)), some (.int (nI 1))]) rfl ?_
  refine z_iload_n X dX3_wordOfTrial_12 rfl rfl ?_
  refine z_iconst (v := nI 3) X dX3_wordOfTrial_13 (by decide) ?_
  refine n_icmp_ge (tgt := 47) X dX3_wordOfTrial_14 (by decide) (by omega) (by omega) (fun c14 => absurd c14 (by decide)) (fun _ => ?_)
  refine z_iload_n X dX3_wordOfTrial_17 rfl rfl ?_
  refine z_aload_n X dX3_wordOfTrial_18 rfl rfl ?_
  refine z_get X (C := RX3) (T := TX3) (N := 8) (ci := 3) (v := .ref (a 4)) inZ3 0 3 rfl rfl (by decide) q_fl_X3_30 rfl rfl dX3_wordOfTrial_19 ?_
  refine z_get X (C := RX0) (T := TX0) (N := 2) (ci := 0) (v := .ref (a 22)) inZ0 4 0 rfl rfl (by decide) q_fl_X3_236 rfl rfl dX3_wordOfTrial_22 ?_
  refine z_iload_n X dX3_wordOfTrial_25 rfl rfl ?_
  refine n_iald (f := S 15) X 22 rfl (by omega) (by decide) dX3_wordOfTrial_26 ?_
  refine z_top (y := nI Yn) (by rw [h15]; rfl) ?_
  refine z_iconst (v := nI 1) X dX3_wordOfTrial_27 (by decide) ?_
  refine n_iadd X dX3_wordOfTrial_28 ?_
  refine n_imul X dX3_wordOfTrial_29 ?_
  refine z_aload_n X dX3_wordOfTrial_30 rfl rfl ?_
  refine z_get X (C := RX3) (T := TX3) (N := 8) (ci := 3) (v := .ref (a 6)) inZ3 0 6 rfl rfl (by decide) q_fl_X3_41 rfl rfl dX3_wordOfTrial_31 ?_
  refine z_get X (C := RX0) (T := TX0) (N := 2) (ci := 0) (v := .ref (a 23)) inZ0 6 0 rfl rfl (by decide) q_fl_X3_236 rfl rfl dX3_wordOfTrial_34 ?_
  refine z_iload_n X dX3_wordOfTrial_37 rfl rfl ?_
  refine n_iald (f := l3 x y z) X 23 rfl (by omega) (by decide) dX3_wordOfTrial_38 ?_
  refine z_top (y := nI y) (rfl) ?_
  refine n_iadd X dX3_wordOfTrial_39 ?_
  refine z_istore_n X dX3_wordOfTrial_40 rfl (Nat.le_of_ble_eq_true rfl) ?_
  refine z_lv (lv' := [some (.ref (a 0)), some (.int (nI ((x * (Yn + 1)) + y))), some (.int (nI 1))]) rfl ?_
  refine z_iinc (v := nI 2) X dX3_wordOfTrial_41 rfl (by decide) ?_
  refine z_lv (lv' := [some (.ref (a 0)), some (.int (nI ((x * (Yn + 1)) + y))), some (.int (nI 2))]) rfl ?_
  refine z_goto (tgt := 12) X dX3_wordOfTrial_44 (by decide) ?_
  refine z_iload_n X dX3_wordOfTrial_12 rfl rfl ?_
  refine z_iconst (v := nI 3) X dX3_wordOfTrial_13 (by decide) ?_
  refine n_icmp_ge (tgt := 47) X dX3_wordOfTrial_14 (by decide) (by omega) (by omega) (fun c14 => absurd c14 (by decide)) (fun _ => ?_)
  refine z_iload_n X dX3_wordOfTrial_17 rfl rfl ?_
  refine z_aload_n X dX3_wordOfTrial_18 rfl rfl ?_
  refine z_get X (C := RX3) (T := TX3) (N := 8) (ci := 3) (v := .ref (a 4)) inZ3 0 3 rfl rfl (by decide) q_fl_X3_30 rfl rfl dX3_wordOfTrial_19 ?_
  refine z_get X (C := RX0) (T := TX0) (N := 2) (ci := 0) (v := .ref (a 22)) inZ0 4 0 rfl rfl (by decide) q_fl_X3_236 rfl rfl dX3_wordOfTrial_22 ?_
  refine z_iload_n X dX3_wordOfTrial_25 rfl rfl ?_
  refine n_iald (f := S 15) X 22 rfl (by omega) (by decide) dX3_wordOfTrial_26 ?_
  refine z_top (y := nI Zn) (by rw [h15]; rfl) ?_
  refine z_iconst (v := nI 1) X dX3_wordOfTrial_27 (by decide) ?_
  refine n_iadd X dX3_wordOfTrial_28 ?_
  refine n_imul X dX3_wordOfTrial_29 ?_
  refine z_aload_n X dX3_wordOfTrial_30 rfl rfl ?_
  refine z_get X (C := RX3) (T := TX3) (N := 8) (ci := 3) (v := .ref (a 6)) inZ3 0 6 rfl rfl (by decide) q_fl_X3_41 rfl rfl dX3_wordOfTrial_31 ?_
  refine z_get X (C := RX0) (T := TX0) (N := 2) (ci := 0) (v := .ref (a 23)) inZ0 6 0 rfl rfl (by decide) q_fl_X3_236 rfl rfl dX3_wordOfTrial_34 ?_
  refine z_iload_n X dX3_wordOfTrial_37 rfl rfl ?_
  refine n_iald (f := l3 x y z) X 23 rfl (by omega) (by decide) dX3_wordOfTrial_38 ?_
  refine z_top (y := nI z) (rfl) ?_
  refine n_iadd X dX3_wordOfTrial_39 ?_
  refine z_istore_n X dX3_wordOfTrial_40 rfl (Nat.le_of_ble_eq_true rfl) ?_
  refine z_lv (lv' := [some (.ref (a 0)), some (.int (nI ((((x * (Yn + 1)) + y) * (Zn + 1)) + z))), some (.int (nI 2))]) rfl ?_
  refine z_iinc (v := nI 3) X dX3_wordOfTrial_41 rfl (by decide) ?_
  refine z_lv (lv' := [some (.ref (a 0)), some (.int (nI ((((x * (Yn + 1)) + y) * (Zn + 1)) + z))), some (.int (nI 3))]) rfl ?_
  refine z_goto (tgt := 12) X dX3_wordOfTrial_44 (by decide) ?_
  refine z_iload_n X dX3_wordOfTrial_12 rfl rfl ?_
  refine z_iconst (v := nI 3) X dX3_wordOfTrial_13 (by decide) ?_
  refine n_icmp_ge (tgt := 47) X dX3_wordOfTrial_14 (by decide) (by omega) (by omega) (fun _ => ?_) (fun c14 => absurd c14 (by decide))
  refine z_iload_n X dX3_wordOfTrial_47 rfl rfl ?_
  refine z_bipush (v := nI 8) X dX3_wordOfTrial_48 (by decide) ?_
  refine n_imul X dX3_wordOfTrial_50 ?_
  refine z_aload_n X dX3_wordOfTrial_51 rfl rfl ?_
  refine z_get X (C := RX3) (T := TX3) (N := 8) (ci := 3) (v := .ref (a 6)) inZ3 0 6 rfl rfl (by decide) q_fl_X3_41 rfl rfl dX3_wordOfTrial_52 ?_
  refine z_get X (C := RX0) (T := TX0) (N := 2) (ci := 0) (v := .int (nI s)) inZ0 6 1 rfl rfl (by decide) q_fl_X3_155 rfl rfl dX3_wordOfTrial_55 ?_
  refine z_bipush (v := nI 32) X dX3_wordOfTrial_58 (by decide) ?_
  refine n_idiv X dX3_wordOfTrial_60 (by omega) (by decide) (by decide) ?_
  refine n_iadd X dX3_wordOfTrial_61 ?_
  refine z_iret X Z rfl dX3_wordOfTrial_62 ?_
  exact ⟨(), rfl, fun _ _ => trivial⟩
set_option maxHeartbeats 4000000 in
set_option maxRecDepth 100000 in
theorem c_X3_bitOfTrial (l : Launch) (D : va_G) (t : ClassId × ClassId × ClassId) (a : Nat → Nat) (S : zS) (x y z s : Nat) (e : Nat → Int32) (hs : s < 256) : zM1 l yX3_bitOfTrial cX3_bitOfTrial 1 (some .int) 0 D t [.ref (a 0)] (wR t a (T3 S x y z s e)) (fun r => r = nI (2 ^ (s % 32))) := by
  refine z_m1 (by decide +kernel) (Nat.le_of_ble_eq_true rfl) (by simp [Value.category]) ?_
  intro E X Z
  refine z_lv (lv' := [some (.ref (a 0))]) rfl ?_
  refine z_iconst (v := nI 1) X dX3_bitOfTrial_0 (by decide) ?_
  refine z_aload_n X dX3_bitOfTrial_1 rfl rfl ?_
  refine z_get X (C := RX3) (T := TX3) (N := 8) (ci := 3) (v := .ref (a 6)) inZ3 0 6 rfl rfl (by decide) q_fl_X3_41 rfl rfl dX3_bitOfTrial_2 ?_
  refine z_get X (C := RX0) (T := TX0) (N := 2) (ci := 0) (v := .int (nI s)) inZ0 6 1 rfl rfl (by decide) q_fl_X3_155 rfl rfl dX3_bitOfTrial_5 ?_
  refine z_bipush (v := nI 32) X dX3_bitOfTrial_8 (by decide) ?_
  refine n_irem X dX3_bitOfTrial_10 (by omega) (by decide) (by decide) ?_
  refine n_ishl1 X dX3_bitOfTrial_11 (by omega) ?_
  refine z_iret X Z rfl dX3_bitOfTrial_12 ?_
  exact ⟨(), rfl, fun _ _ => trivial⟩
set_option maxHeartbeats 4000000 in
set_option maxRecDepth 100000 in
theorem c_X3_isMarked (l : Launch) (D : va_G) (t : ClassId × ClassId × ClassId) (a : Nat → Nat) (S : zS) (Xn Yn Zn x y z s : Nat) (e : Nat → Int32) (h15 : S 15 = l3 Xn Yn Zn) (hs : s < 256) (hw : wd Yn Zn x y z s < 384) : zM1 l yX3_isMarked cX3_isMarked 2 (some .boolean) 1 D t [.ref (a 0)] (wR t a (T3 S x y z s e)) (fun r => bz r (mkd e Yn Zn x y z s)) := by
  refine z_m1 (by decide +kernel) (Nat.le_of_ble_eq_true rfl) (by simp [Value.category]) ?_
  intro E X Z
  refine z_lv (lv' := [some (.ref (a 0)), none]) rfl ?_
  refine z_aload_n X dX3_isMarked_0 rfl rfl ?_
  refine z_callV1 (k := 0) (n := 0) (st := []) X (c_X3_wordOfTrial l D t a S Xn Yn Zn x y z s e h15 (by omega)) k_X3_wordOfTrial q_ml_X3_277 is24 ⟨by decide, rfl⟩ 0 3 rfl rfl (by decide) rfl rfl rfl (Nat.le_of_ble_eq_true rfl) ⟨Nat.zero_le _, Nat.zero_le _⟩ dX3_isMarked_1 (fun r1 h1 => ?_)
  subst h1
  refine z_istore_n X dX3_isMarked_4 rfl (Nat.le_of_ble_eq_true rfl) ?_
  refine z_lv (lv' := [some (.ref (a 0)), some (.int (nI (wd Yn Zn x y z s)))]) rfl ?_
  refine z_iload_n X dX3_isMarked_5 rfl rfl ?_
  refine z_aload_n X dX3_isMarked_6 rfl rfl ?_
  refine z_get X (C := RX3) (T := TX3) (N := 8) (ci := 3) (v := .ref (a 7)) inZ3 0 7 rfl rfl (by decide) q_fl_X3_44 rfl rfl dX3_isMarked_7 ?_
  refine z_alen X (v := nI 384) 7 rfl rfl dX3_isMarked_10 ?_
  refine z_callS1 (k := 0) (n := 0) (st := []) X (c_X3_isAmong l D t (wd Yn Zn x y z s) 384 (by omega) (by decide)) k_X3_isAmong q_ml_X3_53 [] ⟨by decide, rfl⟩ (by decide) rfl rfl rfl (Nat.le_of_ble_eq_true rfl) ⟨Nat.zero_le _, Nat.zero_le _⟩ dX3_isMarked_11 (fun r11 h11 => ?_)
  rcases h11 with ⟨rfl, h11⟩ | ⟨rfl, h11⟩
  rotate_left
  · exact absurd (by omega) h11
  refine n_if_eq (tgt := 35) X dX3_isMarked_14 (by decide) (by omega) (fun c14 => absurd c14 (by decide)) (fun _ => ?_)
  refine z_aload_n X dX3_isMarked_17 rfl rfl ?_
  refine z_get X (C := RX3) (T := TX3) (N := 8) (ci := 3) (v := .ref (a 7)) inZ3 0 7 rfl rfl (by decide) q_fl_X3_44 rfl rfl dX3_isMarked_18 ?_
  refine z_iload_n X dX3_isMarked_21 rfl rfl ?_
  refine n_iald (f := e) X 7 rfl (by omega) (by decide) dX3_isMarked_22 ?_
  refine z_aload_n X dX3_isMarked_23 rfl rfl ?_
  refine z_callV1 (k := 0) (n := 0) (st := [.int (e (wd Yn Zn x y z s))]) X (c_X3_bitOfTrial l D t a S x y z s e (by omega)) k_X3_bitOfTrial q_ml_X3_280 is24 ⟨by decide, rfl⟩ 0 3 rfl rfl (by decide) rfl rfl rfl (Nat.le_of_ble_eq_true rfl) ⟨Nat.zero_le _, Nat.zero_le _⟩ dX3_isMarked_24 (fun r24 h24 => ?_)
  subst h24
  refine z_iand X dX3_isMarked_27 ?_
  refine z_if_eq (tgt := 35) X dX3_isMarked_28 (by decide) (fun c28 => ?_) (fun c28 => ?_)
  ·
    refine z_iconst (v := nI 0) X dX3_isMarked_35 (by decide) ?_
    refine z_iret X Z (by decide +kernel) dX3_isMarked_36 ?_
    exact ⟨(), bz_f ((btm_and (Nat.mod_lt _ (by decide))).mp c28), fun _ _ => trivial⟩
  ·
    refine z_iconst (v := nI 1) X dX3_isMarked_31 (by decide) ?_
    refine z_goto (tgt := 36) X dX3_isMarked_32 (by decide) ?_
    refine z_iret X Z (by decide +kernel) dX3_isMarked_36 ?_
    exact ⟨(), bz_t (Classical.not_not.mp (fun q => c28 ((btm_and (Nat.mod_lt _ (by decide))).mpr q))), fun _ _ => trivial⟩
set_option maxHeartbeats 4000000 in
set_option maxRecDepth 100000 in
theorem c_X3_mark (l : Launch) (D : va_G) (t : ClassId × ClassId × ClassId) (a : Nat → Nat) (S : zS) (Xn Yn Zn x y z s : Nat) (e : Nat → Int32) (h15 : S 15 = l3 Xn Yn Zn) (hs : s < 256) (hw : wd Yn Zn x y z s < 384) : zM3 l yX3_mark cX3_mark 2 1 D t [.ref (a 0)] (wR t a (T3 S x y z s e)) (fun _ : Unit => True) (fun _ => wR t a (T3 S x y z s (upd e (wd Yn Zn x y z s) (e (wd Yn Zn x y z s) ||| nI (2 ^ (s % 32)))))) := by
  refine z_m3 (by decide +kernel) (Nat.le_of_ble_eq_true rfl) (by simp [Value.category]) ?_
  intro E X Z Y
  refine z_lv (lv' := [some (.ref (a 0)), none]) rfl ?_
  refine z_aload_n X dX3_mark_0 rfl rfl ?_
  refine z_callV1 (k := 0) (n := 0) (st := []) X (c_X3_wordOfTrial l D t a S Xn Yn Zn x y z s e h15 (by omega)) k_X3_wordOfTrial q_ml_X3_277 is24 ⟨by decide, rfl⟩ 0 3 rfl rfl (by decide) rfl rfl rfl (Nat.le_of_ble_eq_true rfl) ⟨Nat.zero_le _, Nat.zero_le _⟩ dX3_mark_1 (fun r1 h1 => ?_)
  subst h1
  refine z_istore_n X dX3_mark_4 rfl (Nat.le_of_ble_eq_true rfl) ?_
  refine z_lv (lv' := [some (.ref (a 0)), some (.int (nI (wd Yn Zn x y z s)))]) rfl ?_
  refine z_iload_n X dX3_mark_5 rfl rfl ?_
  refine z_aload_n X dX3_mark_6 rfl rfl ?_
  refine z_get X (C := RX3) (T := TX3) (N := 8) (ci := 3) (v := .ref (a 7)) inZ3 0 7 rfl rfl (by decide) q_fl_X3_44 rfl rfl dX3_mark_7 ?_
  refine z_alen X (v := nI 384) 7 rfl rfl dX3_mark_10 ?_
  refine z_callS1 (k := 0) (n := 0) (st := []) X (c_X3_isAmong l D t (wd Yn Zn x y z s) 384 (by omega) (by decide)) k_X3_isAmong q_ml_X3_53 [] ⟨by decide, rfl⟩ (by decide) rfl rfl rfl (Nat.le_of_ble_eq_true rfl) ⟨Nat.zero_le _, Nat.zero_le _⟩ dX3_mark_11 (fun r11 h11 => ?_)
  rcases h11 with ⟨rfl, h11⟩ | ⟨rfl, h11⟩
  rotate_left
  · exact absurd (by omega) h11
  refine n_if_eq (tgt := 30) X dX3_mark_14 (by decide) (by omega) (fun c14 => absurd c14 (by decide)) (fun _ => ?_)
  refine z_aload_n X dX3_mark_17 rfl rfl ?_
  refine z_get X (C := RX3) (T := TX3) (N := 8) (ci := 3) (v := .ref (a 7)) inZ3 0 7 rfl rfl (by decide) q_fl_X3_44 rfl rfl dX3_mark_18 ?_
  refine z_iload_n X dX3_mark_21 rfl rfl ?_
  refine z_dup2 X dX3_mark_22 rfl rfl ?_
  refine n_iald (f := e) X 7 rfl (by omega) (by decide) dX3_mark_23 ?_
  refine z_aload_n X dX3_mark_24 rfl rfl ?_
  refine z_callV1 (k := 0) (n := 0) (st := [.int (e (wd Yn Zn x y z s)), .int (nI (wd Yn Zn x y z s)), .ref (a 7)]) X (c_X3_bitOfTrial l D t a S x y z s e (by omega)) k_X3_bitOfTrial q_ml_X3_280 is24 ⟨by decide, rfl⟩ 0 3 rfl rfl (by decide) rfl rfl rfl (Nat.le_of_ble_eq_true rfl) ⟨Nat.zero_le _, Nat.zero_le _⟩ dX3_mark_25 (fun r25 h25 => ?_)
  subst h25
  refine z_ior X dX3_mark_28 ?_
  refine n_iast X Y 7 aR_eq rfl (by omega) (by decide) dX3_mark_29 ?_
  refine Wz.eq (uR_21 (f := upd e (wd Yn Zn x y z s) ((e (wd Yn Zn x y z s)) ||| (nI (2 ^ (s % 32)))))) ?_
  refine z_vret X Z dX3_mark_30 ?_
  exact ⟨(), trivial, fun q hq => hq⟩
