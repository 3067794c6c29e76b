/-! the constructors -/
theorem zPset {D : va_G} {H : Heap} {ws : va_W} {p q m : Nat} {c : ClassId} {f g : Nat → Int32} (he : ws[p]? = some (q, .inl (c, m, .inl f))) (h : ∀ i, i < m → f i = g i) (hP : va_P D vwCl ws H) : va_P D vwCl (ws.set p (q, .inl (c, m, .inl g))) H := by
  intro i x hx
  by_cases hi : i = p
  · subst hi
    have h1 : va_P D vwCl [(q, .inl (c, m, .inl f))] H := fun k x hx => by
      cases k with
      | zero => cases hx; exact hP i _ he
      | succ k => simp at hx
    have hlt : i < ws.length := (List.getElem?_eq_some_iff.mp he).1
    rw [List.getElem?_set_self hlt] at hx
    cases hx
    exact zcell h h1 0 _ rfl
  · rw [List.getElem?_set_ne (fun z => hi z.symm)] at hx
    exact hP i x hx
theorem z_cset {E : zE} {k n pc : Nat} {lv : List (Option Value)} {st : List Value} {ws : va_W} (p : Nat) {q m : Nat} {c : ClassId} {f : Nat → Int32} (g : Nat → Int32) (he : ws[p]? = some (q, .inl (c, m, .inl f))) (h : ∀ i, i < m → f i = g i) (ha : (ws.set p (q, .inl (c, m, .inl g))).map (fun x => x.1) = ws.map (fun x => x.1)) (kk : Wz E k n pc lv st (ws.set p (q, .inl (c, m, .inl g)))) : Wz E k n pc lv st ws :=
  z_cells (fun _ _ hP => zPset he h hP) ha kk
/-- the state of a new character without rules -/
def S00 : zS := fun k => match k with
  | 0 => fun _ => -1
  | 2 => fun _ => -1
  | 4 => fun _ => -1
  | 5 => fun _ => -1
  | 7 => fun _ => -1
  | 11 => fun _ => -1
  | 12 => fun _ => -1
  | 13 => fun _ => -1
  | 14 => fun _ => nI 8
  | _ => fun _ => nI 0
theorem z_callIN {E : zE} {k n pc : Nat} {lv : List (Option Value)} {st : List Value} {ws : va_W} {cc : ByteArray} {nL h rc rs : Nat} {D : va_G} {t : ClassId × ClassId × ClassId} {l : Launch} {L : List Nat} {S : Type} {h0 mc ms b : Nat} {w wr : va_W} {ξ : S → Prop} {w' : S → va_W} {st0 : List Value} (X : zX E RX3 cc nL (zRm h rc rs) D t l) (Y : zWr E L) (hL : ws.map (fun x => x.1) = L) (hA : ∀ q, (zs E).heap.size ≤ q → zA E q) (hN : va_Nw zNest2 (zs E)) (hM : ∀ sz, zM6 l yX0_init cX0_init 1 h0 mc ms D t [.ref b] w sz ξ w') (p1 : Cond.instanceMethod yX0_init ∈ zTs) (p3 : Cond.code yX0_init cX0_init 1 none ∈ zTs) (isC isR : List Nat) (hC : isC.map (fun i => ws[i]?) = w.map some) (hCn : va_nd isC = true) (hRr : isR.map (fun i => ws[i]?) = wr.map some) (hn : va_nd isR = true) (hdis : ∀ i ∈ isR, i ∉ isC) (hh : h0 < h) (hnl : lv.length = nL) (hs0 : st0 = .ref b :: st) (hst : (st.map fun v => v.category).sum ≤ 8) (hcs : k + mc ≤ rc ∧ n + ms ≤ rs) (hd : decode cc pc = .ok (.invokespecial 29, 3)) (kk : ∀ u, ξ u → zWr E ((wr ++ w' u).map (fun x => x.1)) → Wz E (k + mc) (n + ms) (pc + 3) lv st (wr ++ w' u)) : Wz E k n pc lv st0 ws := by
  intro ls H locs hl hP hD hS
  subst hs0
  have hDD : zD E = D := X.2.2.2.2.2.2.2.1
  have hl2 : E.2.1 = l := X.2.2.2.2.2.2.2.2.2
  have hR : E.2.2.2.1 = zRm h rc rs := X.2.2.2.2.2.1
  have hD' : va_D (zA E) ws := Y.dd hL hD
  have hF := va_free hD' hS hA isC hC
  have hpart : zPart ws isC w := ⟨hCn, hC⟩
  have hP0 := hpart.P hP
  have hD0 := hpart.D hD
  have hrun : va_Run E.1 E.2.1 E.2.2.1 E.2.2.2.1 (zs E) (zm E) (zargs E) (zb E) (zh E) (zc E) H locs k n mc ms (F0 (zm E) pc ls (.ref b :: st)) st (va_Qv ξ (zBn D w' (va_A w H.size)) (va_A w H.size) [Value.ref b].toArray) (va_A w H.size) := by
    rw [hl2]
    refine va_runIN (As := []) (host := "Rulesheet") (nL := nL) (n := 0) (own := RX3) (bytes := cX0_init) (maxL := 1) ⟨X.1, X.2.1, X.2.2.1, X.2.2.2.1, X.2.2.2.2.2.2.1⟩ (hM H.size) ⟨va_cnB 0 X.2.2.2.2.2.2.1 (zGoodW p3) rfl rfl rfl hN (X.w q_in_X0) (by decide +kernel) ?_, rfl, X.w p1⟩ ⟨zPn.blind, fun U hU hW => ⟨rfl, by rw [hU], by rw [hU, ← hDD]; exact hP0, zKp.moved X.2.2.2.2.1 hW, hD0, va_Nw.warmM hW hN⟩⟩ rfl rfl (hl.1.1.trans hnl) rfl (lv_room hst) hd ?_
    · rw [hR]; exact ⟨hh, by show 8 + (1 + 11) + 32 * h0 ≤ 32 * h; omega⟩
    · rw [hR]; exact hcs
  refine va_callv hrun hS (fun q _ h => hF q h) hF (fun u T H1 locs1 hT hvm hφ hB hz hk hS1 => ?_)
  obtain ⟨hP1, hD1⟩ := hB
  rw [hT] at hP1
  obtain ⟨hP2, hD2⟩ := va_join hP hD' isC isR hC hRr hn hdis hk hF (by rw [hDD]; exact hP1) hD1
  refine kk u hφ (fun q hq => ?_) ls H1 locs1 hl hP2 (hD2.weaken fun _ _ _ _ => trivial) hS1
  obtain ⟨x, hx, rfl⟩ := List.mem_map.mp hq
  obtain ⟨j, hj⟩ := List.getElem?_of_mem hx
  exact hD2.2 j x hj
set_option maxHeartbeats 2000000 in
set_option maxRecDepth 100000 in
theorem c_X0_init (l : Launch) (D : va_G) (t : ClassId × ClassId × ClassId) (b sz : Nat) : zM6 l yX0_init cX0_init 1 2 1 3 D t [.ref b] [(b, .inr (0, [.null, .int (nI 0)]))] sz (fun _ : Nat => True) (fun u => [(b, .inr (0, [.ref u, .int (nI 0)])), (u, .inl (t.1, 3, .inl (fun _ => nI 0)))]) := by
  refine z_m6 (by decide +kernel) (Nat.le_of_ble_eq_true rfl) (by simp [Value.category]) rfl ?_
  intro E X Z Nm N2 hA Y
  refine z_lv (lv' := [some (.ref b)]) rfl ?_
  refine z_aload_n X dX0_init_0 rfl rfl ?_
  refine z_obj X q_ml_X0_3 rfl (by decide) (by decide) dX0_init_1 ?_
  refine z_aload_n X dX0_init_4 rfl rfl ?_
  refine z_iconst (v := nI 3) X dX0_init_5 (by decide) ?_
  refine z_newa X Y rfl hA (atype := .int) (ty := .int) (c0 := t.1) 0 rfl (fun _ _ h => h) rfl q_ac_int (m := 3) (a0 := (3, .inl (fun _ => nI 0))) (fun _ => rfl) rfl (by decide) (by decide) (by decide) (by decide) dX0_init_6 (fun q6 Y => ?_)
  refine Wz.eq (ws' := [(b, .inr (0, [.null, .int (nI 0)])), (q6, .inl (t.1, 3, .inl (fun _ => nI 0)))]) rfl ?_
  refine z_putF X Y Nm (C := RX0) (T := TX0) (N := 2) (ci := 0) (ty := tyX0 0) inZ0 tyX0 tyX0_ok nmX0 0 0 rfl rfl rfl (by decide) q_fl_X0_9 rfl rfl rfl (tyX0_ok 0 (by decide)) rfl rfl (Nat.le_of_ble_eq_true rfl) dX0_init_8 ?_
  refine Wz.eq (ws' := [(b, .inr (0, [.ref q6, .int (nI 0)])), (q6, .inl (t.1, 3, .inl (fun _ => nI 0)))]) rfl ?_
  refine z_aload_n X dX0_init_11 rfl rfl ?_
  refine z_iconst (v := nI 0) X dX0_init_12 (by decide) ?_
  refine z_put X Y (C := RX0) (T := TX0) (N := 2) (ci := 0) (ty := .int) inZ0 tyX0 tyX0_ok nmX0 0 1 rfl rfl rfl (by decide) q_fl_X0_15 rfl rfl (by decide +kernel) rfl rfl (Nat.le_of_ble_eq_true rfl) dX0_init_13 ?_
  refine Wz.eq (ws' := [(b, .inr (0, [.ref q6, .int (nI 0)])), (q6, .inl (t.1, 3, .inl (fun _ => nI 0)))]) rfl ?_
  refine z_vretN X Y rfl Z dX0_init_16 ?_
  exact ⟨q6, trivial, fun H h => h, fun h => h⟩
set_option maxHeartbeats 2000000 in
set_option maxRecDepth 100000 in
theorem c_X1_init (l : Launch) (D : va_G) (t : ClassId × ClassId × ClassId) (b sz : Nat) : zM6 l yX1_init cX1_init 1 3 10 80 D t [.ref b] [(b, .inr (1, [.null, .null, .null, .null, .null, .null, .null, .null, .null, .null]))] sz (fun _ : Nat → Nat => True) (fun u => [(b, .inr (1, [.ref (u 0), .ref (u 1), .ref (u 2), .ref (u 3), .ref (u 4), .ref (u 5), .ref (u 6), .ref (u 7), .ref (u 8), .ref (u 9)])), ((u 0), .inl (t.1, 8, .inl (fun _ => (-1)))), ((u 1), .inl (t.1, 8, .inl (fun _ => nI 0))), ((u 2), .inl (t.1, 8, .inl (fun _ => (-1)))), ((u 3), .inl (t.1, 8, .inl (fun _ => nI 0))), ((u 4), .inl (t.1, 8, .inl (fun _ => (-1)))), ((u 5), .inl (t.1, 8, .inl (fun _ => (-1)))), ((u 6), .inl (t.1, 8, .inl (fun _ => nI 0))), ((u 7), .inl (t.1, 8, .inl (fun _ => (-1)))), ((u 8), .inl (t.1, 8, .inl (fun _ => nI 0))), ((u 9), .inl (t.1, 8, .inl (fun _ => nI 0)))]) := by
  refine z_m6 (by decide +kernel) (Nat.le_of_ble_eq_true rfl) (by simp [Value.category]) rfl ?_
  intro E X Z Nm N2 hA Y
  refine z_lv (lv' := [some (.ref b)]) rfl ?_
  refine z_aload_n X dX1_init_0 rfl rfl ?_
  refine z_obj X q_ml_X1_3 rfl (by decide) (by decide) dX1_init_1 ?_
  refine z_aload_n X dX1_init_4 rfl rfl ?_
  refine z_bipush (v := nI 8) X dX1_init_5 (by decide) ?_
  refine z_newa X Y rfl hA (atype := .int) (ty := .int) (c0 := t.1) 0 rfl (fun _ _ h => h) rfl q_ac_int (m := 8) (a0 := (8, .inl (fun _ => nI 0))) (fun _ => rfl) rfl (by decide) (by decide) (by decide) (by decide) dX1_init_7 (fun q7 Y => ?_)
  refine Wz.eq (ws' := [(b, .inr (1, [.null, .null, .null, .null, .null, .null, .null, .null, .null, .null])), (q7, .inl (t.1, 8, .inl (fun _ => nI 0)))]) rfl ?_
  refine z_putF X Y Nm (C := RX1) (T := TX1) (N := 10) (ci := 1) (ty := tyX1 0) inZ1 tyX1 tyX1_ok nmX1 0 0 rfl rfl rfl (by decide) q_fl_X1_9 rfl rfl rfl (tyX1_ok 0 (by decide)) rfl rfl (Nat.le_of_ble_eq_true rfl) dX1_init_9 ?_
  refine Wz.eq (ws' := [(b, .inr (1, [.ref q7, .null, .null, .null, .null, .null, .null, .null, .null, .null])), (q7, .inl (t.1, 8, .inl (fun _ => nI 0)))]) rfl ?_
  refine z_aload_n X dX1_init_12 rfl rfl ?_
  refine z_bipush (v := nI 8) X dX1_init_13 (by decide) ?_
  refine z_newa X Y rfl hA (atype := .int) (ty := .int) (c0 := t.1) 0 rfl (fun _ _ h => h) rfl q_ac_int (m := 8) (a0 := (8, .inl (fun _ => nI 0))) (fun _ => rfl) rfl (by decide) (by decide) (by decide) (by decide) dX1_init_15 (fun q15 Y => ?_)
  refine Wz.eq (ws' := [(b, .inr (1, [.ref q7, .null, .null, .null, .null, .null, .null, .null, .null, .null])), (q7, .inl (t.1, 8, .inl (fun _ => nI 0))), (q15, .inl (t.1, 8, .inl (fun _ => nI 0)))]) rfl ?_
  refine z_putF X Y Nm (C := RX1) (T := TX1) (N := 10) (ci := 1) (ty := tyX1 1) inZ1 tyX1 tyX1_ok nmX1 0 1 rfl rfl rfl (by decide) q_fl_X1_15 rfl rfl rfl (tyX1_ok 1 (by decide)) rfl rfl (Nat.le_of_ble_eq_true rfl) dX1_init_17 ?_
  refine Wz.eq (ws' := [(b, .inr (1, [.ref q7, .ref q15, .null, .null, .null, .null, .null, .null, .null, .null])), (q7, .inl (t.1, 8, .inl (fun _ => nI 0))), (q15, .inl (t.1, 8, .inl (fun _ => nI 0)))]) rfl ?_
  refine z_aload_n X dX1_init_20 rfl rfl ?_
  refine z_bipush (v := nI 8) X dX1_init_21 (by decide) ?_
  refine z_newa X Y rfl hA (atype := .int) (ty := .int) (c0 := t.1) 0 rfl (fun _ _ h => h) rfl q_ac_int (m := 8) (a0 := (8, .inl (fun _ => nI 0))) (fun _ => rfl) rfl (by decide) (by decide) (by decide) (by decide) dX1_init_23 (fun q23 Y => ?_)
  refine Wz.eq (ws' := [(b, .inr (1, [.ref q7, .ref q15, .null, .null, .null, .null, .null, .null, .null, .null])), (q7, .inl (t.1, 8, .inl (fun _ => nI 0))), (q15, .inl (t.1, 8, .inl (fun _ => nI 0))), (q23, .inl (t.1, 8, .inl (fun _ => nI 0)))]) rfl ?_
  refine z_putF X Y Nm (C := RX1) (T := TX1) (N := 10) (ci := 1) (ty := tyX1 2) inZ1 tyX1 tyX1_ok nmX1 0 2 rfl rfl rfl (by decide) q_fl_X1_18 rfl rfl rfl (tyX1_ok 2 (by decide)) rfl rfl (Nat.le_of_ble_eq_true rfl) dX1_init_25 ?_
  refine Wz.eq (ws' := [(b, .inr (1, [.ref q7, .ref q15, .ref q23, .null, .null, .null, .null, .null, .null, .null])), (q7, .inl (t.1, 8, .inl (fun _ => nI 0))), (q15, .inl (t.1, 8, .inl (fun _ => nI 0))), (q23, .inl (t.1, 8, .inl (fun _ => nI 0)))]) rfl ?_
  refine z_aload_n X dX1_init_28 rfl rfl ?_
  refine z_bipush (v := nI 8) X dX1_init_29 (by decide) ?_
  refine z_newa X Y rfl hA (atype := .int) (ty := .int) (c0 := t.1) 0 rfl (fun _ _ h => h) rfl q_ac_int (m := 8) (a0 := (8, .inl (fun _ => nI 0))) (fun _ => rfl) rfl (by decide) (by decide) (by decide) (by decide) dX1_init_31 (fun q31 Y => ?_)
  refine Wz.eq (ws' := [(b, .inr (1, [.ref q7, .ref q15, .ref q23, .null, .null, .null, .null, .null, .null, .null])), (q7, .inl (t.1, 8, .inl (fun _ => nI 0))), (q15, .inl (t.1, 8, .inl (fun _ => nI 0))), (q23, .inl (t.1, 8, .inl (fun _ => nI 0))), (q31, .inl (t.1, 8, .inl (fun _ => nI 0)))]) rfl ?_
  refine z_putF X Y Nm (C := RX1) (T := TX1) (N := 10) (ci := 1) (ty := tyX1 3) inZ1 tyX1 tyX1_ok nmX1 0 3 rfl rfl rfl (by decide) q_fl_X1_21 rfl rfl rfl (tyX1_ok 3 (by decide)) rfl rfl (Nat.le_of_ble_eq_true rfl) dX1_init_33 ?_
  refine Wz.eq (ws' := [(b, .inr (1, [.ref q7, .ref q15, .ref q23, .ref q31, .null, .null, .null, .null, .null, .null])), (q7, .inl (t.1, 8, .inl (fun _ => nI 0))), (q15, .inl (t.1, 8, .inl (fun _ => nI 0))), (q23, .inl (t.1, 8, .inl (fun _ => nI 0))), (q31, .inl (t.1, 8, .inl (fun _ => nI 0)))]) rfl ?_
  refine z_aload_n X dX1_init_36 rfl rfl ?_
  refine z_bipush (v := nI 8) X dX1_init_37 (by decide) ?_
  refine z_newa X Y rfl hA (atype := .int) (ty := .int) (c0 := t.1) 0 rfl (fun _ _ h => h) rfl q_ac_int (m := 8) (a0 := (8, .inl (fun _ => nI 0))) (fun _ => rfl) rfl (by decide) (by decide) (by decide) (by decide) dX1_init_39 (fun q39 Y => ?_)
  refine Wz.eq (ws' := [(b, .inr (1, [.ref q7, .ref q15, .ref q23, .ref q31, .null, .null, .null, .null, .null, .null])), (q7, .inl (t.1, 8, .inl (fun _ => nI 0))), (q15, .inl (t.1, 8, .inl (fun _ => nI 0))), (q23, .inl (t.1, 8, .inl (fun _ => nI 0))), (q31, .inl (t.1, 8, .inl (fun _ => nI 0))), (q39, .inl (t.1, 8, .inl (fun _ => nI 0)))]) rfl ?_
  refine z_putF X Y Nm (C := RX1) (T := TX1) (N := 10) (ci := 1) (ty := tyX1 4) inZ1 tyX1 tyX1_ok nmX1 0 4 rfl rfl rfl (by decide) q_fl_X1_24 rfl rfl rfl (tyX1_ok 4 (by decide)) rfl rfl (Nat.le_of_ble_eq_true rfl) dX1_init_41 ?_
  refine Wz.eq (ws' := [(b, .inr (1, [.ref q7, .ref q15, .ref q23, .ref q31, .ref q39, .null, .null, .null, .null, .null])), (q7, .inl (t.1, 8, .inl (fun _ => nI 0))), (q15, .inl (t.1, 8, .inl (fun _ => nI 0))), (q23, .inl (t.1, 8, .inl (fun _ => nI 0))), (q31, .inl (t.1, 8, .inl (fun _ => nI 0))), (q39, .inl (t.1, 8, .inl (fun _ => nI 0)))]) rfl ?_
  refine z_aload_n X dX1_init_44 rfl rfl ?_
  refine z_bipush (v := nI 8) X dX1_init_45 (by decide) ?_
  refine z_newa X Y rfl hA (atype := .int) (ty := .int) (c0 := t.1) 0 rfl (fun _ _ h => h) rfl q_ac_int (m := 8) (a0 := (8, .inl (fun _ => nI 0))) (fun _ => rfl) rfl (by decide) (by decide) (by decide) (by decide) dX1_init_47 (fun q47 Y => ?_)
  refine Wz.eq (ws' := [(b, .inr (1, [.ref q7, .ref q15, .ref q23, .ref q31, .ref q39, .null, .null, .null, .null, .null])), (q7, .inl (t.1, 8, .inl (fun _ => nI 0))), (q15, .inl (t.1, 8, .inl (fun _ => nI 0))), (q23, .inl (t.1, 8, .inl (fun _ => nI 0))), (q31, .inl (t.1, 8, .inl (fun _ => nI 0))), (q39, .inl (t.1, 8, .inl (fun _ => nI 0))), (q47, .inl (t.1, 8, .inl (fun _ => nI 0)))]) rfl ?_
  refine z_putF X Y Nm (C := RX1) (T := TX1) (N := 10) (ci := 1) (ty := tyX1 5) inZ1 tyX1 tyX1_ok nmX1 0 5 rfl rfl rfl (by decide) q_fl_X1_27 rfl rfl rfl (tyX1_ok 5 (by decide)) rfl rfl (Nat.le_of_ble_eq_true rfl) dX1_init_49 ?_
  refine Wz.eq (ws' := [(b, .inr (1, [.ref q7, .ref q15, .ref q23, .ref q31, .ref q39, .ref q47, .null, .null, .null, .null])), (q7, .inl (t.1, 8, .inl (fun _ => nI 0))), (q15, .inl (t.1, 8, .inl (fun _ => nI 0))), (q23, .inl (t.1, 8, .inl (fun _ => nI 0))), (q31, .inl (t.1, 8, .inl (fun _ => nI 0))), (q39, .inl (t.1, 8, .inl (fun _ => nI 0))), (q47, .inl (t.1, 8, .inl (fun _ => nI 0)))]) rfl ?_
  refine z_aload_n X dX1_init_52 rfl rfl ?_
  refine z_bipush (v := nI 8) X dX1_init_53 (by decide) ?_
  refine z_newa X Y rfl hA (atype := .int) (ty := .int) (c0 := t.1) 0 rfl (fun _ _ h => h) rfl q_ac_int (m := 8) (a0 := (8, .inl (fun _ => nI 0))) (fun _ => rfl) rfl (by decide) (by decide) (by decide) (by decide) dX1_init_55 (fun q55 Y => ?_)
  refine Wz.eq (ws' := [(b, .inr (1, [.ref q7, .ref q15, .ref q23, .ref q31, .ref q39, .ref q47, .null, .null, .null, .null])), (q7, .inl (t.1, 8, .inl (fun _ => nI 0))), (q15, .inl (t.1, 8, .inl (fun _ => nI 0))), (q23, .inl (t.1, 8, .inl (fun _ => nI 0))), (q31, .inl (t.1, 8, .inl (fun _ => nI 0))), (q39, .inl (t.1, 8, .inl (fun _ => nI 0))), (q47, .inl (t.1, 8, .inl (fun _ => nI 0))), (q55, .inl (t.1, 8, .inl (fun _ => nI 0)))]) rfl ?_
  refine z_putF X Y Nm (C := RX1) (T := TX1) (N := 10) (ci := 1) (ty := tyX1 6) inZ1 tyX1 tyX1_ok nmX1 0 6 rfl rfl rfl (by decide) q_fl_X1_30 rfl rfl rfl (tyX1_ok 6 (by decide)) rfl rfl (Nat.le_of_ble_eq_true rfl) dX1_init_57 ?_
  refine Wz.eq (ws' := [(b, .inr (1, [.ref q7, .ref q15, .ref q23, .ref q31, .ref q39, .ref q47, .ref q55, .null, .null, .null])), (q7, .inl (t.1, 8, .inl (fun _ => nI 0))), (q15, .inl (t.1, 8, .inl (fun _ => nI 0))), (q23, .inl (t.1, 8, .inl (fun _ => nI 0))), (q31, .inl (t.1, 8, .inl (fun _ => nI 0))), (q39, .inl (t.1, 8, .inl (fun _ => nI 0))), (q47, .inl (t.1, 8, .inl (fun _ => nI 0))), (q55, .inl (t.1, 8, .inl (fun _ => nI 0)))]) rfl ?_
  refine z_aload_n X dX1_init_60 rfl rfl ?_
  refine z_bipush (v := nI 8) X dX1_init_61 (by decide) ?_
  refine z_newa X Y rfl hA (atype := .int) (ty := .int) (c0 := t.1) 0 rfl (fun _ _ h => h) rfl q_ac_int (m := 8) (a0 := (8, .inl (fun _ => nI 0))) (fun _ => rfl) rfl (by decide) (by decide) (by decide) (by decide) dX1_init_63 (fun q63 Y => ?_)
  refine Wz.eq (ws' := [(b, .inr (1, [.ref q7, .ref q15, .ref q23, .ref q31, .ref q39, .ref q47, .ref q55, .null, .null, .null])), (q7, .inl (t.1, 8, .inl (fun _ => nI 0))), (q15, .inl (t.1, 8, .inl (fun _ => nI 0))), (q23, .inl (t.1, 8, .inl (fun _ => nI 0))), (q31, .inl (t.1, 8, .inl (fun _ => nI 0))), (q39, .inl (t.1, 8, .inl (fun _ => nI 0))), (q47, .inl (t.1, 8, .inl (fun _ => nI 0))), (q55, .inl (t.1, 8, .inl (fun _ => nI 0))), (q63, .inl (t.1, 8, .inl (fun _ => nI 0)))]) rfl ?_
  refine z_putF X Y Nm (C := RX1) (T := TX1) (N := 10) (ci := 1) (ty := tyX1 7) inZ1 tyX1 tyX1_ok nmX1 0 7 rfl rfl rfl (by decide) q_fl_X1_33 rfl rfl rfl (tyX1_ok 7 (by decide)) rfl rfl (Nat.le_of_ble_eq_true rfl) dX1_init_65 ?_
  refine Wz.eq (ws' := [(b, .inr (1, [.ref q7, .ref q15, .ref q23, .ref q31, .ref q39, .ref q47, .ref q55, .ref q63, .null, .null])), (q7, .inl (t.1, 8, .inl (fun _ => nI 0))), (q15, .inl (t.1, 8, .inl (fun _ => nI 0))), (q23, .inl (t.1, 8, .inl (fun _ => nI 0))), (q31, .inl (t.1, 8, .inl (fun _ => nI 0))), (q39, .inl (t.1, 8, .inl (fun _ => nI 0))), (q47, .inl (t.1, 8, .inl (fun _ => nI 0))), (q55, .inl (t.1, 8, .inl (fun _ => nI 0))), (q63, .inl (t.1, 8, .inl (fun _ => nI 0)))]) rfl ?_
  refine z_aload_n X dX1_init_68 rfl rfl ?_
  refine z_bipush (v := nI 8) X dX1_init_69 (by decide) ?_
  refine z_newa X Y rfl hA (atype := .int) (ty := .int) (c0 := t.1) 0 rfl (fun _ _ h => h) rfl q_ac_int (m := 8) (a0 := (8, .inl (fun _ => nI 0))) (fun _ => rfl) rfl (by decide) (by decide) (by decide) (by decide) dX1_init_71 (fun q71 Y => ?_)
  refine Wz.eq (ws' := [(b, .inr (1, [.ref q7, .ref q15, .ref q23, .ref q31, .ref q39, .ref q47, .ref q55, .ref q63, .null, .null])), (q7, .inl (t.1, 8, .inl (fun _ => nI 0))), (q15, .inl (t.1, 8, .inl (fun _ => nI 0))), (q23, .inl (t.1, 8, .inl (fun _ => nI 0))), (q31, .inl (t.1, 8, .inl (fun _ => nI 0))), (q39, .inl (t.1, 8, .inl (fun _ => nI 0))), (q47, .inl (t.1, 8, .inl (fun _ => nI 0))), (q55, .inl (t.1, 8, .inl (fun _ => nI 0))), (q63, .inl (t.1, 8, .inl (fun _ => nI 0))), (q71, .inl (t.1, 8, .inl (fun _ => nI 0)))]) rfl ?_
  refine z_putF X Y Nm (C := RX1) (T := TX1) (N := 10) (ci := 1) (ty := tyX1 8) inZ1 tyX1 tyX1_ok nmX1 0 8 rfl rfl rfl (by decide) q_fl_X1_36 rfl rfl rfl (tyX1_ok 8 (by decide)) rfl rfl (Nat.le_of_ble_eq_true rfl) dX1_init_73 ?_
  refine Wz.eq (ws' := [(b, .inr (1, [.ref q7, .ref q15, .ref q23, .ref q31, .ref q39, .ref q47, .ref q55, .ref q63, .ref q71, .null])), (q7, .inl (t.1, 8, .inl (fun _ => nI 0))), (q15, .inl (t.1, 8, .inl (fun _ => nI 0))), (q23, .inl (t.1, 8, .inl (fun _ => nI 0))), (q31, .inl (t.1, 8, .inl (fun _ => nI 0))), (q39, .inl (t.1, 8, .inl (fun _ => nI 0))), (q47, .inl (t.1, 8, .inl (fun _ => nI 0))), (q55, .inl (t.1, 8, .inl (fun _ => nI 0))), (q63, .inl (t.1, 8, .inl (fun _ => nI 0))), (q71, .inl (t.1, 8, .inl (fun _ => nI 0)))]) rfl ?_
  refine z_aload_n X dX1_init_76 rfl rfl ?_
  refine z_bipush (v := nI 8) X dX1_init_77 (by decide) ?_
  refine z_newa X Y rfl hA (atype := .int) (ty := .int) (c0 := t.1) 0 rfl (fun _ _ h => h) rfl q_ac_int (m := 8) (a0 := (8, .inl (fun _ => nI 0))) (fun _ => rfl) rfl (by decide) (by decide) (by decide) (by decide) dX1_init_79 (fun q79 Y => ?_)
  refine Wz.eq (ws' := [(b, .inr (1, [.ref q7, .ref q15, .ref q23, .ref q31, .ref q39, .ref q47, .ref q55, .ref q63, .ref q71, .null])), (q7, .inl (t.1, 8, .inl (fun _ => nI 0))), (q15, .inl (t.1, 8, .inl (fun _ => nI 0))), (q23, .inl (t.1, 8, .inl (fun _ => nI 0))), (q31, .inl (t.1, 8, .inl (fun _ => nI 0))), (q39, .inl (t.1, 8, .inl (fun _ => nI 0))), (q47, .inl (t.1, 8, .inl (fun _ => nI 0))), (q55, .inl (t.1, 8, .inl (fun _ => nI 0))), (q63, .inl (t.1, 8, .inl (fun _ => nI 0))), (q71, .inl (t.1, 8, .inl (fun _ => nI 0))), (q79, .inl (t.1, 8, .inl (fun _ => nI 0)))]) rfl ?_
  refine z_putF X Y Nm (C := RX1) (T := TX1) (N := 10) (ci := 1) (ty := tyX1 9) inZ1 tyX1 tyX1_ok nmX1 0 9 rfl rfl rfl (by decide) q_fl_X1_39 rfl rfl rfl (tyX1_ok 9 (by decide)) rfl rfl (Nat.le_of_ble_eq_true rfl) dX1_init_81 ?_
  refine Wz.eq (ws' := [(b, .inr (1, [.ref q7, .ref q15, .ref q23, .ref q31, .ref q39, .ref q47, .ref q55, .ref q63, .ref q71, .ref q79])), (q7, .inl (t.1, 8, .inl (fun _ => nI 0))), (q15, .inl (t.1, 8, .inl (fun _ => nI 0))), (q23, .inl (t.1, 8, .inl (fun _ => nI 0))), (q31, .inl (t.1, 8, .inl (fun _ => nI 0))), (q39, .inl (t.1, 8, .inl (fun _ => nI 0))), (q47, .inl (t.1, 8, .inl (fun _ => nI 0))), (q55, .inl (t.1, 8, .inl (fun _ => nI 0))), (q63, .inl (t.1, 8, .inl (fun _ => nI 0))), (q71, .inl (t.1, 8, .inl (fun _ => nI 0))), (q79, .inl (t.1, 8, .inl (fun _ => nI 0)))]) rfl ?_
  refine z_aload_n X dX1_init_84 rfl rfl ?_
  refine z_get X (C := RX1) (T := TX1) (N := 10) (ci := 1) (v := .ref q7) inZ1 0 0 rfl rfl (by decide) q_fl_X1_9 rfl rfl dX1_init_85 ?_
  refine z_iconst (v := (-1)) X dX1_init_88 (by decide) ?_
  refine z_callS3 (k := 10) (n := 80) (st := []) X Y rfl (c_J7_fill_53178 l D t q7 8 (fun _ => nI 0) (-1) (by decide)) k_J7_fill_53178 q_ml_X1_42 [1] (fun _ => [(b, .inr (1, [.ref q7, .ref q15, .ref q23, .ref q31, .ref q39, .ref q47, .ref q55, .ref q63, .ref q71, .ref q79])), (q7, .inl (t.1, 8, .inl (fun _ => (-1)))), (q15, .inl (t.1, 8, .inl (fun _ => nI 0))), (q23, .inl (t.1, 8, .inl (fun _ => nI 0))), (q31, .inl (t.1, 8, .inl (fun _ => nI 0))), (q39, .inl (t.1, 8, .inl (fun _ => nI 0))), (q47, .inl (t.1, 8, .inl (fun _ => nI 0))), (q55, .inl (t.1, 8, .inl (fun _ => nI 0))), (q63, .inl (t.1, 8, .inl (fun _ => nI 0))), (q71, .inl (t.1, 8, .inl (fun _ => nI 0))), (q79, .inl (t.1, 8, .inl (fun _ => nI 0)))]) (fun _ => ⟨⟨by decide, rfl⟩, ⟨by decide, rfl⟩, rfl, rfl⟩) ⟨by decide, rfl⟩ (by decide) rfl rfl rfl (Nat.le_of_ble_eq_true rfl) (by decide) dX1_init_89 (fun _ _ => ?_)
  refine z_aload_n X dX1_init_92 rfl rfl ?_
  refine z_get X (C := RX1) (T := TX1) (N := 10) (ci := 1) (v := .ref q23) inZ1 0 2 rfl rfl (by decide) q_fl_X1_18 rfl rfl dX1_init_93 ?_
  refine z_iconst (v := (-1)) X dX1_init_96 (by decide) ?_
  refine z_callS3 (k := 10) (n := 80) (st := []) X Y rfl (c_J7_fill_53178 l D t q23 8 (fun _ => nI 0) (-1) (by decide)) k_J7_fill_53178 q_ml_X1_42 [3] (fun _ => [(b, .inr (1, [.ref q7, .ref q15, .ref q23, .ref q31, .ref q39, .ref q47, .ref q55, .ref q63, .ref q71, .ref q79])), (q7, .inl (t.1, 8, .inl (fun _ => (-1)))), (q15, .inl (t.1, 8, .inl (fun _ => nI 0))), (q23, .inl (t.1, 8, .inl (fun _ => (-1)))), (q31, .inl (t.1, 8, .inl (fun _ => nI 0))), (q39, .inl (t.1, 8, .inl (fun _ => nI 0))), (q47, .inl (t.1, 8, .inl (fun _ => nI 0))), (q55, .inl (t.1, 8, .inl (fun _ => nI 0))), (q63, .inl (t.1, 8, .inl (fun _ => nI 0))), (q71, .inl (t.1, 8, .inl (fun _ => nI 0))), (q79, .inl (t.1, 8, .inl (fun _ => nI 0)))]) (fun _ => ⟨⟨by decide, rfl⟩, ⟨by decide, rfl⟩, rfl, rfl⟩) ⟨by decide, rfl⟩ (by decide) rfl rfl rfl (Nat.le_of_ble_eq_true rfl) (by decide) dX1_init_97 (fun _ _ => ?_)
  refine z_aload_n X dX1_init_100 rfl rfl ?_
  refine z_get X (C := RX1) (T := TX1) (N := 10) (ci := 1) (v := .ref q39) inZ1 0 4 rfl rfl (by decide) q_fl_X1_24 rfl rfl dX1_init_101 ?_
  refine z_iconst (v := (-1)) X dX1_init_104 (by decide) ?_
  refine z_callS3 (k := 10) (n := 80) (st := []) X Y rfl (c_J7_fill_53178 l D t q39 8 (fun _ => nI 0) (-1) (by decide)) k_J7_fill_53178 q_ml_X1_42 [5] (fun _ => [(b, .inr (1, [.ref q7, .ref q15, .ref q23, .ref q31, .ref q39, .ref q47, .ref q55, .ref q63, .ref q71, .ref q79])), (q7, .inl (t.1, 8, .inl (fun _ => (-1)))), (q15, .inl (t.1, 8, .inl (fun _ => nI 0))), (q23, .inl (t.1, 8, .inl (fun _ => (-1)))), (q31, .inl (t.1, 8, .inl (fun _ => nI 0))), (q39, .inl (t.1, 8, .inl (fun _ => (-1)))), (q47, .inl (t.1, 8, .inl (fun _ => nI 0))), (q55, .inl (t.1, 8, .inl (fun _ => nI 0))), (q63, .inl (t.1, 8, .inl (fun _ => nI 0))), (q71, .inl (t.1, 8, .inl (fun _ => nI 0))), (q79, .inl (t.1, 8, .inl (fun _ => nI 0)))]) (fun _ => ⟨⟨by decide, rfl⟩, ⟨by decide, rfl⟩, rfl, rfl⟩) ⟨by decide, rfl⟩ (by decide) rfl rfl rfl (Nat.le_of_ble_eq_true rfl) (by decide) dX1_init_105 (fun _ _ => ?_)
  refine z_aload_n X dX1_init_108 rfl rfl ?_
  refine z_get X (C := RX1) (T := TX1) (N := 10) (ci := 1) (v := .ref q47) inZ1 0 5 rfl rfl (by decide) q_fl_X1_27 rfl rfl dX1_init_109 ?_
  refine z_iconst (v := (-1)) X dX1_init_112 (by decide) ?_
  refine z_callS3 (k := 10) (n := 80) (st := []) X Y rfl (c_J7_fill_53178 l D t q47 8 (fun _ => nI 0) (-1) (by decide)) k_J7_fill_53178 q_ml_X1_42 [6] (fun _ => [(b, .inr (1, [.ref q7, .ref q15, .ref q23, .ref q31, .ref q39, .ref q47, .ref q55, .ref q63, .ref q71, .ref q79])), (q7, .inl (t.1, 8, .inl (fun _ => (-1)))), (q15, .inl (t.1, 8, .inl (fun _ => nI 0))), (q23, .inl (t.1, 8, .inl (fun _ => (-1)))), (q31, .inl (t.1, 8, .inl (fun _ => nI 0))), (q39, .inl (t.1, 8, .inl (fun _ => (-1)))), (q47, .inl (t.1, 8, .inl (fun _ => (-1)))), (q55, .inl (t.1, 8, .inl (fun _ => nI 0))), (q63, .inl (t.1, 8, .inl (fun _ => nI 0))), (q71, .inl (t.1, 8, .inl (fun _ => nI 0))), (q79, .inl (t.1, 8, .inl (fun _ => nI 0)))]) (fun _ => ⟨⟨by decide, rfl⟩, ⟨by decide, rfl⟩, rfl, rfl⟩) ⟨by decide, rfl⟩ (by decide) rfl rfl rfl (Nat.le_of_ble_eq_true rfl) (by decide) dX1_init_113 (fun _ _ => ?_)
  refine z_aload_n X dX1_init_116 rfl rfl ?_
  refine z_get X (C := RX1) (T := TX1) (N := 10) (ci := 1) (v := .ref q63) inZ1 0 7 rfl rfl (by decide) q_fl_X1_33 rfl rfl dX1_init_117 ?_
  refine z_iconst (v := (-1)) X dX1_init_120 (by decide) ?_
  refine z_callS3 (k := 10) (n := 80) (st := []) X Y rfl (c_J7_fill_53178 l D t q63 8 (fun _ => nI 0) (-1) (by decide)) k_J7_fill_53178 q_ml_X1_42 [8] (fun _ => [(b, .inr (1, [.ref q7, .ref q15, .ref q23, .ref q31, .ref q39, .ref q47, .ref q55, .ref q63, .ref q71, .ref q79])), (q7, .inl (t.1, 8, .inl (fun _ => (-1)))), (q15, .inl (t.1, 8, .inl (fun _ => nI 0))), (q23, .inl (t.1, 8, .inl (fun _ => (-1)))), (q31, .inl (t.1, 8, .inl (fun _ => nI 0))), (q39, .inl (t.1, 8, .inl (fun _ => (-1)))), (q47, .inl (t.1, 8, .inl (fun _ => (-1)))), (q55, .inl (t.1, 8, .inl (fun _ => nI 0))), (q63, .inl (t.1, 8, .inl (fun _ => (-1)))), (q71, .inl (t.1, 8, .inl (fun _ => nI 0))), (q79, .inl (t.1, 8, .inl (fun _ => nI 0)))]) (fun _ => ⟨⟨by decide, rfl⟩, ⟨by decide, rfl⟩, rfl, rfl⟩) ⟨by decide, rfl⟩ (by decide) rfl rfl rfl (Nat.le_of_ble_eq_true rfl) (by decide) dX1_init_121 (fun _ _ => ?_)
  refine z_vretN X Y rfl Z dX1_init_124 ?_
  exact ⟨fun i => [q7, q15, q23, q31, q39, q47, q55, q63, q71, q79].getD i 0, trivial, fun H h => h, fun h => h⟩
set_option maxHeartbeats 2000000 in
set_option maxRecDepth 100000 in
theorem c_X2_init (l : Launch) (D : va_G) (t : ClassId × ClassId × ClassId) (b sz : Nat) : zM6 l yX2_init cX2_init 1 3 4 24 D t [.ref b] [(b, .inr (2, [.null, .null, .null, .null]))] sz (fun _ : Nat → Nat => True) (fun u => [(b, .inr (2, [.ref (u 0), .ref (u 1), .ref (u 2), .ref (u 3)])), ((u 0), .inl (t.1, 6, .inl (fun _ => nI 0))), ((u 1), .inl (t.1, 6, .inl (fun _ => (-1)))), ((u 2), .inl (t.1, 6, .inl (fun _ => (-1)))), ((u 3), .inl (t.1, 6, .inl (fun _ => (-1))))]) := by
  refine z_m6 (by decide +kernel) (Nat.le_of_ble_eq_true rfl) (by simp [Value.category]) rfl ?_
  intro E X Z Nm N2 hA Y
  refine z_lv (lv' := [some (.ref b)]) rfl ?_
  refine z_aload_n X dX2_init_0 rfl rfl ?_
  refine z_obj X q_ml_X2_3 rfl (by decide) (by decide) dX2_init_1 ?_
  refine z_aload_n X dX2_init_4 rfl rfl ?_
  refine z_bipush (v := nI 6) X dX2_init_5 (by decide) ?_
  refine z_newa X Y rfl hA (atype := .int) (ty := .int) (c0 := t.1) 0 rfl (fun _ _ h => h) rfl q_ac_int (m := 6) (a0 := (6, .inl (fun _ => nI 0))) (fun _ => rfl) rfl (by decide) (by decide) (by decide) (by decide) dX2_init_7 (fun q7 Y => ?_)
  refine Wz.eq (ws' := [(b, .inr (2, [.null, .null, .null, .null])), (q7, .inl (t.1, 6, .inl (fun _ => nI 0)))]) rfl ?_
  refine z_putF X Y Nm (C := RX2) (T := TX2) (N := 4) (ci := 2) (ty := tyX2 0) inZ2 tyX2 tyX2_ok nmX2 0 0 rfl rfl rfl (by decide) q_fl_X2_9 rfl rfl rfl (tyX2_ok 0 (by decide)) rfl rfl (Nat.le_of_ble_eq_true rfl) dX2_init_9 ?_
  refine Wz.eq (ws' := [(b, .inr (2, [.ref q7, .null, .null, .null])), (q7, .inl (t.1, 6, .inl (fun _ => nI 0)))]) rfl ?_
  refine z_aload_n X dX2_init_12 rfl rfl ?_
  refine z_bipush (v := nI 6) X dX2_init_13 (by decide) ?_
  refine z_newa X Y rfl hA (atype := .int) (ty := .int) (c0 := t.1) 0 rfl (fun _ _ h => h) rfl q_ac_int (m := 6) (a0 := (6, .inl (fun _ => nI 0))) (fun _ => rfl) rfl (by decide) (by decide) (by decide) (by decide) dX2_init_15 (fun q15 Y => ?_)
  refine Wz.eq (ws' := [(b, .inr (2, [.ref q7, .null, .null, .null])), (q7, .inl (t.1, 6, .inl (fun _ => nI 0))), (q15, .inl (t.1, 6, .inl (fun _ => nI 0)))]) rfl ?_
  refine z_putF X Y Nm (C := RX2) (T := TX2) (N := 4) (ci := 2) (ty := tyX2 1) inZ2 tyX2 tyX2_ok nmX2 0 1 rfl rfl rfl (by decide) q_fl_X2_15 rfl rfl rfl (tyX2_ok 1 (by decide)) rfl rfl (Nat.le_of_ble_eq_true rfl) dX2_init_17 ?_
  refine Wz.eq (ws' := [(b, .inr (2, [.ref q7, .ref q15, .null, .null])), (q7, .inl (t.1, 6, .inl (fun _ => nI 0))), (q15, .inl (t.1, 6, .inl (fun _ => nI 0)))]) rfl ?_
  refine z_aload_n X dX2_init_20 rfl rfl ?_
  refine z_bipush (v := nI 6) X dX2_init_21 (by decide) ?_
  refine z_newa X Y rfl hA (atype := .int) (ty := .int) (c0 := t.1) 0 rfl (fun _ _ h => h) rfl q_ac_int (m := 6) (a0 := (6, .inl (fun _ => nI 0))) (fun _ => rfl) rfl (by decide) (by decide) (by decide) (by decide) dX2_init_23 (fun q23 Y => ?_)
  refine Wz.eq (ws' := [(b, .inr (2, [.ref q7, .ref q15, .null, .null])), (q7, .inl (t.1, 6, .inl (fun _ => nI 0))), (q15, .inl (t.1, 6, .inl (fun _ => nI 0))), (q23, .inl (t.1, 6, .inl (fun _ => nI 0)))]) rfl ?_
  refine z_putF X Y Nm (C := RX2) (T := TX2) (N := 4) (ci := 2) (ty := tyX2 2) inZ2 tyX2 tyX2_ok nmX2 0 2 rfl rfl rfl (by decide) q_fl_X2_18 rfl rfl rfl (tyX2_ok 2 (by decide)) rfl rfl (Nat.le_of_ble_eq_true rfl) dX2_init_25 ?_
  refine Wz.eq (ws' := [(b, .inr (2, [.ref q7, .ref q15, .ref q23, .null])), (q7, .inl (t.1, 6, .inl (fun _ => nI 0))), (q15, .inl (t.1, 6, .inl (fun _ => nI 0))), (q23, .inl (t.1, 6, .inl (fun _ => nI 0)))]) rfl ?_
  refine z_aload_n X dX2_init_28 rfl rfl ?_
  refine z_bipush (v := nI 6) X dX2_init_29 (by decide) ?_
  refine z_newa X Y rfl hA (atype := .int) (ty := .int) (c0 := t.1) 0 rfl (fun _ _ h => h) rfl q_ac_int (m := 6) (a0 := (6, .inl (fun _ => nI 0))) (fun _ => rfl) rfl (by decide) (by decide) (by decide) (by decide) dX2_init_31 (fun q31 Y => ?_)
  refine Wz.eq (ws' := [(b, .inr (2, [.ref q7, .ref q15, .ref q23, .null])), (q7, .inl (t.1, 6, .inl (fun _ => nI 0))), (q15, .inl (t.1, 6, .inl (fun _ => nI 0))), (q23, .inl (t.1, 6, .inl (fun _ => nI 0))), (q31, .inl (t.1, 6, .inl (fun _ => nI 0)))]) rfl ?_
  refine z_putF X Y Nm (C := RX2) (T := TX2) (N := 4) (ci := 2) (ty := tyX2 3) inZ2 tyX2 tyX2_ok nmX2 0 3 rfl rfl rfl (by decide) q_fl_X2_21 rfl rfl rfl (tyX2_ok 3 (by decide)) rfl rfl (Nat.le_of_ble_eq_true rfl) dX2_init_33 ?_
  refine Wz.eq (ws' := [(b, .inr (2, [.ref q7, .ref q15, .ref q23, .ref q31])), (q7, .inl (t.1, 6, .inl (fun _ => nI 0))), (q15, .inl (t.1, 6, .inl (fun _ => nI 0))), (q23, .inl (t.1, 6, .inl (fun _ => nI 0))), (q31, .inl (t.1, 6, .inl (fun _ => nI 0)))]) rfl ?_
  refine z_aload_n X dX2_init_36 rfl rfl ?_
  refine z_get X (C := RX2) (T := TX2) (N := 4) (ci := 2) (v := .ref q15) inZ2 0 1 rfl rfl (by decide) q_fl_X2_15 rfl rfl dX2_init_37 ?_
  refine z_iconst (v := (-1)) X dX2_init_40 (by decide) ?_
  refine z_callS3 (k := 4) (n := 24) (st := []) X Y rfl (c_J7_fill_53178 l D t q15 6 (fun _ => nI 0) (-1) (by decide)) k_J7_fill_53178 q_ml_X2_24 [2] (fun _ => [(b, .inr (2, [.ref q7, .ref q15, .ref q23, .ref q31])), (q7, .inl (t.1, 6, .inl (fun _ => nI 0))), (q15, .inl (t.1, 6, .inl (fun _ => (-1)))), (q23, .inl (t.1, 6, .inl (fun _ => nI 0))), (q31, .inl (t.1, 6, .inl (fun _ => nI 0)))]) (fun _ => ⟨⟨by decide, rfl⟩, ⟨by decide, rfl⟩, rfl, rfl⟩) ⟨by decide, rfl⟩ (by decide) rfl rfl rfl (Nat.le_of_ble_eq_true rfl) (by decide) dX2_init_41 (fun _ _ => ?_)
  refine z_aload_n X dX2_init_44 rfl rfl ?_
  refine z_get X (C := RX2) (T := TX2) (N := 4) (ci := 2) (v := .ref q23) inZ2 0 2 rfl rfl (by decide) q_fl_X2_18 rfl rfl dX2_init_45 ?_
  refine z_iconst (v := (-1)) X dX2_init_48 (by decide) ?_
  refine z_callS3 (k := 4) (n := 24) (st := []) X Y rfl (c_J7_fill_53178 l D t q23 6 (fun _ => nI 0) (-1) (by decide)) k_J7_fill_53178 q_ml_X2_24 [3] (fun _ => [(b, .inr (2, [.ref q7, .ref q15, .ref q23, .ref q31])), (q7, .inl (t.1, 6, .inl (fun _ => nI 0))), (q15, .inl (t.1, 6, .inl (fun _ => (-1)))), (q23, .inl (t.1, 6, .inl (fun _ => (-1)))), (q31, .inl (t.1, 6, .inl (fun _ => nI 0)))]) (fun _ => ⟨⟨by decide, rfl⟩, ⟨by decide, rfl⟩, rfl, rfl⟩) ⟨by decide, rfl⟩ (by decide) rfl rfl rfl (Nat.le_of_ble_eq_true rfl) (by decide) dX2_init_49 (fun _ _ => ?_)
  refine z_aload_n X dX2_init_52 rfl rfl ?_
  refine z_get X (C := RX2) (T := TX2) (N := 4) (ci := 2) (v := .ref q31) inZ2 0 3 rfl rfl (by decide) q_fl_X2_21 rfl rfl dX2_init_53 ?_
  refine z_iconst (v := (-1)) X dX2_init_56 (by decide) ?_
  refine z_callS3 (k := 4) (n := 24) (st := []) X Y rfl (c_J7_fill_53178 l D t q31 6 (fun _ => nI 0) (-1) (by decide)) k_J7_fill_53178 q_ml_X2_24 [4] (fun _ => [(b, .inr (2, [.ref q7, .ref q15, .ref q23, .ref q31])), (q7, .inl (t.1, 6, .inl (fun _ => nI 0))), (q15, .inl (t.1, 6, .inl (fun _ => (-1)))), (q23, .inl (t.1, 6, .inl (fun _ => (-1)))), (q31, .inl (t.1, 6, .inl (fun _ => (-1))))]) (fun _ => ⟨⟨by decide, rfl⟩, ⟨by decide, rfl⟩, rfl, rfl⟩) ⟨by decide, rfl⟩ (by decide) rfl rfl rfl (Nat.le_of_ble_eq_true rfl) (by decide) dX2_init_57 (fun _ _ => ?_)
  refine z_vretN X Y rfl Z dX2_init_60 ?_
  exact ⟨fun i => [q7, q15, q23, q31].getD i 0, trivial, fun H h => h, fun h => h⟩
