/-! the law's walk from its entry -/
theorem z_room1 {s : State} {P : Platform} (h : s.hasRoom P room_1 = true) : s.hasRoom P (zRm 64 646323 7162802) = true := hasRoom_le (Nat.le_of_ble_eq_true rfl) (Nat.le_of_ble_eq_true rfl) (Nat.le_of_ble_eq_true rfl) (Nat.le_of_ble_eq_true rfl) h
/-- the law's frame -/
abbrev lwE (p : Program) (l : Launch) (e : Env) (s : State) (m : MethodId) (b : Nat) (below : List Frame) (meth : Method) (c : Code) (D : va_G) (t : ClassId × ClassId × ClassId) : zE := (p, l, e, zRm 64 646323 7162802, s, m, #[Value.ref b], below, meth, c, D, (fun q => s.heap.size ≤ q), lw_Z below #[Value.ref b] s, t)
section ZS8
variable {p : Program} {l : Launch} {e : Env} {s : State} {m : MethodId} {b : Nat} {below : List Frame} {meth : Method} {c : Code} {D : va_G} {t : ClassId × ClassId × ClassId}
theorem lw_fin (hroom : s.hasRoom e.platform room_1 = true) (hx : p.tables.exec = Jvm.exec) (hb : c.code = code) (hr : meth.sig.returnType = ret) (hlocks : meth.locks = false) {k n : Nat} (hk : k ≤ 646323) (hn : n ≤ 7162802) {lv : List (Option Value)} {ws : va_W} : Wz (lwE p l e s m b below meth c D t) k n 327 lv [.int (nI 1)] ws := by
  intro ls H locs hl hP hD hS
  refine va_forget (fun q hq => hS.2.2 q hq) ?_
  refine W.widen hk hn ?_
  refine z_roomB hroom ?_
  exact lw_ret (d0 := s.drawn) (Drawn.sameBut.refl s.drawn lw_cs) hx hb hr hlocks dL_law_327
end ZS8
section ZB8
variable {E : zE} {D : va_G} {t : ClassId × ClassId × ClassId} {l : Launch} {bs L : Nat} {xs : Nat → Int32}
set_option maxHeartbeats 4000000 in
set_option maxRecDepth 10000 in
theorem lw_body (X : zX E RL code 9 (zRm 64 646323 7162802) D t l) (N2 : va_Nw zNest2 (zs E)) (hA : ∀ q, (zs E).heap.size ≤ q → zA E q) (V : zTry E) (hX : va_X bs L xs (zs E) (zs E).heap) (hbl : bs < (zs E).heap.size) (hbA : ¬ zA E bs) (hL : L ≤ 260) (hfl : l.stackTraces = false) (F : ∀ (k n : Nat), k ≤ 646323 → n ≤ 7162802 → ∀ lv ws, Wz E k n 327 lv [.int (nI 1)] ws) : Wz E 0 0 0 [some (.ref bs), none, none, none, none, none, none, none, none] [] [] := by
  have Y0 : zWr E [] := fun q h => absurd h List.not_mem_nil
  have hd8 : ∀ j, j < 8 → defaultValue (tyX3 j) = vp_V [.null, .null, .null, .null, .null, .int (nI 0), .null, .null] j := fun j hj => by rcases (show j = 0 ∨ j = 1 ∨ j = 2 ∨ j = 3 ∨ j = 4 ∨ j = 5 ∨ j = 6 ∨ j = 7 by omega) with rfl | rfl | rfl | rfl | rfl | rfl | rfl | rfl <;> rfl
  refine z_newo (k := 0) (n := 0) X Y0 rfl hA (C := RX3) (T := TX3) (N := 8) (ci := 3) (fs := [.null, .null, .null, .null, .null, .int (nI 0), .null, .null]) inZ3 tyX3 tyX3_ok q_cl_L_11 q_is_X3 q_in_X3 rfl hd8 (by decide) (by decide) dL_law_0 (fun q0 Y => ?_)
  refine z_dup X dL_law_3 rfl ?_
  refine z_callI (As := []) (k := 1) (n := 8) (st := [.ref q0]) (np := 0) (wr := []) X Y rfl hA N2 (fun sz => c_X3_init l D t q0 sz) rfl q_im_X3_init q_in_X3 q_co_X3_init (by decide +kernel) (by decide) q_ml_L_156 [0] [] rfl (by decide) rfl (by decide) (by decide) (by decide) rfl rfl rfl (Nat.le_of_ble_eq_true rfl) (by decide) dL_law_4 (fun a ha Y1 => ?_)
  subst ha
  refine z_astore_n X dL_law_7 rfl (by decide : 1 < 9) ?_
  refine z_lv (lv' := [some (.ref bs), some (.ref (a 0)), none, none, none, none, none, none, none]) rfl ?_
  refine Wz.eq (ws' := wR t a S00) rfl ?_
  refine z_newo (k := 24) (n := 532) X Y1 rfl hA (C := RX3) (T := TX3) (N := 8) (ci := 3) (fs := [.null, .null, .null, .null, .null, .int (nI 0), .null, .null]) inZ3 tyX3 tyX3_ok q_cl_L_11 q_is_X3 q_in_X3 rfl hd8 (by decide) (by decide) dL_law_8 (fun q8 Y => ?_)
  refine z_dup X dL_law_11 rfl ?_
  refine z_callI (As := []) (k := 25) (n := 540) (st := [.ref q8]) (np := 0) (wr := wR t a S00) X Y rfl hA N2 (fun sz => c_X3_init l D t q8 sz) rfl q_im_X3_init q_in_X3 q_co_X3_init (by decide +kernel) (by decide) q_ml_L_156 [24] is24 rfl (by decide) rfl (by decide) (by decide) (by decide) rfl rfl rfl (Nat.le_of_ble_eq_true rfl) (by decide) dL_law_12 (fun b hb Y2 => ?_)
  subst hb
  refine z_astore_n X dL_law_15 rfl (by decide : 2 < 9) ?_
  refine z_lv (lv' := [some (.ref bs), some (.ref (a 0)), some (.ref (b 0)), none, none, none, none, none, none]) rfl ?_
  refine z_bipush (v := nI 24) X dL_law_16 (by decide) ?_
  refine z_newa (k := 48) (n := 1064) X Y2 rfl hA (atype := .int) (ty := .int) (c0 := t.1) 0 rfl (fun _ _ h => h) rfl q_ac_int (m := 24) (a0 := (24, .inl (fun _ => 0))) (fun _ => rfl) rfl (by decide) (by decide) (by decide) (by decide) dL_law_18 (fun qb Y3 => ?_)
  refine z_astore_n X dL_law_20 rfl (by decide : 3 < 9) ?_
  refine z_bipush (v := nI 24) X dL_law_21 (by decide) ?_
  refine z_newa (k := 49) (n := 1088) X Y3 rfl hA (atype := .int) (ty := .int) (c0 := t.1) 0 rfl (fun _ _ h => h) rfl q_ac_int (m := 24) (a0 := (24, .inl (fun _ => 0))) (fun _ => rfl) rfl (by decide) (by decide) (by decide) (by decide) dL_law_23 (fun qv Y4 => ?_)
  refine z_astore X dL_law_25 (by decide : 4 < 9) ?_
  refine z_iconst (v := nI 5) X dL_law_27 (by decide) ?_
  refine z_newa (k := 50) (n := 1112) X Y4 rfl hA (atype := .int) (ty := .int) (c0 := t.1) 0 rfl (fun _ _ h => h) rfl q_ac_int (m := 5) (a0 := (5, .inl (fun _ => 0))) (fun _ => rfl) rfl (by decide) (by decide) (by decide) (by decide) dL_law_28 (fun qc Y5 => ?_)
  refine z_astore X dL_law_30 (by decide : 5 < 9) ?_
  refine z_lv (lv' := [some (.ref bs), some (.ref (a 0)), some (.ref (b 0)), some (.ref qb), some (.ref qv), some (.ref qc), none, none, none]) rfl ?_
  refine Wz.eq (ws' := wA t a b (T6 S00 z00) (T6 S00 z00) qb qv qc (fun _ => 0) (fun _ => 0) (fun _ => 0)) ?_ ?_
  · show wR t a S00 ++ wR t b S00 ++ _ ++ _ ++ _ = wR t a (T6 S00 z00) ++ wR t b (T6 S00 z00) ++ _
    rw [← S00_6, ← S00_6]
    rfl
  · refine Wz.wide (k' := 200) (n' := 1200) (by decide) (by decide) ?_
    exact lw_ini X V hX hbl hbA hL hfl F Y5
end ZB8
set_option maxHeartbeats 4000000 in
set_option maxRecDepth 10000 in
theorem whole_start {p : Program} {e : Env} {s : State} {m : MethodId} {below : List Frame} {meth : Method} {c : Code} (l : Launch) (hflags : l.flags = flags0) {b L : Nat} {xs : Nat → Int32} (hL : L ≤ 260) (C0 : lw_At p s m meth c b L xs) : W p l e room_1 s m #[Value.ref b] below meth c s.heap [] 0 0 (lw_Z below #[Value.ref b] s) (entryFrame m ([Value.ref b] : List Value).toArray 9) := by
  obtain ⟨hx, hb, hr, hml, hown, hts, hX, hbl, hlocks, hgv⟩ := id C0
  have hTs := zTs_of hts
  obtain ⟨D, t, hK⟩ := zK_ex hTs
  have hfl : l.stackTraces = false := by unfold Launch.stackTraces; rw [hflags]; decide
  refine z_room z_room1 (fun hroom => ?_)
  have hc1 : ∀ v ∈ [Value.ref b], v.category = 1 := by simp [Value.category]
  rw [entry_eq m [Value.ref b] hc1 9]
  have X : zX (lwE p l e s m b below meth c D t) RL code 9 (zRm 64 646323 7162802) D t l := ⟨hx, hb, hml, hown, ⟨hK, zNst_of hts zNest_in rfl⟩, rfl, hTs, rfl, rfl, rfl⟩
  have N2 : va_Nw zNest2 (zs (lwE p l e s m b below meth c D t)) := zNst_of hts zNest2_in rfl
  have hA : ∀ q, (zs (lwE p l e s m b below meth c D t)).heap.size ≤ q → zA (lwE p l e s m b below meth c D t) q := fun q h => h
  have hA0 : ∀ a : Nat, a < s.heap.size → ¬ zA (lwE p l e s m b below meth c D t) a := fun a h => Nat.not_le.mpr h
  have V : zTry (lwE p l e s m b below meth c D t) := ⟨zFx_of hts, zSt_of hts, zZU_of hts hgv hA0, zNp_of hgv, hA⟩
  have hbA : ¬ zA (lwE p l e s m b below meth c D t) b := hA0 b hbl
  have F : ∀ (k n : Nat), k ≤ 646323 → n ≤ 7162802 → ∀ lv ws, Wz (lwE p l e s m b below meth c D t) k n 327 lv [.int (nI 1)] ws := fun k n hk hn lv ws => lw_fin hroom hx hb hr hlocks hk hn
  suffices K : Wz (lwE p l e s m b below meth c D t) 0 0 0 [some (.ref b), none, none, none, none, none, none, none, none] [] [] from
    K _ s.heap [] (z_entry (As := [Value.ref b]) (n := 9) hc1 (Nat.le_of_ble_eq_true rfl)) (fun k q h => by simp at h) ⟨fun i j p q h => by simp at h, fun k q h => by simp at h⟩ va_S.rf
  exact lw_body X N2 hA V hX hbl hbA hL hfl F
