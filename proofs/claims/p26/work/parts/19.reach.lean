theorem l3_000 : l3 0 0 0 = fun _ => nI 0 := by funext i; unfold l3; split <;> (try split) <;> rfl
section
variable {E : zE} {k n pc : Nat} {lv : List (Option Value)} {st : List Value} {t : ClassId × ClassId × ClassId} {a : Nat → Nat} {S : zS}
theorem zP19 {D : va_G} {H : Heap} {f g : Nat → Int32} (h : ∀ i, i < 3 → f i = g i) (hP : va_P D vwCl (wR t a (va_up S 19 f)) H) : va_P D vwCl (wR t a (va_up S 19 g)) H := by
  have e : wR t a (va_up S 19 g) = (wR t a (va_up S 19 f)).set 23 (a 23, .inl (t.1, 3, .inl g)) := rfl
  intro i q hq
  by_cases hi : i = 23
  · subst hi
    have h1 : va_P D vwCl [(a 23, .inl (t.1, 3, .inl f))] H := fun k q hq => by
      cases k with
      | zero => exact hP 23 q hq
      | succ k => simp at hq
    have hq2 : q = (a 23, .inl (t.1, 3, .inl g)) := by cases hq; rfl
    rw [hq2]
    exact zcell h h1 0 _ rfl
  · rw [e, List.getElem?_set_ne (fun z => hi z.symm)] at hq
    exact hP i q hq
theorem z_cells {ws ws' : va_W} (hP : ∀ D H, va_P D vwCl ws H → va_P D vwCl ws' H) (ha : ws'.map (fun x => x.1) = ws.map (fun x => x.1)) (kk : Wz E k n pc lv st ws') : Wz E k n pc lv st ws :=
  fun ls H locs hl h hD hS => kk ls H locs hl (hP _ _ h) (zD_addr ha hD) hS
end
set_option maxHeartbeats 4000000 in
set_option maxRecDepth 100000 in
theorem c_X3_canReach (l : Launch) (D : va_G) (t : ClassId × ClassId × ClassId) (a : Nat → Nat) (S : zS) (Xn Yn Zn G x y z s : Nat) (e : Nat → Int32) (h15 : S 15 = l3 Xn Yn Zn) (h17 : S 17 0 = nI (Xn + Yn + Zn)) (hI : zI S) (hG : G < 256) (hX : Xn + Yn + Zn ≤ 8) : zM2 l yX3_canReach cX3_canReach 5 (some .boolean) 6 D t [.ref (a 0), .int (nI G)] (wR t a (T3 S x y z s e)) (fun r (u : Nat → Int32) => bz r (Rc S Xn Yn Zn G 0 0 0 0) ∧ Tb S Xn Yn Zn G u 0) (fun u => wR t a (T3 S 0 0 0 0 u)) := by
  refine z_m2 (by decide +kernel) (Nat.le_of_ble_eq_true rfl) (by simp [Value.category]) ?_
  intro E X Z Y
  refine z_lv (lv' := [some (.ref (a 0)), some (.int (nI G)), none, none, none]) rfl ?_
  refine z_aload_n X dX3_canReach_0 rfl rfl ?_
  refine z_get X (C := RX3) (T := TX3) (N := 8) (ci := 3) (v := .ref (a 7)) inZ3 0 7 rfl rfl (by decide) q_fl_X3_44 rfl rfl dX3_canReach_1 ?_
  refine z_iconst (v := nI 0) X dX3_canReach_4 (by decide) ?_
  refine z_callS3 (k := 0) (n := 0) (st := []) X Y aR_eq (c_J7_fill_53178 l D t (a 7) 384 e (nI 0) (by decide)) k_J7_fill_53178 q_ml_X3_47 [7] (fun _ => wR t a (T3 S x y z s (fun _ => nI 0))) (fun _ => ⟨⟨by decide, rfl⟩, ⟨by decide, rfl⟩, rfl, rfl⟩) ⟨by decide, rfl⟩ (by decide) rfl rfl rfl (Nat.le_of_ble_eq_true rfl) ⟨Nat.zero_le _, Nat.zero_le _⟩ dX3_canReach_5 (fun _ _ => ?_)
  refine z_aload_n X dX3_canReach_8 rfl rfl ?_
  refine z_get X (C := RX3) (T := TX3) (N := 8) (ci := 3) (v := .ref (a 4)) inZ3 0 3 rfl rfl (by decide) q_fl_X3_30 rfl rfl dX3_canReach_9 ?_
  refine z_get X (C := RX0) (T := TX0) (N := 2) (ci := 0) (v := .ref (a 22)) inZ0 4 0 rfl rfl (by decide) q_fl_X3_236 rfl rfl dX3_canReach_12 ?_
  refine z_iconst (v := nI 0) X dX3_canReach_15 (by decide) ?_
  refine n_iald (f := S 15) X 22 rfl (by omega) (by decide) dX3_canReach_16 ?_
  refine z_top (y := nI Xn) (by rw [h15]; rfl) ?_
  refine z_istore_n X dX3_canReach_17 rfl (Nat.le_of_ble_eq_true rfl) ?_
  refine z_lv (lv' := [some (.ref (a 0)), some (.int (nI G)), some (.int (nI Xn)), none, none]) rfl ?_
  refine zl_dn (fun i => ∀ (x : Nat) (y : Nat) (z : Nat) (s : Nat) (e : Nat → Int32), (i ≤ Xn + 1 ∧ Tb S Xn Yn Zn G e (stg Yn Zn i 0 0 * 256)) → Wz E 0 0 18 [some (.ref (a 0)), some (.int (nI G)), some (.int (sv i)), none, none] [] (wR t a (T3 S x y z s e))) ?_ ?_ (Xn + 1) x y z s (fun _ => nI 0) (⟨Nat.le_refl _, Tb_0 (Nat.le_refl _)⟩)
  ·
    intro x y z s e hv
    refine z_lv (lv' := [some (.ref (a 0)), some (.int (nI G)), some (.int (-1)), none, none]) rfl ?_
    refine z_iload_n X dX3_canReach_18 rfl rfl ?_
    refine z_if_lt (tgt := 106) X dX3_canReach_19 (by decide) (fun _ => ?_) (fun c19 => absurd c19 (by decide))
    refine z_aload_n X dX3_canReach_106 rfl rfl ?_
    refine z_get X (C := RX3) (T := TX3) (N := 8) (ci := 3) (v := .ref (a 6)) inZ3 0 6 rfl rfl (by decide) q_fl_X3_41 rfl rfl dX3_canReach_107 ?_
    refine z_callV3 (k := 0) (n := 0) (st := []) X Y aR_eq (c_X0_empty l D t (a 6) (a 23) (nI s) (l3 x y z)) k_X0_empty q_ml_X3_185 [6, 23] (fun _ => wR t a (T3 S 0 0 0 0 e)) (fun _ => ⟨⟨by decide, rfl⟩, ⟨by decide, by rw [← l3_000]; rfl⟩, rfl, rfl⟩) ⟨by decide, rfl⟩ 6 0 rfl rfl (by decide) rfl rfl rfl (Nat.le_of_ble_eq_true rfl) ⟨Nat.zero_le _, Nat.zero_le _⟩ dX3_canReach_110 (fun _ _ => ?_)
    have hT0 : Tb S Xn Yn Zn G e 0 := by have q := hv.2; rw [stg_0] at q; simpa using q
    have hM := (hT0 0 0 0 0 (Nat.zero_le _) (Nat.zero_le _) (Nat.zero_le _) (by decide)).1 (Nat.zero_le _)
    refine z_aload_n X dX3_canReach_113 rfl rfl ?_
    refine z_callV1 (k := 0) (n := 0) (st := []) X (c_X3_isMarked l D t a S Xn Yn Zn 0 0 0 0 e h15 (by decide) (wd_lt hX (Nat.zero_le _) (Nat.zero_le _) (Nat.zero_le _) (by decide))) k_X3_isMarked q_ml_X3_258 is24 ⟨by decide, rfl⟩ 0 3 rfl rfl (by decide) rfl rfl rfl (Nat.le_of_ble_eq_true rfl) ⟨Nat.zero_le _, Nat.zero_le _⟩ dX3_canReach_114 (fun r114 h114 => ?_)
    rcases h114 with ⟨rfl, h114⟩ | ⟨rfl, h114⟩
    ·
      refine z_iret X Z (by decide +kernel) dX3_canReach_117 ?_
      exact ⟨e, ⟨bz_t (hM.mp h114), hT0⟩, fun q hq => hq⟩
    ·
      refine z_iret X Z (by decide +kernel) dX3_canReach_117 ?_
      exact ⟨e, ⟨bz_f (fun q => h114 (hM.mpr q)), hT0⟩, fun q hq => hq⟩
  ·
    intro i ihi x y z s e hv
    refine z_lv (lv' := [some (.ref (a 0)), some (.int (nI G)), some (.int (nI i)), none, none]) rfl ?_
    refine z_iload_n X dX3_canReach_18 rfl rfl ?_
    refine n_if_lt (tgt := 106) X dX3_canReach_19 (by decide) (by omega) ?_
    refine z_aload_n X dX3_canReach_22 rfl rfl ?_
    refine z_get X (C := RX3) (T := TX3) (N := 8) (ci := 3) (v := .ref (a 4)) inZ3 0 3 rfl rfl (by decide) q_fl_X3_30 rfl rfl dX3_canReach_23 ?_
    refine z_get X (C := RX0) (T := TX0) (N := 2) (ci := 0) (v := .ref (a 22)) inZ0 4 0 rfl rfl (by decide) q_fl_X3_236 rfl rfl dX3_canReach_26 ?_
    refine z_iconst (v := nI 1) X dX3_canReach_29 (by decide) ?_
    refine n_iald (f := S 15) X 22 rfl (by omega) (by decide) dX3_canReach_30 ?_
    refine z_top (y := nI Yn) (by rw [h15]; rfl) ?_
    refine z_istore_n X dX3_canReach_31 rfl (Nat.le_of_ble_eq_true rfl) ?_
    refine z_lv (lv' := [some (.ref (a 0)), some (.int (nI G)), some (.int (nI i)), some (.int (nI Yn)), none]) rfl ?_
    have hi1 := hv.1
    refine zl_dn (fun j => ∀ (x : Nat) (y : Nat) (z : Nat) (s : Nat) (e : Nat → Int32), (j ≤ Yn + 1 ∧ Tb S Xn Yn Zn G e (stg Yn Zn i j 0 * 256)) → Wz E 0 0 32 [some (.ref (a 0)), some (.int (nI G)), some (.int (nI i)), some (.int (sv j)), none] [] (wR t a (T3 S x y z s e))) ?_ ?_ (Yn + 1) x y z s e (⟨Nat.le_refl _, by rw [stg_ys, ← stg_xs]; exact hv.2⟩)
    ·
      intro x y z s e hv
      refine z_lv (lv' := [some (.ref (a 0)), some (.int (nI G)), some (.int (nI i)), some (.int (-1)), none]) rfl ?_
      refine z_iload_n X dX3_canReach_32 rfl rfl ?_
      refine z_if_lt (tgt := 100) X dX3_canReach_33 (by decide) (fun _ => ?_) (fun c33 => absurd c33 (by decide))
      refine z_iinc (v := sv i) X dX3_canReach_100 rfl (sv_m i) ?_
      refine z_lv (lv' := [some (.ref (a 0)), some (.int (nI G)), some (.int (sv i)), some (.int (-1)), none]) rfl ?_
      refine z_goto (tgt := 18) X dX3_canReach_103 (by decide) ?_
      refine Wz.less (lv' := [some (.ref (a 0)), some (.int (nI G)), some (.int (sv i)), none, none]) (by simp [zle] <;> rfl) ?_
      exact ihi x y z s e (⟨by omega, hv.2⟩)
    ·
      intro j ihj x y z s e hv
      refine z_lv (lv' := [some (.ref (a 0)), some (.int (nI G)), some (.int (nI i)), some (.int (nI j)), none]) rfl ?_
      refine z_iload_n X dX3_canReach_32 rfl rfl ?_
      refine n_if_lt (tgt := 100) X dX3_canReach_33 (by decide) (by omega) ?_
      refine z_aload_n X dX3_canReach_36 rfl rfl ?_
      refine z_get X (C := RX3) (T := TX3) (N := 8) (ci := 3) (v := .ref (a 4)) inZ3 0 3 rfl rfl (by decide) q_fl_X3_30 rfl rfl dX3_canReach_37 ?_
      refine z_get X (C := RX0) (T := TX0) (N := 2) (ci := 0) (v := .ref (a 22)) inZ0 4 0 rfl rfl (by decide) q_fl_X3_236 rfl rfl dX3_canReach_40 ?_
      refine z_iconst (v := nI 2) X dX3_canReach_43 (by decide) ?_
      refine n_iald (f := S 15) X 22 rfl (by omega) (by decide) dX3_canReach_44 ?_
      refine z_top (y := nI Zn) (by rw [h15]; rfl) ?_
      refine z_istore X dX3_canReach_45 (Nat.le_of_ble_eq_true rfl) ?_
      refine z_lv (lv' := [some (.ref (a 0)), some (.int (nI G)), some (.int (nI i)), some (.int (nI j)), some (.int (nI Zn))]) rfl ?_
      have hj1 := hv.1
      refine zl_dn (fun k => ∀ (x : Nat) (y : Nat) (z : Nat) (s : Nat) (e : Nat → Int32), (k ≤ Zn + 1 ∧ Tb S Xn Yn Zn G e (stg Yn Zn i j k * 256)) → Wz E 0 0 47 [some (.ref (a 0)), some (.int (nI G)), some (.int (nI i)), some (.int (nI j)), some (.int (sv k))] [] (wR t a (T3 S x y z s e))) ?_ ?_ (Zn + 1) x y z s e (⟨Nat.le_refl _, by rw [stg_z, ← stg_ys]; exact hv.2⟩)
      ·
        intro x y z s e hv
        refine z_lv (lv' := [some (.ref (a 0)), some (.int (nI G)), some (.int (nI i)), some (.int (nI j)), some (.int (-1))]) rfl ?_
        refine z_iload X dX3_canReach_47 rfl ?_
        refine z_if_lt (tgt := 94) X dX3_canReach_49 (by decide) (fun _ => ?_) (fun c49 => absurd c49 (by decide))
        refine z_iinc (v := sv j) X dX3_canReach_94 rfl (sv_m j) ?_
        refine z_lv (lv' := [some (.ref (a 0)), some (.int (nI G)), some (.int (nI i)), some (.int (sv j)), some (.int (-1))]) rfl ?_
        refine z_goto (tgt := 32) X dX3_canReach_97 (by decide) ?_
        refine Wz.less (lv' := [some (.ref (a 0)), some (.int (nI G)), some (.int (nI i)), some (.int (sv j)), none]) (by simp [zle] <;> rfl) ?_
        exact ihj x y z s e (⟨by omega, hv.2⟩)
      ·
        intro k ihk x y z s e hv
        refine z_lv (lv' := [some (.ref (a 0)), some (.int (nI G)), some (.int (nI i)), some (.int (nI j)), some (.int (nI k))]) rfl ?_
        refine z_iload X dX3_canReach_47 rfl ?_
        refine n_if_lt (tgt := 94) X dX3_canReach_49 (by decide) (by omega) ?_
        refine z_aload_n X dX3_canReach_52 rfl rfl ?_
        refine z_get X (C := RX3) (T := TX3) (N := 8) (ci := 3) (v := .ref (a 6)) inZ3 0 6 rfl rfl (by decide) q_fl_X3_41 rfl rfl dX3_canReach_53 ?_
        refine z_get X (C := RX0) (T := TX0) (N := 2) (ci := 0) (v := .ref (a 23)) inZ0 6 0 rfl rfl (by decide) q_fl_X3_236 rfl rfl dX3_canReach_56 ?_
        refine z_iconst (v := nI 0) X dX3_canReach_59 (by decide) ?_
        refine z_iload_n X dX3_canReach_60 rfl rfl ?_
        refine n_iast X Y (f := l3 x y z) 23 aR_eq rfl (by decide) (by decide) dX3_canReach_61 ?_
        rw [l3w_0]
        refine Wz.eq (ws' := wR t a (T3 S i y z s e)) rfl ?_
        refine z_aload_n X dX3_canReach_62 rfl rfl ?_
        refine z_get X (C := RX3) (T := TX3) (N := 8) (ci := 3) (v := .ref (a 6)) inZ3 0 6 rfl rfl (by decide) q_fl_X3_41 rfl rfl dX3_canReach_63 ?_
        refine z_get X (C := RX0) (T := TX0) (N := 2) (ci := 0) (v := .ref (a 23)) inZ0 6 0 rfl rfl (by decide) q_fl_X3_236 rfl rfl dX3_canReach_66 ?_
        refine z_iconst (v := nI 1) X dX3_canReach_69 (by decide) ?_
        refine z_iload_n X dX3_canReach_70 rfl rfl ?_
        refine n_iast X Y (f := l3 i y z) 23 aR_eq rfl (by decide) (by decide) dX3_canReach_71 ?_
        rw [l3w_1]
        refine Wz.eq (ws' := wR t a (T3 S i j z s e)) rfl ?_
        refine z_aload_n X dX3_canReach_72 rfl rfl ?_
        refine z_get X (C := RX3) (T := TX3) (N := 8) (ci := 3) (v := .ref (a 6)) inZ3 0 6 rfl rfl (by decide) q_fl_X3_41 rfl rfl dX3_canReach_73 ?_
        refine z_get X (C := RX0) (T := TX0) (N := 2) (ci := 0) (v := .ref (a 23)) inZ0 6 0 rfl rfl (by decide) q_fl_X3_236 rfl rfl dX3_canReach_76 ?_
        refine z_iconst (v := nI 2) X dX3_canReach_79 (by decide) ?_
        refine z_iload X dX3_canReach_80 rfl ?_
        refine n_iast X Y (f := l3 i j z) 23 aR_eq rfl (by decide) (by decide) dX3_canReach_82 ?_
        refine z_cells (ws' := wR t a (va_up (T3 S i j z s e) 19 (l3 i j k))) (fun D H h => zP19 (l3z (x' := 0) (y' := 0)) (by exact h)) rfl ?_
        refine Wz.eq (ws' := wR t a (T3 S i j k s e)) rfl ?_
        refine z_aload_n X dX3_canReach_83 rfl rfl ?_
        refine z_iload_n X dX3_canReach_84 rfl rfl ?_
        have hT9 : Tb S Xn Yn Zn G e ((stg Yn Zn i j k + 1) * 256) := hv.2
        refine z_callV3 (k := 0) (n := 0) (st := []) X Y aR_eq (c_X3_markSets l D t a S Xn Yn Zn G i j k s e h15 h17 hI hG hX (by omega) (by omega) (by omega) hT9) k_X3_markSets q_ml_X3_254 is24 (fun u => wR t a (T3 S i j k u.1 u.2)) (fun u => swR) ppR 0 3 rfl rfl (by decide) rfl rfl rfl (Nat.le_of_ble_eq_true rfl) ⟨Nat.zero_le _, Nat.zero_le _⟩ dX3_canReach_85 (fun u hu => ?_)
        refine z_iinc (v := sv k) X dX3_canReach_88 rfl (sv_m k) ?_
        refine z_lv (lv' := [some (.ref (a 0)), some (.int (nI G)), some (.int (nI i)), some (.int (nI j)), some (.int (sv k))]) rfl ?_
        refine z_goto (tgt := 47) X dX3_canReach_91 (by decide) ?_
        exact ihk i j k u.1 u.2 (⟨by omega, hu⟩)
set_option maxHeartbeats 4000000 in
set_option maxRecDepth 100000 in
theorem c_X3_someOrderEnds_0 (l : Launch) (D : va_G) (t : ClassId × ClassId × ClassId) (a : Nat → Nat) (S : zS) (Xn Yn Zn G : Nat) (e : Nat → Int32) (h15 : S 15 = l3 Xn Yn Zn) (h18 : S 18 0 = nI G) (hI : zI S) (hG : G < 256) (hX : Xn + Yn + Zn ≤ 8) (x y z s : Nat) (hb : inB Xn Yn Zn G x y z s) : zM2 l yX3_someOrderEnds cX3_someOrderEnds 4 (some .boolean) 4 D t [.ref (a 0), .int (nI 0)] (wR t a (T3 S x y z s e)) (fun r (_ : Unit) => bz r (orn S Xn Yn Zn G 0 x y z s)) (fun _ => wR t a (T3 S x y z s e)) := by
  refine z_m2 (by decide +kernel) (Nat.le_of_ble_eq_true rfl) (by simp [Value.category]) ?_
  intro E X Z Y
  refine z_lv (lv' := [some (.ref (a 0)), some (.int (nI 0)), none, none]) rfl ?_
  refine z_iload_n X dX3_someOrderEnds_0 rfl rfl ?_
  refine n_if_gt (tgt := 6) X dX3_someOrderEnds_1 (by decide) (by omega) (fun c1 => absurd c1 (by decide)) (fun _ => ?_)
  refine z_iconst (v := nI 1) X dX3_someOrderEnds_4 (by decide) ?_
  refine z_iret X Z (by decide +kernel) dX3_someOrderEnds_5 ?_
  exact ⟨(), bz_t trivial, fun q hq => hq⟩
set_option maxHeartbeats 4000000 in
set_option maxRecDepth 100000 in
theorem c_X3_someOrderEnds_s (l : Launch) (D : va_G) (t : ClassId × ClassId × ClassId) (a : Nat → Nat) (S : zS) (Xn Yn Zn G : Nat) (e : Nat → Int32) (h15 : S 15 = l3 Xn Yn Zn) (h18 : S 18 0 = nI G) (hI : zI S) (hG : G < 256) (hX : Xn + Yn + Zn ≤ 8) (m : Nat) (hm : m < 100) (ih : ∀ x y z s, inB Xn Yn Zn G x y z s → zM2 l yX3_someOrderEnds cX3_someOrderEnds 4 (some .boolean) (m + 4) D t [.ref (a 0), .int (nI m)] (wR t a (T3 S x y z s e)) (fun r (_ : Unit) => bz r (orn S Xn Yn Zn G m x y z s)) (fun _ => wR t a (T3 S x y z s e))) (x y z s : Nat) (hb : inB Xn Yn Zn G x y z s) : zM2 l yX3_someOrderEnds cX3_someOrderEnds 4 (some .boolean) (m + 5) D t [.ref (a 0), .int (nI (m + 1))] (wR t a (T3 S x y z s e)) (fun r (_ : Unit) => bz r (orn S Xn Yn Zn G (m + 1) x y z s)) (fun _ => wR t a (T3 S x y z s e)) := by
  refine z_m2 (by decide +kernel) (Nat.le_of_ble_eq_true rfl) (by simp [Value.category]) ?_
  intro E X Z Y
  refine z_lv (lv' := [some (.ref (a 0)), some (.int (nI (m + 1))), none, none]) rfl ?_
  refine z_iload_n X dX3_someOrderEnds_0 rfl rfl ?_
  refine n_if_gt (tgt := 6) X dX3_someOrderEnds_1 (by decide) (by omega) (fun c1 => ?_) (fun c1 => absurd c1 (by omega))
  have hs := sub8_lt hb.2.2.2 hG
  refine z_iconst (v := nI 0) X dX3_someOrderEnds_6 (by decide) ?_
  refine z_istore_n X dX3_someOrderEnds_7 rfl (Nat.le_of_ble_eq_true rfl) ?_
  refine z_lv (lv' := [some (.ref (a 0)), some (.int (nI (m + 1))), some (.int (nI 0)), none]) rfl ?_
  refine zl_up 11 (fun i => (∀ q, q < i → ¬ (stp S Xn Yn Zn G x y z s q ∧ orn S Xn Yn Zn G m (gx q x) (gy q y) (gz q z) (gs q s))) → Wz E 0 0 8 [some (.ref (a 0)), some (.int (nI (m + 1))), some (.int (nI i)), none] [] (wR t a (T3 S x y z s e))) ?_ ?_ 0 (by omega) (fun q h => absurd h (Nat.not_lt_zero q))
  ·
    intro hv
    refine z_iload_n X dX3_someOrderEnds_8 rfl rfl ?_
    refine z_bipush (v := nI 11) X dX3_someOrderEnds_9 (by decide) ?_
    refine n_icmp_ge (tgt := 65) X dX3_someOrderEnds_11 (by decide) (by omega) (by omega) (fun _ => ?_) (fun c11 => absurd c11 (by decide))
    refine z_iconst (v := nI 0) X dX3_someOrderEnds_65 (by decide) ?_
    refine z_iret X Z (by decide +kernel) dX3_someOrderEnds_66 ?_
    exact ⟨(), bz_f (fun h => h.elim fun q hq => hv q hq.1 hq.2), fun q hq => hq⟩
  ·
    intro i hi ih2 hv
    refine z_iload_n X dX3_someOrderEnds_8 rfl rfl ?_
    refine z_bipush (v := nI 11) X dX3_someOrderEnds_9 (by decide) ?_
    refine n_icmp_ge (tgt := 65) X dX3_someOrderEnds_11 (by decide) (by omega) (by omega) (fun c11 => absurd c11 (by omega)) (fun _ => ?_)
    refine z_aload_n X dX3_someOrderEnds_14 rfl rfl ?_
    refine z_aload_n X dX3_someOrderEnds_15 rfl rfl ?_
    refine z_get X (C := RX3) (T := TX3) (N := 8) (ci := 3) (v := .ref (a 4)) inZ3 0 3 rfl rfl (by decide) q_fl_X3_30 rfl rfl dX3_someOrderEnds_16 ?_
    refine z_get X (C := RX0) (T := TX0) (N := 2) (ci := 0) (v := .int (S 18 0)) inZ0 4 1 rfl rfl (by decide) q_fl_X3_155 rfl rfl dX3_someOrderEnds_19 ?_
    refine z_top (y := nI G) (h18) ?_
    refine z_iload_n X dX3_someOrderEnds_22 rfl rfl ?_
    refine z_callV1 (k := 0) (n := 0) (st := []) X (c_X3_isStepTowards l D t a S Xn Yn Zn G x y z s e i (by omega) h15 hI hG hX hb) k_X3_isStepTowards q_ml_X3_268 is24 ⟨by decide, rfl⟩ 0 3 rfl rfl (by omega) rfl rfl rfl (Nat.le_of_ble_eq_true rfl) ⟨Nat.zero_le _, Nat.zero_le _⟩ dX3_someOrderEnds_23 (fun r23 h23 => ?_)
    rcases h23 with ⟨rfl, h23⟩ | ⟨rfl, h23⟩
    ·
      refine n_if_eq (tgt := 59) X dX3_someOrderEnds_26 (by decide) (by omega) (fun c26 => absurd c26 (by decide)) (fun _ => ?_)
      refine z_aload_n X dX3_someOrderEnds_29 rfl rfl ?_
      refine z_get X (C := RX3) (T := TX3) (N := 8) (ci := 3) (v := .ref (a 6)) inZ3 0 6 rfl rfl (by decide) q_fl_X3_41 rfl rfl dX3_someOrderEnds_30 ?_
      refine z_iload_n X dX3_someOrderEnds_33 rfl rfl ?_
      refine z_callV3 (k := 0) (n := 0) (st := []) X Y aR_eq (c_goOnT l D t a x y z s i (by omega) (by omega)) k_X0_goOn q_ml_X3_271 [6, 23] (fun _ => wR t a (T3 S (gx i x) (gy i y) (gz i z) (gs i s) e)) (fun _ => swT3) ppT3 6 0 rfl rfl (by omega) rfl rfl rfl (Nat.le_of_ble_eq_true rfl) ⟨Nat.zero_le _, Nat.zero_le _⟩ dX3_someOrderEnds_34 (fun _ _ => ?_)
      refine z_aload_n X dX3_someOrderEnds_37 rfl rfl ?_
      refine z_iload_n X dX3_someOrderEnds_38 rfl rfl ?_
      refine z_iconst (v := nI 1) X dX3_someOrderEnds_39 (by decide) ?_
      refine n_isub X dX3_someOrderEnds_40 (by omega) ?_
      refine z_top (y := nI m) (by rw [Nat.add_sub_cancel]) ?_
      refine z_callV2 (k := 0) (n := 0) (st := []) X Y aR_eq (ih (gx i x) (gy i y) (gz i z) (gs i s) ((stp_inB h23).mpr hb)) k_X3_someOrderEnds q_ml_X3_217 is24 (fun u => wR t a (T3 S (gx i x) (gy i y) (gz i z) (gs i s) e)) (fun u => swR) ppR 0 3 rfl rfl (by omega) rfl rfl rfl (Nat.le_of_ble_eq_true rfl) ⟨Nat.zero_le _, Nat.zero_le _⟩ dX3_someOrderEnds_41 (fun r41 u41 h41 => ?_)
      rcases h41 with ⟨rfl, h41⟩ | ⟨rfl, h41⟩
      ·
        refine z_istore_n X dX3_someOrderEnds_44 rfl (Nat.le_of_ble_eq_true rfl) ?_
        refine z_lv (lv' := [some (.ref (a 0)), some (.int (nI (m + 1))), some (.int (nI i)), some (.int (nI 1))]) rfl ?_
        refine z_aload_n X dX3_someOrderEnds_45 rfl rfl ?_
        refine z_get X (C := RX3) (T := TX3) (N := 8) (ci := 3) (v := .ref (a 6)) inZ3 0 6 rfl rfl (by decide) q_fl_X3_41 rfl rfl dX3_someOrderEnds_46 ?_
        refine z_iload_n X dX3_someOrderEnds_49 rfl rfl ?_
        refine z_callV3 (k := 0) (n := 0) (st := []) X Y aR_eq (c_goBackT l D t a x y z s i (by omega) (by omega) (stp_gs h23)) k_X0_goBack q_ml_X3_274 [6, 23] (fun _ => wR t a (T3 S x y z s e)) (fun _ => swT3) ppT3 6 0 rfl rfl (by omega) rfl rfl rfl (Nat.le_of_ble_eq_true rfl) ⟨Nat.zero_le _, Nat.zero_le _⟩ dX3_someOrderEnds_50 (fun _ _ => ?_)
        refine z_iload_n X dX3_someOrderEnds_53 rfl rfl ?_
        refine n_if_eq (tgt := 59) X dX3_someOrderEnds_54 (by decide) (by omega) (fun c54 => absurd c54 (by decide)) (fun _ => ?_)
        refine z_iconst (v := nI 1) X dX3_someOrderEnds_57 (by decide) ?_
        refine z_iret X Z (by decide +kernel) dX3_someOrderEnds_58 ?_
        exact ⟨(), bz_t ⟨i, hi, h23, h41⟩, fun q hq => hq⟩
      ·
        refine z_istore_n X dX3_someOrderEnds_44 rfl (Nat.le_of_ble_eq_true rfl) ?_
        refine z_lv (lv' := [some (.ref (a 0)), some (.int (nI (m + 1))), some (.int (nI i)), some (.int (nI 0))]) rfl ?_
        refine z_aload_n X dX3_someOrderEnds_45 rfl rfl ?_
        refine z_get X (C := RX3) (T := TX3) (N := 8) (ci := 3) (v := .ref (a 6)) inZ3 0 6 rfl rfl (by decide) q_fl_X3_41 rfl rfl dX3_someOrderEnds_46 ?_
        refine z_iload_n X dX3_someOrderEnds_49 rfl rfl ?_
        refine z_callV3 (k := 0) (n := 0) (st := []) X Y aR_eq (c_goBackT l D t a x y z s i (by omega) (by omega) (stp_gs h23)) k_X0_goBack q_ml_X3_274 [6, 23] (fun _ => wR t a (T3 S x y z s e)) (fun _ => swT3) ppT3 6 0 rfl rfl (by omega) rfl rfl rfl (Nat.le_of_ble_eq_true rfl) ⟨Nat.zero_le _, Nat.zero_le _⟩ dX3_someOrderEnds_50 (fun _ _ => ?_)
        refine z_iload_n X dX3_someOrderEnds_53 rfl rfl ?_
        refine n_if_eq (tgt := 59) X dX3_someOrderEnds_54 (by decide) (by omega) (fun _ => ?_) (fun c54 => absurd c54 (by decide))
        refine z_iinc (v := nI (i + 1)) X dX3_someOrderEnds_59 rfl (nI_add i 1) ?_
        refine z_lv (lv' := [some (.ref (a 0)), some (.int (nI (m + 1))), some (.int (nI (i + 1))), some (.int (nI 0))]) rfl ?_
        refine z_goto (tgt := 8) X dX3_someOrderEnds_62 (by decide) ?_
        have hv2 : ∀ q, q < i + 1 → ¬ (stp S Xn Yn Zn G x y z s q ∧ orn S Xn Yn Zn G m (gx q x) (gy q y) (gz q z) (gs q s)) := by
          intro q hq hp
          rcases Nat.lt_succ_iff_lt_or_eq.mp hq with q1 | rfl
          · exact hv q q1 hp
          · first | exact h23 hp.1 | exact h41 hp.2
        refine Wz.less (lv' := [some (.ref (a 0)), some (.int (nI (m + 1))), some (.int (nI (i + 1))), none]) (by simp [zle] <;> rfl) ?_
        exact ih2 hv2
    ·
      refine n_if_eq (tgt := 59) X dX3_someOrderEnds_26 (by decide) (by omega) (fun _ => ?_) (fun c26 => absurd c26 (by decide))
      refine z_iinc (v := nI (i + 1)) X dX3_someOrderEnds_59 rfl (nI_add i 1) ?_
      refine z_lv (lv' := [some (.ref (a 0)), some (.int (nI (m + 1))), some (.int (nI (i + 1))), none]) rfl ?_
      refine z_goto (tgt := 8) X dX3_someOrderEnds_62 (by decide) ?_
      have hv2 : ∀ q, q < i + 1 → ¬ (stp S Xn Yn Zn G x y z s q ∧ orn S Xn Yn Zn G m (gx q x) (gy q y) (gz q z) (gs q s)) := by
        intro q hq hp
        rcases Nat.lt_succ_iff_lt_or_eq.mp hq with q1 | rfl
        · exact hv q q1 hp
        · first | exact h23 hp.1 | exact h41 hp.2
      exact ih2 hv2
theorem c_X3_someOrderEnds (l : Launch) (D : va_G) (t : ClassId × ClassId × ClassId) (a : Nat → Nat) (S : zS) (Xn Yn Zn G : Nat) (e : Nat → Int32) (h15 : S 15 = l3 Xn Yn Zn) (h18 : S 18 0 = nI G) (hI : zI S) (hG : G < 256) (hX : Xn + Yn + Zn ≤ 8) : ∀ m, m < 100 → ∀ x y z s, inB Xn Yn Zn G x y z s → zM2 l yX3_someOrderEnds cX3_someOrderEnds 4 (some .boolean) (m + 4) D t [.ref (a 0), .int (nI m)] (wR t a (T3 S x y z s e)) (fun r (_ : Unit) => bz r (orn S Xn Yn Zn G m x y z s)) (fun _ => wR t a (T3 S x y z s e))
  | 0, _, x, y, z, s, hb => c_X3_someOrderEnds_0 l D t a S Xn Yn Zn G e h15 h18 hI hG hX x y z s hb
  | m + 1, hm, x, y, z, s, hb => c_X3_someOrderEnds_s l D t a S Xn Yn Zn G e h15 h18 hI hG hX m (by omega) (fun x y z s hb => c_X3_someOrderEnds l D t a S Xn Yn Zn G e h15 h18 hI hG hX m (by omega) x y z s hb) x y z s hb
