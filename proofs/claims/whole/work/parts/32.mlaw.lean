theorem ix_256 {Y Z x y z : Nat} : ix Y Z x y z 256 = stg Y Z x y (z + 1) * 256 := by unfold ix; rw [stg_z]; omega
set_option maxHeartbeats 600000 in
set_option maxRecDepth 100000 in
theorem c_X4_isLawfulWith (l : Launch) (D : va_G) (t : ClassId × ClassId × ClassId) (b : Nat → Nat) (S : zS) (f0 : Nat → Int32) (Xn Yn Zn G : Nat) (h15 : S 15 = l3 Xn Yn Zn) (hG : G < 256) (hX : Xn + Yn + Zn ≤ 8) (hI : zI S) : zM2 l yX4_isLawfulWith cX4_isLawfulWith 6 (some .boolean) 4 D t [.ref (b 0), .int (nI G)] (wM t b (va_up S 22 f0)) (fun r (u : Nat → Int32) => bz r (Rc S Xn Yn Zn G 0 0 0 0) ∧ Lb S Xn Yn Zn G u 0) (fun u => wM t b (va_up S 22 u)) := by
  refine z_m2 (by decide +kernel) (Nat.le_of_ble_eq_true rfl) (by simp [Value.category]) ?_
  intro E X Z Y
  refine z_lv (lv' := [some (.ref (b 0)), some (.int (nI G)), none, none, none, none]) rfl ?_
  refine z_aload_n X dX4_isLawfulWith_0 rfl rfl ?_
  refine z_get X (C := RX4) (T := TX4) (N := 21) (ci := 4) (v := .ref (b 3)) inZ4 0 2 rfl rfl (by decide) q_fl_X4_16 rfl rfl dX4_isLawfulWith_1 ?_
  refine z_iconst (v := nI 0) X dX4_isLawfulWith_4 (by decide) ?_
  refine n_iald (f := S 15) X 3 rfl (by omega) (by decide) dX4_isLawfulWith_5 ?_
  refine z_top (y := nI Xn) (by rw [h15]; rfl) ?_
  refine z_istore_n X dX4_isLawfulWith_6 rfl (Nat.le_of_ble_eq_true rfl) ?_
  refine z_lv (lv' := [some (.ref (b 0)), some (.int (nI G)), some (.int (nI Xn)), none, none, none]) rfl ?_
  refine zl_dn (fun i => ∀ (f : Nat → Int32), (i ≤ Xn + 1 ∧ Lb S Xn Yn Zn G f (stg Yn Zn i 0 0 * 256)) → Wz E 0 0 7 [some (.ref (b 0)), some (.int (nI G)), some (.int (sv i)), none, none, none] [] (wM t b (va_up S 22 f))) ?_ ?_ (Xn + 1) f0 (⟨Nat.le_refl _, Lb_0 (Nat.le_refl _)⟩)
  ·
    intro f hv
    refine z_lv (lv' := [some (.ref (b 0)), some (.int (nI G)), some (.int (-1)), none, none, none]) rfl ?_
    refine z_iload_n X dX4_isLawfulWith_7 rfl rfl ?_
    refine z_if_lt (tgt := 112) X dX4_isLawfulWith_8 (by decide) (fun _ => ?_) (fun c8 => absurd c8 (by decide))
    have hT0 : Lb S Xn Yn Zn G f 0 := by have q := hv.2; rw [stg_0] at q; simpa using q
    have hM : bz (f 0) (Rc S Xn Yn Zn G 0 0 0 0) := by have q := hT0 0 0 0 0 (Nat.zero_le _) (Nat.zero_le _) (Nat.zero_le _) (by decide) (Nat.zero_le _); rw [ix0, stg_0] at q; exact q
    refine z_aload_n X dX4_isLawfulWith_112 rfl rfl ?_
    refine z_get X (C := RX4) (T := TX4) (N := 21) (ci := 4) (v := .ref (b 18)) inZ4 0 19 rfl rfl (by decide) q_fl_X4_61 rfl rfl dX4_isLawfulWith_113 ?_
    refine z_iconst (v := nI 0) X dX4_isLawfulWith_116 (by decide) ?_
    refine n_zald (f := f) X 18 rfl (by omega) (by decide) dX4_isLawfulWith_117 ?_
    refine z_iret X Z hM.bool dX4_isLawfulWith_118 ?_
    exact ⟨f, ⟨hM, hT0⟩, fun q hq => hq⟩
  ·
    intro i ihi f hv
    refine z_lv (lv' := [some (.ref (b 0)), some (.int (nI G)), some (.int (nI i)), none, none, none]) rfl ?_
    refine z_iload_n X dX4_isLawfulWith_7 rfl rfl ?_
    refine n_if_lt (tgt := 112) X dX4_isLawfulWith_8 (by decide) (by omega) ?_
    refine z_aload_n X dX4_isLawfulWith_11 rfl rfl ?_
    refine z_get X (C := RX4) (T := TX4) (N := 21) (ci := 4) (v := .ref (b 3)) inZ4 0 2 rfl rfl (by decide) q_fl_X4_16 rfl rfl dX4_isLawfulWith_12 ?_
    refine z_iconst (v := nI 1) X dX4_isLawfulWith_15 (by decide) ?_
    refine n_iald (f := S 15) X 3 rfl (by omega) (by decide) dX4_isLawfulWith_16 ?_
    refine z_top (y := nI Yn) (by rw [h15]; rfl) ?_
    refine z_istore_n X dX4_isLawfulWith_17 rfl (Nat.le_of_ble_eq_true rfl) ?_
    refine z_lv (lv' := [some (.ref (b 0)), some (.int (nI G)), some (.int (nI i)), some (.int (nI Yn)), none, none]) rfl ?_
    have hi1 := hv.1
    refine zl_dn (fun j => ∀ (f : Nat → Int32), (j ≤ Yn + 1 ∧ Lb S Xn Yn Zn G f (stg Yn Zn i j 0 * 256)) → Wz E 0 0 18 [some (.ref (b 0)), some (.int (nI G)), some (.int (nI i)), some (.int (sv j)), none, none] [] (wM t b (va_up S 22 f))) ?_ ?_ (Yn + 1) f (⟨Nat.le_refl _, by rw [stg_ys, ← stg_xs]; exact hv.2⟩)
    ·
      intro f hv
      refine z_lv (lv' := [some (.ref (b 0)), some (.int (nI G)), some (.int (nI i)), some (.int (-1)), none, none]) rfl ?_
      refine z_iload_n X dX4_isLawfulWith_18 rfl rfl ?_
      refine z_if_lt (tgt := 106) X dX4_isLawfulWith_19 (by decide) (fun _ => ?_) (fun c19 => absurd c19 (by decide))
      refine z_iinc (v := sv i) X dX4_isLawfulWith_106 rfl (sv_m i) ?_
      refine z_lv (lv' := [some (.ref (b 0)), some (.int (nI G)), some (.int (sv i)), some (.int (-1)), none, none]) rfl ?_
      refine z_goto (tgt := 7) X dX4_isLawfulWith_109 (by decide) ?_
      refine Wz.less (lv' := [some (.ref (b 0)), some (.int (nI G)), some (.int (sv i)), none, none, none]) (by simp [zle] <;> rfl) ?_
      exact ihi f (⟨by omega, hv.2⟩)
    ·
      intro j ihj f hv
      refine z_lv (lv' := [some (.ref (b 0)), some (.int (nI G)), some (.int (nI i)), some (.int (nI j)), none, none]) rfl ?_
      refine z_iload_n X dX4_isLawfulWith_18 rfl rfl ?_
      refine n_if_lt (tgt := 106) X dX4_isLawfulWith_19 (by decide) (by omega) ?_
      refine z_aload_n X dX4_isLawfulWith_22 rfl rfl ?_
      refine z_get X (C := RX4) (T := TX4) (N := 21) (ci := 4) (v := .ref (b 3)) inZ4 0 2 rfl rfl (by decide) q_fl_X4_16 rfl rfl dX4_isLawfulWith_23 ?_
      refine z_iconst (v := nI 2) X dX4_isLawfulWith_26 (by decide) ?_
      refine n_iald (f := S 15) X 3 rfl (by omega) (by decide) dX4_isLawfulWith_27 ?_
      refine z_top (y := nI Zn) (by rw [h15]; rfl) ?_
      refine z_istore X dX4_isLawfulWith_28 (Nat.le_of_ble_eq_true rfl) ?_
      refine z_lv (lv' := [some (.ref (b 0)), some (.int (nI G)), some (.int (nI i)), some (.int (nI j)), some (.int (nI Zn)), none]) rfl ?_
      have hj1 := hv.1
      refine zl_dn (fun k => ∀ (f : Nat → Int32), (k ≤ Zn + 1 ∧ Lb S Xn Yn Zn G f (stg Yn Zn i j k * 256)) → Wz E 0 0 30 [some (.ref (b 0)), some (.int (nI G)), some (.int (nI i)), some (.int (nI j)), some (.int (sv k)), none] [] (wM t b (va_up S 22 f))) ?_ ?_ (Zn + 1) f (⟨Nat.le_refl _, by rw [stg_z, ← stg_ys]; exact hv.2⟩)
      ·
        intro f hv
        refine z_lv (lv' := [some (.ref (b 0)), some (.int (nI G)), some (.int (nI i)), some (.int (nI j)), some (.int (-1)), none]) rfl ?_
        refine z_iload X dX4_isLawfulWith_30 rfl ?_
        refine z_if_lt (tgt := 100) X dX4_isLawfulWith_32 (by decide) (fun _ => ?_) (fun c32 => absurd c32 (by decide))
        refine z_iinc (v := sv j) X dX4_isLawfulWith_100 rfl (sv_m j) ?_
        refine z_lv (lv' := [some (.ref (b 0)), some (.int (nI G)), some (.int (nI i)), some (.int (sv j)), some (.int (-1)), none]) rfl ?_
        refine z_goto (tgt := 18) X dX4_isLawfulWith_103 (by decide) ?_
        refine Wz.less (lv' := [some (.ref (b 0)), some (.int (nI G)), some (.int (nI i)), some (.int (sv j)), none, none]) (by simp [zle] <;> rfl) ?_
        exact ihj f (⟨by omega, hv.2⟩)
      ·
        intro k ihk f hv
        refine z_lv (lv' := [some (.ref (b 0)), some (.int (nI G)), some (.int (nI i)), some (.int (nI j)), some (.int (nI k)), none]) rfl ?_
        refine z_iload X dX4_isLawfulWith_30 rfl ?_
        refine n_if_lt (tgt := 100) X dX4_isLawfulWith_32 (by decide) (by omega) ?_
        refine z_sipush (v := nI 255) X dX4_isLawfulWith_35 (by decide) ?_
        refine z_istore X dX4_isLawfulWith_38 (Nat.le_of_ble_eq_true rfl) ?_
        refine z_lv (lv' := [some (.ref (b 0)), some (.int (nI G)), some (.int (nI i)), some (.int (nI j)), some (.int (nI k)), some (.int (nI 255))]) rfl ?_
        have hk1 := hv.1
        refine zl_dn (fun q => ∀ (f : Nat → Int32), (q ≤ 256 ∧ Lb S Xn Yn Zn G f (ix Yn Zn i j k q)) → Wz E 0 0 40 [some (.ref (b 0)), some (.int (nI G)), some (.int (nI i)), some (.int (nI j)), some (.int (nI k)), some (.int (sv q))] [] (wM t b (va_up S 22 f))) ?_ ?_ 256 f (⟨Nat.le_refl _, by rw [ix_256]; exact hv.2⟩)
        ·
          intro f hv
          refine z_lv (lv' := [some (.ref (b 0)), some (.int (nI G)), some (.int (nI i)), some (.int (nI j)), some (.int (nI k)), some (.int (-1))]) rfl ?_
          refine z_iload X dX4_isLawfulWith_40 rfl ?_
          refine z_if_lt (tgt := 94) X dX4_isLawfulWith_42 (by decide) (fun _ => ?_) (fun c42 => absurd c42 (by decide))
          refine z_iinc (v := sv k) X dX4_isLawfulWith_94 rfl (sv_m k) ?_
          refine z_lv (lv' := [some (.ref (b 0)), some (.int (nI G)), some (.int (nI i)), some (.int (nI j)), some (.int (sv k)), some (.int (-1))]) rfl ?_
          refine z_goto (tgt := 30) X dX4_isLawfulWith_97 (by decide) ?_
          refine Wz.less (lv' := [some (.ref (b 0)), some (.int (nI G)), some (.int (nI i)), some (.int (nI j)), some (.int (sv k)), none]) (by simp [zle] <;> rfl) ?_
          exact ihk f (⟨by omega, by rw [← ix0]; exact hv.2⟩)
        ·
          intro q ihq f hv
          refine z_lv (lv' := [some (.ref (b 0)), some (.int (nI G)), some (.int (nI i)), some (.int (nI j)), some (.int (nI k)), some (.int (nI q))]) rfl ?_
          refine z_iload X dX4_isLawfulWith_40 rfl ?_
          refine n_if_lt (tgt := 94) X dX4_isLawfulWith_42 (by decide) (by omega) ?_
          have hix := ix_lt (s := q) hX (show i ≤ Xn by omega) (show j ≤ Yn by omega) (show k ≤ Zn by omega) (by omega)
          have hle := dif_le q G
          refine z_aload_n X dX4_isLawfulWith_45 rfl rfl ?_
          refine z_get X (C := RX4) (T := TX4) (N := 21) (ci := 4) (v := .ref (b 18)) inZ4 0 19 rfl rfl (by decide) q_fl_X4_61 rfl rfl dX4_isLawfulWith_46 ?_
          refine z_aload_n X dX4_isLawfulWith_49 rfl rfl ?_
          refine z_iload_n X dX4_isLawfulWith_50 rfl rfl ?_
          refine z_iload_n X dX4_isLawfulWith_51 rfl rfl ?_
          refine z_iload X dX4_isLawfulWith_52 rfl ?_
          refine z_iload X dX4_isLawfulWith_54 rfl ?_
          refine z_callV1 (k := 0) (n := 0) (st := [.ref (b 18)]) X (c_X4_place l D t b (va_up S 22 f) Xn Yn Zn h15 i j k q) k_X4_place q_ml_X4_142 is19 ⟨by decide, rfl⟩ 0 4 rfl rfl (by decide) rfl rfl rfl (Nat.le_of_ble_eq_true rfl) ⟨Nat.zero_le _, Nat.zero_le _⟩ dX4_isLawfulWith_56 (fun r56 h56 => ?_)
          subst h56
          refine z_iload X dX4_isLawfulWith_59 rfl ?_
          refine z_iload_n X dX4_isLawfulWith_61 rfl rfl ?_
          refine z_iconst (v := (-1)) X dX4_isLawfulWith_62 (by decide) ?_
          refine z_ixor X dX4_isLawfulWith_63 ?_
          refine z_iand X dX4_isLawfulWith_64 ?_
          refine z_top (y := nI (dif q G)) (zn_dif q G) ?_
          refine n_if_ne (tgt := 86) X dX4_isLawfulWith_65 (by decide) (by omega) (fun c65 => ?_) (fun c65 => ?_)
          ·
            refine z_iconst (v := nI 0) X dX4_isLawfulWith_86 (by decide) ?_
            refine n_zast X Y 18 aM_eq rfl (by omega) (by decide) (by omega) dX4_isLawfulWith_87 ?_
            refine Wz.eq (uM_22 (f := upd f (ix Yn Zn i j k q) (nI 0))) ?_
            refine z_iinc (v := sv q) X dX4_isLawfulWith_88 rfl (sv_m q) ?_
            refine z_lv (lv' := [some (.ref (b 0)), some (.int (nI G)), some (.int (nI i)), some (.int (nI j)), some (.int (nI k)), some (.int (sv q))]) rfl ?_
            refine z_goto (tgt := 40) X dX4_isLawfulWith_91 (by decide) ?_
            refine Wz.eq (ws' := wM t b (va_up S 22 (upd f (ix Yn Zn i j k q) (nI 0)))) rfl ?_
            exact ihq (upd f (ix Yn Zn i j k q) (nI 0)) (⟨by omega, Lb_set hv.2 (by omega) (by omega) (by omega) (by first | exact bz_t h76 | exact bz_f h76 | exact bz_f (fun R => c65 ((dif_0 (by omega)).mpr (Rc_inB R).2.2.2)))⟩)
          ·
            refine z_aload_n X dX4_isLawfulWith_68 rfl rfl ?_
            refine z_iload_n X dX4_isLawfulWith_69 rfl rfl ?_
            refine z_iload_n X dX4_isLawfulWith_70 rfl rfl ?_
            refine z_iload X dX4_isLawfulWith_71 rfl ?_
            refine z_iload X dX4_isLawfulWith_73 rfl ?_
            refine z_iload_n X dX4_isLawfulWith_75 rfl rfl ?_
            refine z_callV1 (k := 0) (n := 0) (st := [.int (nI (ix Yn Zn i j k q)), .ref (b 18)]) X (c_X4_leadsOn l D t b S f Xn Yn Zn G h15 hG hX hI i j k q (by omega) (by omega) (by omega) (by omega) (by rw [← ixs]; exact hv.2)) k_X4_leadsOn q_ml_X4_146 is19 ⟨by decide, rfl⟩ 0 4 rfl rfl (by decide) rfl rfl rfl (Nat.le_of_ble_eq_true rfl) ⟨Nat.zero_le _, Nat.zero_le _⟩ dX4_isLawfulWith_76 (fun r76 h76 => ?_)
            rcases h76 with ⟨rfl, h76⟩ | ⟨rfl, h76⟩
            ·
              refine n_if_eq (tgt := 86) X dX4_isLawfulWith_79 (by decide) (by omega) (fun c79 => absurd c79 (by decide)) (fun _ => ?_)
              refine z_iconst (v := nI 1) X dX4_isLawfulWith_82 (by decide) ?_
              refine z_goto (tgt := 87) X dX4_isLawfulWith_83 (by decide) ?_
              refine n_zast X Y 18 aM_eq rfl (by omega) (by decide) (by omega) dX4_isLawfulWith_87 ?_
              refine Wz.eq (uM_22 (f := upd f (ix Yn Zn i j k q) (nI 1))) ?_
              refine z_iinc (v := sv q) X dX4_isLawfulWith_88 rfl (sv_m q) ?_
              refine z_lv (lv' := [some (.ref (b 0)), some (.int (nI G)), some (.int (nI i)), some (.int (nI j)), some (.int (nI k)), some (.int (sv q))]) rfl ?_
              refine z_goto (tgt := 40) X dX4_isLawfulWith_91 (by decide) ?_
              refine Wz.eq (ws' := wM t b (va_up S 22 (upd f (ix Yn Zn i j k q) (nI 1)))) rfl ?_
              exact ihq (upd f (ix Yn Zn i j k q) (nI 1)) (⟨by omega, Lb_set hv.2 (by omega) (by omega) (by omega) (by first | exact bz_t h76 | exact bz_f h76 | exact bz_f (fun R => c65 ((dif_0 (by omega)).mpr (Rc_inB R).2.2.2)))⟩)
            ·
              refine n_if_eq (tgt := 86) X dX4_isLawfulWith_79 (by decide) (by omega) (fun _ => ?_) (fun c79 => absurd c79 (by decide))
              refine z_iconst (v := nI 0) X dX4_isLawfulWith_86 (by decide) ?_
              refine n_zast X Y 18 aM_eq rfl (by omega) (by decide) (by omega) dX4_isLawfulWith_87 ?_
              refine Wz.eq (uM_22 (f := upd f (ix Yn Zn i j k q) (nI 0))) ?_
              refine z_iinc (v := sv q) X dX4_isLawfulWith_88 rfl (sv_m q) ?_
              refine z_lv (lv' := [some (.ref (b 0)), some (.int (nI G)), some (.int (nI i)), some (.int (nI j)), some (.int (nI k)), some (.int (sv q))]) rfl ?_
              refine z_goto (tgt := 40) X dX4_isLawfulWith_91 (by decide) ?_
              refine Wz.eq (ws' := wM t b (va_up S 22 (upd f (ix Yn Zn i j k q) (nI 0)))) rfl ?_
              exact ihq (upd f (ix Yn Zn i j k q) (nI 0)) (⟨by omega, Lb_set hv.2 (by omega) (by omega) (by omega) (by first | exact bz_t h76 | exact bz_f h76 | exact bz_f (fun R => c65 ((dif_0 (by omega)).mpr (Rc_inB R).2.2.2)))⟩)
theorem ppMF {t : ClassId × ClassId × ClassId} {b : Nat → Nat} {S : zS} : zPart (wM t b S) is19 (wM t b (va_up S 22 (S 22))) := ⟨by decide, rfl⟩
theorem swMF {t : ClassId × ClassId × ClassId} {b : Nat → Nat} {S S' : zS} : zSwap (wM t b S) is19 (wM t b (va_up S 22 (S 22))) (wM t b S') (wM t b S') := ⟨ppMF, ppM, rfl, rfl⟩
/-- the rules are the same, and so is what can be reached -/
theorem ldn_mt {S S' : zS} {X Y Z G : Nat} (h : ∀ x y z s j, mt S x y z s j ↔ mt S' x y z s j) : ∀ n x y z s, ldn S X Y Z G n x y z s ↔ ldn S' X Y Z G n x y z s
  | 0, x, y, z, s => Iff.rfl
  | n + 1, x, y, z, s => by
    have e : ∀ k, stp S X Y Z G x y z s k ↔ stp S' X Y Z G x y z s k := fun k => by unfold stp; rw [h]
    constructor
    · rintro ⟨k, h1, h2, h3⟩
      exact ⟨k, h1, (e k).mp h2, (ldn_mt h n _ _ _ _).mp h3⟩
    · rintro ⟨k, h1, h2, h3⟩
      exact ⟨k, h1, (e k).mpr h2, (ldn_mt h n _ _ _ _).mpr h3⟩
theorem Rc_mt {S S' : zS} {X Y Z G x y z s : Nat} (h : ∀ x y z s j, mt S x y z s j ↔ mt S' x y z s j) : Rc S X Y Z G x y z s ↔ Rc S' X Y Z G x y z s :=
  ⟨fun ⟨n, q⟩ => ⟨n, (ldn_mt h n _ _ _ _).mp q⟩, fun ⟨n, q⟩ => ⟨n, (ldn_mt h n _ _ _ _).mpr q⟩⟩
theorem Rc_23 {S : zS} {X Y Z G x y z s : Nat} {g : Nat → Int32} : Rc (va_up S 23 g) X Y Z G x y z s ↔ Rc S X Y Z G x y z s := Rc_mt (fun _ _ _ _ _ => Iff.rfl)
theorem Lb_23 {S : zS} {X Y Z G p : Nat} {f g : Nat → Int32} (h : Lb (va_up S 23 g) X Y Z G f p) : Lb S X Y Z G f p := fun x y z s h1 h2 h3 h4 h5 => (h x y z s h1 h2 h3 h4 h5).iff Rc_23
set_option maxHeartbeats 600000 in
set_option maxRecDepth 100000 in
theorem c_X4_isLawful (l : Launch) (D : va_G) (t : ClassId × ClassId × ClassId) (b : Nat → Nat) (S : zS) (Xn Yn Zn G : Nat) (h15 : S 15 = l3 Xn Yn Zn) (h18 : S 18 0 = nI G) (hG : G < 256) (hX : Xn + Yn + Zn ≤ 8) (hI : zI S) : zM2 l yX4_isLawful cX4_isLawful 1 (some .boolean) 6 D t [.ref (b 0)] (wM t b S) (fun r (_ : Nat → Int32) => bz r (Rc S Xn Yn Zn G 0 0 0 0)) (fun u => wM t b (va_up (va_up S 23 (fun _ => nI 0)) 22 u)) := by
  refine z_m2 (by decide +kernel) (Nat.le_of_ble_eq_true rfl) (by simp [Value.category]) ?_
  intro E X Z Y
  refine z_lv (lv' := [some (.ref (b 0))]) rfl ?_
  refine z_aload_n X dX4_isLawful_0 rfl rfl ?_
  refine z_iconst (v := nI 0) X dX4_isLawful_1 (by decide) ?_
  refine z_put X Y (C := RX4) (T := TX4) (N := 21) (ci := 4) (ty := .int) inZ4 tyX4 tyX4_ok nmX4 0 20 aM_eq rfl rfl (by decide) q_fl_X4_65 rfl rfl (by decide +kernel) rfl rfl (Nat.le_of_ble_eq_true rfl) dX4_isLawful_2 ?_
  refine Wz.eq (uM_23 (v := nI 0)) ?_
  refine z_aload_n X dX4_isLawful_5 rfl rfl ?_
  refine z_aload_n X dX4_isLawful_6 rfl rfl ?_
  refine z_get X (C := RX4) (T := TX4) (N := 21) (ci := 4) (v := .int (S 18 0)) inZ4 0 4 rfl rfl (by decide) q_fl_X4_111 rfl rfl dX4_isLawful_7 ?_
  refine z_top (y := nI G) (h18) ?_
  refine z_callV2 (k := 0) (n := 0) (st := []) X Y aM_eq (c_X4_isLawfulWith l D t b (va_up S 23 (fun _ => nI 0)) ((va_up S 23 (fun _ => nI 0)) 22) Xn Yn Zn G h15 hG hX hI) k_X4_isLawfulWith q_ml_X4_121 is19 (fun u => wM t b (va_up (va_up S 23 (fun _ => nI 0)) 22 u)) (fun u => swMF) ppMF 0 4 rfl rfl (by decide) rfl rfl rfl (Nat.le_of_ble_eq_true rfl) ⟨Nat.zero_le _, Nat.zero_le _⟩ dX4_isLawful_10 (fun r10 u10 h10 => ?_)
  obtain ⟨h10, hL10⟩ := h10
  replace h10 := h10.iff Rc_23
  replace hL10 := Lb_23 hL10
  rcases h10 with ⟨rfl, h10⟩ | ⟨rfl, h10⟩
  ·
    refine z_iret X Z (by decide +kernel) dX4_isLawful_13 ?_
    exact ⟨u10, bz_t h10, fun q hq => hq⟩
  ·
    refine z_iret X Z (by decide +kernel) dX4_isLawful_13 ?_
    exact ⟨u10, bz_f h10, fun q hq => hq⟩
set_option maxHeartbeats 600000 in
set_option maxRecDepth 100000 in
theorem c_X4_isLawfulByOrders (l : Launch) (D : va_G) (t : ClassId × ClassId × ClassId) (b : Nat → Nat) (S : zS) (Xn Yn Zn G : Nat) (h15 : S 15 = l3 Xn Yn Zn) (h18 : S 18 0 = nI G) (hG : G < 256) (hX : Xn + Yn + Zn ≤ 8) (hI : zI S) (h17 : S 17 0 = nI (Xn + Yn + Zn))  : zM2 l yX4_isLawfulByOrders cX4_isLawfulByOrders 1 (some .boolean) 6 D t [.ref (b 0)] (wM t b S) (fun r (u : zS) => (Xn + Yn + Zn + p8 G ≤ 8 ∧ bz r (Rc S Xn Yn Zn G 0 0 0 0) ∧ ∃ f, u = va_up (va_up S 23 (fun _ => nI 0)) 22 f) ∨ (8 < Xn + Yn + Zn + p8 G ∧ u = va_up S 23 (fun _ => nI 1))) (fun u => wM t b u) := by
  refine z_m2 (by decide +kernel) (Nat.le_of_ble_eq_true rfl) (by simp [Value.category]) ?_
  intro E X Z Y
  refine z_lv (lv' := [some (.ref (b 0))]) rfl ?_
  have hp8 := p8_le G hG
  refine z_aload_n X dX4_isLawfulByOrders_0 rfl rfl ?_
  refine z_aload_n X dX4_isLawfulByOrders_1 rfl rfl ?_
  refine z_get X (C := RX4) (T := TX4) (N := 21) (ci := 4) (v := .int (S 17 0)) inZ4 0 3 rfl rfl (by decide) q_fl_X4_95 rfl rfl dX4_isLawfulByOrders_2 ?_
  refine z_top (y := nI (Xn + Yn + Zn)) (h17) ?_
  refine z_aload_n X dX4_isLawfulByOrders_5 rfl rfl ?_
  refine z_get X (C := RX4) (T := TX4) (N := 21) (ci := 4) (v := .int (S 18 0)) inZ4 0 4 rfl rfl (by decide) q_fl_X4_111 rfl rfl dX4_isLawfulByOrders_6 ?_
  refine z_top (y := nI G) (h18) ?_
  refine z_callS1 (k := 0) (n := 0) (st := [.int (nI (Xn + Yn + Zn)), .ref (b 0)]) X (c_X4_many l D t G (by omega)) k_X4_many q_ml_X4_98 [] ⟨by decide, rfl⟩ (by decide) rfl rfl rfl (Nat.le_of_ble_eq_true rfl) ⟨Nat.zero_le _, Nat.zero_le _⟩ dX4_isLawfulByOrders_9 (fun r9 h9 => ?_)
  subst h9
  refine n_iadd X dX4_isLawfulByOrders_12 ?_
  refine z_bipush (v := nI 8) X dX4_isLawfulByOrders_13 (by decide) ?_
  refine n_icmp_gt (tgt := 22) X dX4_isLawfulByOrders_15 (by decide) (by omega) (by omega) (fun c15 => ?_) (fun c15 => ?_)
  ·
    refine z_iconst (v := nI 0) X dX4_isLawfulByOrders_22 (by decide) ?_
    refine z_iconst (v := nI 1) X dX4_isLawfulByOrders_23 (by decide) ?_
    refine z_iconst (v := nI 1) X dX4_isLawfulByOrders_24 (by decide) ?_
    refine z_callV2 (k := 0) (n := 0) (st := []) X Y aM_eq (c_X4_goes l D t b S (nI 0) (nI 1) (nI 1) False True True (bz_f id) (bz_t trivial) (bz_t trivial)) k_X4_goes q_ml_X4_77 is19 (fun u => wM t b (va_up S 23 (fun _ => nI u))) (fun u => swM) ppM 0 4 rfl rfl (by decide) rfl rfl rfl (Nat.le_of_ble_eq_true rfl) ⟨Nat.zero_le _, Nat.zero_le _⟩ dX4_isLawfulByOrders_25 (fun r25 u25 h25 => ?_)
    rcases h25 with ⟨rfl, rfl, g1, g2, g3⟩ | ⟨rfl, rfl, g1⟩ | ⟨rfl, rfl, g1, g2⟩ | ⟨rfl, rfl, g1, g2, g3⟩
    ·
      exact g1.elim
    ·
      refine n_if_eq (tgt := 46) X dX4_isLawfulByOrders_28 (by decide) (by omega) (fun _ => ?_) (fun c28 => absurd c28 (by decide))
      refine z_iconst (v := nI 0) X dX4_isLawfulByOrders_46 (by decide) ?_
      refine z_iret X Z (by decide +kernel) dX4_isLawfulByOrders_47 ?_
      exact ⟨(va_up S 23 (fun _ => nI 1)), Or.inr ⟨c15, rfl⟩, fun q hq => hq⟩
    ·
      exact absurd trivial g2
    ·
      exact absurd trivial g3
  ·
    refine z_iconst (v := nI 1) X dX4_isLawfulByOrders_18 (by decide) ?_
    refine z_goto (tgt := 23) X dX4_isLawfulByOrders_19 (by decide) ?_
    refine z_iconst (v := nI 1) X dX4_isLawfulByOrders_23 (by decide) ?_
    refine z_iconst (v := nI 1) X dX4_isLawfulByOrders_24 (by decide) ?_
    refine z_callV2 (k := 0) (n := 0) (st := []) X Y aM_eq (c_X4_goes l D t b S (nI 1) (nI 1) (nI 1) True True True (bz_t trivial) (bz_t trivial) (bz_t trivial)) k_X4_goes q_ml_X4_77 is19 (fun u => wM t b (va_up S 23 (fun _ => nI u))) (fun u => swM) ppM 0 4 rfl rfl (by decide) rfl rfl rfl (Nat.le_of_ble_eq_true rfl) ⟨Nat.zero_le _, Nat.zero_le _⟩ dX4_isLawfulByOrders_25 (fun r25 u25 h25 => ?_)
    rcases h25 with ⟨rfl, rfl, g1, g2, g3⟩ | ⟨rfl, rfl, g1⟩ | ⟨rfl, rfl, g1, g2⟩ | ⟨rfl, rfl, g1, g2, g3⟩
    ·
      refine n_if_eq (tgt := 46) X dX4_isLawfulByOrders_28 (by decide) (by omega) (fun c28 => absurd c28 (by decide)) (fun _ => ?_)
      refine z_aload_n X dX4_isLawfulByOrders_31 rfl rfl ?_
      refine z_aload_n X dX4_isLawfulByOrders_32 rfl rfl ?_
      refine z_get X (C := RX4) (T := TX4) (N := 21) (ci := 4) (v := .int (S 18 0)) inZ4 0 4 rfl rfl (by decide) q_fl_X4_111 rfl rfl dX4_isLawfulByOrders_33 ?_
      refine z_top (y := nI G) (h18) ?_
      refine z_callV2 (k := 0) (n := 0) (st := []) X Y aM_eq (c_X4_isLawfulWith l D t b (va_up S 23 (fun _ => nI 0)) ((va_up S 23 (fun _ => nI 0)) 22) Xn Yn Zn G h15 hG hX hI) k_X4_isLawfulWith q_ml_X4_121 is19 (fun u => wM t b (va_up (va_up S 23 (fun _ => nI 0)) 22 u)) (fun u => swMF) ppMF 0 4 rfl rfl (by decide) rfl rfl rfl (Nat.le_of_ble_eq_true rfl) ⟨Nat.zero_le _, Nat.zero_le _⟩ dX4_isLawfulByOrders_36 (fun r36 u36 h36 => ?_)
      obtain ⟨h36, hL36⟩ := h36
      replace h36 := h36.iff Rc_23
      replace hL36 := Lb_23 hL36
      rcases h36 with ⟨rfl, h36⟩ | ⟨rfl, h36⟩
      ·
        refine n_if_eq (tgt := 46) X dX4_isLawfulByOrders_39 (by decide) (by omega) (fun c39 => absurd c39 (by decide)) (fun _ => ?_)
        refine z_iconst (v := nI 1) X dX4_isLawfulByOrders_42 (by decide) ?_
        refine z_goto (tgt := 47) X dX4_isLawfulByOrders_43 (by decide) ?_
        refine z_iret X Z (by decide +kernel) dX4_isLawfulByOrders_47 ?_
        exact ⟨(va_up (va_up S 23 (fun _ => nI 0)) 22 u36), Or.inl ⟨c15, bz_t h36, _, rfl⟩, fun q hq => hq⟩
      ·
        refine n_if_eq (tgt := 46) X dX4_isLawfulByOrders_39 (by decide) (by omega) (fun _ => ?_) (fun c39 => absurd c39 (by decide))
        refine z_iconst (v := nI 0) X dX4_isLawfulByOrders_46 (by decide) ?_
        refine z_iret X Z (by decide +kernel) dX4_isLawfulByOrders_47 ?_
        exact ⟨(va_up (va_up S 23 (fun _ => nI 0)) 22 u36), Or.inl ⟨c15, bz_f h36, _, rfl⟩, fun q hq => hq⟩
    ·
      exact absurd trivial g1
    ·
      exact absurd trivial g2
    ·
      exact absurd trivial g3
theorem dif_cm (a p q : Nat) : dif (dif a p) q = dif (dif a q) p := by
  unfold dif
  rw [Nat.and_assoc, Nat.and_assoc, Nat.and_comm (p ^^^ 4294967295)]
theorem wkN_mt {S S' : zS} {f : Nat → Int32} {g : Nat} (h1 : ∀ j, pS S j ↔ pS S' j) (h2 : ∀ j, pL S f j ↔ pL S' f j) (h3 : ∀ s j, pO S s j ↔ pO S' s j) : ∀ n, wkN S f g n = wkN S' f g n
  | 0 => rfl
  | n + 1 => by
    show wks S f g (wkN S f g n) (n % 8) = wks S' f g (wkN S' f g n) (n % 8)
    rw [wkN_mt h1 h2 h3 n]
    unfold wks
    rw [h1, h2, h3]
set_option maxHeartbeats 600000 in
set_option maxRecDepth 100000 in
theorem c_X4_exchange (l : Launch) (D : va_G) (t : ClassId × ClassId × ClassId) (b : Nat → Nat) (S : zS) (Xn Yn Zn G : Nat) (h15 : S 15 = l3 Xn Yn Zn) (h18 : S 18 0 = nI G) (hG : G < 256) (hX : Xn + Yn + Zn ≤ 8) (hI : zI S) (g o : Int32) : zM2 l yX4_exchange cX4_exchange 7 (some .int) 8 D t [.ref (b 0), .int g, .int o] (wM t b S) (fun r (u : zS) => (∃ k j, k < 8 ∧ j < 8 ∧ g = nI k ∧ o = nI j ∧ G.testBit k = true ∧ G.testBit j = false ∧ Rc S Xn Yn Zn (exN G k j) 0 0 0 0 ∧ r = nI (p8 (faN S (S 15) G k j)) ∧ ∃ f, u = va_up (va_up (va_up S 22 f) 23 (fun _ => nI 0)) 18 (fun _ => nI (exN G k j))) ∨ (¬ (am g 8 ∧ am o 8) ∧ u = va_up S 23 (fun _ => nI 1)) ∨ ((∃ k j, k < 8 ∧ j < 8 ∧ g = nI k ∧ o = nI j ∧ ¬ (G.testBit k = true ∧ G.testBit j = false ∧ Rc S Xn Yn Zn (exN G k j) 0 0 0 0)) ∧ ∃ f, u = va_up (va_up S 22 f) 23 (fun _ => nI 2))) (fun u => wM t b u) := by
  refine z_m2 (by decide +kernel) (Nat.le_of_ble_eq_true rfl) (by simp [Value.category]) ?_
  intro E X Z Y
  refine z_lv (lv' := [some (.ref (b 0)), some (.int g), some (.int o), none, none, none, none]) rfl ?_
  refine z_iload_n X dX4_exchange_0 rfl rfl ?_
  refine z_callS1 (k := 0) (n := 0) (st := []) X (c_X4_isGift l D t g) k_X4_isGift q_ml_X4_73 [] ⟨by decide, rfl⟩ (by decide) rfl rfl rfl (Nat.le_of_ble_eq_true rfl) ⟨Nat.zero_le _, Nat.zero_le _⟩ dX4_exchange_1 (fun r1 h1 => ?_)
  rcases h1 with ⟨rfl, kg, hkg, rfl⟩ | ⟨rfl, h1⟩
  ·
    refine n_if_eq (tgt := 18) X dX4_exchange_4 (by decide) (by omega) (fun c4 => absurd c4 (by decide)) (fun _ => ?_)
    refine z_iload_n X dX4_exchange_7 rfl rfl ?_
    refine z_callS1 (k := 0) (n := 0) (st := []) X (c_X4_isGift l D t o) k_X4_isGift q_ml_X4_73 [] ⟨by decide, rfl⟩ (by decide) rfl rfl rfl (Nat.le_of_ble_eq_true rfl) ⟨Nat.zero_le _, Nat.zero_le _⟩ dX4_exchange_8 (fun r8 h8 => ?_)
    rcases h8 with ⟨rfl, ko, hko, rfl⟩ | ⟨rfl, h8⟩
    ·
      refine n_if_eq (tgt := 18) X dX4_exchange_11 (by decide) (by omega) (fun c11 => absurd c11 (by decide)) (fun _ => ?_)
      refine z_iconst (v := nI 1) X dX4_exchange_14 (by decide) ?_
      refine z_goto (tgt := 19) X dX4_exchange_15 (by decide) ?_
      refine z_istore_n X dX4_exchange_19 rfl (Nat.le_of_ble_eq_true rfl) ?_
      refine z_lv (lv' := [some (.ref (b 0)), some (.int (nI kg)), some (.int (nI ko)), some (.int (nI 1)), none, none, none]) rfl ?_
      refine z_iload_n X dX4_exchange_20 rfl rfl ?_
      refine n_if_eq (tgt := 50) X dX4_exchange_21 (by decide) (by omega) (fun c21 => absurd c21 (by decide)) (fun _ => ?_)
      refine z_aload_n X dX4_exchange_24 rfl rfl ?_
      refine z_get X (C := RX4) (T := TX4) (N := 21) (ci := 4) (v := .int (S 18 0)) inZ4 0 4 rfl rfl (by decide) q_fl_X4_111 rfl rfl dX4_exchange_25 ?_
      refine z_top (y := nI G) (h18) ?_
      refine z_iload_n X dX4_exchange_28 rfl rfl ?_
      refine z_callS1 (k := 0) (n := 0) (st := []) X (c_X4_has l D t G kg (by omega) (by omega)) k_X4_has q_ml_X4_107 [] ⟨by decide, rfl⟩ (by decide) rfl rfl rfl (Nat.le_of_ble_eq_true rfl) ⟨Nat.zero_le _, Nat.zero_le _⟩ dX4_exchange_29 (fun r29 h29 => ?_)
      rcases h29 with ⟨rfl, h29⟩ | ⟨rfl, h29⟩
      ·
        refine n_if_eq (tgt := 50) X dX4_exchange_32 (by decide) (by omega) (fun c32 => absurd c32 (by decide)) (fun _ => ?_)
        refine z_aload_n X dX4_exchange_35 rfl rfl ?_
        refine z_get X (C := RX4) (T := TX4) (N := 21) (ci := 4) (v := .int (S 18 0)) inZ4 0 4 rfl rfl (by decide) q_fl_X4_111 rfl rfl dX4_exchange_36 ?_
        refine z_top (y := nI G) (h18) ?_
        refine z_iload_n X dX4_exchange_39 rfl rfl ?_
        refine z_callS1 (k := 0) (n := 0) (st := []) X (c_X4_has l D t G ko (by omega) (by omega)) k_X4_has q_ml_X4_107 [] ⟨by decide, rfl⟩ (by decide) rfl rfl rfl (Nat.le_of_ble_eq_true rfl) ⟨Nat.zero_le _, Nat.zero_le _⟩ dX4_exchange_40 (fun r40 h40 => ?_)
        rcases h40 with ⟨rfl, h40⟩ | ⟨rfl, h40⟩
        ·
          refine n_if_ne (tgt := 50) X dX4_exchange_43 (by decide) (by omega) (fun _ => ?_) (fun c43 => absurd c43 (by decide))
          refine z_iconst (v := nI 0) X dX4_exchange_50 (by decide) ?_
          refine z_istore X dX4_exchange_51 (Nat.le_of_ble_eq_true rfl) ?_
          refine z_lv (lv' := [some (.ref (b 0)), some (.int (nI kg)), some (.int (nI ko)), some (.int (nI 1)), some (.int (nI 0)), none, none]) rfl ?_
          refine z_iload X dX4_exchange_53 rfl ?_
          refine n_if_eq (tgt := 75) X dX4_exchange_55 (by decide) (by omega) (fun _ => ?_) (fun c55 => absurd c55 (by decide))
          refine z_iconst (v := nI 0) X dX4_exchange_75 (by decide) ?_
          refine z_istore X dX4_exchange_76 (Nat.le_of_ble_eq_true rfl) ?_
          refine z_lv (lv' := [some (.ref (b 0)), some (.int (nI kg)), some (.int (nI ko)), some (.int (nI 1)), some (.int (nI 0)), some (.int (nI 0)), none]) rfl ?_
          refine z_aload_n X dX4_exchange_78 rfl rfl ?_
          refine z_iload_n X dX4_exchange_79 rfl rfl ?_
          refine z_iload X dX4_exchange_80 rfl ?_
          refine n_if_eq (tgt := 98) X dX4_exchange_82 (by decide) (by omega) (fun _ => ?_) (fun c82 => absurd c82 (by decide))
          refine z_iconst (v := nI 0) X dX4_exchange_98 (by decide) ?_
          refine z_iconst (v := nI 1) X dX4_exchange_99 (by decide) ?_
          refine z_callV2 (k := 0) (n := 0) (st := []) X Y aM_eq (c_X4_goes l D t b S (nI 1) (nI 0) (nI 1) True False True (bz_t trivial) (bz_f id) (bz_t trivial)) k_X4_goes q_ml_X4_77 is19 (fun u => wM t b (va_up S 23 (fun _ => nI u))) (fun u => swM) ppM 0 4 rfl rfl (by decide) rfl rfl rfl (Nat.le_of_ble_eq_true rfl) ⟨Nat.zero_le _, Nat.zero_le _⟩ dX4_exchange_100 (fun r100 u100 h100 => ?_)
          rcases h100 with ⟨rfl, rfl, g1, g2, g3⟩ | ⟨rfl, rfl, g1⟩ | ⟨rfl, rfl, g1, g2⟩ | ⟨rfl, rfl, g1, g2, g3⟩
          ·
            exact g2.elim
          ·
            exact absurd trivial g1
          ·
            refine n_if_ne (tgt := 108) X dX4_exchange_103 (by decide) (by omega) (fun c103 => absurd c103 (by decide)) (fun _ => ?_)
            refine z_iconst (v := nI 0) X dX4_exchange_106 (by decide) ?_
            refine z_iret X Z rfl dX4_exchange_107 ?_
            first
              | exact ⟨(va_up (va_up S 22 (S 22)) 23 (fun _ => nI 2)), Or.inr (Or.inr ⟨⟨kg, ko, hkg, hko, rfl, rfl, fun q => h29 q.1⟩, S 22, rfl⟩), fun q hq => hq⟩
              | exact ⟨(va_up (va_up S 22 (S 22)) 23 (fun _ => nI 2)), Or.inr (Or.inr ⟨⟨kg, ko, hkg, hko, rfl, rfl, fun q => h88 q.2.2⟩, S 22, rfl⟩), fun q hq => hq⟩
              | exact ⟨(va_up (va_up S 22 (S 22)) 23 (fun _ => nI 2)), Or.inr (Or.inr ⟨⟨kg, ko, hkg, hko, rfl, rfl, fun q => by rw [h40] at q; cases q.2.1⟩, S 22, rfl⟩), fun q hq => hq⟩
          ·
            exact absurd trivial g3
        ·
          refine n_if_ne (tgt := 50) X dX4_exchange_43 (by decide) (by omega) (fun c43 => absurd c43 (by decide)) (fun _ => ?_)
          refine z_iconst (v := nI 1) X dX4_exchange_46 (by decide) ?_
          refine z_goto (tgt := 51) X dX4_exchange_47 (by decide) ?_
          refine z_istore X dX4_exchange_51 (Nat.le_of_ble_eq_true rfl) ?_
          refine z_lv (lv' := [some (.ref (b 0)), some (.int (nI kg)), some (.int (nI ko)), some (.int (nI 1)), some (.int (nI 1)), none, none]) rfl ?_
          refine z_iload X dX4_exchange_53 rfl ?_
          refine n_if_eq (tgt := 75) X dX4_exchange_55 (by decide) (by omega) (fun c55 => absurd c55 (by decide)) (fun _ => ?_)
          refine z_aload_n X dX4_exchange_58 rfl rfl ?_
          refine z_get X (C := RX4) (T := TX4) (N := 21) (ci := 4) (v := .int (S 18 0)) inZ4 0 4 rfl rfl (by decide) q_fl_X4_111 rfl rfl dX4_exchange_59 ?_
          refine z_top (y := nI G) (h18) ?_
          refine z_iconst (v := nI 1) X dX4_exchange_62 (by decide) ?_
          refine z_iload_n X dX4_exchange_63 rfl rfl ?_
          refine n_ishl1 X dX4_exchange_64 (by omega) ?_
          refine z_iconst (v := (-1)) X dX4_exchange_65 (by decide) ?_
          refine z_ixor X dX4_exchange_66 ?_
          refine z_iand X dX4_exchange_67 ?_
          refine z_top (y := nI (dif G (2 ^ kg))) (zn_dif G (2 ^ kg)) ?_
          refine z_iconst (v := nI 1) X dX4_exchange_68 (by decide) ?_
          refine z_iload_n X dX4_exchange_69 rfl rfl ?_
          refine n_ishl1 X dX4_exchange_70 (by omega) ?_
          refine n_ior X dX4_exchange_71 ?_
          refine z_top (y := nI (exN G kg ko)) rfl ?_
          have hex := exN_lt (k := kg) hG hko
          refine z_goto (tgt := 76) X dX4_exchange_72 (by decide) ?_
          refine z_istore X dX4_exchange_76 (Nat.le_of_ble_eq_true rfl) ?_
          refine z_lv (lv' := [some (.ref (b 0)), some (.int (nI kg)), some (.int (nI ko)), some (.int (nI 1)), some (.int (nI 1)), some (.int (nI (exN G kg ko))), none]) rfl ?_
          refine z_aload_n X dX4_exchange_78 rfl rfl ?_
          refine z_iload_n X dX4_exchange_79 rfl rfl ?_
          refine z_iload X dX4_exchange_80 rfl ?_
          refine n_if_eq (tgt := 98) X dX4_exchange_82 (by decide) (by omega) (fun c82 => absurd c82 (by decide)) (fun _ => ?_)
          refine z_aload_n X dX4_exchange_85 rfl rfl ?_
          refine z_iload X dX4_exchange_86 rfl ?_
          refine z_callV2 (k := 0) (n := 0) (st := [.int (nI 1), .ref (b 0)]) X Y aM_eq (c_X4_isLawfulWith l D t b S (S 22) Xn Yn Zn (exN G kg ko) h15 hex hX hI) k_X4_isLawfulWith q_ml_X4_121 is19 (fun u => wM t b (va_up S 22 u)) (fun u => swMF) ppMF 0 4 rfl rfl (by decide) rfl rfl rfl (Nat.le_of_ble_eq_true rfl) ⟨Nat.zero_le _, Nat.zero_le _⟩ dX4_exchange_88 (fun r88 u88 h88 => ?_)
          obtain ⟨h88, hL88⟩ := h88
          rcases h88 with ⟨rfl, h88⟩ | ⟨rfl, h88⟩
          ·
            refine n_if_eq (tgt := 98) X dX4_exchange_91 (by decide) (by omega) (fun c91 => absurd c91 (by decide)) (fun _ => ?_)
            refine z_iconst (v := nI 1) X dX4_exchange_94 (by decide) ?_
            refine z_goto (tgt := 99) X dX4_exchange_95 (by decide) ?_
            refine z_iconst (v := nI 1) X dX4_exchange_99 (by decide) ?_
            refine z_callV2 (k := 0) (n := 0) (st := []) X Y aM_eq (c_X4_goes l D t b (va_up S 22 u88) (nI 1) (nI 1) (nI 1) True True True (bz_t trivial) (bz_t trivial) (bz_t trivial)) k_X4_goes q_ml_X4_77 is19 (fun u => wM t b (va_up (va_up S 22 u88) 23 (fun _ => nI u))) (fun u => swM) ppM 0 4 rfl rfl (by decide) rfl rfl rfl (Nat.le_of_ble_eq_true rfl) ⟨Nat.zero_le _, Nat.zero_le _⟩ dX4_exchange_100 (fun r100 u100 h100 => ?_)
            rcases h100 with ⟨rfl, rfl, g1, g2, g3⟩ | ⟨rfl, rfl, g1⟩ | ⟨rfl, rfl, g1, g2⟩ | ⟨rfl, rfl, g1, g2, g3⟩
            ·
              refine n_if_ne (tgt := 108) X dX4_exchange_103 (by decide) (by omega) (fun _ => ?_) (fun c103 => absurd c103 (by decide))
              refine z_aload_n X dX4_exchange_108 rfl rfl ?_
              refine z_aload_n X dX4_exchange_109 rfl rfl ?_
              refine z_get X (C := RX4) (T := TX4) (N := 21) (ci := 4) (v := .int (S 18 0)) inZ4 0 4 rfl rfl (by decide) q_fl_X4_111 rfl rfl dX4_exchange_110 ?_
              refine z_top (y := nI G) (h18) ?_
              refine z_callV1 (k := 0) (n := 0) (st := []) X (c_X4_workingOf l D t b (va_up (va_up S 22 u88) 23 (fun _ => nI 0)) G (by omega) hI) k_X4_workingOf q_ml_X4_124 is19 ⟨by decide, rfl⟩ 0 4 rfl rfl (by decide) rfl rfl rfl (Nat.le_of_ble_eq_true rfl) ⟨Nat.zero_le _, Nat.zero_le _⟩ dX4_exchange_113 (fun r113 h113 => ?_)
              subst h113
              refine z_top (y := nI (wk S (S 15) G)) (congrArg nI (wkN_mt (fun _ => Iff.rfl) (fun _ => Iff.rfl) (fun _ _ => Iff.rfl) 64)) ?_
              refine z_iconst (v := nI 1) X dX4_exchange_116 (by decide) ?_
              refine z_iload_n X dX4_exchange_117 rfl rfl ?_
              refine n_ishl1 X dX4_exchange_118 (by omega) ?_
              refine z_iconst (v := (-1)) X dX4_exchange_119 (by decide) ?_
              refine z_ixor X dX4_exchange_120 ?_
              refine z_iand X dX4_exchange_121 ?_
              refine z_top (y := nI (dif (wk S (S 15) G) (2 ^ kg))) (zn_dif _ _) ?_
              refine z_istore X dX4_exchange_122 (Nat.le_of_ble_eq_true rfl) ?_
              refine z_lv (lv' := [some (.ref (b 0)), some (.int (nI kg)), some (.int (nI ko)), some (.int (nI 1)), some (.int (nI 1)), some (.int (nI (exN G kg ko))), some (.int (nI (dif (wk S (S 15) G) (2 ^ kg))))]) rfl ?_
              refine z_aload_n X dX4_exchange_124 rfl rfl ?_
              refine z_iload X dX4_exchange_125 rfl ?_
              refine z_put X Y (C := RX4) (T := TX4) (N := 21) (ci := 4) (ty := .int) inZ4 tyX4 tyX4_ok nmX4 0 4 aM_eq rfl rfl (by decide) q_fl_X4_111 rfl rfl (by decide +kernel) rfl rfl (Nat.le_of_ble_eq_true rfl) dX4_exchange_127 ?_
              refine Wz.eq (uM_18 (v := nI (exN G kg ko))) ?_
              refine z_iload X dX4_exchange_130 rfl ?_
              refine z_aload_n X dX4_exchange_132 rfl rfl ?_
              refine z_aload_n X dX4_exchange_133 rfl rfl ?_
              refine z_get X (C := RX4) (T := TX4) (N := 21) (ci := 4) (v := .int (nI (exN G kg ko))) inZ4 0 4 rfl rfl (by decide) q_fl_X4_111 rfl rfl dX4_exchange_134 ?_
              refine z_callV1 (k := 0) (n := 0) (st := [.int (nI (dif (wk S (S 15) G) (2 ^ kg)))]) X (c_X4_workingOf l D t b (va_up (va_up (va_up S 22 u88) 23 (fun _ => nI 0)) 18 (fun _ => nI (exN G kg ko))) (exN G kg ko) (by omega) hI) k_X4_workingOf q_ml_X4_124 is19 ⟨by decide, rfl⟩ 0 4 rfl rfl (by decide) rfl rfl rfl (Nat.le_of_ble_eq_true rfl) ⟨Nat.zero_le _, Nat.zero_le _⟩ dX4_exchange_137 (fun r137 h137 => ?_)
              subst h137
              refine z_top (y := nI (wk S (S 15) (exN G kg ko))) (congrArg nI (wkN_mt (fun _ => Iff.rfl) (fun _ => Iff.rfl) (fun _ _ => Iff.rfl) 64)) ?_
              refine z_iconst (v := (-1)) X dX4_exchange_140 (by decide) ?_
              refine z_ixor X dX4_exchange_141 ?_
              refine z_iand X dX4_exchange_142 ?_
              refine z_top (y := nI (faN S (S 15) G kg ko)) ((zn_dif _ _).trans (congrArg nI (dif_cm _ _ _))) ?_
              have hfa := faN_lt (S := S) (f := S 15) (G := G) (k := kg) (j := ko)
              refine z_callS1 (k := 0) (n := 0) (st := []) X (c_X4_many l D t (faN S (S 15) G kg ko) (by omega)) k_X4_many q_ml_X4_98 [] ⟨by decide, rfl⟩ (by decide) rfl rfl rfl (Nat.le_of_ble_eq_true rfl) ⟨Nat.zero_le _, Nat.zero_le _⟩ dX4_exchange_143 (fun r143 h143 => ?_)
              subst h143
              refine z_iret X Z rfl dX4_exchange_146 ?_
              exact ⟨(va_up (va_up (va_up S 22 u88) 23 (fun _ => nI 0)) 18 (fun _ => nI (exN G kg ko))), Or.inl ⟨kg, ko, hkg, hko, rfl, rfl, h29, by simpa using h40, h88, rfl, _, rfl⟩, fun q hq => hq⟩
            ·
              exact absurd trivial g1
            ·
              exact absurd trivial g2
            ·
              exact absurd trivial g3
          ·
            refine n_if_eq (tgt := 98) X dX4_exchange_91 (by decide) (by omega) (fun _ => ?_) (fun c91 => absurd c91 (by decide))
            refine z_iconst (v := nI 0) X dX4_exchange_98 (by decide) ?_
            refine z_iconst (v := nI 1) X dX4_exchange_99 (by decide) ?_
            refine z_callV2 (k := 0) (n := 0) (st := []) X Y aM_eq (c_X4_goes l D t b (va_up S 22 u88) (nI 1) (nI 0) (nI 1) True False True (bz_t trivial) (bz_f id) (bz_t trivial)) k_X4_goes q_ml_X4_77 is19 (fun u => wM t b (va_up (va_up S 22 u88) 23 (fun _ => nI u))) (fun u => swM) ppM 0 4 rfl rfl (by decide) rfl rfl rfl (Nat.le_of_ble_eq_true rfl) ⟨Nat.zero_le _, Nat.zero_le _⟩ dX4_exchange_100 (fun r100 u100 h100 => ?_)
            rcases h100 with ⟨rfl, rfl, g1, g2, g3⟩ | ⟨rfl, rfl, g1⟩ | ⟨rfl, rfl, g1, g2⟩ | ⟨rfl, rfl, g1, g2, g3⟩
            ·
              exact g2.elim
            ·
              exact absurd trivial g1
            ·
              refine n_if_ne (tgt := 108) X dX4_exchange_103 (by decide) (by omega) (fun c103 => absurd c103 (by decide)) (fun _ => ?_)
              refine z_iconst (v := nI 0) X dX4_exchange_106 (by decide) ?_
              refine z_iret X Z rfl dX4_exchange_107 ?_
              first
                | exact ⟨(va_up (va_up S 22 u88) 23 (fun _ => nI 2)), Or.inr (Or.inr ⟨⟨kg, ko, hkg, hko, rfl, rfl, fun q => h29 q.1⟩, _, rfl⟩), fun q hq => hq⟩
                | exact ⟨(va_up (va_up S 22 u88) 23 (fun _ => nI 2)), Or.inr (Or.inr ⟨⟨kg, ko, hkg, hko, rfl, rfl, fun q => h88 q.2.2⟩, _, rfl⟩), fun q hq => hq⟩
                | exact ⟨(va_up (va_up S 22 u88) 23 (fun _ => nI 2)), Or.inr (Or.inr ⟨⟨kg, ko, hkg, hko, rfl, rfl, fun q => by rw [h40] at q; cases q.2.1⟩, _, rfl⟩), fun q hq => hq⟩
            ·
              exact absurd trivial g3
      ·
        refine n_if_eq (tgt := 50) X dX4_exchange_32 (by decide) (by omega) (fun _ => ?_) (fun c32 => absurd c32 (by decide))
        refine z_iconst (v := nI 0) X dX4_exchange_50 (by decide) ?_
        refine z_istore X dX4_exchange_51 (Nat.le_of_ble_eq_true rfl) ?_
        refine z_lv (lv' := [some (.ref (b 0)), some (.int (nI kg)), some (.int (nI ko)), some (.int (nI 1)), some (.int (nI 0)), none, none]) rfl ?_
        refine z_iload X dX4_exchange_53 rfl ?_
        refine n_if_eq (tgt := 75) X dX4_exchange_55 (by decide) (by omega) (fun _ => ?_) (fun c55 => absurd c55 (by decide))
        refine z_iconst (v := nI 0) X dX4_exchange_75 (by decide) ?_
        refine z_istore X dX4_exchange_76 (Nat.le_of_ble_eq_true rfl) ?_
        refine z_lv (lv' := [some (.ref (b 0)), some (.int (nI kg)), some (.int (nI ko)), some (.int (nI 1)), some (.int (nI 0)), some (.int (nI 0)), none]) rfl ?_
        refine z_aload_n X dX4_exchange_78 rfl rfl ?_
        refine z_iload_n X dX4_exchange_79 rfl rfl ?_
        refine z_iload X dX4_exchange_80 rfl ?_
        refine n_if_eq (tgt := 98) X dX4_exchange_82 (by decide) (by omega) (fun _ => ?_) (fun c82 => absurd c82 (by decide))
        refine z_iconst (v := nI 0) X dX4_exchange_98 (by decide) ?_
        refine z_iconst (v := nI 1) X dX4_exchange_99 (by decide) ?_
        refine z_callV2 (k := 0) (n := 0) (st := []) X Y aM_eq (c_X4_goes l D t b S (nI 1) (nI 0) (nI 1) True False True (bz_t trivial) (bz_f id) (bz_t trivial)) k_X4_goes q_ml_X4_77 is19 (fun u => wM t b (va_up S 23 (fun _ => nI u))) (fun u => swM) ppM 0 4 rfl rfl (by decide) rfl rfl rfl (Nat.le_of_ble_eq_true rfl) ⟨Nat.zero_le _, Nat.zero_le _⟩ dX4_exchange_100 (fun r100 u100 h100 => ?_)
        rcases h100 with ⟨rfl, rfl, g1, g2, g3⟩ | ⟨rfl, rfl, g1⟩ | ⟨rfl, rfl, g1, g2⟩ | ⟨rfl, rfl, g1, g2, g3⟩
        ·
          exact g2.elim
        ·
          exact absurd trivial g1
        ·
          refine n_if_ne (tgt := 108) X dX4_exchange_103 (by decide) (by omega) (fun c103 => absurd c103 (by decide)) (fun _ => ?_)
          refine z_iconst (v := nI 0) X dX4_exchange_106 (by decide) ?_
          refine z_iret X Z rfl dX4_exchange_107 ?_
          first
            | exact ⟨(va_up (va_up S 22 (S 22)) 23 (fun _ => nI 2)), Or.inr (Or.inr ⟨⟨kg, ko, hkg, hko, rfl, rfl, fun q => h29 q.1⟩, S 22, rfl⟩), fun q hq => hq⟩
            | exact ⟨(va_up (va_up S 22 (S 22)) 23 (fun _ => nI 2)), Or.inr (Or.inr ⟨⟨kg, ko, hkg, hko, rfl, rfl, fun q => h88 q.2.2⟩, S 22, rfl⟩), fun q hq => hq⟩
            | exact ⟨(va_up (va_up S 22 (S 22)) 23 (fun _ => nI 2)), Or.inr (Or.inr ⟨⟨kg, ko, hkg, hko, rfl, rfl, fun q => by rw [h40] at q; cases q.2.1⟩, S 22, rfl⟩), fun q hq => hq⟩
        ·
          exact absurd trivial g3
    ·
      refine n_if_eq (tgt := 18) X dX4_exchange_11 (by decide) (by omega) (fun _ => ?_) (fun c11 => absurd c11 (by decide))
      refine z_iconst (v := nI 0) X dX4_exchange_18 (by decide) ?_
      refine z_istore_n X dX4_exchange_19 rfl (Nat.le_of_ble_eq_true rfl) ?_
      refine z_lv (lv' := [some (.ref (b 0)), some (.int (nI kg)), some (.int o), some (.int (nI 0)), none, none, none]) rfl ?_
      refine z_iload_n X dX4_exchange_20 rfl rfl ?_
      refine n_if_eq (tgt := 50) X dX4_exchange_21 (by decide) (by omega) (fun _ => ?_) (fun c21 => absurd c21 (by decide))
      refine z_iconst (v := nI 0) X dX4_exchange_50 (by decide) ?_
      refine z_istore X dX4_exchange_51 (Nat.le_of_ble_eq_true rfl) ?_
      refine z_lv (lv' := [some (.ref (b 0)), some (.int (nI kg)), some (.int o), some (.int (nI 0)), some (.int (nI 0)), none, none]) rfl ?_
      refine z_iload X dX4_exchange_53 rfl ?_
      refine n_if_eq (tgt := 75) X dX4_exchange_55 (by decide) (by omega) (fun _ => ?_) (fun c55 => absurd c55 (by decide))
      refine z_iconst (v := nI 0) X dX4_exchange_75 (by decide) ?_
      refine z_istore X dX4_exchange_76 (Nat.le_of_ble_eq_true rfl) ?_
      refine z_lv (lv' := [some (.ref (b 0)), some (.int (nI kg)), some (.int o), some (.int (nI 0)), some (.int (nI 0)), some (.int (nI 0)), none]) rfl ?_
      refine z_aload_n X dX4_exchange_78 rfl rfl ?_
      refine z_iload_n X dX4_exchange_79 rfl rfl ?_
      refine z_iload X dX4_exchange_80 rfl ?_
      refine n_if_eq (tgt := 98) X dX4_exchange_82 (by decide) (by omega) (fun _ => ?_) (fun c82 => absurd c82 (by decide))
      refine z_iconst (v := nI 0) X dX4_exchange_98 (by decide) ?_
      refine z_iconst (v := nI 1) X dX4_exchange_99 (by decide) ?_
      refine z_callV2 (k := 0) (n := 0) (st := []) X Y aM_eq (c_X4_goes l D t b S (nI 0) (nI 0) (nI 1) False False True (bz_f id) (bz_f id) (bz_t trivial)) k_X4_goes q_ml_X4_77 is19 (fun u => wM t b (va_up S 23 (fun _ => nI u))) (fun u => swM) ppM 0 4 rfl rfl (by decide) rfl rfl rfl (Nat.le_of_ble_eq_true rfl) ⟨Nat.zero_le _, Nat.zero_le _⟩ dX4_exchange_100 (fun r100 u100 h100 => ?_)
      rcases h100 with ⟨rfl, rfl, g1, g2, g3⟩ | ⟨rfl, rfl, g1⟩ | ⟨rfl, rfl, g1, g2⟩ | ⟨rfl, rfl, g1, g2, g3⟩
      ·
        exact g2.elim
      ·
        refine n_if_ne (tgt := 108) X dX4_exchange_103 (by decide) (by omega) (fun c103 => absurd c103 (by decide)) (fun _ => ?_)
        refine z_iconst (v := nI 0) X dX4_exchange_106 (by decide) ?_
        refine z_iret X Z rfl dX4_exchange_107 ?_
        first
          | exact ⟨(va_up S 23 (fun _ => nI 1)), Or.inr (Or.inl ⟨fun q => h1 q.1, rfl⟩), fun q hq => hq⟩
          | exact ⟨(va_up S 23 (fun _ => nI 1)), Or.inr (Or.inl ⟨fun q => h8 q.2, rfl⟩), fun q hq => hq⟩
      ·
        exact g1.elim
      ·
        exact absurd trivial g3
  ·
    refine n_if_eq (tgt := 18) X dX4_exchange_4 (by decide) (by omega) (fun _ => ?_) (fun c4 => absurd c4 (by decide))
    refine z_iconst (v := nI 0) X dX4_exchange_18 (by decide) ?_
    refine z_istore_n X dX4_exchange_19 rfl (Nat.le_of_ble_eq_true rfl) ?_
    refine z_lv (lv' := [some (.ref (b 0)), some (.int g), some (.int o), some (.int (nI 0)), none, none, none]) rfl ?_
    refine z_iload_n X dX4_exchange_20 rfl rfl ?_
    refine n_if_eq (tgt := 50) X dX4_exchange_21 (by decide) (by omega) (fun _ => ?_) (fun c21 => absurd c21 (by decide))
    refine z_iconst (v := nI 0) X dX4_exchange_50 (by decide) ?_
    refine z_istore X dX4_exchange_51 (Nat.le_of_ble_eq_true rfl) ?_
    refine z_lv (lv' := [some (.ref (b 0)), some (.int g), some (.int o), some (.int (nI 0)), some (.int (nI 0)), none, none]) rfl ?_
    refine z_iload X dX4_exchange_53 rfl ?_
    refine n_if_eq (tgt := 75) X dX4_exchange_55 (by decide) (by omega) (fun _ => ?_) (fun c55 => absurd c55 (by decide))
    refine z_iconst (v := nI 0) X dX4_exchange_75 (by decide) ?_
    refine z_istore X dX4_exchange_76 (Nat.le_of_ble_eq_true rfl) ?_
    refine z_lv (lv' := [some (.ref (b 0)), some (.int g), some (.int o), some (.int (nI 0)), some (.int (nI 0)), some (.int (nI 0)), none]) rfl ?_
    refine z_aload_n X dX4_exchange_78 rfl rfl ?_
    refine z_iload_n X dX4_exchange_79 rfl rfl ?_
    refine z_iload X dX4_exchange_80 rfl ?_
    refine n_if_eq (tgt := 98) X dX4_exchange_82 (by decide) (by omega) (fun _ => ?_) (fun c82 => absurd c82 (by decide))
    refine z_iconst (v := nI 0) X dX4_exchange_98 (by decide) ?_
    refine z_iconst (v := nI 1) X dX4_exchange_99 (by decide) ?_
    refine z_callV2 (k := 0) (n := 0) (st := []) X Y aM_eq (c_X4_goes l D t b S (nI 0) (nI 0) (nI 1) False False True (bz_f id) (bz_f id) (bz_t trivial)) k_X4_goes q_ml_X4_77 is19 (fun u => wM t b (va_up S 23 (fun _ => nI u))) (fun u => swM) ppM 0 4 rfl rfl (by decide) rfl rfl rfl (Nat.le_of_ble_eq_true rfl) ⟨Nat.zero_le _, Nat.zero_le _⟩ dX4_exchange_100 (fun r100 u100 h100 => ?_)
    rcases h100 with ⟨rfl, rfl, g1, g2, g3⟩ | ⟨rfl, rfl, g1⟩ | ⟨rfl, rfl, g1, g2⟩ | ⟨rfl, rfl, g1, g2, g3⟩
    ·
      exact g2.elim
    ·
      refine n_if_ne (tgt := 108) X dX4_exchange_103 (by decide) (by omega) (fun c103 => absurd c103 (by decide)) (fun _ => ?_)
      refine z_iconst (v := nI 0) X dX4_exchange_106 (by decide) ?_
      refine z_iret X Z rfl dX4_exchange_107 ?_
      first
        | exact ⟨(va_up S 23 (fun _ => nI 1)), Or.inr (Or.inl ⟨fun q => h1 q.1, rfl⟩), fun q hq => hq⟩
        | exact ⟨(va_up S 23 (fun _ => nI 1)), Or.inr (Or.inl ⟨fun q => h8 q.2, rfl⟩), fun q hq => hq⟩
    ·
      exact g1.elim
    ·
      exact absurd trivial g3
