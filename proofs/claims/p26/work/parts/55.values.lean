/-! the law's own sums, a gift more -/
section
variable {S : zS} {w : Nat} {v k : Int32} {j : Nat}
theorem bl_t (hC : bnC S w v k j) (h : ¬ 0 ≤ S 9 j) : blN S w v k j + S 9 j = blN S w v k (j + 1) := by
  show _ = zif (bnC S w v k j) (blN S w v k j + (if S 9 j < 0 then S 9 j else nI 0)) (blN S w v k j)
  rw [zif_t hC, if_pos (Int32.not_le.mp h)]
theorem bl_z (hC : bnC S w v k j) (h : 0 ≤ S 9 j) : blN S w v k j + nI 0 = blN S w v k (j + 1) := by
  show _ = zif (bnC S w v k j) (blN S w v k j + (if S 9 j < 0 then S 9 j else nI 0)) (blN S w v k j)
  rw [zif_t hC, if_neg (Int32.not_lt.mpr h)]
theorem ab_t (hC : bnC S w v k j) (h : ¬ S 9 j ≤ 0) : abN S w v k j + S 9 j = abN S w v k (j + 1) := by
  show _ = zif (bnC S w v k j) (abN S w v k j + (if 0 < S 9 j then S 9 j else nI 0)) (abN S w v k j)
  rw [zif_t hC, if_pos (Int32.not_le.mp h)]
theorem ab_z (hC : bnC S w v k j) (h : S 9 j ≤ 0) : abN S w v k j + nI 0 = abN S w v k (j + 1) := by
  show _ = zif (bnC S w v k j) (abN S w v k j + (if 0 < S 9 j then S 9 j else nI 0)) (abN S w v k j)
  rw [zif_t hC, if_neg (Int32.not_lt.mpr h)]
theorem gr_t (hC : bnC S w v k j) (h : ¬ S 9 j ≤ grN S w v k j) : S 9 j = grN S w v k (j + 1) := by
  show _ = zif (bnC S w v k j) (if grN S w v k j < S 9 j then S 9 j else grN S w v k j) (grN S w v k j)
  rw [zif_t hC, if_pos (Int32.not_le.mp h)]
theorem gr_z (hC : bnC S w v k j) (h : S 9 j ≤ grN S w v k j) : grN S w v k j = grN S w v k (j + 1) := by
  show _ = zif (bnC S w v k j) (if grN S w v k j < S 9 j then S 9 j else grN S w v k j) (grN S w v k j)
  rw [zif_t hC, if_neg (Int32.not_lt.mpr h)]
theorem bl_f (hC : ¬ bnC S w v k j) : blN S w v k (j + 1) = blN S w v k j := zif_f hC
theorem ab_f (hC : ¬ bnC S w v k j) : abN S w v k (j + 1) = abN S w v k j := zif_f hC
theorem gr_f (hC : ¬ bnC S w v k j) : grN S w v k (j + 1) = grN S w v k j := zif_f hC
end
set_option maxHeartbeats 1000000 in
set_option maxRecDepth 100000 in
theorem c_L_values (l : Launch) (hfl : l.stackTraces = false) (D : va_G) (t : ClassId × ClassId × ClassId) (sz : Nat) (a b : Nat → Nat) {S : zS} (p : zT) (B : zS) (qb qv qc : Nat) (fB fV fC : Nat → Int32) {sc : Nat → Nat} {x y z G : Nat} (h : zKs S sc x y z G) (hB : LB S fB) (hV : LV S fV) (hC : LC sc (x + y + z) fC) : zM8 l yL_values cL_values 13 (some .boolean) 30 60 360 D t [.ref (a 0), .ref qb, .ref qv, .ref qc] (wA t a b (T6 S p) B qb qv qc fB fV fC) sz (fun r (_ : Unit) => r = nI 1) (fun _ => wA t a b (T6 S p) B qb qv qc fB fV fC) := by
  have hX := K_X h
  have hG := K_G h
  have hw : wk S (l3 x y z) G < 256 := wkN_lt 64
  have h11 := h.1.2.2.2.2.2.1
  have h12 := h.1.2.2.2.2.2.2.1
  have h13 := h.1.2.2.2.2.2.2.2
  refine z_m8 (by decide +kernel) (Nat.le_of_ble_eq_true rfl) (by simp [Value.category]) ?_
  intro E X Z V Y
  refine z_lv (lv' := [some (.ref (a 0)), some (.ref qb), some (.ref qv), some (.ref qc), none, none, none, none, none, none, none, none, none]) rfl ?_
  refine z_aload_n X dL_values_0 rfl rfl ?_
  refine z_callV1 (k := 0) (n := 0) (st := []) X (o_working l D t a p h) k_X3_working q_ml_L_80 is24 ⟨by decide, rfl⟩ 0 3 rfl rfl (by decide) rfl rfl rfl (Nat.le_of_ble_eq_true rfl) ⟨by omega, by omega⟩ dL_values_1 (fun r1 h1 => ?_)
  subst h1
  refine z_istore X dL_values_4 (Nat.le_of_ble_eq_true rfl) ?_
  refine z_lv (lv' := [some (.ref (a 0)), some (.ref qb), some (.ref qv), some (.ref qc), some (.int (nI (wk S (l3 x y z) G))), none, none, none, none, none, none, none, none]) rfl ?_
  refine z_iconst (v := nI 0) X dL_values_6 (by decide) ?_
  refine z_istore X dL_values_7 (Nat.le_of_ble_eq_true rfl) ?_
  refine z_lv (lv' := [some (.ref (a 0)), some (.ref qb), some (.ref qv), some (.ref qc), some (.int (nI (wk S (l3 x y z) G))), some (.int (nI 0)), none, none, none, none, none, none, none]) rfl ?_
  refine Wz.wide (k' := 9 * 0) (n' := 6 * (9 * 0)) (by omega) (by omega) ?_
  refine zl_up 6 (fun v => Wz E (9 * v) (6 * (9 * v)) 9 [some (.ref (a 0)), some (.ref qb), some (.ref qv), some (.ref qc), some (.int (nI (wk S (l3 x y z) G))), some (.int (nI v)), none, none, none, none, none, none, none] [] (wA t a b (T6 S p) B qb qv qc fB fV fC)) ?_ ?_ 0 (by omega)
  ·
    refine Wz.wide (k' := 54) (n' := 324) (by omega) (by omega) ?_
    refine z_iload X dL_values_9 rfl ?_
    refine z_bipush (v := nI 6) X dL_values_11 (by decide) ?_
    refine n_icmp_ge (tgt := 384) X dL_values_13 (by decide) (by omega) (by omega) (fun _ => ?_) (fun c13 => absurd c13 (by decide))
    refine z_aload_n X dL_values_384 rfl rfl ?_
    refine z_bipush (v := nI 6) X dL_values_385 (by decide) ?_
    refine z_iconst (v := nI 0) X dL_values_387 (by decide) ?_
    refine z_w7 (k := 54) (n := 324) (k' := 55) (n' := 330) (st := []) X Y aA_eq V (fun sz => w_bonus_I l hfl D t a p h (am_no (by decide) (by decide) (by decide)) sz) kw_bonus q_ml_L_83 is24 ⟨by decide, rfl⟩ (fun u => wA t a b (T6 S p) B qb qv qc fB fV fC) (fun u => ⟨⟨by decide, rfl⟩, ⟨by decide, rfl⟩, rfl, rfl⟩) (by decide) (by decide) rfl rfl rfl (Nat.le_of_ble_eq_true rfl) ⟨by omega, by omega⟩ ⟨by omega, by omega⟩ dL_values_388 (fun r388 u388 h388 => ?_)
    subst h388
    refine z_ldci X q_k_L_18 dL_values_391 ?_
    refine z_icmp_ne (tgt := 432) X dL_values_393 (by decide) (fun c393 => absurd c393 (by decide)) (fun _ => ?_)
    refine z_aload_n X dL_values_396 rfl rfl ?_
    refine z_iconst (v := nI 0) X dL_values_397 (by decide) ?_
    refine z_iconst (v := nI 4) X dL_values_398 (by decide) ?_
    refine z_w7 (k := 55) (n := 330) (k' := 56) (n' := 336) (st := []) X Y aA_eq V (fun sz => w_bonus_A l hfl D t a p h (am_n (by decide)) (am_no (by decide) (by decide) (by decide)) sz) kw_bonus q_ml_L_83 is24 ⟨by decide, rfl⟩ (fun u => wA t a b (T6 S p) B qb qv qc fB fV fC) (fun u => ⟨⟨by decide, rfl⟩, ⟨by decide, rfl⟩, rfl, rfl⟩) (by decide) (by decide) rfl rfl rfl (Nat.le_of_ble_eq_true rfl) ⟨by omega, by omega⟩ ⟨by omega, by omega⟩ dL_values_399 (fun r399 u399 h399 => ?_)
    subst h399
    refine z_ldci X q_k_L_21 dL_values_402 ?_
    refine z_icmp_ne (tgt := 432) X dL_values_404 (by decide) (fun c404 => absurd c404 (by decide)) (fun _ => ?_)
    refine z_aload_n X dL_values_407 rfl rfl ?_
    refine z_iconst (v := (-1)) X dL_values_408 (by decide) ?_
    refine z_w7 (k := 56) (n := 336) (k' := 57) (n' := 342) (st := []) X Y aA_eq V (fun sz => w_value_I l hfl D t a p h (am_m (by decide)) sz) kw_value q_ml_L_88 is24 ⟨by decide, rfl⟩ (fun u => wA t a b (T6 S p) B qb qv qc fB fV fC) (fun u => ⟨⟨by decide, rfl⟩, ⟨by decide, rfl⟩, rfl, rfl⟩) (by decide) (by decide) rfl rfl rfl (Nat.le_of_ble_eq_true rfl) ⟨by omega, by omega⟩ ⟨by omega, by omega⟩ dL_values_409 (fun r409 u409 h409 => ?_)
    subst h409
    refine z_ldci X q_k_L_18 dL_values_412 ?_
    refine z_icmp_ne (tgt := 432) X dL_values_414 (by decide) (fun c414 => absurd c414 (by decide)) (fun _ => ?_)
    refine z_aload_n X dL_values_417 rfl rfl ?_
    refine z_bipush (v := nI 6) X dL_values_418 (by decide) ?_
    refine z_w7 (k := 57) (n := 342) (k' := 58) (n' := 348) (st := []) X Y aA_eq V (fun sz => w_isRing_I l hfl D t a p h (am_no (by decide) (by decide) (by decide)) sz) kw_isRing q_ml_L_86 is24 ⟨by decide, rfl⟩ (fun u => wA t a b (T6 S p) B qb qv qc fB fV fC) (fun u => ⟨⟨by decide, rfl⟩, ⟨by decide, rfl⟩, rfl, rfl⟩) (by decide) (by decide) rfl rfl rfl (Nat.le_of_ble_eq_true rfl) ⟨by omega, by omega⟩ ⟨by omega, by omega⟩ dL_values_420 (fun r420 u420 h420 => ?_)
    subst h420
    refine z_ldci X q_k_L_18 dL_values_423 ?_
    refine z_icmp_ne (tgt := 432) X dL_values_425 (by decide) (fun c425 => absurd c425 (by decide)) (fun _ => ?_)
    refine z_iconst (v := nI 1) X dL_values_428 (by decide) ?_
    refine z_goto (tgt := 433) X dL_values_429 (by decide) ?_
    refine Wz.wide (k' := 60) (n' := 360) (by omega) (by omega) ?_
    refine z_iret X Z (by decide +kernel) dL_values_433 ?_
    exact ⟨(), rfl, fun q hq => hq⟩
  ·
    intro v hi_v ih_v
    refine z_iload X dL_values_9 rfl ?_
    refine z_bipush (v := nI 6) X dL_values_11 (by decide) ?_
    refine n_icmp_ge (tgt := 384) X dL_values_13 (by decide) (by omega) (by omega) (fun c13 => absurd c13 (by omega)) (fun _ => ?_)
    refine z_aload_n X dL_values_16 rfl rfl ?_
    refine z_iconst (v := nI 4) X dL_values_17 (by decide) ?_
    refine z_iload X dL_values_18 rfl ?_
    refine n_imul X dL_values_20 ?_
    refine n_iald (f := fV) X 49 rfl (by omega) (by decide) dL_values_21 ?_
    refine z_top (y := S 10 v) ((hV v (by omega)).1) ?_
    refine z_top (y := vsN S (wk S (l3 x y z) G) v 0) (rfl) ?_
    refine z_istore X dL_values_22 (Nat.le_of_ble_eq_true rfl) ?_
    refine z_lv (lv' := [some (.ref (a 0)), some (.ref qb), some (.ref qv), some (.ref qc), some (.int (nI (wk S (l3 x y z) G))), some (.int (nI v)), some (.int (vsN S (wk S (l3 x y z) G) v 0)), none, none, none, none, none, none]) rfl ?_
    refine z_iconst (v := nI 0) X dL_values_24 (by decide) ?_
    refine z_istore X dL_values_25 (Nat.le_of_ble_eq_true rfl) ?_
    refine z_lv (lv' := [some (.ref (a 0)), some (.ref qb), some (.ref qv), some (.ref qc), some (.int (nI (wk S (l3 x y z) G))), some (.int (nI v)), some (.int (vsN S (wk S (l3 x y z) G) v 0)), some (.int (nI 0)), none, none, none, none, none]) rfl ?_
    refine Wz.wide (k' := 9 * v + 1 * 0) (n' := 6 * (9 * v + 1 * 0)) (by omega) (by omega) ?_
    refine zl_up 4 (fun kd => Wz E (9 * v + 1 * kd) (6 * (9 * v + 1 * kd)) 27 [some (.ref (a 0)), some (.ref qb), some (.ref qv), some (.ref qc), some (.int (nI (wk S (l3 x y z) G))), some (.int (nI v)), some (.int (vsN S (wk S (l3 x y z) G) v kd)), some (.int (nI kd)), none, none, none, none, none] [] (wA t a b (T6 S p) B qb qv qc fB fV fC)) ?_ ?_ 0 (by omega)
    ·
      refine Wz.wide (k' := 9 * v + 4) (n' := 6 * (9 * v + 4)) (by omega) (by omega) ?_
      refine z_iload X dL_values_27 rfl ?_
      refine z_iconst (v := nI 4) X dL_values_29 (by decide) ?_
      refine n_icmp_ge (tgt := 196) X dL_values_30 (by decide) (by omega) (by omega) (fun _ => ?_) (fun c30 => absurd c30 (by decide))
      refine z_aload_n X dL_values_196 rfl rfl ?_
      refine z_iconst (v := nI 4) X dL_values_197 (by decide) ?_
      refine z_iload X dL_values_198 rfl ?_
      refine n_imul X dL_values_200 ?_
      refine z_iconst (v := nI 1) X dL_values_201 (by decide) ?_
      refine n_iadd X dL_values_202 ?_
      refine n_iald (f := fV) X 49 rfl (by omega) (by decide) dL_values_203 ?_
      refine z_top (y := S 11 v) ((hV v (by omega)).2.1) ?_
      refine z_istore X dL_values_204 (Nat.le_of_ble_eq_true rfl) ?_
      refine z_lv (lv' := [some (.ref (a 0)), some (.ref qb), some (.ref qv), some (.ref qc), some (.int (nI (wk S (l3 x y z) G))), some (.int (nI v)), some (.int (vsN S (wk S (l3 x y z) G) v 4)), some (.int (S 11 v)), none, none, none, none, none]) rfl ?_
      refine z_aload_n X dL_values_206 rfl rfl ?_
      refine z_iconst (v := nI 4) X dL_values_207 (by decide) ?_
      refine z_iload X dL_values_208 rfl ?_
      refine n_imul X dL_values_210 ?_
      refine z_iconst (v := nI 3) X dL_values_211 (by decide) ?_
      refine n_iadd X dL_values_212 ?_
      refine n_iald (f := fV) X 49 rfl (by omega) (by decide) dL_values_213 ?_
      refine z_top (y := S 13 v) ((hV v (by omega)).2.2.2) ?_
      refine z_istore X dL_values_214 (Nat.le_of_ble_eq_true rfl) ?_
      refine z_lv (lv' := [some (.ref (a 0)), some (.ref qb), some (.ref qv), some (.ref qc), some (.int (nI (wk S (l3 x y z) G))), some (.int (nI v)), some (.int (vsN S (wk S (l3 x y z) G) v 4)), some (.int (S 11 v)), some (.int (S 13 v)), none, none, none, none]) rfl ?_
      have j235 : Wz E (9 * v + 4) (6 * (9 * v + 4)) 235 [some (.ref (a 0)), some (.ref qb), some (.ref qv), some (.ref qc), some (.int (nI (wk S (l3 x y z) G))), some (.int (nI v)), some (.int (vsN S (wk S (l3 x y z) G) v 4)), some (.int (S 11 v)), some (.int (S 13 v)), none, none, none, none] [.int (md S (S 11 v)), .int (vsN S (wk S (l3 x y z) G) v 4)] (wA t a b (T6 S p) B qb qv qc fB fV fC) := by
        refine z_iadd X dL_values_235 ?_
        refine z_istore X dL_values_236 (Nat.le_of_ble_eq_true rfl) ?_
        refine z_lv (lv' := [some (.ref (a 0)), some (.ref qb), some (.ref qv), some (.ref qc), some (.int (nI (wk S (l3 x y z) G))), some (.int (nI v)), some (.int ((vsN S (wk S (l3 x y z) G) v 4) + (md S (S 11 v)))), some (.int (S 11 v)), some (.int (S 13 v)), none, none, none, none]) rfl ?_
        have j267 : Wz E (9 * v + 5) (6 * (9 * v + 5)) 267 [some (.ref (a 0)), some (.ref qb), some (.ref qv), some (.ref qc), some (.int (nI (wk S (l3 x y z) G))), some (.int (nI v)), some (.int ((vsN S (wk S (l3 x y z) G) v 4) + (md S (S 11 v)))), some (.int (S 11 v)), some (.int (S 13 v)), none, none, none, none] [.int (lvv (l3 x y z) (S 12 v)), .int ((vsN S (wk S (l3 x y z) G) v 4) + (md S (S 11 v)))] (wA t a b (T6 S p) B qb qv qc fB fV fC) := by
          refine z_iadd X dL_values_267 ?_
          refine z_istore X dL_values_268 (Nat.le_of_ble_eq_true rfl) ?_
          refine z_lv (lv' := [some (.ref (a 0)), some (.ref qb), some (.ref qv), some (.ref qc), some (.int (nI (wk S (l3 x y z) G))), some (.int (nI v)), some (.int (((vsN S (wk S (l3 x y z) G) v 4) + (md S (S 11 v))) + (lvv (l3 x y z) (S 12 v)))), some (.int (S 11 v)), some (.int (S 13 v)), none, none, none, none]) rfl ?_
          refine z_aload_n X dL_values_270 rfl rfl ?_
          refine z_iload X dL_values_271 rfl ?_
          refine z_w7 (k := 9 * v + 5) (n := 6 * (9 * v + 5)) (k' := 9 * v + 6) (n' := 6 * (9 * v + 6)) (st := []) X Y aA_eq V (fun sz => w_isRing l hfl D t a p h (show v < 6 by omega) sz) kw_isRing q_ml_L_86 is24 ⟨by decide, rfl⟩ (fun u => wA t a b (T6 S p) B qb qv qc fB fV fC) (fun u => ⟨⟨by decide, rfl⟩, ⟨by decide, rfl⟩, rfl, rfl⟩) (by decide) (by decide) rfl rfl rfl (Nat.le_of_ble_eq_true rfl) ⟨by omega, by omega⟩ ⟨by omega, by omega⟩ dL_values_273 (fun r273 u273 h273 => ?_)
          have hv6 : v < 6 := by omega
          rcases h13 v hv6 with e13 | ⟨j9, hj9, e13⟩
          ·
            have hr := ring_none hv6 e13
            have e273 : r273 = nI 0 := h273.elim (fun q => absurd hr q.2) (fun q => q.1)
            subst e273
            refine z_lv (lv' := [some (.ref (a 0)), some (.ref qb), some (.ref qv), some (.ref qc), some (.int (nI (wk S (l3 x y z) G))), some (.int (nI v)), some (.int (((vsN S (wk S (l3 x y z) G) v 4) + (md S (S 11 v))) + (lvv (l3 x y z) (S 12 v)))), some (.int (S 11 v)), some (.int (-1)), none, none, none, none]) (by rw [e13]) ?_
            refine z_istore X dL_values_276 (Nat.le_of_ble_eq_true rfl) ?_
            refine z_lv (lv' := [some (.ref (a 0)), some (.ref qb), some (.ref qv), some (.ref qc), some (.int (nI (wk S (l3 x y z) G))), some (.int (nI v)), some (.int (((vsN S (wk S (l3 x y z) G) v 4) + (md S (S 11 v))) + (lvv (l3 x y z) (S 12 v)))), some (.int (S 11 v)), some (.int (-1)), some (.int (nI 0)), none, none, none]) rfl ?_
            refine z_iload X dL_values_278 rfl ?_
            refine z_if_ge (tgt := 291) X dL_values_280 (by decide) (fun c280 => absurd c280 (by decide)) (fun _ => ?_)
            refine z_iload X dL_values_283 rfl ?_
            refine n_if_eq (tgt := 317) X dL_values_285 (by decide) (by omega) (fun _ => ?_) (fun c285 => absurd c285 (by decide))
            refine z_aload_n X dL_values_317 rfl rfl ?_
            refine z_iload X dL_values_318 rfl ?_
            refine z_w7 (k := 9 * v + 6) (n := 6 * (9 * v + 6)) (k' := 9 * v + 7) (n' := 6 * (9 * v + 7)) (st := []) X Y aA_eq V (fun sz => w_value l hfl D t a p h hv6 hr sz) kw_value q_ml_L_88 is24 ⟨by decide, rfl⟩ (fun u => wA t a b (T6 S p) B qb qv qc fB fV fC) (fun u => ⟨⟨by decide, rfl⟩, ⟨by decide, rfl⟩, rfl, rfl⟩) (by decide) (by decide) rfl rfl rfl (Nat.le_of_ble_eq_true rfl) ⟨by omega, by omega⟩ ⟨by omega, by omega⟩ dL_values_320 (fun r320 u320 h320 => ?_)
            subst h320
            refine z_istore X dL_values_323 (Nat.le_of_ble_eq_true rfl) ?_
            refine z_lv (lv' := [some (.ref (a 0)), some (.ref qb), some (.ref qv), some (.ref qc), some (.int (nI (wk S (l3 x y z) G))), some (.int (nI v)), some (.int (((vsN S (wk S (l3 x y z) G) v 4) + (md S (S 11 v))) + (lvv (l3 x y z) (S 12 v)))), some (.int (S 11 v)), some (.int (-1)), some (.int (nI 0)), some (.int (vl S (l3 x y z) (wk S (l3 x y z) G) 6 (nI v))), none, none]) rfl ?_
            refine z_iload X dL_values_325 rfl ?_
            refine z_if_lt (tgt := 336) X dL_values_327 (by decide) (fun _ => ?_) (fun c327 => absurd c327 (by decide))
            refine z_iconst (v := nI 0) X dL_values_336 (by decide) ?_
            refine z_goto (tgt := 346) X dL_values_337 (by decide) ?_
            refine z_istore X dL_values_346 (Nat.le_of_ble_eq_true rfl) ?_
            refine z_lv (lv' := [some (.ref (a 0)), some (.ref qb), some (.ref qv), some (.ref qc), some (.int (nI (wk S (l3 x y z) G))), some (.int (nI v)), some (.int (((vsN S (wk S (l3 x y z) G) v 4) + (md S (S 11 v))) + (lvv (l3 x y z) (S 12 v)))), some (.int (S 11 v)), some (.int (-1)), some (.int (nI 0)), some (.int (vl S (l3 x y z) (wk S (l3 x y z) G) 6 (nI v))), some (.int (nI 0)), none]) rfl ?_
            refine z_iload X dL_values_348 rfl ?_
            refine z_iload X dL_values_350 rfl ?_
            refine z_iconst (v := nI 1) X dL_values_352 (by decide) ?_
            refine n_icmp_ne (tgt := 361) X dL_values_353 (by decide) (by omega) (by omega) (fun _ => ?_) (fun c353 => absurd c353 (by decide))
            refine z_iload X dL_values_361 rfl ?_
            refine z_iload X dL_values_363 rfl ?_
            refine z_iload X dL_values_365 rfl ?_
            refine z_iconst (v := nI 1) X dL_values_367 (by decide) ?_
            refine z_iand X dL_values_368 ?_
            refine z_isub X dL_values_369 ?_
            refine z_iconst (v := nI 2) X dL_values_370 (by decide) ?_
            refine z_idiv X dL_values_371 (by decide) ?_
            refine z_top (y := hlf (nI 0)) (half_eq (nI 0)) ?_
            refine z_iadd X dL_values_372 ?_
            refine z_top (y := vl S (l3 x y z) (wk S (l3 x y z) G) 6 (nI v)) ((vl_sum0 hv6 e13).symm) ?_
            refine z_icmp_eq (tgt := 378) X dL_values_373 (by decide) (fun c373 => ?_) (fun c373 => absurd rfl c373)
            refine z_iinc (v := nI (v + 1)) X dL_values_378 rfl (nI_add v 1) ?_
            refine z_lv (lv' := [some (.ref (a 0)), some (.ref qb), some (.ref qv), some (.ref qc), some (.int (nI (wk S (l3 x y z) G))), some (.int (nI (v + 1))), some (.int (((vsN S (wk S (l3 x y z) G) v 4) + (md S (S 11 v))) + (lvv (l3 x y z) (S 12 v)))), some (.int (S 11 v)), some (.int (-1)), some (.int (nI 0)), some (.int (vl S (l3 x y z) (wk S (l3 x y z) G) 6 (nI v))), some (.int (nI 0)), none]) rfl ?_
            refine z_goto (tgt := 9) X dL_values_381 (by decide) ?_
            refine Wz.wide (k' := 9 * (v + 1)) (n' := 6 * (9 * (v + 1))) (by omega) (by omega) ?_
            refine Wz.less (lv' := [some (.ref (a 0)), some (.ref qb), some (.ref qv), some (.ref qc), some (.int (nI (wk S (l3 x y z) G))), some (.int (nI (v + 1))), none, none, none, none, none, none, none]) (by simp [zle] <;> rfl) ?_
            exact ih_v
          ·
            refine z_lv (lv' := [some (.ref (a 0)), some (.ref qb), some (.ref qv), some (.ref qc), some (.int (nI (wk S (l3 x y z) G))), some (.int (nI v)), some (.int (((vsN S (wk S (l3 x y z) G) v 4) + (md S (S 11 v))) + (lvv (l3 x y z) (S 12 v)))), some (.int (S 11 v)), some (.int (nI j9)), none, none, none, none]) (by rw [e13]) ?_
            rcases h273 with ⟨rfl, hr⟩ | ⟨rfl, hr⟩
            ·
              refine z_istore X dL_values_276 (Nat.le_of_ble_eq_true rfl) ?_
              refine z_lv (lv' := [some (.ref (a 0)), some (.ref qb), some (.ref qv), some (.ref qc), some (.int (nI (wk S (l3 x y z) G))), some (.int (nI v)), some (.int (((vsN S (wk S (l3 x y z) G) v 4) + (md S (S 11 v))) + (lvv (l3 x y z) (S 12 v)))), some (.int (S 11 v)), some (.int (nI j9)), some (.int (nI 1)), none, none, none]) rfl ?_
              refine z_iload X dL_values_278 rfl ?_
              refine n_if_ge (tgt := 291) X dL_values_280 (by decide) (by omega) ?_
              refine z_iload X dL_values_291 rfl ?_
              refine z_aload_n X dL_values_293 rfl rfl ?_
              refine z_iload X dL_values_294 rfl ?_
              refine z_w7 (k := 9 * v + 6) (n := 6 * (9 * v + 6)) (k' := 9 * v + 7) (n' := 6 * (9 * v + 7)) (st := [.int (nI 1)]) X Y aA_eq V (fun sz => w_isRing l hfl D t a p h hj9 sz) kw_isRing q_ml_L_86 is24 ⟨by decide, rfl⟩ (fun u => wA t a b (T6 S p) B qb qv qc fB fV fC) (fun u => ⟨⟨by decide, rfl⟩, ⟨by decide, rfl⟩, rfl, rfl⟩) (by decide) (by decide) rfl rfl rfl (Nat.le_of_ble_eq_true rfl) ⟨by omega, by omega⟩ ⟨by omega, by omega⟩ dL_values_296 (fun r296 u296 h296 => ?_)
              have e296 : r296 = nI 1 := h296.elim (fun q => q.1) (fun q => absurd (fun e => hr ((ring_iff h.1 hv6 hj9 e13).mpr e)) q.2)
              subst e296
              refine n_icmp_ne (tgt := 315) X dL_values_299 (by decide) (by omega) (by omega) (fun c299 => absurd c299 (by decide)) (fun _ => ?_)
              refine z_iload X dL_values_302 rfl ?_
              refine z_iload X dL_values_304 rfl ?_
              refine n_icmp_ne (tgt := 317) X dL_values_306 (by decide) (by omega) (by omega) (fun c306 => ?_) (fun c306 => ?_)
              ·
                refine z_aload_n X dL_values_317 rfl rfl ?_
                refine z_iload X dL_values_318 rfl ?_
                refine z_w7 (k := 9 * v + 7) (n := 6 * (9 * v + 7)) (k' := 9 * v + 8) (n' := 6 * (9 * v + 8)) (st := []) X Y aA_eq V (fun sz => w_value_S l hfl D t a p h hv6 hr sz) kw_value q_ml_L_88 is24 ⟨by decide, rfl⟩ (fun u => wA t a b (T6 S p) B qb qv qc fB fV fC) (fun u => ⟨⟨by decide, rfl⟩, ⟨by decide, rfl⟩, rfl, rfl⟩) (by decide) (by decide) rfl rfl rfl (Nat.le_of_ble_eq_true rfl) ⟨by omega, by omega⟩ ⟨by omega, by omega⟩ dL_values_320 (fun r320 u320 h320 => ?_)
                subst h320
                refine z_istore X dL_values_323 (Nat.le_of_ble_eq_true rfl) ?_
                refine z_lv (lv' := [some (.ref (a 0)), some (.ref qb), some (.ref qv), some (.ref qc), some (.int (nI (wk S (l3 x y z) G))), some (.int (nI v)), some (.int (((vsN S (wk S (l3 x y z) G) v 4) + (md S (S 11 v))) + (lvv (l3 x y z) (S 12 v)))), some (.int (S 11 v)), some (.int (nI j9)), some (.int (nI 1)), some (.int (-1000003)), none, none]) rfl ?_
                refine z_iload X dL_values_325 rfl ?_
                refine n_if_lt (tgt := 336) X dL_values_327 (by decide) (by omega) ?_
                refine z_iload X dL_values_330 rfl ?_
                refine z_iconst (v := nI 1) X dL_values_332 (by decide) ?_
                refine n_icmp_ne (tgt := 340) X dL_values_333 (by decide) (by omega) (by omega) (fun c333 => absurd c333 (by decide)) (fun _ => ?_)
                refine z_iconst (v := nI 0) X dL_values_336 (by decide) ?_
                refine z_goto (tgt := 346) X dL_values_337 (by decide) ?_
                refine z_istore X dL_values_346 (Nat.le_of_ble_eq_true rfl) ?_
                refine z_lv (lv' := [some (.ref (a 0)), some (.ref qb), some (.ref qv), some (.ref qc), some (.int (nI (wk S (l3 x y z) G))), some (.int (nI v)), some (.int (((vsN S (wk S (l3 x y z) G) v 4) + (md S (S 11 v))) + (lvv (l3 x y z) (S 12 v)))), some (.int (S 11 v)), some (.int (nI j9)), some (.int (nI 1)), some (.int (-1000003)), some (.int (nI 0)), none]) rfl ?_
                refine z_iload X dL_values_348 rfl ?_
                refine z_iload X dL_values_350 rfl ?_
                refine z_iconst (v := nI 1) X dL_values_352 (by decide) ?_
                refine n_icmp_ne (tgt := 361) X dL_values_353 (by decide) (by omega) (by omega) (fun c353 => absurd c353 (by decide)) (fun _ => ?_)
                refine z_ldci X q_k_L_40 dL_values_356 ?_
                refine z_goto (tgt := 373) X dL_values_358 (by decide) ?_
                refine z_icmp_eq (tgt := 378) X dL_values_373 (by decide) (fun _ => ?_) (fun c373 => absurd c373 (by decide))
                refine z_iinc (v := nI (v + 1)) X dL_values_378 rfl (nI_add v 1) ?_
                refine z_lv (lv' := [some (.ref (a 0)), some (.ref qb), some (.ref qv), some (.ref qc), some (.int (nI (wk S (l3 x y z) G))), some (.int (nI (v + 1))), some (.int (((vsN S (wk S (l3 x y z) G) v 4) + (md S (S 11 v))) + (lvv (l3 x y z) (S 12 v)))), some (.int (S 11 v)), some (.int (nI j9)), some (.int (nI 1)), some (.int (-1000003)), some (.int (nI 0)), none]) rfl ?_
                refine z_goto (tgt := 9) X dL_values_381 (by decide) ?_
                refine Wz.wide (k' := 9 * (v + 1)) (n' := 6 * (9 * (v + 1))) (by omega) (by omega) ?_
                refine Wz.less (lv' := [some (.ref (a 0)), some (.ref qb), some (.ref qv), some (.ref qc), some (.int (nI (wk S (l3 x y z) G))), some (.int (nI (v + 1))), none, none, none, none, none, none, none]) (by simp [zle] <;> rfl) ?_
                exact ih_v
              ·
                refine z_iload X dL_values_309 rfl ?_
                refine z_iconst (v := nI 1) X dL_values_311 (by decide) ?_
                refine n_icmp_eq (tgt := 317) X dL_values_312 (by decide) (by omega) (by omega) (fun _ => ?_) (fun c312 => absurd c312 (by decide))
                refine z_aload_n X dL_values_317 rfl rfl ?_
                refine z_iload X dL_values_318 rfl ?_
                refine z_w7 (k := 9 * v + 7) (n := 6 * (9 * v + 7)) (k' := 9 * v + 8) (n' := 6 * (9 * v + 8)) (st := []) X Y aA_eq V (fun sz => w_value_S l hfl D t a p h hv6 hr sz) kw_value q_ml_L_88 is24 ⟨by decide, rfl⟩ (fun u => wA t a b (T6 S p) B qb qv qc fB fV fC) (fun u => ⟨⟨by decide, rfl⟩, ⟨by decide, rfl⟩, rfl, rfl⟩) (by decide) (by decide) rfl rfl rfl (Nat.le_of_ble_eq_true rfl) ⟨by omega, by omega⟩ ⟨by omega, by omega⟩ dL_values_320 (fun r320 u320 h320 => ?_)
                subst h320
                refine z_istore X dL_values_323 (Nat.le_of_ble_eq_true rfl) ?_
                refine z_lv (lv' := [some (.ref (a 0)), some (.ref qb), some (.ref qv), some (.ref qc), some (.int (nI (wk S (l3 x y z) G))), some (.int (nI v)), some (.int (((vsN S (wk S (l3 x y z) G) v 4) + (md S (S 11 v))) + (lvv (l3 x y z) (S 12 v)))), some (.int (S 11 v)), some (.int (nI j9)), some (.int (nI 1)), some (.int (-1000003)), none, none]) rfl ?_
                refine z_iload X dL_values_325 rfl ?_
                refine n_if_lt (tgt := 336) X dL_values_327 (by decide) (by omega) ?_
                refine z_iload X dL_values_330 rfl ?_
                refine z_iconst (v := nI 1) X dL_values_332 (by decide) ?_
                refine n_icmp_ne (tgt := 340) X dL_values_333 (by decide) (by omega) (by omega) (fun c333 => absurd c333 (by decide)) (fun _ => ?_)
                refine z_iconst (v := nI 0) X dL_values_336 (by decide) ?_
                refine z_goto (tgt := 346) X dL_values_337 (by decide) ?_
                refine z_istore X dL_values_346 (Nat.le_of_ble_eq_true rfl) ?_
                refine z_lv (lv' := [some (.ref (a 0)), some (.ref qb), some (.ref qv), some (.ref qc), some (.int (nI (wk S (l3 x y z) G))), some (.int (nI v)), some (.int (((vsN S (wk S (l3 x y z) G) v 4) + (md S (S 11 v))) + (lvv (l3 x y z) (S 12 v)))), some (.int (S 11 v)), some (.int (nI j9)), some (.int (nI 1)), some (.int (-1000003)), some (.int (nI 0)), none]) rfl ?_
                refine z_iload X dL_values_348 rfl ?_
                refine z_iload X dL_values_350 rfl ?_
                refine z_iconst (v := nI 1) X dL_values_352 (by decide) ?_
                refine n_icmp_ne (tgt := 361) X dL_values_353 (by decide) (by omega) (by omega) (fun c353 => absurd c353 (by decide)) (fun _ => ?_)
                refine z_ldci X q_k_L_40 dL_values_356 ?_
                refine z_goto (tgt := 373) X dL_values_358 (by decide) ?_
                refine z_icmp_eq (tgt := 378) X dL_values_373 (by decide) (fun _ => ?_) (fun c373 => absurd c373 (by decide))
                refine z_iinc (v := nI (v + 1)) X dL_values_378 rfl (nI_add v 1) ?_
                refine z_lv (lv' := [some (.ref (a 0)), some (.ref qb), some (.ref qv), some (.ref qc), some (.int (nI (wk S (l3 x y z) G))), some (.int (nI (v + 1))), some (.int (((vsN S (wk S (l3 x y z) G) v 4) + (md S (S 11 v))) + (lvv (l3 x y z) (S 12 v)))), some (.int (S 11 v)), some (.int (nI j9)), some (.int (nI 1)), some (.int (-1000003)), some (.int (nI 0)), none]) rfl ?_
                refine z_goto (tgt := 9) X dL_values_381 (by decide) ?_
                refine Wz.wide (k' := 9 * (v + 1)) (n' := 6 * (9 * (v + 1))) (by omega) (by omega) ?_
                refine Wz.less (lv' := [some (.ref (a 0)), some (.ref qb), some (.ref qv), some (.ref qc), some (.int (nI (wk S (l3 x y z) G))), some (.int (nI (v + 1))), none, none, none, none, none, none, none]) (by simp [zle] <;> rfl) ?_
                exact ih_v
            ·
              have hr := Classical.not_not.mp hr
              refine z_istore X dL_values_276 (Nat.le_of_ble_eq_true rfl) ?_
              refine z_lv (lv' := [some (.ref (a 0)), some (.ref qb), some (.ref qv), some (.ref qc), some (.int (nI (wk S (l3 x y z) G))), some (.int (nI v)), some (.int (((vsN S (wk S (l3 x y z) G) v 4) + (md S (S 11 v))) + (lvv (l3 x y z) (S 12 v)))), some (.int (S 11 v)), some (.int (nI j9)), some (.int (nI 0)), none, none, none]) rfl ?_
              refine z_iload X dL_values_278 rfl ?_
              refine n_if_ge (tgt := 291) X dL_values_280 (by decide) (by omega) ?_
              refine z_iload X dL_values_291 rfl ?_
              refine z_aload_n X dL_values_293 rfl rfl ?_
              refine z_iload X dL_values_294 rfl ?_
              refine z_w7 (k := 9 * v + 6) (n := 6 * (9 * v + 6)) (k' := 9 * v + 7) (n' := 6 * (9 * v + 7)) (st := [.int (nI 0)]) X Y aA_eq V (fun sz => w_isRing l hfl D t a p h hj9 sz) kw_isRing q_ml_L_86 is24 ⟨by decide, rfl⟩ (fun u => wA t a b (T6 S p) B qb qv qc fB fV fC) (fun u => ⟨⟨by decide, rfl⟩, ⟨by decide, rfl⟩, rfl, rfl⟩) (by decide) (by decide) rfl rfl rfl (Nat.le_of_ble_eq_true rfl) ⟨by omega, by omega⟩ ⟨by omega, by omega⟩ dL_values_296 (fun r296 u296 h296 => ?_)
              have e296 : r296 = nI 0 := h296.elim (fun q => absurd ((ring_iff h.1 hv6 hj9 e13).mp hr) q.2) (fun q => q.1)
              subst e296
              refine n_icmp_ne (tgt := 315) X dL_values_299 (by decide) (by omega) (by omega) (fun c299 => absurd c299 (by decide)) (fun _ => ?_)
              refine z_iload X dL_values_302 rfl ?_
              refine z_iload X dL_values_304 rfl ?_
              refine n_icmp_ne (tgt := 317) X dL_values_306 (by decide) (by omega) (by omega) (fun c306 => ?_) (fun c306 => absurd hr (ring_self hv6 (by rw [e13, c306])))
              refine z_aload_n X dL_values_317 rfl rfl ?_
              refine z_iload X dL_values_318 rfl ?_
              refine z_w7 (k := 9 * v + 7) (n := 6 * (9 * v + 7)) (k' := 9 * v + 8) (n' := 6 * (9 * v + 8)) (st := []) X Y aA_eq V (fun sz => w_value l hfl D t a p h hv6 hr sz) kw_value q_ml_L_88 is24 ⟨by decide, rfl⟩ (fun u => wA t a b (T6 S p) B qb qv qc fB fV fC) (fun u => ⟨⟨by decide, rfl⟩, ⟨by decide, rfl⟩, rfl, rfl⟩) (by decide) (by decide) rfl rfl rfl (Nat.le_of_ble_eq_true rfl) ⟨by omega, by omega⟩ ⟨by omega, by omega⟩ dL_values_320 (fun r320 u320 h320 => ?_)
              subst h320
              refine z_istore X dL_values_323 (Nat.le_of_ble_eq_true rfl) ?_
              refine z_lv (lv' := [some (.ref (a 0)), some (.ref qb), some (.ref qv), some (.ref qc), some (.int (nI (wk S (l3 x y z) G))), some (.int (nI v)), some (.int (((vsN S (wk S (l3 x y z) G) v 4) + (md S (S 11 v))) + (lvv (l3 x y z) (S 12 v)))), some (.int (S 11 v)), some (.int (nI j9)), some (.int (nI 0)), some (.int (vl S (l3 x y z) (wk S (l3 x y z) G) 6 (nI v))), none, none]) rfl ?_
              refine z_iload X dL_values_325 rfl ?_
              refine n_if_lt (tgt := 336) X dL_values_327 (by decide) (by omega) ?_
              refine z_iload X dL_values_330 rfl ?_
              refine z_iconst (v := nI 1) X dL_values_332 (by decide) ?_
              refine n_icmp_ne (tgt := 340) X dL_values_333 (by decide) (by omega) (by omega) (fun _ => ?_) (fun c333 => absurd c333 (by decide))
              refine z_aload_n X dL_values_340 rfl rfl ?_
              refine z_iload X dL_values_341 rfl ?_
              refine z_w7 (k := 9 * v + 8) (n := 6 * (9 * v + 8)) (k' := 9 * v + 9) (n' := 6 * (9 * v + 9)) (st := []) X Y aA_eq V (fun sz => w_value l hfl D t a p h hj9 ((ring_iff h.1 hv6 hj9 e13).mp hr) sz) kw_value q_ml_L_88 is24 ⟨by decide, rfl⟩ (fun u => wA t a b (T6 S p) B qb qv qc fB fV fC) (fun u => ⟨⟨by decide, rfl⟩, ⟨by decide, rfl⟩, rfl, rfl⟩) (by decide) (by decide) rfl rfl rfl (Nat.le_of_ble_eq_true rfl) ⟨by omega, by omega⟩ ⟨by omega, by omega⟩ dL_values_343 (fun r343 u343 h343 => ?_)
              subst h343
              refine z_istore X dL_values_346 (Nat.le_of_ble_eq_true rfl) ?_
              refine z_lv (lv' := [some (.ref (a 0)), some (.ref qb), some (.ref qv), some (.ref qc), some (.int (nI (wk S (l3 x y z) G))), some (.int (nI v)), some (.int (((vsN S (wk S (l3 x y z) G) v 4) + (md S (S 11 v))) + (lvv (l3 x y z) (S 12 v)))), some (.int (S 11 v)), some (.int (nI j9)), some (.int (nI 0)), some (.int (vl S (l3 x y z) (wk S (l3 x y z) G) 6 (nI v))), some (.int (vl S (l3 x y z) (wk S (l3 x y z) G) 6 (nI j9))), none]) rfl ?_
              refine z_iload X dL_values_348 rfl ?_
              refine z_iload X dL_values_350 rfl ?_
              refine z_iconst (v := nI 1) X dL_values_352 (by decide) ?_
              refine n_icmp_ne (tgt := 361) X dL_values_353 (by decide) (by omega) (by omega) (fun _ => ?_) (fun c353 => absurd c353 (by decide))
              refine z_iload X dL_values_361 rfl ?_
              refine z_iload X dL_values_363 rfl ?_
              refine z_iload X dL_values_365 rfl ?_
              refine z_iconst (v := nI 1) X dL_values_367 (by decide) ?_
              refine z_iand X dL_values_368 ?_
              refine z_isub X dL_values_369 ?_
              refine z_iconst (v := nI 2) X dL_values_370 (by decide) ?_
              refine z_idiv X dL_values_371 (by decide) ?_
              refine z_top (y := hlf (vl S (l3 x y z) (wk S (l3 x y z) G) 6 (nI j9))) (half_eq (vl S (l3 x y z) (wk S (l3 x y z) G) 6 (nI j9))) ?_
              refine z_iadd X dL_values_372 ?_
              refine z_top (y := vl S (l3 x y z) (wk S (l3 x y z) G) 6 (nI v)) ((vl_sum1 h.1 hv6 hj9 e13 hr).symm) ?_
              refine z_icmp_eq (tgt := 378) X dL_values_373 (by decide) (fun c373 => ?_) (fun c373 => absurd rfl c373)
              refine z_iinc (v := nI (v + 1)) X dL_values_378 rfl (nI_add v 1) ?_
              refine z_lv (lv' := [some (.ref (a 0)), some (.ref qb), some (.ref qv), some (.ref qc), some (.int (nI (wk S (l3 x y z) G))), some (.int (nI (v + 1))), some (.int (((vsN S (wk S (l3 x y z) G) v 4) + (md S (S 11 v))) + (lvv (l3 x y z) (S 12 v)))), some (.int (S 11 v)), some (.int (nI j9)), some (.int (nI 0)), some (.int (vl S (l3 x y z) (wk S (l3 x y z) G) 6 (nI v))), some (.int (vl S (l3 x y z) (wk S (l3 x y z) G) 6 (nI j9))), none]) rfl ?_
              refine z_goto (tgt := 9) X dL_values_381 (by decide) ?_
              refine Wz.wide (k' := 9 * (v + 1)) (n' := 6 * (9 * (v + 1))) (by omega) (by omega) ?_
              refine Wz.less (lv' := [some (.ref (a 0)), some (.ref qb), some (.ref qv), some (.ref qc), some (.int (nI (wk S (l3 x y z) G))), some (.int (nI (v + 1))), none, none, none, none, none, none, none]) (by simp [zle] <;> rfl) ?_
              exact ih_v
        refine z_iload X dL_values_238 rfl ?_
        refine z_aload_n X dL_values_240 rfl rfl ?_
        refine z_iconst (v := nI 4) X dL_values_241 (by decide) ?_
        refine z_iload X dL_values_242 rfl ?_
        refine n_imul X dL_values_244 ?_
        refine z_iconst (v := nI 2) X dL_values_245 (by decide) ?_
        refine n_iadd X dL_values_246 ?_
        refine n_iald (f := fV) X 49 rfl (by omega) (by decide) dL_values_247 ?_
        refine z_top (y := S 12 v) ((hV v (by omega)).2.2.1) ?_
        refine z_if_ge (tgt := 255) X dL_values_248 (by decide) (fun c248 => ?_) (fun c248 => ?_)
        ·
          refine z_aload_n X dL_values_255 rfl rfl ?_
          refine z_aload_n X dL_values_256 rfl rfl ?_
          refine z_iconst (v := nI 4) X dL_values_257 (by decide) ?_
          refine z_iload X dL_values_258 rfl ?_
          refine n_imul X dL_values_260 ?_
          refine z_iconst (v := nI 2) X dL_values_261 (by decide) ?_
          refine n_iadd X dL_values_262 ?_
          refine n_iald (f := fV) X 49 rfl (by omega) (by decide) dL_values_263 ?_
          refine z_top (y := S 12 v) ((hV v (by omega)).2.2.1) ?_
          obtain ⟨k8, hk8, e8⟩ := zo_pos (h12 v (by omega)) c248
          refine z_top (y := nI k8) e8 ?_
          refine z_w7 (k := 9 * v + 4) (n := 6 * (9 * v + 4)) (k' := 9 * v + 5) (n' := 6 * (9 * v + 5)) (st := [.int ((vsN S (wk S (l3 x y z) G) v 4) + (md S (S 11 v)))]) X Y aA_eq V (fun sz => w_level l hfl D t a p h hk8 sz) kw_level q_ml_L_75 is24 ⟨by decide, rfl⟩ (fun u => wA t a b (T6 S p) B qb qv qc fB fV fC) (fun u => ⟨⟨by decide, rfl⟩, ⟨by decide, rfl⟩, rfl, rfl⟩) (by decide) (by decide) rfl rfl rfl (Nat.le_of_ble_eq_true rfl) ⟨by omega, by omega⟩ ⟨by omega, by omega⟩ dL_values_264 (fun r264 u264 h264 => ?_)
          subst h264
          refine z_top (y := lvv (l3 x y z) (S 12 v)) (by rw [e8, lvv_k (by omega)]) ?_
          exact j267
        ·
          refine z_iconst (v := nI 0) X dL_values_251 (by decide) ?_
          refine z_goto (tgt := 267) X dL_values_252 (by decide) ?_
          refine z_top (y := lvv (l3 x y z) (S 12 v)) ((lvv_neg (h12 v (by omega)) c248).symm) ?_
          refine Wz.wide (k' := 9 * v + 5) (n' := 6 * (9 * v + 5)) (by omega) (by omega) ?_
          exact j267
      refine z_iload X dL_values_216 rfl ?_
      refine z_iload X dL_values_218 rfl ?_
      refine z_if_ge (tgt := 227) X dL_values_220 (by decide) (fun c220 => ?_) (fun c220 => ?_)
      ·
        refine z_aload_n X dL_values_227 rfl rfl ?_
        refine z_iload X dL_values_228 rfl ?_
        obtain ⟨k9, hk9, e9⟩ := zo_pos (h11 v (by omega)) c220
        have hs9 := (h.2.1 k9 hk9).2.2
        refine z_top (y := nI k9) e9 ?_
        refine n_iald (f := fC) X 50 rfl (by omega) (by decide) dL_values_230 ?_
        refine z_top (y := nI (sc k9)) (hC.1 k9 hk9) ?_
        refine z_iconst (v := nI 2) X dL_values_231 (by decide) ?_
        refine n_idiv X dL_values_232 (by omega) (by decide) (by decide) ?_
        refine z_iconst (v := nI 5) X dL_values_233 (by decide) ?_
        refine z_isub X dL_values_234 ?_
        refine z_top (y := md S (S 11 v)) (by rw [e9]; exact md_sc h.2.1 hk9) ?_
        exact j235
      ·
        refine z_iconst (v := nI 0) X dL_values_223 (by decide) ?_
        refine z_goto (tgt := 235) X dL_values_224 (by decide) ?_
        refine z_top (y := md S (S 11 v)) ((md_neg (h11 v (by omega)) c220).symm) ?_
        exact j235
    ·
      intro kd hi_kd ih_kd
      refine z_iload X dL_values_27 rfl ?_
      refine z_iconst (v := nI 4) X dL_values_29 (by decide) ?_
      refine n_icmp_ge (tgt := 196) X dL_values_30 (by decide) (by omega) (by omega) (fun c30 => absurd c30 (by omega)) (fun _ => ?_)
      refine z_iconst (v := nI 0) X dL_values_33 (by decide) ?_
      refine z_top (y := blN S (wk S (l3 x y z) G) (nI v) (nI kd) 0) (rfl) ?_
      refine z_istore X dL_values_34 (Nat.le_of_ble_eq_true rfl) ?_
      refine z_lv (lv' := [some (.ref (a 0)), some (.ref qb), some (.ref qv), some (.ref qc), some (.int (nI (wk S (l3 x y z) G))), some (.int (nI v)), some (.int (vsN S (wk S (l3 x y z) G) v kd)), some (.int (nI kd)), some (.int (blN S (wk S (l3 x y z) G) (nI v) (nI kd) 0)), none, none, none, none]) rfl ?_
      refine z_iconst (v := nI 0) X dL_values_36 (by decide) ?_
      refine z_top (y := abN S (wk S (l3 x y z) G) (nI v) (nI kd) 0) (rfl) ?_
      refine z_istore X dL_values_37 (Nat.le_of_ble_eq_true rfl) ?_
      refine z_lv (lv' := [some (.ref (a 0)), some (.ref qb), some (.ref qv), some (.ref qc), some (.int (nI (wk S (l3 x y z) G))), some (.int (nI v)), some (.int (vsN S (wk S (l3 x y z) G) v kd)), some (.int (nI kd)), some (.int (blN S (wk S (l3 x y z) G) (nI v) (nI kd) 0)), some (.int (abN S (wk S (l3 x y z) G) (nI v) (nI kd) 0)), none, none, none]) rfl ?_
      refine z_iconst (v := nI 0) X dL_values_39 (by decide) ?_
      refine z_top (y := grN S (wk S (l3 x y z) G) (nI v) (nI kd) 0) (rfl) ?_
      refine z_istore X dL_values_40 (Nat.le_of_ble_eq_true rfl) ?_
      refine z_lv (lv' := [some (.ref (a 0)), some (.ref qb), some (.ref qv), some (.ref qc), some (.int (nI (wk S (l3 x y z) G))), some (.int (nI v)), some (.int (vsN S (wk S (l3 x y z) G) v kd)), some (.int (nI kd)), some (.int (blN S (wk S (l3 x y z) G) (nI v) (nI kd) 0)), some (.int (abN S (wk S (l3 x y z) G) (nI v) (nI kd) 0)), some (.int (grN S (wk S (l3 x y z) G) (nI v) (nI kd) 0)), none, none]) rfl ?_
      refine z_iconst (v := nI 0) X dL_values_42 (by decide) ?_
      refine z_istore X dL_values_43 (Nat.le_of_ble_eq_true rfl) ?_
      refine z_lv (lv' := [some (.ref (a 0)), some (.ref qb), some (.ref qv), some (.ref qc), some (.int (nI (wk S (l3 x y z) G))), some (.int (nI v)), some (.int (vsN S (wk S (l3 x y z) G) v kd)), some (.int (nI kd)), some (.int (blN S (wk S (l3 x y z) G) (nI v) (nI kd) 0)), some (.int (abN S (wk S (l3 x y z) G) (nI v) (nI kd) 0)), some (.int (grN S (wk S (l3 x y z) G) (nI v) (nI kd) 0)), some (.int (nI 0)), none]) rfl ?_
      refine zl_up 8 (fun i => Wz E (9 * v + 1 * kd) (6 * (9 * v + 1 * kd)) 45 [some (.ref (a 0)), some (.ref qb), some (.ref qv), some (.ref qc), some (.int (nI (wk S (l3 x y z) G))), some (.int (nI v)), some (.int (vsN S (wk S (l3 x y z) G) v kd)), some (.int (nI kd)), some (.int (blN S (wk S (l3 x y z) G) (nI v) (nI kd) i)), some (.int (abN S (wk S (l3 x y z) G) (nI v) (nI kd) i)), some (.int (grN S (wk S (l3 x y z) G) (nI v) (nI kd) i)), some (.int (nI i)), none] [] (wA t a b (T6 S p) B qb qv qc fB fV fC)) ?_ ?_ 0 (by omega)
      ·
        refine z_iload X dL_values_45 rfl ?_
        refine z_bipush (v := nI 8) X dL_values_47 (by decide) ?_
        refine n_icmp_ge (tgt := 151) X dL_values_49 (by decide) (by omega) (by omega) (fun _ => ?_) (fun c49 => absurd c49 (by decide))
        refine z_iload X dL_values_151 rfl ?_
        refine z_iload X dL_values_153 rfl ?_
        refine n_if_ne (tgt := 163) X dL_values_155 (by decide) (by omega) (fun c155 => ?_) (fun c155 => ?_)
        ·
          refine z_iload X dL_values_163 rfl ?_
          refine z_iadd X dL_values_165 ?_
          refine z_top (y := bn S (wk S (l3 x y z) G) (nI v) (nI kd)) ((bn_due1 (nI_ne0 (by omega) (by omega))).symm) ?_
          refine z_istore X dL_values_166 (Nat.le_of_ble_eq_true rfl) ?_
          refine z_lv (lv' := [some (.ref (a 0)), some (.ref qb), some (.ref qv), some (.ref qc), some (.int (nI (wk S (l3 x y z) G))), some (.int (nI v)), some (.int (vsN S (wk S (l3 x y z) G) v kd)), some (.int (nI kd)), some (.int (blN S (wk S (l3 x y z) G) (nI v) (nI kd) 8)), some (.int (abN S (wk S (l3 x y z) G) (nI v) (nI kd) 8)), some (.int (grN S (wk S (l3 x y z) G) (nI v) (nI kd) 8)), some (.int (bn S (wk S (l3 x y z) G) (nI v) (nI kd))), none]) rfl ?_
          refine z_aload_n X dL_values_168 rfl rfl ?_
          refine z_iload X dL_values_169 rfl ?_
          refine z_iload X dL_values_171 rfl ?_
          refine z_w7 (k := 9 * v + 1 * kd) (n := 6 * (9 * v + 1 * kd)) (k' := 9 * v + 1 * kd + 1) (n' := 6 * (9 * v + 1 * kd + 1)) (st := []) X Y aA_eq V (fun sz => w_bonus l hfl D t a p h (show v < 6 by omega) (show kd < 4 by omega) sz) kw_bonus q_ml_L_83 is24 ⟨by decide, rfl⟩ (fun u => wA t a b (T6 S p) B qb qv qc fB fV fC) (fun u => ⟨⟨by decide, rfl⟩, ⟨by decide, rfl⟩, rfl, rfl⟩) (by decide) (by decide) rfl rfl rfl (Nat.le_of_ble_eq_true rfl) ⟨by omega, by omega⟩ ⟨by omega, by omega⟩ dL_values_173 (fun r173 u173 h173 => ?_)
          subst h173
          refine z_iload X dL_values_176 rfl ?_
          refine z_icmp_eq (tgt := 183) X dL_values_178 (by decide) (fun c178 => ?_) (fun c178 => absurd rfl c178)
          refine z_iload X dL_values_183 rfl ?_
          refine z_iload X dL_values_185 rfl ?_
          refine z_iadd X dL_values_187 ?_
          refine z_top (y := vsN S (wk S (l3 x y z) G) v (kd + 1)) (rfl) ?_
          refine z_istore X dL_values_188 (Nat.le_of_ble_eq_true rfl) ?_
          refine z_lv (lv' := [some (.ref (a 0)), some (.ref qb), some (.ref qv), some (.ref qc), some (.int (nI (wk S (l3 x y z) G))), some (.int (nI v)), some (.int (vsN S (wk S (l3 x y z) G) v (kd + 1))), some (.int (nI kd)), some (.int (blN S (wk S (l3 x y z) G) (nI v) (nI kd) 8)), some (.int (abN S (wk S (l3 x y z) G) (nI v) (nI kd) 8)), some (.int (grN S (wk S (l3 x y z) G) (nI v) (nI kd) 8)), some (.int (bn S (wk S (l3 x y z) G) (nI v) (nI kd))), none]) rfl ?_
          refine z_iinc (v := nI (kd + 1)) X dL_values_190 rfl (nI_add kd 1) ?_
          refine z_lv (lv' := [some (.ref (a 0)), some (.ref qb), some (.ref qv), some (.ref qc), some (.int (nI (wk S (l3 x y z) G))), some (.int (nI v)), some (.int (vsN S (wk S (l3 x y z) G) v (kd + 1))), some (.int (nI (kd + 1))), some (.int (blN S (wk S (l3 x y z) G) (nI v) (nI kd) 8)), some (.int (abN S (wk S (l3 x y z) G) (nI v) (nI kd) 8)), some (.int (grN S (wk S (l3 x y z) G) (nI v) (nI kd) 8)), some (.int (bn S (wk S (l3 x y z) G) (nI v) (nI kd))), none]) rfl ?_
          refine z_goto (tgt := 27) X dL_values_193 (by decide) ?_
          refine Wz.wide (k' := 9 * v + 1 * (kd + 1)) (n' := 6 * (9 * v + 1 * (kd + 1))) (by omega) (by omega) ?_
          refine Wz.less (lv' := [some (.ref (a 0)), some (.ref qb), some (.ref qv), some (.ref qc), some (.int (nI (wk S (l3 x y z) G))), some (.int (nI v)), some (.int (vsN S (wk S (l3 x y z) G) v (kd + 1))), some (.int (nI (kd + 1))), none, none, none, none, none]) (by simp [zle] <;> rfl) ?_
          exact ih_kd
        ·
          refine z_iload X dL_values_158 rfl ?_
          refine z_goto (tgt := 165) X dL_values_160 (by decide) ?_
          refine z_iadd X dL_values_165 ?_
          refine z_top (y := bn S (wk S (l3 x y z) G) (nI v) (nI kd)) (by rw [c155]; exact bn_due0.symm) ?_
          refine z_istore X dL_values_166 (Nat.le_of_ble_eq_true rfl) ?_
          refine z_lv (lv' := [some (.ref (a 0)), some (.ref qb), some (.ref qv), some (.ref qc), some (.int (nI (wk S (l3 x y z) G))), some (.int (nI v)), some (.int (vsN S (wk S (l3 x y z) G) v kd)), some (.int (nI kd)), some (.int (blN S (wk S (l3 x y z) G) (nI v) (nI kd) 8)), some (.int (abN S (wk S (l3 x y z) G) (nI v) (nI kd) 8)), some (.int (grN S (wk S (l3 x y z) G) (nI v) (nI kd) 8)), some (.int (bn S (wk S (l3 x y z) G) (nI v) (nI kd))), none]) rfl ?_
          refine z_aload_n X dL_values_168 rfl rfl ?_
          refine z_iload X dL_values_169 rfl ?_
          refine z_iload X dL_values_171 rfl ?_
          refine z_w7 (k := 9 * v + 1 * kd) (n := 6 * (9 * v + 1 * kd)) (k' := 9 * v + 1 * kd + 1) (n' := 6 * (9 * v + 1 * kd + 1)) (st := []) X Y aA_eq V (fun sz => w_bonus l hfl D t a p h (show v < 6 by omega) (show kd < 4 by omega) sz) kw_bonus q_ml_L_83 is24 ⟨by decide, rfl⟩ (fun u => wA t a b (T6 S p) B qb qv qc fB fV fC) (fun u => ⟨⟨by decide, rfl⟩, ⟨by decide, rfl⟩, rfl, rfl⟩) (by decide) (by decide) rfl rfl rfl (Nat.le_of_ble_eq_true rfl) ⟨by omega, by omega⟩ ⟨by omega, by omega⟩ dL_values_173 (fun r173 u173 h173 => ?_)
          subst h173
          refine z_iload X dL_values_176 rfl ?_
          refine z_icmp_eq (tgt := 183) X dL_values_178 (by decide) (fun c178 => ?_) (fun c178 => absurd rfl c178)
          refine z_iload X dL_values_183 rfl ?_
          refine z_iload X dL_values_185 rfl ?_
          refine z_iadd X dL_values_187 ?_
          refine z_top (y := vsN S (wk S (l3 x y z) G) v (kd + 1)) (rfl) ?_
          refine z_istore X dL_values_188 (Nat.le_of_ble_eq_true rfl) ?_
          refine z_lv (lv' := [some (.ref (a 0)), some (.ref qb), some (.ref qv), some (.ref qc), some (.int (nI (wk S (l3 x y z) G))), some (.int (nI v)), some (.int (vsN S (wk S (l3 x y z) G) v (kd + 1))), some (.int (nI kd)), some (.int (blN S (wk S (l3 x y z) G) (nI v) (nI kd) 8)), some (.int (abN S (wk S (l3 x y z) G) (nI v) (nI kd) 8)), some (.int (grN S (wk S (l3 x y z) G) (nI v) (nI kd) 8)), some (.int (bn S (wk S (l3 x y z) G) (nI v) (nI kd))), none]) rfl ?_
          refine z_iinc (v := nI (kd + 1)) X dL_values_190 rfl (nI_add kd 1) ?_
          refine z_lv (lv' := [some (.ref (a 0)), some (.ref qb), some (.ref qv), some (.ref qc), some (.int (nI (wk S (l3 x y z) G))), some (.int (nI v)), some (.int (vsN S (wk S (l3 x y z) G) v (kd + 1))), some (.int (nI (kd + 1))), some (.int (blN S (wk S (l3 x y z) G) (nI v) (nI kd) 8)), some (.int (abN S (wk S (l3 x y z) G) (nI v) (nI kd) 8)), some (.int (grN S (wk S (l3 x y z) G) (nI v) (nI kd) 8)), some (.int (bn S (wk S (l3 x y z) G) (nI v) (nI kd))), none]) rfl ?_
          refine z_goto (tgt := 27) X dL_values_193 (by decide) ?_
          refine Wz.wide (k' := 9 * v + 1 * (kd + 1)) (n' := 6 * (9 * v + 1 * (kd + 1))) (by omega) (by omega) ?_
          refine Wz.less (lv' := [some (.ref (a 0)), some (.ref qb), some (.ref qv), some (.ref qc), some (.int (nI (wk S (l3 x y z) G))), some (.int (nI v)), some (.int (vsN S (wk S (l3 x y z) G) v (kd + 1))), some (.int (nI (kd + 1))), none, none, none, none, none]) (by simp [zle] <;> rfl) ?_
          exact ih_kd
      ·
        intro i hi_i ih_i
        refine z_iload X dL_values_45 rfl ?_
        refine z_bipush (v := nI 8) X dL_values_47 (by decide) ?_
        refine n_icmp_ge (tgt := 151) X dL_values_49 (by decide) (by omega) (by omega) (fun c49 => absurd c49 (by omega)) (fun _ => ?_)
        refine z_iload X dL_values_52 rfl ?_
        refine z_iload X dL_values_54 rfl ?_
        refine n_ishr X dL_values_56 (by omega) (by omega) ?_
        refine z_iconst (v := nI 1) X dL_values_57 (by decide) ?_
        refine n_iand X dL_values_58 ?_
        refine z_top (y := nI ((wk S (l3 x y z) G) / 2 ^ i % 2)) (by rw [Nat.and_one_is_mod]) ?_
        refine z_iconst (v := nI 1) X dL_values_59 (by decide) ?_
        refine n_icmp_ne (tgt := 145) X dL_values_60 (by decide) (by omega) (by omega) (fun c60 => ?_) (fun c60 => ?_)
        ·
          have hN9 : ¬ bnC S (wk S (l3 x y z) G) (nI v) (nI kd) i := by first | exact fun q => c60 (zt_bit.mpr q.1) | exact fun q => c71 q.2.1 | exact fun q => c84 q.2.2
          refine z_lv (lv' := [some (.ref (a 0)), some (.ref qb), some (.ref qv), some (.ref qc), some (.int (nI (wk S (l3 x y z) G))), some (.int (nI v)), some (.int (vsN S (wk S (l3 x y z) G) v kd)), some (.int (nI kd)), some (.int (blN S (wk S (l3 x y z) G) (nI v) (nI kd) (i + 1))), some (.int (abN S (wk S (l3 x y z) G) (nI v) (nI kd) (i + 1))), some (.int (grN S (wk S (l3 x y z) G) (nI v) (nI kd) (i + 1))), some (.int (nI i)), none]) (by rw [bl_f hN9, ab_f hN9, gr_f hN9]) ?_
          refine z_iinc (v := nI (i + 1)) X dL_values_145 rfl (nI_add i 1) ?_
          refine z_lv (lv' := [some (.ref (a 0)), some (.ref qb), some (.ref qv), some (.ref qc), some (.int (nI (wk S (l3 x y z) G))), some (.int (nI v)), some (.int (vsN S (wk S (l3 x y z) G) v kd)), some (.int (nI kd)), some (.int (blN S (wk S (l3 x y z) G) (nI v) (nI kd) (i + 1))), some (.int (abN S (wk S (l3 x y z) G) (nI v) (nI kd) (i + 1))), some (.int (grN S (wk S (l3 x y z) G) (nI v) (nI kd) (i + 1))), some (.int (nI (i + 1))), none]) rfl ?_
          refine z_goto (tgt := 45) X dL_values_148 (by decide) ?_
          exact ih_i
        ·
          refine z_aload_n X dL_values_63 rfl rfl ?_
          refine z_iconst (v := nI 3) X dL_values_64 (by decide) ?_
          refine z_iload X dL_values_65 rfl ?_
          refine n_imul X dL_values_67 ?_
          refine n_iald (f := fB) X 48 rfl (by omega) (by decide) dL_values_68 ?_
          refine z_top (y := S 7 i) ((hB i (by omega)).1) ?_
          refine z_iload X dL_values_69 rfl ?_
          refine z_icmp_ne (tgt := 145) X dL_values_71 (by decide) (fun c71 => ?_) (fun c71 => ?_)
          ·
            have hN9 : ¬ bnC S (wk S (l3 x y z) G) (nI v) (nI kd) i := by first | exact fun q => c60 (zt_bit.mpr q.1) | exact fun q => c71 q.2.1 | exact fun q => c84 q.2.2
            refine z_lv (lv' := [some (.ref (a 0)), some (.ref qb), some (.ref qv), some (.ref qc), some (.int (nI (wk S (l3 x y z) G))), some (.int (nI v)), some (.int (vsN S (wk S (l3 x y z) G) v kd)), some (.int (nI kd)), some (.int (blN S (wk S (l3 x y z) G) (nI v) (nI kd) (i + 1))), some (.int (abN S (wk S (l3 x y z) G) (nI v) (nI kd) (i + 1))), some (.int (grN S (wk S (l3 x y z) G) (nI v) (nI kd) (i + 1))), some (.int (nI i)), none]) (by rw [bl_f hN9, ab_f hN9, gr_f hN9]) ?_
            refine z_iinc (v := nI (i + 1)) X dL_values_145 rfl (nI_add i 1) ?_
            refine z_lv (lv' := [some (.ref (a 0)), some (.ref qb), some (.ref qv), some (.ref qc), some (.int (nI (wk S (l3 x y z) G))), some (.int (nI v)), some (.int (vsN S (wk S (l3 x y z) G) v kd)), some (.int (nI kd)), some (.int (blN S (wk S (l3 x y z) G) (nI v) (nI kd) (i + 1))), some (.int (abN S (wk S (l3 x y z) G) (nI v) (nI kd) (i + 1))), some (.int (grN S (wk S (l3 x y z) G) (nI v) (nI kd) (i + 1))), some (.int (nI (i + 1))), none]) rfl ?_
            refine z_goto (tgt := 45) X dL_values_148 (by decide) ?_
            exact ih_i
          ·
            refine z_aload_n X dL_values_74 rfl rfl ?_
            refine z_iconst (v := nI 3) X dL_values_75 (by decide) ?_
            refine z_iload X dL_values_76 rfl ?_
            refine n_imul X dL_values_78 ?_
            refine z_iconst (v := nI 1) X dL_values_79 (by decide) ?_
            refine n_iadd X dL_values_80 ?_
            refine n_iald (f := fB) X 48 rfl (by omega) (by decide) dL_values_81 ?_
            refine z_top (y := S 8 i) ((hB i (by omega)).2.1) ?_
            refine z_iload X dL_values_82 rfl ?_
            refine z_icmp_ne (tgt := 145) X dL_values_84 (by decide) (fun c84 => ?_) (fun c84 => ?_)
            ·
              have hN9 : ¬ bnC S (wk S (l3 x y z) G) (nI v) (nI kd) i := by first | exact fun q => c60 (zt_bit.mpr q.1) | exact fun q => c71 q.2.1 | exact fun q => c84 q.2.2
              refine z_lv (lv' := [some (.ref (a 0)), some (.ref qb), some (.ref qv), some (.ref qc), some (.int (nI (wk S (l3 x y z) G))), some (.int (nI v)), some (.int (vsN S (wk S (l3 x y z) G) v kd)), some (.int (nI kd)), some (.int (blN S (wk S (l3 x y z) G) (nI v) (nI kd) (i + 1))), some (.int (abN S (wk S (l3 x y z) G) (nI v) (nI kd) (i + 1))), some (.int (grN S (wk S (l3 x y z) G) (nI v) (nI kd) (i + 1))), some (.int (nI i)), none]) (by rw [bl_f hN9, ab_f hN9, gr_f hN9]) ?_
              refine z_iinc (v := nI (i + 1)) X dL_values_145 rfl (nI_add i 1) ?_
              refine z_lv (lv' := [some (.ref (a 0)), some (.ref qb), some (.ref qv), some (.ref qc), some (.int (nI (wk S (l3 x y z) G))), some (.int (nI v)), some (.int (vsN S (wk S (l3 x y z) G) v kd)), some (.int (nI kd)), some (.int (blN S (wk S (l3 x y z) G) (nI v) (nI kd) (i + 1))), some (.int (abN S (wk S (l3 x y z) G) (nI v) (nI kd) (i + 1))), some (.int (grN S (wk S (l3 x y z) G) (nI v) (nI kd) (i + 1))), some (.int (nI (i + 1))), none]) rfl ?_
              refine z_goto (tgt := 45) X dL_values_148 (by decide) ?_
              exact ih_i
            ·
              have hC9 : bnC S (wk S (l3 x y z) G) (nI v) (nI kd) i := ⟨zt_bit.mp c60, c71, c84⟩
              refine z_aload_n X dL_values_87 rfl rfl ?_
              refine z_iconst (v := nI 3) X dL_values_88 (by decide) ?_
              refine z_iload X dL_values_89 rfl ?_
              refine n_imul X dL_values_91 ?_
              refine z_iconst (v := nI 2) X dL_values_92 (by decide) ?_
              refine n_iadd X dL_values_93 ?_
              refine n_iald (f := fB) X 48 rfl (by omega) (by decide) dL_values_94 ?_
              refine z_top (y := S 9 i) ((hB i (by omega)).2.2) ?_
              refine z_istore X dL_values_95 (Nat.le_of_ble_eq_true rfl) ?_
              refine z_lv (lv' := [some (.ref (a 0)), some (.ref qb), some (.ref qv), some (.ref qc), some (.int (nI (wk S (l3 x y z) G))), some (.int (nI v)), some (.int (vsN S (wk S (l3 x y z) G) v kd)), some (.int (nI kd)), some (.int (blN S (wk S (l3 x y z) G) (nI v) (nI kd) i)), some (.int (abN S (wk S (l3 x y z) G) (nI v) (nI kd) i)), some (.int (grN S (wk S (l3 x y z) G) (nI v) (nI kd) i)), some (.int (nI i)), some (.int (S 9 i))]) rfl ?_
              refine z_iload X dL_values_97 rfl ?_
              refine z_iload X dL_values_99 rfl ?_
              refine z_if_ge (tgt := 109) X dL_values_101 (by decide) (fun c101 => ?_) (fun c101 => ?_)
              ·
                refine z_iconst (v := nI 0) X dL_values_109 (by decide) ?_
                refine z_iadd X dL_values_110 ?_
                refine z_top (y := blN S (wk S (l3 x y z) G) (nI v) (nI kd) (i + 1)) (by first | exact bl_t hC9 c101 | exact bl_z hC9 c101) ?_
                refine z_istore X dL_values_111 (Nat.le_of_ble_eq_true rfl) ?_
                refine z_lv (lv' := [some (.ref (a 0)), some (.ref qb), some (.ref qv), some (.ref qc), some (.int (nI (wk S (l3 x y z) G))), some (.int (nI v)), some (.int (vsN S (wk S (l3 x y z) G) v kd)), some (.int (nI kd)), some (.int (blN S (wk S (l3 x y z) G) (nI v) (nI kd) (i + 1))), some (.int (abN S (wk S (l3 x y z) G) (nI v) (nI kd) i)), some (.int (grN S (wk S (l3 x y z) G) (nI v) (nI kd) i)), some (.int (nI i)), some (.int (S 9 i))]) rfl ?_
                refine z_iload X dL_values_113 rfl ?_
                refine z_iload X dL_values_115 rfl ?_
                refine z_if_le (tgt := 125) X dL_values_117 (by decide) (fun c117 => ?_) (fun c117 => ?_)
                ·
                  refine z_iconst (v := nI 0) X dL_values_125 (by decide) ?_
                  refine z_iadd X dL_values_126 ?_
                  refine z_top (y := abN S (wk S (l3 x y z) G) (nI v) (nI kd) (i + 1)) (by first | exact ab_t hC9 c117 | exact ab_z hC9 c117) ?_
                  refine z_istore X dL_values_127 (Nat.le_of_ble_eq_true rfl) ?_
                  refine z_lv (lv' := [some (.ref (a 0)), some (.ref qb), some (.ref qv), some (.ref qc), some (.int (nI (wk S (l3 x y z) G))), some (.int (nI v)), some (.int (vsN S (wk S (l3 x y z) G) v kd)), some (.int (nI kd)), some (.int (blN S (wk S (l3 x y z) G) (nI v) (nI kd) (i + 1))), some (.int (abN S (wk S (l3 x y z) G) (nI v) (nI kd) (i + 1))), some (.int (grN S (wk S (l3 x y z) G) (nI v) (nI kd) i)), some (.int (nI i)), some (.int (S 9 i))]) rfl ?_
                  refine z_iload X dL_values_129 rfl ?_
                  refine z_iload X dL_values_131 rfl ?_
                  refine z_icmp_le (tgt := 141) X dL_values_133 (by decide) (fun c133 => ?_) (fun c133 => ?_)
                  ·
                    refine z_iload X dL_values_141 rfl ?_
                    refine z_top (y := grN S (wk S (l3 x y z) G) (nI v) (nI kd) (i + 1)) (by first | exact gr_t hC9 c133 | exact gr_z hC9 c133) ?_
                    refine z_istore X dL_values_143 (Nat.le_of_ble_eq_true rfl) ?_
                    refine z_lv (lv' := [some (.ref (a 0)), some (.ref qb), some (.ref qv), some (.ref qc), some (.int (nI (wk S (l3 x y z) G))), some (.int (nI v)), some (.int (vsN S (wk S (l3 x y z) G) v kd)), some (.int (nI kd)), some (.int (blN S (wk S (l3 x y z) G) (nI v) (nI kd) (i + 1))), some (.int (abN S (wk S (l3 x y z) G) (nI v) (nI kd) (i + 1))), some (.int (grN S (wk S (l3 x y z) G) (nI v) (nI kd) (i + 1))), some (.int (nI i)), some (.int (S 9 i))]) rfl ?_
                    refine z_iinc (v := nI (i + 1)) X dL_values_145 rfl (nI_add i 1) ?_
                    refine z_lv (lv' := [some (.ref (a 0)), some (.ref qb), some (.ref qv), some (.ref qc), some (.int (nI (wk S (l3 x y z) G))), some (.int (nI v)), some (.int (vsN S (wk S (l3 x y z) G) v kd)), some (.int (nI kd)), some (.int (blN S (wk S (l3 x y z) G) (nI v) (nI kd) (i + 1))), some (.int (abN S (wk S (l3 x y z) G) (nI v) (nI kd) (i + 1))), some (.int (grN S (wk S (l3 x y z) G) (nI v) (nI kd) (i + 1))), some (.int (nI (i + 1))), some (.int (S 9 i))]) rfl ?_
                    refine z_goto (tgt := 45) X dL_values_148 (by decide) ?_
                    refine Wz.less (lv' := [some (.ref (a 0)), some (.ref qb), some (.ref qv), some (.ref qc), some (.int (nI (wk S (l3 x y z) G))), some (.int (nI v)), some (.int (vsN S (wk S (l3 x y z) G) v kd)), some (.int (nI kd)), some (.int (blN S (wk S (l3 x y z) G) (nI v) (nI kd) (i + 1))), some (.int (abN S (wk S (l3 x y z) G) (nI v) (nI kd) (i + 1))), some (.int (grN S (wk S (l3 x y z) G) (nI v) (nI kd) (i + 1))), some (.int (nI (i + 1))), none]) (by simp [zle] <;> rfl) ?_
                    exact ih_i
                  ·
                    refine z_iload X dL_values_136 rfl ?_
                    refine z_goto (tgt := 143) X dL_values_138 (by decide) ?_
                    refine z_top (y := grN S (wk S (l3 x y z) G) (nI v) (nI kd) (i + 1)) (by first | exact gr_t hC9 c133 | exact gr_z hC9 c133) ?_
                    refine z_istore X dL_values_143 (Nat.le_of_ble_eq_true rfl) ?_
                    refine z_lv (lv' := [some (.ref (a 0)), some (.ref qb), some (.ref qv), some (.ref qc), some (.int (nI (wk S (l3 x y z) G))), some (.int (nI v)), some (.int (vsN S (wk S (l3 x y z) G) v kd)), some (.int (nI kd)), some (.int (blN S (wk S (l3 x y z) G) (nI v) (nI kd) (i + 1))), some (.int (abN S (wk S (l3 x y z) G) (nI v) (nI kd) (i + 1))), some (.int (grN S (wk S (l3 x y z) G) (nI v) (nI kd) (i + 1))), some (.int (nI i)), some (.int (S 9 i))]) rfl ?_
                    refine z_iinc (v := nI (i + 1)) X dL_values_145 rfl (nI_add i 1) ?_
                    refine z_lv (lv' := [some (.ref (a 0)), some (.ref qb), some (.ref qv), some (.ref qc), some (.int (nI (wk S (l3 x y z) G))), some (.int (nI v)), some (.int (vsN S (wk S (l3 x y z) G) v kd)), some (.int (nI kd)), some (.int (blN S (wk S (l3 x y z) G) (nI v) (nI kd) (i + 1))), some (.int (abN S (wk S (l3 x y z) G) (nI v) (nI kd) (i + 1))), some (.int (grN S (wk S (l3 x y z) G) (nI v) (nI kd) (i + 1))), some (.int (nI (i + 1))), some (.int (S 9 i))]) rfl ?_
                    refine z_goto (tgt := 45) X dL_values_148 (by decide) ?_
                    refine Wz.less (lv' := [some (.ref (a 0)), some (.ref qb), some (.ref qv), some (.ref qc), some (.int (nI (wk S (l3 x y z) G))), some (.int (nI v)), some (.int (vsN S (wk S (l3 x y z) G) v kd)), some (.int (nI kd)), some (.int (blN S (wk S (l3 x y z) G) (nI v) (nI kd) (i + 1))), some (.int (abN S (wk S (l3 x y z) G) (nI v) (nI kd) (i + 1))), some (.int (grN S (wk S (l3 x y z) G) (nI v) (nI kd) (i + 1))), some (.int (nI (i + 1))), none]) (by simp [zle] <;> rfl) ?_
                    exact ih_i
                ·
                  refine z_iload X dL_values_120 rfl ?_
                  refine z_goto (tgt := 126) X dL_values_122 (by decide) ?_
                  refine z_iadd X dL_values_126 ?_
                  refine z_top (y := abN S (wk S (l3 x y z) G) (nI v) (nI kd) (i + 1)) (by first | exact ab_t hC9 c117 | exact ab_z hC9 c117) ?_
                  refine z_istore X dL_values_127 (Nat.le_of_ble_eq_true rfl) ?_
                  refine z_lv (lv' := [some (.ref (a 0)), some (.ref qb), some (.ref qv), some (.ref qc), some (.int (nI (wk S (l3 x y z) G))), some (.int (nI v)), some (.int (vsN S (wk S (l3 x y z) G) v kd)), some (.int (nI kd)), some (.int (blN S (wk S (l3 x y z) G) (nI v) (nI kd) (i + 1))), some (.int (abN S (wk S (l3 x y z) G) (nI v) (nI kd) (i + 1))), some (.int (grN S (wk S (l3 x y z) G) (nI v) (nI kd) i)), some (.int (nI i)), some (.int (S 9 i))]) rfl ?_
                  refine z_iload X dL_values_129 rfl ?_
                  refine z_iload X dL_values_131 rfl ?_
                  refine z_icmp_le (tgt := 141) X dL_values_133 (by decide) (fun c133 => ?_) (fun c133 => ?_)
                  ·
                    refine z_iload X dL_values_141 rfl ?_
                    refine z_top (y := grN S (wk S (l3 x y z) G) (nI v) (nI kd) (i + 1)) (by first | exact gr_t hC9 c133 | exact gr_z hC9 c133) ?_
                    refine z_istore X dL_values_143 (Nat.le_of_ble_eq_true rfl) ?_
                    refine z_lv (lv' := [some (.ref (a 0)), some (.ref qb), some (.ref qv), some (.ref qc), some (.int (nI (wk S (l3 x y z) G))), some (.int (nI v)), some (.int (vsN S (wk S (l3 x y z) G) v kd)), some (.int (nI kd)), some (.int (blN S (wk S (l3 x y z) G) (nI v) (nI kd) (i + 1))), some (.int (abN S (wk S (l3 x y z) G) (nI v) (nI kd) (i + 1))), some (.int (grN S (wk S (l3 x y z) G) (nI v) (nI kd) (i + 1))), some (.int (nI i)), some (.int (S 9 i))]) rfl ?_
                    refine z_iinc (v := nI (i + 1)) X dL_values_145 rfl (nI_add i 1) ?_
                    refine z_lv (lv' := [some (.ref (a 0)), some (.ref qb), some (.ref qv), some (.ref qc), some (.int (nI (wk S (l3 x y z) G))), some (.int (nI v)), some (.int (vsN S (wk S (l3 x y z) G) v kd)), some (.int (nI kd)), some (.int (blN S (wk S (l3 x y z) G) (nI v) (nI kd) (i + 1))), some (.int (abN S (wk S (l3 x y z) G) (nI v) (nI kd) (i + 1))), some (.int (grN S (wk S (l3 x y z) G) (nI v) (nI kd) (i + 1))), some (.int (nI (i + 1))), some (.int (S 9 i))]) rfl ?_
                    refine z_goto (tgt := 45) X dL_values_148 (by decide) ?_
                    refine Wz.less (lv' := [some (.ref (a 0)), some (.ref qb), some (.ref qv), some (.ref qc), some (.int (nI (wk S (l3 x y z) G))), some (.int (nI v)), some (.int (vsN S (wk S (l3 x y z) G) v kd)), some (.int (nI kd)), some (.int (blN S (wk S (l3 x y z) G) (nI v) (nI kd) (i + 1))), some (.int (abN S (wk S (l3 x y z) G) (nI v) (nI kd) (i + 1))), some (.int (grN S (wk S (l3 x y z) G) (nI v) (nI kd) (i + 1))), some (.int (nI (i + 1))), none]) (by simp [zle] <;> rfl) ?_
                    exact ih_i
                  ·
                    refine z_iload X dL_values_136 rfl ?_
                    refine z_goto (tgt := 143) X dL_values_138 (by decide) ?_
                    refine z_top (y := grN S (wk S (l3 x y z) G) (nI v) (nI kd) (i + 1)) (by first | exact gr_t hC9 c133 | exact gr_z hC9 c133) ?_
                    refine z_istore X dL_values_143 (Nat.le_of_ble_eq_true rfl) ?_
                    refine z_lv (lv' := [some (.ref (a 0)), some (.ref qb), some (.ref qv), some (.ref qc), some (.int (nI (wk S (l3 x y z) G))), some (.int (nI v)), some (.int (vsN S (wk S (l3 x y z) G) v kd)), some (.int (nI kd)), some (.int (blN S (wk S (l3 x y z) G) (nI v) (nI kd) (i + 1))), some (.int (abN S (wk S (l3 x y z) G) (nI v) (nI kd) (i + 1))), some (.int (grN S (wk S (l3 x y z) G) (nI v) (nI kd) (i + 1))), some (.int (nI i)), some (.int (S 9 i))]) rfl ?_
                    refine z_iinc (v := nI (i + 1)) X dL_values_145 rfl (nI_add i 1) ?_
                    refine z_lv (lv' := [some (.ref (a 0)), some (.ref qb), some (.ref qv), some (.ref qc), some (.int (nI (wk S (l3 x y z) G))), some (.int (nI v)), some (.int (vsN S (wk S (l3 x y z) G) v kd)), some (.int (nI kd)), some (.int (blN S (wk S (l3 x y z) G) (nI v) (nI kd) (i + 1))), some (.int (abN S (wk S (l3 x y z) G) (nI v) (nI kd) (i + 1))), some (.int (grN S (wk S (l3 x y z) G) (nI v) (nI kd) (i + 1))), some (.int (nI (i + 1))), some (.int (S 9 i))]) rfl ?_
                    refine z_goto (tgt := 45) X dL_values_148 (by decide) ?_
                    refine Wz.less (lv' := [some (.ref (a 0)), some (.ref qb), some (.ref qv), some (.ref qc), some (.int (nI (wk S (l3 x y z) G))), some (.int (nI v)), some (.int (vsN S (wk S (l3 x y z) G) v kd)), some (.int (nI kd)), some (.int (blN S (wk S (l3 x y z) G) (nI v) (nI kd) (i + 1))), some (.int (abN S (wk S (l3 x y z) G) (nI v) (nI kd) (i + 1))), some (.int (grN S (wk S (l3 x y z) G) (nI v) (nI kd) (i + 1))), some (.int (nI (i + 1))), none]) (by simp [zle] <;> rfl) ?_
                    exact ih_i
              ·
                refine z_iload X dL_values_104 rfl ?_
                refine z_goto (tgt := 110) X dL_values_106 (by decide) ?_
                refine z_iadd X dL_values_110 ?_
                refine z_top (y := blN S (wk S (l3 x y z) G) (nI v) (nI kd) (i + 1)) (by first | exact bl_t hC9 c101 | exact bl_z hC9 c101) ?_
                refine z_istore X dL_values_111 (Nat.le_of_ble_eq_true rfl) ?_
                refine z_lv (lv' := [some (.ref (a 0)), some (.ref qb), some (.ref qv), some (.ref qc), some (.int (nI (wk S (l3 x y z) G))), some (.int (nI v)), some (.int (vsN S (wk S (l3 x y z) G) v kd)), some (.int (nI kd)), some (.int (blN S (wk S (l3 x y z) G) (nI v) (nI kd) (i + 1))), some (.int (abN S (wk S (l3 x y z) G) (nI v) (nI kd) i)), some (.int (grN S (wk S (l3 x y z) G) (nI v) (nI kd) i)), some (.int (nI i)), some (.int (S 9 i))]) rfl ?_
                refine z_iload X dL_values_113 rfl ?_
                refine z_iload X dL_values_115 rfl ?_
                refine z_if_le (tgt := 125) X dL_values_117 (by decide) (fun c117 => ?_) (fun c117 => ?_)
                ·
                  refine z_iconst (v := nI 0) X dL_values_125 (by decide) ?_
                  refine z_iadd X dL_values_126 ?_
                  refine z_top (y := abN S (wk S (l3 x y z) G) (nI v) (nI kd) (i + 1)) (by first | exact ab_t hC9 c117 | exact ab_z hC9 c117) ?_
                  refine z_istore X dL_values_127 (Nat.le_of_ble_eq_true rfl) ?_
                  refine z_lv (lv' := [some (.ref (a 0)), some (.ref qb), some (.ref qv), some (.ref qc), some (.int (nI (wk S (l3 x y z) G))), some (.int (nI v)), some (.int (vsN S (wk S (l3 x y z) G) v kd)), some (.int (nI kd)), some (.int (blN S (wk S (l3 x y z) G) (nI v) (nI kd) (i + 1))), some (.int (abN S (wk S (l3 x y z) G) (nI v) (nI kd) (i + 1))), some (.int (grN S (wk S (l3 x y z) G) (nI v) (nI kd) i)), some (.int (nI i)), some (.int (S 9 i))]) rfl ?_
                  refine z_iload X dL_values_129 rfl ?_
                  refine z_iload X dL_values_131 rfl ?_
                  refine z_icmp_le (tgt := 141) X dL_values_133 (by decide) (fun c133 => ?_) (fun c133 => ?_)
                  ·
                    refine z_iload X dL_values_141 rfl ?_
                    refine z_top (y := grN S (wk S (l3 x y z) G) (nI v) (nI kd) (i + 1)) (by first | exact gr_t hC9 c133 | exact gr_z hC9 c133) ?_
                    refine z_istore X dL_values_143 (Nat.le_of_ble_eq_true rfl) ?_
                    refine z_lv (lv' := [some (.ref (a 0)), some (.ref qb), some (.ref qv), some (.ref qc), some (.int (nI (wk S (l3 x y z) G))), some (.int (nI v)), some (.int (vsN S (wk S (l3 x y z) G) v kd)), some (.int (nI kd)), some (.int (blN S (wk S (l3 x y z) G) (nI v) (nI kd) (i + 1))), some (.int (abN S (wk S (l3 x y z) G) (nI v) (nI kd) (i + 1))), some (.int (grN S (wk S (l3 x y z) G) (nI v) (nI kd) (i + 1))), some (.int (nI i)), some (.int (S 9 i))]) rfl ?_
                    refine z_iinc (v := nI (i + 1)) X dL_values_145 rfl (nI_add i 1) ?_
                    refine z_lv (lv' := [some (.ref (a 0)), some (.ref qb), some (.ref qv), some (.ref qc), some (.int (nI (wk S (l3 x y z) G))), some (.int (nI v)), some (.int (vsN S (wk S (l3 x y z) G) v kd)), some (.int (nI kd)), some (.int (blN S (wk S (l3 x y z) G) (nI v) (nI kd) (i + 1))), some (.int (abN S (wk S (l3 x y z) G) (nI v) (nI kd) (i + 1))), some (.int (grN S (wk S (l3 x y z) G) (nI v) (nI kd) (i + 1))), some (.int (nI (i + 1))), some (.int (S 9 i))]) rfl ?_
                    refine z_goto (tgt := 45) X dL_values_148 (by decide) ?_
                    refine Wz.less (lv' := [some (.ref (a 0)), some (.ref qb), some (.ref qv), some (.ref qc), some (.int (nI (wk S (l3 x y z) G))), some (.int (nI v)), some (.int (vsN S (wk S (l3 x y z) G) v kd)), some (.int (nI kd)), some (.int (blN S (wk S (l3 x y z) G) (nI v) (nI kd) (i + 1))), some (.int (abN S (wk S (l3 x y z) G) (nI v) (nI kd) (i + 1))), some (.int (grN S (wk S (l3 x y z) G) (nI v) (nI kd) (i + 1))), some (.int (nI (i + 1))), none]) (by simp [zle] <;> rfl) ?_
                    exact ih_i
                  ·
                    refine z_iload X dL_values_136 rfl ?_
                    refine z_goto (tgt := 143) X dL_values_138 (by decide) ?_
                    refine z_top (y := grN S (wk S (l3 x y z) G) (nI v) (nI kd) (i + 1)) (by first | exact gr_t hC9 c133 | exact gr_z hC9 c133) ?_
                    refine z_istore X dL_values_143 (Nat.le_of_ble_eq_true rfl) ?_
                    refine z_lv (lv' := [some (.ref (a 0)), some (.ref qb), some (.ref qv), some (.ref qc), some (.int (nI (wk S (l3 x y z) G))), some (.int (nI v)), some (.int (vsN S (wk S (l3 x y z) G) v kd)), some (.int (nI kd)), some (.int (blN S (wk S (l3 x y z) G) (nI v) (nI kd) (i + 1))), some (.int (abN S (wk S (l3 x y z) G) (nI v) (nI kd) (i + 1))), some (.int (grN S (wk S (l3 x y z) G) (nI v) (nI kd) (i + 1))), some (.int (nI i)), some (.int (S 9 i))]) rfl ?_
                    refine z_iinc (v := nI (i + 1)) X dL_values_145 rfl (nI_add i 1) ?_
                    refine z_lv (lv' := [some (.ref (a 0)), some (.ref qb), some (.ref qv), some (.ref qc), some (.int (nI (wk S (l3 x y z) G))), some (.int (nI v)), some (.int (vsN S (wk S (l3 x y z) G) v kd)), some (.int (nI kd)), some (.int (blN S (wk S (l3 x y z) G) (nI v) (nI kd) (i + 1))), some (.int (abN S (wk S (l3 x y z) G) (nI v) (nI kd) (i + 1))), some (.int (grN S (wk S (l3 x y z) G) (nI v) (nI kd) (i + 1))), some (.int (nI (i + 1))), some (.int (S 9 i))]) rfl ?_
                    refine z_goto (tgt := 45) X dL_values_148 (by decide) ?_
                    refine Wz.less (lv' := [some (.ref (a 0)), some (.ref qb), some (.ref qv), some (.ref qc), some (.int (nI (wk S (l3 x y z) G))), some (.int (nI v)), some (.int (vsN S (wk S (l3 x y z) G) v kd)), some (.int (nI kd)), some (.int (blN S (wk S (l3 x y z) G) (nI v) (nI kd) (i + 1))), some (.int (abN S (wk S (l3 x y z) G) (nI v) (nI kd) (i + 1))), some (.int (grN S (wk S (l3 x y z) G) (nI v) (nI kd) (i + 1))), some (.int (nI (i + 1))), none]) (by simp [zle] <;> rfl) ?_
                    exact ih_i
                ·
                  refine z_iload X dL_values_120 rfl ?_
                  refine z_goto (tgt := 126) X dL_values_122 (by decide) ?_
                  refine z_iadd X dL_values_126 ?_
                  refine z_top (y := abN S (wk S (l3 x y z) G) (nI v) (nI kd) (i + 1)) (by first | exact ab_t hC9 c117 | exact ab_z hC9 c117) ?_
                  refine z_istore X dL_values_127 (Nat.le_of_ble_eq_true rfl) ?_
                  refine z_lv (lv' := [some (.ref (a 0)), some (.ref qb), some (.ref qv), some (.ref qc), some (.int (nI (wk S (l3 x y z) G))), some (.int (nI v)), some (.int (vsN S (wk S (l3 x y z) G) v kd)), some (.int (nI kd)), some (.int (blN S (wk S (l3 x y z) G) (nI v) (nI kd) (i + 1))), some (.int (abN S (wk S (l3 x y z) G) (nI v) (nI kd) (i + 1))), some (.int (grN S (wk S (l3 x y z) G) (nI v) (nI kd) i)), some (.int (nI i)), some (.int (S 9 i))]) rfl ?_
                  refine z_iload X dL_values_129 rfl ?_
                  refine z_iload X dL_values_131 rfl ?_
                  refine z_icmp_le (tgt := 141) X dL_values_133 (by decide) (fun c133 => ?_) (fun c133 => ?_)
                  ·
                    refine z_iload X dL_values_141 rfl ?_
                    refine z_top (y := grN S (wk S (l3 x y z) G) (nI v) (nI kd) (i + 1)) (by first | exact gr_t hC9 c133 | exact gr_z hC9 c133) ?_
                    refine z_istore X dL_values_143 (Nat.le_of_ble_eq_true rfl) ?_
                    refine z_lv (lv' := [some (.ref (a 0)), some (.ref qb), some (.ref qv), some (.ref qc), some (.int (nI (wk S (l3 x y z) G))), some (.int (nI v)), some (.int (vsN S (wk S (l3 x y z) G) v kd)), some (.int (nI kd)), some (.int (blN S (wk S (l3 x y z) G) (nI v) (nI kd) (i + 1))), some (.int (abN S (wk S (l3 x y z) G) (nI v) (nI kd) (i + 1))), some (.int (grN S (wk S (l3 x y z) G) (nI v) (nI kd) (i + 1))), some (.int (nI i)), some (.int (S 9 i))]) rfl ?_
                    refine z_iinc (v := nI (i + 1)) X dL_values_145 rfl (nI_add i 1) ?_
                    refine z_lv (lv' := [some (.ref (a 0)), some (.ref qb), some (.ref qv), some (.ref qc), some (.int (nI (wk S (l3 x y z) G))), some (.int (nI v)), some (.int (vsN S (wk S (l3 x y z) G) v kd)), some (.int (nI kd)), some (.int (blN S (wk S (l3 x y z) G) (nI v) (nI kd) (i + 1))), some (.int (abN S (wk S (l3 x y z) G) (nI v) (nI kd) (i + 1))), some (.int (grN S (wk S (l3 x y z) G) (nI v) (nI kd) (i + 1))), some (.int (nI (i + 1))), some (.int (S 9 i))]) rfl ?_
                    refine z_goto (tgt := 45) X dL_values_148 (by decide) ?_
                    refine Wz.less (lv' := [some (.ref (a 0)), some (.ref qb), some (.ref qv), some (.ref qc), some (.int (nI (wk S (l3 x y z) G))), some (.int (nI v)), some (.int (vsN S (wk S (l3 x y z) G) v kd)), some (.int (nI kd)), some (.int (blN S (wk S (l3 x y z) G) (nI v) (nI kd) (i + 1))), some (.int (abN S (wk S (l3 x y z) G) (nI v) (nI kd) (i + 1))), some (.int (grN S (wk S (l3 x y z) G) (nI v) (nI kd) (i + 1))), some (.int (nI (i + 1))), none]) (by simp [zle] <;> rfl) ?_
                    exact ih_i
                  ·
                    refine z_iload X dL_values_136 rfl ?_
                    refine z_goto (tgt := 143) X dL_values_138 (by decide) ?_
                    refine z_top (y := grN S (wk S (l3 x y z) G) (nI v) (nI kd) (i + 1)) (by first | exact gr_t hC9 c133 | exact gr_z hC9 c133) ?_
                    refine z_istore X dL_values_143 (Nat.le_of_ble_eq_true rfl) ?_
                    refine z_lv (lv' := [some (.ref (a 0)), some (.ref qb), some (.ref qv), some (.ref qc), some (.int (nI (wk S (l3 x y z) G))), some (.int (nI v)), some (.int (vsN S (wk S (l3 x y z) G) v kd)), some (.int (nI kd)), some (.int (blN S (wk S (l3 x y z) G) (nI v) (nI kd) (i + 1))), some (.int (abN S (wk S (l3 x y z) G) (nI v) (nI kd) (i + 1))), some (.int (grN S (wk S (l3 x y z) G) (nI v) (nI kd) (i + 1))), some (.int (nI i)), some (.int (S 9 i))]) rfl ?_
                    refine z_iinc (v := nI (i + 1)) X dL_values_145 rfl (nI_add i 1) ?_
                    refine z_lv (lv' := [some (.ref (a 0)), some (.ref qb), some (.ref qv), some (.ref qc), some (.int (nI (wk S (l3 x y z) G))), some (.int (nI v)), some (.int (vsN S (wk S (l3 x y z) G) v kd)), some (.int (nI kd)), some (.int (blN S (wk S (l3 x y z) G) (nI v) (nI kd) (i + 1))), some (.int (abN S (wk S (l3 x y z) G) (nI v) (nI kd) (i + 1))), some (.int (grN S (wk S (l3 x y z) G) (nI v) (nI kd) (i + 1))), some (.int (nI (i + 1))), some (.int (S 9 i))]) rfl ?_
                    refine z_goto (tgt := 45) X dL_values_148 (by decide) ?_
                    refine Wz.less (lv' := [some (.ref (a 0)), some (.ref qb), some (.ref qv), some (.ref qc), some (.int (nI (wk S (l3 x y z) G))), some (.int (nI v)), some (.int (vsN S (wk S (l3 x y z) G) v kd)), some (.int (nI kd)), some (.int (blN S (wk S (l3 x y z) G) (nI v) (nI kd) (i + 1))), some (.int (abN S (wk S (l3 x y z) G) (nI v) (nI kd) (i + 1))), some (.int (grN S (wk S (l3 x y z) G) (nI v) (nI kd) (i + 1))), some (.int (nI (i + 1))), none]) (by simp [zle] <;> rfl) ?_
                    exact ih_i
