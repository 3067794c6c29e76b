/-! the law's start -/
theorem opN_s {S : zS} {x y z G n : Nat} (h : mt S x y z G n) : opN S x y z G (n + 1) = opN S x y z G n ||| 2 ^ n := zif_t h
theorem mt_00 (j : Nat) (hs : ∀ s < 1, p8 s < 1) : mt S00 0 0 0 0 j := ⟨Nat.zero_testBit j, hs 0 (by decide), Or.inl rfl, Or.inl rfl, Or.inl rfl, Or.inl rfl⟩
theorem opN_00 : opN S00 0 0 0 0 8 = 255 := by
  have h : ∀ j, mt S00 0 0 0 0 j := fun j => mt_00 j (by decide)
  rw [opN_s (h 7), opN_s (h 6), opN_s (h 5), opN_s (h 4), opN_s (h 3), opN_s (h 2), opN_s (h 1), opN_s (h 0)]
  show 0 ||| 2 ^ 0 ||| 2 ^ 1 ||| 2 ^ 2 ||| 2 ^ 3 ||| 2 ^ 4 ||| 2 ^ 5 ||| 2 ^ 6 ||| 2 ^ 7 = 255
  decide
theorem K_00 : zKs S00 (fun _ => 8) 0 0 0 0 := by
  obtain ⟨h1, h2, h3, h4, h5, h6, h7, h8, h9⟩ := Iv_00
  exact ⟨h1, h2, h3, rfl, by decide, rfl, by decide, h9⟩
/-- a new object's private part -/
def z00 : zT := (0, 0, 0, 0, (fun _ => nI 0), S00 16)
theorem S00_6 {t : ClassId × ClassId × ClassId} {a : Nat → Nat} : wR t a S00 = wR t a (T6 S00 z00) := by
  show wR t a S00 = wR t a (T3 (va_up S00 16 (S00 16)) 0 0 0 0 (fun _ => nI 0))
  unfold T3
  rw [l3_000]
  rfl
theorem ini_up {f : Nat → Int32} {P : Nat → Int32 → Prop} {i : Nat} {v : Int32} (h : ∀ j, j < i → P j (f j)) (hv : P i v) : ∀ j, j < i + 1 → P j (upd f i v j) := fun j hj => by
  unfold upd
  by_cases e : j = i
  · rw [if_pos e, e]; exact hv
  · rw [if_neg e]; exact h j (by omega)
/-- the first contents of the law's arrays -/
def iB (j : Nat) (v : Int32) : Prop := (j % 3 = 0 → v = -1) ∧ (¬ j % 3 = 0 → v = nI 0)
def iV (j : Nat) (v : Int32) : Prop := (j % 4 = 0 → v = nI 0) ∧ (¬ j % 4 = 0 → v = -1)
theorem LB_00 {f : Nat → Int32} (h : ∀ j, j < 24 → iB j (f j)) : LB S00 f := fun g hg => ⟨(h (3 * g) (by omega)).1 (by omega), (h (3 * g + 1) (by omega)).2 (by omega), (h (3 * g + 2) (by omega)).2 (by omega)⟩
theorem LV_00 {f : Nat → Int32} (h : ∀ j, j < 24 → iV j (f j)) : LV S00 f := fun v hv => ⟨(h (4 * v) (by omega)).1 (by omega), (h (4 * v + 1) (by omega)).2 (by omega), (h (4 * v + 2) (by omega)).2 (by omega), (h (4 * v + 3) (by omega)).2 (by omega)⟩
theorem Gd_00 {p p2 : zT} {fB fV fC : Nat → Int32} (hB : ∀ j, j < 24 → iB j (fB j)) (hV : ∀ j, j < 24 → iV j (fV j)) (hC : ∀ j, j < 4 → fC j = nI 8) (h4 : fC 4 = nI 0) : Gd (S00, p, p2, fB, fV, fC) :=
  ⟨fun _ => 8, fun _ => 0, 0, 0, 0, 0, K_00, fun j hj => absurd hj (Nat.not_lt_zero j), fun j hj => absurd hj (Nat.not_lt_zero j), ⟨rfl, rfl, rfl⟩, LB_00 hB, LV_00 hV, hC, h4⟩
set_option maxHeartbeats 1000000 in
set_option maxRecDepth 100000 in
theorem lw_loop {E : zE} {D : va_G} {t : ClassId × ClassId × ClassId} {l : Launch} {bs L : Nat} {xs : Nat → Int32} (X : zX E RL code 9 (zRm 64 646323 7162802) D t l) (V : zTry E) (hX : va_X bs L xs (zs E) (zs E).heap) (hbl : bs < (zs E).heap.size) (hbA : ¬ zA E bs) (hL : L ≤ 260) (hfl : l.stackTraces = false) (F : ∀ (k n : Nat), k ≤ 646323 → n ≤ 7162802 → ∀ lv ws, Wz E k n 327 lv [.int (nI 1)] ws) {a b : Nat → Nat} {qb qv qc : Nat} (Y : zWr E (aR a ++ aR b ++ [qb, qv, qc])) (u : zU) (hu : Gd u) : Wz E (210) (1260) 170 [some (.ref bs), some (.ref (a 0)), some (.ref (b 0)), some (.ref qb), some (.ref qv), some (.ref qc), some (.int (nI 1)), some (.int (nI 0)), none] [] (wA t a b (T6 u.1 u.2.1) (T6 u.1 u.2.2.1) qb qv qc u.2.2.2.1 u.2.2.2.2.1 u.2.2.2.2.2) := by
  refine Wz.wide (k' := 190 * 0 + 210) (n' := 6 * (190 * 0 + 210)) (by omega) (by omega) ?_
  refine zl_up 90 (fun i => ∀ (u : zU), Gd u → Wz E (190 * i + 210) (6 * (190 * i + 210)) 170 [some (.ref bs), some (.ref (a 0)), some (.ref (b 0)), some (.ref qb), some (.ref qv), some (.ref qc), some (.int (nI 1)), some (.int (nI i)), none] [] (wA t a b (T6 u.1 u.2.1) (T6 u.1 u.2.2.1) qb qv qc u.2.2.2.1 u.2.2.2.2.1 u.2.2.2.2.2)) ?_ ?_ 0 (by omega) u hu
  ·
    intro u hv_i
    refine Wz.wide (k' := 17310) (n' := 103860) (by omega) (by omega) ?_
    refine z_iload X dL_law_170 rfl ?_
    refine z_bipush (v := nI 90) X dL_law_172 (by decide) ?_
    refine n_icmp_ge (tgt := 325) X dL_law_174 (by decide) (by omega) (by omega) (fun _ => ?_) (fun c174 => absurd c174 (by decide))
    refine z_iload X dL_law_325 rfl ?_
    exact F _ _ (by omega) (by omega) _ _
  ·
    intro i hi_i ih_i u hv_i
    obtain ⟨sc0, tk0, x0, y0, z0, G0, hGx⟩ := hv_i
    refine z_iload X dL_law_170 rfl ?_
    refine z_bipush (v := nI 90) X dL_law_172 (by decide) ?_
    refine n_icmp_ge (tgt := 325) X dL_law_174 (by decide) (by omega) (by omega) (fun c174 => absurd c174 (by omega)) (fun _ => ?_)
    refine z_iload X dL_law_177 rfl ?_
    refine n_if_eq (tgt := 325) X dL_law_179 (by decide) (by omega) (fun c179 => absurd c179 (by decide)) (fun _ => ?_)
    refine z_aload_n X dL_law_182 rfl rfl ?_
    refine z_aload_n X dL_law_183 rfl rfl ?_
    refine z_aload_n X dL_law_184 rfl rfl ?_
    refine z_aload X dL_law_185 rfl ?_
    refine z_aload X dL_law_187 rfl ?_
    refine z_aload_n X dL_law_189 rfl rfl ?_
    refine z_iconst (v := nI 2) X dL_law_190 (by decide) ?_
    refine z_iload X dL_law_191 rfl ?_
    refine n_imul X dL_law_193 ?_
    refine z_at (k := 190 * i + 210) (n := 6 * (190 * i + 210)) (st := [.ref qc, .ref qv, .ref qb, .ref (b 0), .ref (a 0)]) (j := 2 * i) X hX hbl hbA (by omega) (by omega) q_ml_L_157 (by decide) rfl (Nat.le_of_ble_eq_true rfl) ⟨by omega, by omega⟩ dL_law_194 (fun r194 => ?_)
    refine z_aload_n X dL_law_197 rfl rfl ?_
    refine z_iconst (v := nI 2) X dL_law_198 (by decide) ?_
    refine z_iload X dL_law_199 rfl ?_
    refine n_imul X dL_law_201 ?_
    refine z_iconst (v := nI 1) X dL_law_202 (by decide) ?_
    refine n_iadd X dL_law_203 ?_
    refine z_at (k := 190 * i + 210) (n := 6 * (190 * i + 210)) (st := [.int r194, .ref qc, .ref qv, .ref qb, .ref (b 0), .ref (a 0)]) (j := (2 * i) + 1) X hX hbl hbA (by omega) (by omega) q_ml_L_157 (by decide) rfl (Nat.le_of_ble_eq_true rfl) ⟨by omega, by omega⟩ dL_law_204 (fun r204 => ?_)
    refine z_w8 (k := 190 * i + 210) (n := 6 * (190 * i + 210)) (k' := 190 * i + 230) (n' := 6 * (190 * i + 230)) (st := []) X Y aA_eq V (fun sz => c_L_acts l hfl D t sz a b qb qv qc hGx r194 r204) k8_acts q_ml_L_161 is51 ⟨by decide, rfl⟩ (fun u => wA t a b (T6 u.1 u.2.1) (T6 u.1 u.2.2.1) qb qv qc u.2.2.2.1 u.2.2.2.2.1 u.2.2.2.2.2) (fun u => ⟨⟨by decide, rfl⟩, ⟨by decide, rfl⟩, rfl, rfl⟩) (by decide) (by decide) rfl rfl rfl (Nat.le_of_ble_eq_true rfl) ⟨by omega, by omega⟩ ⟨by omega, by omega⟩ dL_law_207 (fun r207 u207 h207 => ?_)
    obtain ⟨rfl, hGd⟩ := h207
    obtain ⟨sc1, tk1, x1, y1, z1, G1, g1, g2, g3, g4, g5, g6, g7⟩ := id hGd
    have hX1 := K_X g1
    have hp1 := p8_le G1 (K_G g1)
    refine n_if_eq (tgt := 238) X dL_law_210 (by decide) (by omega) (fun c210 => absurd c210 (by decide)) (fun _ => ?_)
    refine z_aload_n X dL_law_213 rfl rfl ?_
    refine z_aload X dL_law_214 rfl ?_
    refine z_w8 (k := 190 * i + 230) (n := 6 * (190 * i + 230)) (k' := 190 * i + 260) (n' := 6 * (190 * i + 260)) (st := []) X Y aA_eq V (fun sz => c_L_numbers l hfl D t sz a b u207.2.1 (T6 u207.1 u207.2.2.1) qb qv qc u207.2.2.2.1 u207.2.2.2.2.1 u207.2.2.2.2.2 g1 g7) k8_numbers q_ml_L_165 is51 ⟨by decide, rfl⟩ (fun u => wA t a b (T6 u207.1 u207.2.1) (T6 u207.1 u207.2.2.1) qb qv qc u207.2.2.2.1 u207.2.2.2.2.1 u207.2.2.2.2.2) (fun u => ⟨⟨by decide, rfl⟩, ⟨by decide, rfl⟩, rfl, rfl⟩) (by decide) (by decide) rfl rfl rfl (Nat.le_of_ble_eq_true rfl) ⟨by omega, by omega⟩ ⟨by omega, by omega⟩ dL_law_216 (fun r216 u216 h216 => ?_)
    subst h216
    refine n_if_eq (tgt := 238) X dL_law_219 (by decide) (by omega) (fun c219 => absurd c219 (by decide)) (fun _ => ?_)
    refine z_aload_n X dL_law_222 rfl rfl ?_
    refine z_aload_n X dL_law_223 rfl rfl ?_
    refine z_aload X dL_law_224 rfl ?_
    refine z_aload X dL_law_226 rfl ?_
    refine z_w8 (k := 190 * i + 260) (n := 6 * (190 * i + 260)) (k' := 190 * i + 320) (n' := 6 * (190 * i + 320)) (st := []) X Y aA_eq V (fun sz => c_L_values l hfl D t sz a b u207.2.1 (T6 u207.1 u207.2.2.1) qb qv qc u207.2.2.2.1 u207.2.2.2.2.1 u207.2.2.2.2.2 g1 g5 g6 g7) k8_values q_ml_L_169 is51 ⟨by decide, rfl⟩ (fun u => wA t a b (T6 u207.1 u207.2.1) (T6 u207.1 u207.2.2.1) qb qv qc u207.2.2.2.1 u207.2.2.2.2.1 u207.2.2.2.2.2) (fun u => ⟨⟨by decide, rfl⟩, ⟨by decide, rfl⟩, rfl, rfl⟩) (by decide) (by decide) rfl rfl rfl (Nat.le_of_ble_eq_true rfl) ⟨by omega, by omega⟩ ⟨by omega, by omega⟩ dL_law_228 (fun r228 u228 h228 => ?_)
    subst h228
    refine n_if_eq (tgt := 238) X dL_law_231 (by decide) (by omega) (fun c231 => absurd c231 (by decide)) (fun _ => ?_)
    refine z_iconst (v := nI 1) X dL_law_234 (by decide) ?_
    refine z_goto (tgt := 239) X dL_law_235 (by decide) ?_
    refine z_istore X dL_law_239 (Nat.le_of_ble_eq_true rfl) ?_
    refine z_lv (lv' := [some (.ref bs), some (.ref (a 0)), some (.ref (b 0)), some (.ref qb), some (.ref qv), some (.ref qc), some (.int (nI 1)), some (.int (nI i)), none]) rfl ?_
    refine z_iload X dL_law_241 rfl ?_
    refine n_if_eq (tgt := 319) X dL_law_243 (by decide) (by omega) (fun c243 => absurd c243 (by decide)) (fun _ => ?_)
    refine z_iload X dL_law_246 rfl ?_
    refine z_bipush (v := nI 10) X dL_law_248 (by decide) ?_
    refine n_irem X dL_law_250 (by omega) (by decide) (by decide) ?_
    refine z_bipush (v := nI 9) X dL_law_251 (by decide) ?_
    refine n_icmp_ne (tgt := 319) X dL_law_253 (by decide) (by omega) (by omega) (fun c253 => ?_) (fun c253 => ?_)
    ·
      refine z_iinc (v := nI (i + 1)) X dL_law_319 rfl (nI_add i 1) ?_
      refine z_lv (lv' := [some (.ref bs), some (.ref (a 0)), some (.ref (b 0)), some (.ref qb), some (.ref qv), some (.ref qc), some (.int (nI 1)), some (.int (nI (i + 1))), none]) rfl ?_
      refine z_goto (tgt := 170) X dL_law_322 (by decide) ?_
      refine Wz.wide (k' := 190 * (i + 1) + 210) (n' := 6 * (190 * (i + 1) + 210)) (by omega) (by omega) ?_
      exact ih_i u207 hGd
    ·
      refine z_aload_n X dL_law_256 rfl rfl ?_
      refine z_callV2 (k := 190 * i + 320) (n := 6 * (190 * i + 320)) (st := []) X Y aA_eq (o_isLawful l D t a u207.2.1 g1) k_X3_isLawful q_ml_L_112 is24 (fun u => wA t a b (T6 u207.1 (p0 u u207.2.1)) (T6 u207.1 u207.2.2.1) qb qv qc u207.2.2.2.1 u207.2.2.2.2.1 u207.2.2.2.2.2) (fun u => ⟨⟨by decide, rfl⟩, ⟨by decide, rfl⟩, rfl, rfl⟩) ⟨by decide, rfl⟩ 0 3 rfl rfl (by decide) rfl rfl rfl (Nat.le_of_ble_eq_true rfl) ⟨by omega, by omega⟩ dL_law_257 (fun r257 u257 h257 => ?_)
      rcases h257 with ⟨rfl, hR⟩ | ⟨rfl, hR⟩
      ·
        refine z_istore X dL_law_260 (Nat.le_of_ble_eq_true rfl) ?_
        refine z_lv (lv' := [some (.ref bs), some (.ref (a 0)), some (.ref (b 0)), some (.ref qb), some (.ref qv), some (.ref qc), some (.int (nI 1)), some (.int (nI i)), some (.int (nI 1))]) rfl ?_
        refine z_aload_n X dL_law_262 rfl rfl ?_
        refine z_aload_n X dL_law_263 rfl rfl ?_
        refine z_w8 (k := 190 * i + 320) (n := 6 * (190 * i + 320)) (k' := 190 * i + 400) (n' := 6 * (190 * i + 400)) (st := []) X Y aA_eq V (fun sz => c_L_orders l hfl D t sz a b (p0 u257 u207.2.1) u207.2.2.1 qb qv qc u207.2.2.2.1 u207.2.2.2.2.1 u207.2.2.2.2.2 g1) k8_orders q_ml_L_173 is51 ⟨by decide, rfl⟩ (fun u => wA t a b (T6 u207.1 u.1) (T6 u207.1 u.2) qb qv qc u207.2.2.2.1 u207.2.2.2.2.1 u207.2.2.2.2.2) (fun u => ⟨⟨by decide, rfl⟩, ⟨by decide, rfl⟩, rfl, rfl⟩) (by decide) (by decide) rfl rfl rfl (Nat.le_of_ble_eq_true rfl) ⟨by omega, by omega⟩ ⟨by omega, by omega⟩ dL_law_264 (fun r264 u264 h264 => ?_)
        obtain ⟨rfl, f1, f2⟩ := h264
        refine z_istore X dL_law_267 (Nat.le_of_ble_eq_true rfl) ?_
        refine z_lv (lv' := [some (.ref bs), some (.ref (a 0)), some (.ref (b 0)), some (.ref qb), some (.ref qv), some (.ref qc), some (.int (nI 1)), some (.int (nI i)), some (.int (nI 1))]) rfl ?_
        refine z_aload X dL_law_269 rfl ?_
        refine z_iconst (v := nI 4) X dL_law_271 (by decide) ?_
        refine z_iload X dL_law_272 rfl ?_
        refine n_if_eq (tgt := 286) X dL_law_274 (by decide) (by omega) (fun c274 => absurd c274 (by decide)) (fun _ => ?_)
        refine z_iload X dL_law_277 rfl ?_
        refine n_if_eq (tgt := 286) X dL_law_279 (by decide) (by omega) (fun c279 => absurd c279 (by decide)) (fun _ => ?_)
        refine z_iconst (v := nI 0) X dL_law_282 (by decide) ?_
        refine z_goto (tgt := 290) X dL_law_283 (by decide) ?_
        refine n_iast X Y 50 aA_eq rfl (by omega) (by decide) dL_law_290 ?_
        refine Wz.eq (uA_C (f := upd u207.2.2.2.2.2 4 (nI 0))) ?_
        refine z_iload X dL_law_291 rfl ?_
        refine n_if_eq (tgt := 316) X dL_law_293 (by decide) (by omega) (fun c293 => absurd c293 (by decide)) (fun _ => ?_)
        refine z_iload X dL_law_296 rfl ?_
        refine n_if_eq (tgt := 312) X dL_law_298 (by decide) (by omega) (fun c298 => absurd c298 (by decide)) (fun _ => ?_)
        refine z_aload_n X dL_law_301 rfl rfl ?_
        refine z_callV2 (k := 190 * i + 400) (n := 6 * (190 * i + 400)) (st := []) X Y aA_eq (o_clear l D t b u264.2 g1) k_X3_clear q_ml_L_120 is24t (fun u => wA t a b (T6 u207.1 u264.1) (T6 (clS u207.1) u264.2) qb qv qc u207.2.2.2.1 u207.2.2.2.2.1 (upd u207.2.2.2.2.2 4 (nI 0))) (fun u => ⟨⟨by decide, rfl⟩, ⟨by decide, rfl⟩, rfl, rfl⟩) ⟨by decide, rfl⟩ 24 3 rfl rfl (by decide) rfl rfl rfl (Nat.le_of_ble_eq_true rfl) ⟨by omega, by omega⟩ dL_law_302 (fun r302 u302 h302 => ?_)
        subst h302
        refine z_aload_n X dL_law_305 rfl rfl ?_
        refine z_callV2 (k := 190 * i + 400) (n := 6 * (190 * i + 400)) (st := [.int (nI (x1 + y1 + z1 + p8 G1))]) X Y aA_eq (o_clear l D t a u264.1 g1) k_X3_clear q_ml_L_120 is24 (fun u => wA t a b (T6 (clS u207.1) u264.1) (T6 (clS u207.1) u264.2) qb qv qc u207.2.2.2.1 u207.2.2.2.2.1 (upd u207.2.2.2.2.2 4 (nI 0))) (fun u => ⟨⟨by decide, rfl⟩, ⟨by decide, rfl⟩, rfl, rfl⟩) ⟨by decide, rfl⟩ 0 3 rfl rfl (by decide) rfl rfl rfl (Nat.le_of_ble_eq_true rfl) ⟨by omega, by omega⟩ dL_law_306 (fun r306 u306 h306 => ?_)
        subst h306
        refine n_icmp_ne (tgt := 316) X dL_law_309 (by decide) (by omega) (by omega) (fun c309 => absurd c309 (by omega)) (fun _ => ?_)
        refine z_iconst (v := nI 1) X dL_law_312 (by decide) ?_
        refine z_goto (tgt := 317) X dL_law_313 (by decide) ?_
        refine z_istore X dL_law_317 (Nat.le_of_ble_eq_true rfl) ?_
        refine z_lv (lv' := [some (.ref bs), some (.ref (a 0)), some (.ref (b 0)), some (.ref qb), some (.ref qv), some (.ref qc), some (.int (nI 1)), some (.int (nI i)), some (.int (nI 1))]) rfl ?_
        refine z_iinc (v := nI (i + 1)) X dL_law_319 rfl (nI_add i 1) ?_
        refine z_lv (lv' := [some (.ref bs), some (.ref (a 0)), some (.ref (b 0)), some (.ref qb), some (.ref qv), some (.ref qc), some (.int (nI 1)), some (.int (nI (i + 1))), some (.int (nI 1))]) rfl ?_
        refine z_goto (tgt := 170) X dL_law_322 (by decide) ?_
        refine Wz.wide (k' := 190 * (i + 1) + 210) (n' := 6 * (190 * (i + 1) + 210)) (by omega) (by omega) ?_
        refine Wz.less (lv' := [some (.ref bs), some (.ref (a 0)), some (.ref (b 0)), some (.ref qb), some (.ref qv), some (.ref qc), some (.int (nI 1)), some (.int (nI (i + 1))), none]) (by simp [zle] <;> rfl) ?_
        exact ih_i (clS u207.1, u264.1, u264.2, u207.2.2.2.1, u207.2.2.2.2.1, upd u207.2.2.2.2.2 4 (nI 0)) (⟨sc1, tk1, 0, 0, 0, 0, K_clear g1, fun j hj => absurd hj (Nat.not_lt_zero j), fun j hj => absurd hj (Nat.not_lt_zero j), ⟨rfl, rfl, rfl⟩, g5, g6, LC_m g7⟩)
      ·
        refine z_istore X dL_law_260 (Nat.le_of_ble_eq_true rfl) ?_
        refine z_lv (lv' := [some (.ref bs), some (.ref (a 0)), some (.ref (b 0)), some (.ref qb), some (.ref qv), some (.ref qc), some (.int (nI 1)), some (.int (nI i)), some (.int (nI 0))]) rfl ?_
        refine z_aload_n X dL_law_262 rfl rfl ?_
        refine z_aload_n X dL_law_263 rfl rfl ?_
        refine z_w8 (k := 190 * i + 320) (n := 6 * (190 * i + 320)) (k' := 190 * i + 400) (n' := 6 * (190 * i + 400)) (st := []) X Y aA_eq V (fun sz => c_L_orders l hfl D t sz a b (p0 u257 u207.2.1) u207.2.2.1 qb qv qc u207.2.2.2.1 u207.2.2.2.2.1 u207.2.2.2.2.2 g1) k8_orders q_ml_L_173 is51 ⟨by decide, rfl⟩ (fun u => wA t a b (T6 u207.1 u.1) (T6 u207.1 u.2) qb qv qc u207.2.2.2.1 u207.2.2.2.2.1 u207.2.2.2.2.2) (fun u => ⟨⟨by decide, rfl⟩, ⟨by decide, rfl⟩, rfl, rfl⟩) (by decide) (by decide) rfl rfl rfl (Nat.le_of_ble_eq_true rfl) ⟨by omega, by omega⟩ ⟨by omega, by omega⟩ dL_law_264 (fun r264 u264 h264 => ?_)
        obtain ⟨rfl, f1, f2⟩ := h264
        refine z_istore X dL_law_267 (Nat.le_of_ble_eq_true rfl) ?_
        refine z_lv (lv' := [some (.ref bs), some (.ref (a 0)), some (.ref (b 0)), some (.ref qb), some (.ref qv), some (.ref qc), some (.int (nI 1)), some (.int (nI i)), some (.int (nI 0))]) rfl ?_
        refine z_aload X dL_law_269 rfl ?_
        refine z_iconst (v := nI 4) X dL_law_271 (by decide) ?_
        refine z_iload X dL_law_272 rfl ?_
        refine n_if_eq (tgt := 286) X dL_law_274 (by decide) (by omega) (fun c274 => absurd c274 (by decide)) (fun _ => ?_)
        refine z_iload X dL_law_277 rfl ?_
        refine n_if_eq (tgt := 286) X dL_law_279 (by decide) (by omega) (fun _ => ?_) (fun c279 => absurd c279 (by decide))
        refine z_aload X dL_law_286 rfl ?_
        refine z_iconst (v := nI 4) X dL_law_288 (by decide) ?_
        refine n_iald (f := u207.2.2.2.2.2) X 50 rfl (by omega) (by decide) dL_law_289 ?_
        refine z_top (y := nI (x1 + y1 + z1)) (g7.2) ?_
        refine n_iast X Y 50 aA_eq rfl (by omega) (by decide) dL_law_290 ?_
        refine Wz.eq (uA_C (f := upd u207.2.2.2.2.2 4 (nI (x1 + y1 + z1)))) ?_
        refine z_iload X dL_law_291 rfl ?_
        refine n_if_eq (tgt := 316) X dL_law_293 (by decide) (by omega) (fun c293 => absurd c293 (by decide)) (fun _ => ?_)
        refine z_iload X dL_law_296 rfl ?_
        refine n_if_eq (tgt := 312) X dL_law_298 (by decide) (by omega) (fun _ => ?_) (fun c298 => absurd c298 (by decide))
        refine z_iconst (v := nI 1) X dL_law_312 (by decide) ?_
        refine z_goto (tgt := 317) X dL_law_313 (by decide) ?_
        refine z_istore X dL_law_317 (Nat.le_of_ble_eq_true rfl) ?_
        refine z_lv (lv' := [some (.ref bs), some (.ref (a 0)), some (.ref (b 0)), some (.ref qb), some (.ref qv), some (.ref qc), some (.int (nI 1)), some (.int (nI i)), some (.int (nI 0))]) rfl ?_
        refine z_iinc (v := nI (i + 1)) X dL_law_319 rfl (nI_add i 1) ?_
        refine z_lv (lv' := [some (.ref bs), some (.ref (a 0)), some (.ref (b 0)), some (.ref qb), some (.ref qv), some (.ref qc), some (.int (nI 1)), some (.int (nI (i + 1))), some (.int (nI 0))]) rfl ?_
        refine z_goto (tgt := 170) X dL_law_322 (by decide) ?_
        refine Wz.wide (k' := 190 * (i + 1) + 210) (n' := 6 * (190 * (i + 1) + 210)) (by omega) (by omega) ?_
        refine Wz.less (lv' := [some (.ref bs), some (.ref (a 0)), some (.ref (b 0)), some (.ref qb), some (.ref qv), some (.ref qc), some (.int (nI 1)), some (.int (nI (i + 1))), none]) (by simp [zle] <;> rfl) ?_
        exact ih_i (u207.1, u264.1, u264.2, u207.2.2.2.1, u207.2.2.2.2.1, upd u207.2.2.2.2.2 4 (nI (x1 + y1 + z1))) (⟨sc1, tk1, x1, y1, z1, G1, g1, by rw [f1]; exact g2, by rw [f2 hR]; exact g3, g4, g5, g6, LC_m g7⟩)
