/-! the JDK's four methods -/
theorem zcell {D : va_G} {cA : ClassId} {q m : Nat} {f g : Nat → Int32} {H : Heap} (h : ∀ j, j < m → f j = g j) (hP : va_P D vwCl [(q, .inl (cA, m, .inl f))] H) : va_P D vwCl [(q, .inl (cA, m, .inl g))] H := by
  intro k x hx
  cases k with
  | succ k => simp at hx
  | zero =>
    simp at hx
    subst hx
    have h0 := hP 0 _ rfl
    show H[q]? = some (vp_cell cA (m, .inl g))
    rw [show vp_cell cA (m, .inl g) = vp_cell cA (m, .inl f) from ?_]
    · exact h0
    · rw [vp_cell_i, vp_cell_i]
      unfold arrV
      congr 1
      apply Array.ext
      · simp
      · intro i h1 h2
        simp at h1
        simp [h i h1]
def flN (f : Nat → Int32) (v : Int32) (i : Nat) : Nat → Int32 := fun j => if j < i then v else f j
theorem flN_0 {f : Nat → Int32} {v : Int32} : flN f v 0 = f := by funext j; simp [flN]
theorem flN_s {f : Nat → Int32} {v : Int32} {i : Nat} : upd (flN f v i) i v = flN f v (i + 1) := by
  funext j
  unfold upd flN
  by_cases h : j = i
  · simp [h]
  · by_cases h2 : j < i
    · simp [h, h2, Nat.lt_succ_of_lt h2]
    · simp [h, h2, show ¬ j < i + 1 by omega]
set_option maxHeartbeats 4000000 in
set_option maxRecDepth 100000 in
theorem c_J7_fill_53178 (l : Launch) (D : va_G) (t : ClassId × ClassId × ClassId) (q m : Nat) (f : Nat → Int32) (v : Int32) (hm : m < 2 ^ 31) : zM3 l yJ7_fill_53178 cJ7_fill_53178 4 0 D t [.ref q, .int v] ([(q, .inl (t.1, m, .inl f))]) (fun _ : Unit => True) (fun _ => [(q, .inl (t.1, m, .inl (fun _ => v)))]) := by
  refine z_m3 (by decide +kernel) (Nat.le_of_ble_eq_true rfl) (by simp [Value.category]) ?_
  intro E X Z Y
  refine z_lv (lv' := [some (.ref q), some (.int v), none, none]) rfl ?_
  refine z_iconst (v := nI 0) X dJ7_fill_53178_0 (by decide) ?_
  refine z_istore_n X dJ7_fill_53178_1 rfl (Nat.le_of_ble_eq_true rfl) ?_
  refine z_lv (lv' := [some (.ref q), some (.int v), some (.int (nI 0)), none]) rfl ?_
  refine z_aload_n X dJ7_fill_53178_2 rfl rfl ?_
  refine z_alen X (v := nI m) 0 rfl rfl dJ7_fill_53178_3 ?_
  refine z_istore_n X dJ7_fill_53178_4 rfl (Nat.le_of_ble_eq_true rfl) ?_
  refine z_lv (lv' := [some (.ref q), some (.int v), some (.int (nI 0)), some (.int (nI m))]) rfl ?_
  rw [show f = flN f v 0 from flN_0.symm]
  refine zl_up m (fun i => Wz E 0 0 5 [some (.ref q), some (.int v), some (.int (nI i)), some (.int (nI m))] [] ([(q, .inl (t.1, m, .inl (flN f v i)))])) ?_ ?_ 0 (by omega)
  ·
    refine z_iload_n X dJ7_fill_53178_5 rfl rfl ?_
    refine z_iload_n X dJ7_fill_53178_6 rfl rfl ?_
    refine n_icmp_ge (tgt := 20) X dJ7_fill_53178_7 (by decide) (by omega) (by omega) (fun _ => ?_) (fun c7 => absurd c7 (by omega))
    refine z_vret X Z dJ7_fill_53178_20 ?_
    exact ⟨(), trivial, fun q hq => zcell (fun j hj => by simp [flN, hj]) hq⟩
  ·
    intro i hi ih
    refine z_iload_n X dJ7_fill_53178_5 rfl rfl ?_
    refine z_iload_n X dJ7_fill_53178_6 rfl rfl ?_
    refine n_icmp_ge (tgt := 20) X dJ7_fill_53178_7 (by decide) (by omega) (by omega) (fun c7 => absurd c7 (by omega)) (fun _ => ?_)
    refine z_aload_n X dJ7_fill_53178_10 rfl rfl ?_
    refine z_iload_n X dJ7_fill_53178_11 rfl rfl ?_
    refine z_iload_n X dJ7_fill_53178_12 rfl rfl ?_
    refine n_iast X Y 0 rfl rfl (by omega) (by omega) dJ7_fill_53178_13 ?_
    rw [flN_s]
    refine Wz.eq (ws' := [(q, .inl (t.1, m, .inl (flN f v (i + 1))))]) rfl ?_
    refine z_iinc (v := nI (i + 1)) X dJ7_fill_53178_14 rfl (nI_add i 1) ?_
    refine z_lv (lv' := [some (.ref q), some (.int v), some (.int (nI (i + 1))), some (.int (nI m))]) rfl ?_
    refine z_goto (tgt := 5) X dJ7_fill_53178_17 (by decide) ?_
    exact ih
set_option maxHeartbeats 4000000 in
set_option maxRecDepth 100000 in
theorem c_J6_bitCount_0f7a4 (l : Launch) (D : va_G) (t : ClassId × ClassId × ClassId) (s : Nat) (hs : s < 256) : zM1 l yJ6_bitCount_0f7a4 cJ6_bitCount_0f7a4 1 (some .int) 0 D t [.int (nI s)] ([]) (fun r => r = nI (p8 s)) := by
  refine z_m1 (by decide +kernel) (Nat.le_of_ble_eq_true rfl) (by simp [Value.category]) ?_
  intro E X Z
  refine z_lv (lv' := [some (.int (nI s))]) rfl ?_
  refine z_iload_n X dJ6_bitCount_0f7a4_0 rfl rfl ?_
  refine z_iload_n X dJ6_bitCount_0f7a4_1 rfl rfl ?_
  refine z_iconst (v := nI 1) X dJ6_bitCount_0f7a4_2 (by decide) ?_
  refine z_iushr X dJ6_bitCount_0f7a4_3 ?_
  refine z_ldcw X q_k_J6_265 dJ6_bitCount_0f7a4_4 ?_
  refine z_iand X dJ6_bitCount_0f7a4_7 ?_
  refine z_isub X dJ6_bitCount_0f7a4_8 ?_
  refine z_istore_n X dJ6_bitCount_0f7a4_9 rfl (Nat.le_of_ble_eq_true rfl) ?_
  refine z_lv (lv' := [some (.int ((nI s) - ((((nI s).toUInt32 >>> ((nI 1).toUInt32 &&& Int32.toUInt32 31)).toInt32) &&& (1431655765))))]) rfl ?_
  refine z_iload_n X dJ6_bitCount_0f7a4_10 rfl rfl ?_
  refine z_ldcw X q_k_J6_266 dJ6_bitCount_0f7a4_11 ?_
  refine z_iand X dJ6_bitCount_0f7a4_14 ?_
  refine z_iload_n X dJ6_bitCount_0f7a4_15 rfl rfl ?_
  refine z_iconst (v := nI 2) X dJ6_bitCount_0f7a4_16 (by decide) ?_
  refine z_iushr X dJ6_bitCount_0f7a4_17 ?_
  refine z_ldcw X q_k_J6_266 dJ6_bitCount_0f7a4_18 ?_
  refine z_iand X dJ6_bitCount_0f7a4_21 ?_
  refine z_iadd X dJ6_bitCount_0f7a4_22 ?_
  refine z_istore_n X dJ6_bitCount_0f7a4_23 rfl (Nat.le_of_ble_eq_true rfl) ?_
  refine z_lv (lv' := [some (.int ((((nI s) - ((((nI s).toUInt32 >>> ((nI 1).toUInt32 &&& Int32.toUInt32 31)).toInt32) &&& (1431655765))) &&& (858993459)) + (((((nI s) - ((((nI s).toUInt32 >>> ((nI 1).toUInt32 &&& Int32.toUInt32 31)).toInt32) &&& (1431655765))).toUInt32 >>> ((nI 2).toUInt32 &&& Int32.toUInt32 31)).toInt32) &&& (858993459))))]) rfl ?_
  refine z_iload_n X dJ6_bitCount_0f7a4_24 rfl rfl ?_
  refine z_iload_n X dJ6_bitCount_0f7a4_25 rfl rfl ?_
  refine z_iconst (v := nI 4) X dJ6_bitCount_0f7a4_26 (by decide) ?_
  refine z_iushr X dJ6_bitCount_0f7a4_27 ?_
  refine z_iadd X dJ6_bitCount_0f7a4_28 ?_
  refine z_ldcw X q_k_J6_267 dJ6_bitCount_0f7a4_29 ?_
  refine z_iand X dJ6_bitCount_0f7a4_32 ?_
  refine z_istore_n X dJ6_bitCount_0f7a4_33 rfl (Nat.le_of_ble_eq_true rfl) ?_
  refine z_lv (lv' := [some (.int ((((((nI s) - ((((nI s).toUInt32 >>> ((nI 1).toUInt32 &&& Int32.toUInt32 31)).toInt32) &&& (1431655765))) &&& (858993459)) + (((((nI s) - ((((nI s).toUInt32 >>> ((nI 1).toUInt32 &&& Int32.toUInt32 31)).toInt32) &&& (1431655765))).toUInt32 >>> ((nI 2).toUInt32 &&& Int32.toUInt32 31)).toInt32) &&& (858993459))) + ((((((nI s) - ((((nI s).toUInt32 >>> ((nI 1).toUInt32 &&& Int32.toUInt32 31)).toInt32) &&& (1431655765))) &&& (858993459)) + (((((nI s) - ((((nI s).toUInt32 >>> ((nI 1).toUInt32 &&& Int32.toUInt32 31)).toInt32) &&& (1431655765))).toUInt32 >>> ((nI 2).toUInt32 &&& Int32.toUInt32 31)).toInt32) &&& (858993459))).toUInt32 >>> ((nI 4).toUInt32 &&& Int32.toUInt32 31)).toInt32)) &&& (252645135)))]) rfl ?_
  refine z_iload_n X dJ6_bitCount_0f7a4_34 rfl rfl ?_
  refine z_iload_n X dJ6_bitCount_0f7a4_35 rfl rfl ?_
  refine z_bipush (v := nI 8) X dJ6_bitCount_0f7a4_36 (by decide) ?_
  refine z_iushr X dJ6_bitCount_0f7a4_38 ?_
  refine z_iadd X dJ6_bitCount_0f7a4_39 ?_
  refine z_istore_n X dJ6_bitCount_0f7a4_40 rfl (Nat.le_of_ble_eq_true rfl) ?_
  refine z_lv (lv' := [some (.int (((((((nI s) - ((((nI s).toUInt32 >>> ((nI 1).toUInt32 &&& Int32.toUInt32 31)).toInt32) &&& (1431655765))) &&& (858993459)) + (((((nI s) - ((((nI s).toUInt32 >>> ((nI 1).toUInt32 &&& Int32.toUInt32 31)).toInt32) &&& (1431655765))).toUInt32 >>> ((nI 2).toUInt32 &&& Int32.toUInt32 31)).toInt32) &&& (858993459))) + ((((((nI s) - ((((nI s).toUInt32 >>> ((nI 1).toUInt32 &&& Int32.toUInt32 31)).toInt32) &&& (1431655765))) &&& (858993459)) + (((((nI s) - ((((nI s).toUInt32 >>> ((nI 1).toUInt32 &&& Int32.toUInt32 31)).toInt32) &&& (1431655765))).toUInt32 >>> ((nI 2).toUInt32 &&& Int32.toUInt32 31)).toInt32) &&& (858993459))).toUInt32 >>> ((nI 4).toUInt32 &&& Int32.toUInt32 31)).toInt32)) &&& (252645135)) + ((((((((nI s) - ((((nI s).toUInt32 >>> ((nI 1).toUInt32 &&& Int32.toUInt32 31)).toInt32) &&& (1431655765))) &&& (858993459)) + (((((nI s) - ((((nI s).toUInt32 >>> ((nI 1).toUInt32 &&& Int32.toUInt32 31)).toInt32) &&& (1431655765))).toUInt32 >>> ((nI 2).toUInt32 &&& Int32.toUInt32 31)).toInt32) &&& (858993459))) + ((((((nI s) - ((((nI s).toUInt32 >>> ((nI 1).toUInt32 &&& Int32.toUInt32 31)).toInt32) &&& (1431655765))) &&& (858993459)) + (((((nI s) - ((((nI s).toUInt32 >>> ((nI 1).toUInt32 &&& Int32.toUInt32 31)).toInt32) &&& (1431655765))).toUInt32 >>> ((nI 2).toUInt32 &&& Int32.toUInt32 31)).toInt32) &&& (858993459))).toUInt32 >>> ((nI 4).toUInt32 &&& Int32.toUInt32 31)).toInt32)) &&& (252645135)).toUInt32 >>> ((nI 8).toUInt32 &&& Int32.toUInt32 31)).toInt32)))]) rfl ?_
  refine z_iload_n X dJ6_bitCount_0f7a4_41 rfl rfl ?_
  refine z_iload_n X dJ6_bitCount_0f7a4_42 rfl rfl ?_
  refine z_bipush (v := nI 16) X dJ6_bitCount_0f7a4_43 (by decide) ?_
  refine z_iushr X dJ6_bitCount_0f7a4_45 ?_
  refine z_iadd X dJ6_bitCount_0f7a4_46 ?_
  refine z_istore_n X dJ6_bitCount_0f7a4_47 rfl (Nat.le_of_ble_eq_true rfl) ?_
  refine z_lv (lv' := [some (.int ((((((((nI s) - ((((nI s).toUInt32 >>> ((nI 1).toUInt32 &&& Int32.toUInt32 31)).toInt32) &&& (1431655765))) &&& (858993459)) + (((((nI s) - ((((nI s).toUInt32 >>> ((nI 1).toUInt32 &&& Int32.toUInt32 31)).toInt32) &&& (1431655765))).toUInt32 >>> ((nI 2).toUInt32 &&& Int32.toUInt32 31)).toInt32) &&& (858993459))) + ((((((nI s) - ((((nI s).toUInt32 >>> ((nI 1).toUInt32 &&& Int32.toUInt32 31)).toInt32) &&& (1431655765))) &&& (858993459)) + (((((nI s) - ((((nI s).toUInt32 >>> ((nI 1).toUInt32 &&& Int32.toUInt32 31)).toInt32) &&& (1431655765))).toUInt32 >>> ((nI 2).toUInt32 &&& Int32.toUInt32 31)).toInt32) &&& (858993459))).toUInt32 >>> ((nI 4).toUInt32 &&& Int32.toUInt32 31)).toInt32)) &&& (252645135)) + ((((((((nI s) - ((((nI s).toUInt32 >>> ((nI 1).toUInt32 &&& Int32.toUInt32 31)).toInt32) &&& (1431655765))) &&& (858993459)) + (((((nI s) - ((((nI s).toUInt32 >>> ((nI 1).toUInt32 &&& Int32.toUInt32 31)).toInt32) &&& (1431655765))).toUInt32 >>> ((nI 2).toUInt32 &&& Int32.toUInt32 31)).toInt32) &&& (858993459))) + ((((((nI s) - ((((nI s).toUInt32 >>> ((nI 1).toUInt32 &&& Int32.toUInt32 31)).toInt32) &&& (1431655765))) &&& (858993459)) + (((((nI s) - ((((nI s).toUInt32 >>> ((nI 1).toUInt32 &&& Int32.toUInt32 31)).toInt32) &&& (1431655765))).toUInt32 >>> ((nI 2).toUInt32 &&& Int32.toUInt32 31)).toInt32) &&& (858993459))).toUInt32 >>> ((nI 4).toUInt32 &&& Int32.toUInt32 31)).toInt32)) &&& (252645135)).toUInt32 >>> ((nI 8).toUInt32 &&& Int32.toUInt32 31)).toInt32)) + (((((((((nI s) - ((((nI s).toUInt32 >>> ((nI 1).toUInt32 &&& Int32.toUInt32 31)).toInt32) &&& (1431655765))) &&& (858993459)) + (((((nI s) - ((((nI s).toUInt32 >>> ((nI 1).toUInt32 &&& Int32.toUInt32 31)).toInt32) &&& (1431655765))).toUInt32 >>> ((nI 2).toUInt32 &&& Int32.toUInt32 31)).toInt32) &&& (858993459))) + ((((((nI s) - ((((nI s).toUInt32 >>> ((nI 1).toUInt32 &&& Int32.toUInt32 31)).toInt32) &&& (1431655765))) &&& (858993459)) + (((((nI s) - ((((nI s).toUInt32 >>> ((nI 1).toUInt32 &&& Int32.toUInt32 31)).toInt32) &&& (1431655765))).toUInt32 >>> ((nI 2).toUInt32 &&& Int32.toUInt32 31)).toInt32) &&& (858993459))).toUInt32 >>> ((nI 4).toUInt32 &&& Int32.toUInt32 31)).toInt32)) &&& (252645135)) + ((((((((nI s) - ((((nI s).toUInt32 >>> ((nI 1).toUInt32 &&& Int32.toUInt32 31)).toInt32) &&& (1431655765))) &&& (858993459)) + (((((nI s) - ((((nI s).toUInt32 >>> ((nI 1).toUInt32 &&& Int32.toUInt32 31)).toInt32) &&& (1431655765))).toUInt32 >>> ((nI 2).toUInt32 &&& Int32.toUInt32 31)).toInt32) &&& (858993459))) + ((((((nI s) - ((((nI s).toUInt32 >>> ((nI 1).toUInt32 &&& Int32.toUInt32 31)).toInt32) &&& (1431655765))) &&& (858993459)) + (((((nI s) - ((((nI s).toUInt32 >>> ((nI 1).toUInt32 &&& Int32.toUInt32 31)).toInt32) &&& (1431655765))).toUInt32 >>> ((nI 2).toUInt32 &&& Int32.toUInt32 31)).toInt32) &&& (858993459))).toUInt32 >>> ((nI 4).toUInt32 &&& Int32.toUInt32 31)).toInt32)) &&& (252645135)).toUInt32 >>> ((nI 8).toUInt32 &&& Int32.toUInt32 31)).toInt32)).toUInt32 >>> ((nI 16).toUInt32 &&& Int32.toUInt32 31)).toInt32)))]) rfl ?_
  refine z_iload_n X dJ6_bitCount_0f7a4_48 rfl rfl ?_
  refine z_bipush (v := nI 63) X dJ6_bitCount_0f7a4_49 (by decide) ?_
  refine z_iand X dJ6_bitCount_0f7a4_51 ?_
  refine z_iret X Z rfl dJ6_bitCount_0f7a4_52 ?_
  exact ⟨(), (by decide +kernel : ∀ s, s < 256 → ((((((((nI s) - ((((nI s).toUInt32 >>> ((nI 1).toUInt32 &&& Int32.toUInt32 31)).toInt32) &&& (1431655765))) &&& (858993459)) + (((((nI s) - ((((nI s).toUInt32 >>> ((nI 1).toUInt32 &&& Int32.toUInt32 31)).toInt32) &&& (1431655765))).toUInt32 >>> ((nI 2).toUInt32 &&& Int32.toUInt32 31)).toInt32) &&& (858993459))) + ((((((nI s) - ((((nI s).toUInt32 >>> ((nI 1).toUInt32 &&& Int32.toUInt32 31)).toInt32) &&& (1431655765))) &&& (858993459)) + (((((nI s) - ((((nI s).toUInt32 >>> ((nI 1).toUInt32 &&& Int32.toUInt32 31)).toInt32) &&& (1431655765))).toUInt32 >>> ((nI 2).toUInt32 &&& Int32.toUInt32 31)).toInt32) &&& (858993459))).toUInt32 >>> ((nI 4).toUInt32 &&& Int32.toUInt32 31)).toInt32)) &&& (252645135)) + ((((((((nI s) - ((((nI s).toUInt32 >>> ((nI 1).toUInt32 &&& Int32.toUInt32 31)).toInt32) &&& (1431655765))) &&& (858993459)) + (((((nI s) - ((((nI s).toUInt32 >>> ((nI 1).toUInt32 &&& Int32.toUInt32 31)).toInt32) &&& (1431655765))).toUInt32 >>> ((nI 2).toUInt32 &&& Int32.toUInt32 31)).toInt32) &&& (858993459))) + ((((((nI s) - ((((nI s).toUInt32 >>> ((nI 1).toUInt32 &&& Int32.toUInt32 31)).toInt32) &&& (1431655765))) &&& (858993459)) + (((((nI s) - ((((nI s).toUInt32 >>> ((nI 1).toUInt32 &&& Int32.toUInt32 31)).toInt32) &&& (1431655765))).toUInt32 >>> ((nI 2).toUInt32 &&& Int32.toUInt32 31)).toInt32) &&& (858993459))).toUInt32 >>> ((nI 4).toUInt32 &&& Int32.toUInt32 31)).toInt32)) &&& (252645135)).toUInt32 >>> ((nI 8).toUInt32 &&& Int32.toUInt32 31)).toInt32)) + (((((((((nI s) - ((((nI s).toUInt32 >>> ((nI 1).toUInt32 &&& Int32.toUInt32 31)).toInt32) &&& (1431655765))) &&& (858993459)) + (((((nI s) - ((((nI s).toUInt32 >>> ((nI 1).toUInt32 &&& Int32.toUInt32 31)).toInt32) &&& (1431655765))).toUInt32 >>> ((nI 2).toUInt32 &&& Int32.toUInt32 31)).toInt32) &&& (858993459))) + ((((((nI s) - ((((nI s).toUInt32 >>> ((nI 1).toUInt32 &&& Int32.toUInt32 31)).toInt32) &&& (1431655765))) &&& (858993459)) + (((((nI s) - ((((nI s).toUInt32 >>> ((nI 1).toUInt32 &&& Int32.toUInt32 31)).toInt32) &&& (1431655765))).toUInt32 >>> ((nI 2).toUInt32 &&& Int32.toUInt32 31)).toInt32) &&& (858993459))).toUInt32 >>> ((nI 4).toUInt32 &&& Int32.toUInt32 31)).toInt32)) &&& (252645135)) + ((((((((nI s) - ((((nI s).toUInt32 >>> ((nI 1).toUInt32 &&& Int32.toUInt32 31)).toInt32) &&& (1431655765))) &&& (858993459)) + (((((nI s) - ((((nI s).toUInt32 >>> ((nI 1).toUInt32 &&& Int32.toUInt32 31)).toInt32) &&& (1431655765))).toUInt32 >>> ((nI 2).toUInt32 &&& Int32.toUInt32 31)).toInt32) &&& (858993459))) + ((((((nI s) - ((((nI s).toUInt32 >>> ((nI 1).toUInt32 &&& Int32.toUInt32 31)).toInt32) &&& (1431655765))) &&& (858993459)) + (((((nI s) - ((((nI s).toUInt32 >>> ((nI 1).toUInt32 &&& Int32.toUInt32 31)).toInt32) &&& (1431655765))).toUInt32 >>> ((nI 2).toUInt32 &&& Int32.toUInt32 31)).toInt32) &&& (858993459))).toUInt32 >>> ((nI 4).toUInt32 &&& Int32.toUInt32 31)).toInt32)) &&& (252645135)).toUInt32 >>> ((nI 8).toUInt32 &&& Int32.toUInt32 31)).toInt32)).toUInt32 >>> ((nI 16).toUInt32 &&& Int32.toUInt32 31)).toInt32)) &&& (nI 63) = nI (p8 s)) s hs, fun _ _ => trivial⟩
set_option maxHeartbeats 4000000 in
set_option maxRecDepth 100000 in
theorem c_J9_max_7cf53 (l : Launch) (D : va_G) (t : ClassId × ClassId × ClassId) (x y : Int32) : zM1 l yJ9_max_7cf53 cJ9_max_7cf53 2 (some .int) 0 D t [.int x, .int y] ([]) (fun r => r = if x < y then y else x) := by
  refine z_m1 (by decide +kernel) (Nat.le_of_ble_eq_true rfl) (by simp [Value.category]) ?_
  intro E X Z
  refine z_lv (lv' := [some (.int x), some (.int y)]) rfl ?_
  refine z_iload_n X dJ9_max_7cf53_0 rfl rfl ?_
  refine z_iload_n X dJ9_max_7cf53_1 rfl rfl ?_
  refine z_icmp_lt (tgt := 9) X dJ9_max_7cf53_2 (by decide) (fun c2 => ?_) (fun c2 => ?_)
  ·
    refine z_iload_n X dJ9_max_7cf53_9 rfl rfl ?_
    refine z_iret X Z rfl dJ9_max_7cf53_10 ?_
    exact ⟨(), (if_pos c2).symm, fun _ _ => trivial⟩
  ·
    refine z_iload_n X dJ9_max_7cf53_5 rfl rfl ?_
    refine z_goto (tgt := 10) X dJ9_max_7cf53_6 (by decide) ?_
    refine z_iret X Z rfl dJ9_max_7cf53_10 ?_
    exact ⟨(), (if_neg c2).symm, fun _ _ => trivial⟩
/-- half, rounded down -/
def hlf (x : Int32) : Int32 := x >>> (nI 1 &&& 31)
theorem hlf_toInt (x : Int32) : (hlf x).toInt = x.toInt / 2 := by
  unfold hlf
  rw [pk_shr x _ 1 (by decide), Int.shiftRight_eq_div_pow]
  rfl
theorem hlf_neg (x : Int32) : x ^^^ 2 < 0 ↔ x.toInt < 0 := by
  rw [Int32.lt_iff_toInt_lt, show (0 : Int32).toInt = 0 from rfl]
  have e : ∀ y : Int32, y.toInt < 0 ↔ y.toBitVec.msb = true := by
    intro y
    rw [BitVec.msb_eq_toInt]
    show y.toInt < 0 ↔ decide (y.toInt < 0) = true
    simp
  rw [e, e, Int32.toBitVec_xor, BitVec.msb_xor]
  have : (2 : Int32).toBitVec.msb = false := by decide
  rw [this]
  simp
theorem hlf_div (x : Int32) : (x / 2).toInt = x.toInt.tdiv 2 := by
  have h1 := x.le_toInt
  have h2 := x.toInt_lt
  rw [Int32.toInt_div, show (2 : Int32).toInt = 2 from rfl]
  have h3 : x.toInt.tdiv 2 = x.toInt / 2 ∨ (x.toInt.tdiv 2 = x.toInt / 2 + 1 ∧ x.toInt < 0) := by
    rw [Int.tdiv_eq_ediv]
    split
    · left; omega
    · rename_i hc
      right; exact ⟨rfl, by omega⟩
  apply Int.bmod_eq_of_le <;> omega
theorem hlf_mul (x : Int32) : (x / 2 * 2).toInt = x.toInt.tdiv 2 * 2 := by
  have h1 := x.le_toInt
  have h2 := x.toInt_lt
  rw [Int32.toInt_mul, hlf_div, show (2 : Int32).toInt = 2 from rfl]
  have h3 : x.toInt.tdiv 2 = x.toInt / 2 ∨ (x.toInt.tdiv 2 = x.toInt / 2 + 1 ∧ x.toInt < 0) := by
    rw [Int.tdiv_eq_ediv]
    split
    · left; omega
    · rename_i hc
      right; exact ⟨rfl, by omega⟩
  apply Int.bmod_eq_of_le <;> omega
theorem hlf_1 (x : Int32) (h : 0 ≤ x ^^^ 2) : x / 2 = hlf x := by
  apply Int32.toInt_inj.mp
  rw [hlf_div, hlf_toInt]
  have h0 : ¬ x.toInt < 0 := fun h1 => Int32.not_lt.mpr h ((hlf_neg x).mpr h1)
  rw [Int.tdiv_eq_ediv_of_nonneg (by omega)]
theorem hlf_2 (x : Int32) (h : x / 2 * 2 = x) : x / 2 = hlf x := by
  apply Int32.toInt_inj.mp
  have h1 := hlf_mul x
  rw [h] at h1
  rw [hlf_div, hlf_toInt]
  omega
theorem hlf_3 (x : Int32) (h : ¬ 0 ≤ x ^^^ 2) (h2 : ¬ x / 2 * 2 = x) : x / 2 - 1 = hlf x := by
  apply Int32.toInt_inj.mp
  have hn : x.toInt < 0 := (hlf_neg x).mp (Int32.not_le.mp h)
  have h3 : ¬ x.toInt.tdiv 2 * 2 = x.toInt := fun e => h2 (Int32.toInt_inj.mp ((hlf_mul x).trans e))
  have h4 := x.le_toInt
  have h5 := x.toInt_lt
  have h6 : x.toInt.tdiv 2 = x.toInt / 2 + 1 := by
    rw [Int.tdiv_eq_ediv] at h3 ⊢
    by_cases hc : 0 ≤ x.toInt ∨ 2 ∣ x.toInt
    · rw [if_pos hc] at h3
      omega
    · rw [if_neg hc]
      rfl
  rw [hlf_toInt, Int32.toInt_sub, hlf_div, show (1 : Int32).toInt = 1 from rfl, h6]
  apply (Int.bmod_eq_of_le _ _).trans <;> omega
set_option maxHeartbeats 4000000 in
set_option maxRecDepth 100000 in
theorem c_J9_floorDiv_7cf53 (l : Launch) (D : va_G) (t : ClassId × ClassId × ClassId) (x : Int32) : zM1 l yJ9_floorDiv_7cf53 cJ9_floorDiv_7cf53 3 (some .int) 0 D t [.int x, .int 2] ([]) (fun r => r = hlf x) := by
  refine z_m1 (by decide +kernel) (Nat.le_of_ble_eq_true rfl) (by simp [Value.category]) ?_
  intro E X Z
  refine z_lv (lv' := [some (.int x), some (.int 2), none]) rfl ?_
  refine z_iload_n X dJ9_floorDiv_7cf53_0 rfl rfl ?_
  refine z_iload_n X dJ9_floorDiv_7cf53_1 rfl rfl ?_
  refine z_idiv X dJ9_floorDiv_7cf53_2 (by decide) ?_
  refine z_istore_n X dJ9_floorDiv_7cf53_3 rfl (Nat.le_of_ble_eq_true rfl) ?_
  refine z_lv (lv' := [some (.int x), some (.int 2), some (.int (x / 2))]) rfl ?_
  refine z_iload_n X dJ9_floorDiv_7cf53_4 rfl rfl ?_
  refine z_iload_n X dJ9_floorDiv_7cf53_5 rfl rfl ?_
  refine z_ixor X dJ9_floorDiv_7cf53_6 ?_
  refine z_if_ge (tgt := 21) X dJ9_floorDiv_7cf53_7 (by decide) (fun c7 => ?_) (fun c7 => ?_)
  ·
    refine z_iload_n X dJ9_floorDiv_7cf53_21 rfl rfl ?_
    refine z_iret X Z rfl dJ9_floorDiv_7cf53_22 ?_
    exact ⟨(), hlf_1 x c7, fun _ _ => trivial⟩
  ·
    refine z_iload_n X dJ9_floorDiv_7cf53_10 rfl rfl ?_
    refine z_iload_n X dJ9_floorDiv_7cf53_11 rfl rfl ?_
    refine z_imul X dJ9_floorDiv_7cf53_12 ?_
    refine z_iload_n X dJ9_floorDiv_7cf53_13 rfl rfl ?_
    refine z_icmp_eq (tgt := 21) X dJ9_floorDiv_7cf53_14 (by decide) (fun c14 => ?_) (fun c14 => ?_)
    ·
      refine z_iload_n X dJ9_floorDiv_7cf53_21 rfl rfl ?_
      refine z_iret X Z rfl dJ9_floorDiv_7cf53_22 ?_
      exact ⟨(), hlf_2 x c14, fun _ _ => trivial⟩
    ·
      refine z_iload_n X dJ9_floorDiv_7cf53_17 rfl rfl ?_
      refine z_iconst (v := nI 1) X dJ9_floorDiv_7cf53_18 (by decide) ?_
      refine z_isub X dJ9_floorDiv_7cf53_19 ?_
      refine z_iret X Z rfl dJ9_floorDiv_7cf53_20 ?_
      exact ⟨(), hlf_3 x c7 c14, fun _ _ => trivial⟩
