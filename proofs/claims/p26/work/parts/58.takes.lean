section
variable {S : zS} {sc : Nat → Nat} {x y z G G' : Nat}
theorem Ru_gi : Ru (giS S G') S := fun k hk => up_n (by omega)
theorem K_gi (h : zKs S sc x y z G) (hG : G' < 256) : zKs (giS S G') sc x y z G' := ⟨h.1, h.2.1, h.2.2.1, h.2.2.2.1, h.2.2.2.2.1, rfl, hG, h.2.2.2.2.2.2.2⟩
theorem zt_b0 {s j : Nat} (h : s.testBit j = false) : s / 2 ^ j % 2 = 0 := by rw [bit_mod, h]; rfl
theorem Ru_rf : Ru S S := fun _ _ => rfl
end
set_option maxHeartbeats 1000000 in
set_option maxRecDepth 100000 in
theorem c_L_takes (l : Launch) (hfl : l.stackTraces = false) (D : va_G) (t : ClassId × ClassId × ClassId) (sz : Nat) (a b : Nat → Nat) {S : zS} (p p2 : zT) (qb qv qc : Nat) (fB fV fC : Nat → Int32) {sc : Nat → Nat} {x y z G : Nat} (h : zKs S sc x y z G) {j : Nat} (hj : j < 8) : zM8 l yL_takes cL_takes 7 (some .boolean) 30 10 60 D t [.ref (a 0), .ref (b 0), .int (nI j)] (wA t a b (T6 S p) (T6 S p2) qb qv qc fB fV fC) sz (fun r (u : zS × zT × zT) => r = nI 1 ∧ (∃ G9, zKs u.1 sc x y z G9) ∧ Ru u.1 S ∧ pq u.2.1 = pq p ∧ pq u.2.2 = pq p2) (fun u => wA t a b (T6 u.1 u.2.1) (T6 u.1 u.2.2) qb qv qc fB fV fC) := by
  have hX := K_X h
  have hG := K_G h
  have hp8 := p8_le G hG
  have hw : wk S (l3 x y z) G < 256 := wkN_lt 64
  have hop : opN S x y z G 8 < 256 := opN_lt 8 (by decide)
  have hgo := zn_or8 G hG j hj
  refine z_m8 (by decide +kernel) (Nat.le_of_ble_eq_true rfl) (by simp [Value.category]) ?_
  intro E X Z V Y
  refine z_lv (lv' := [some (.ref (a 0)), some (.ref (b 0)), some (.int (nI j)), none, none, none, none]) rfl ?_
  refine z_aload_n X dL_takes_0 rfl rfl ?_
  refine z_callV2 (k := 0) (n := 0) (st := []) X Y aA_eq (o_isLawful l D t a p h) k_X3_isLawful q_ml_L_112 is24 (fun u => wA t a b (T6 S (p0 u p)) (T6 S p2) qb qv qc fB fV fC) (fun u => ⟨⟨by decide, rfl⟩, ⟨by decide, rfl⟩, rfl, rfl⟩) ⟨by decide, rfl⟩ 0 3 rfl rfl (by decide) rfl rfl rfl (Nat.le_of_ble_eq_true rfl) ⟨by omega, by omega⟩ dL_takes_1 (fun r1 u1 h1 => ?_)
  rcases h1 with ⟨rfl, hR⟩ | ⟨rfl, hR⟩
  ·
    refine z_istore_n X dL_takes_4 rfl (Nat.le_of_ble_eq_true rfl) ?_
    refine z_lv (lv' := [some (.ref (a 0)), some (.ref (b 0)), some (.int (nI j)), some (.int (nI 1)), none, none, none]) rfl ?_
    refine z_aload_n X dL_takes_5 rfl rfl ?_
    refine z_callV1 (k := 0) (n := 0) (st := []) X (o_gifts l D t a (p0 u1 p) h) k_X3_gifts q_ml_L_90 is24 ⟨by decide, rfl⟩ 0 3 rfl rfl (by decide) rfl rfl rfl (Nat.le_of_ble_eq_true rfl) ⟨by omega, by omega⟩ dL_takes_6 (fun r6 h6 => ?_)
    subst h6
    refine z_istore X dL_takes_9 (Nat.le_of_ble_eq_true rfl) ?_
    refine z_lv (lv' := [some (.ref (a 0)), some (.ref (b 0)), some (.int (nI j)), some (.int (nI 1)), some (.int (nI G)), none, none]) rfl ?_
    refine z_aload_n X dL_takes_11 rfl rfl ?_
    refine z_callV1 (k := 0) (n := 0) (st := []) X (o_open l D t a (p0 u1 p) h) k_X3_open q_ml_L_93 is24 ⟨by decide, rfl⟩ 0 3 rfl rfl (by decide) rfl rfl rfl (Nat.le_of_ble_eq_true rfl) ⟨by omega, by omega⟩ dL_takes_12 (fun r12 h12 => ?_)
    subst h12
    refine z_iload_n X dL_takes_15 rfl rfl ?_
    refine n_ishr X dL_takes_16 (by omega) (by omega) ?_
    refine z_iconst (v := nI 1) X dL_takes_17 (by decide) ?_
    refine n_iand X dL_takes_18 ?_
    refine z_top (y := nI (opN S x y z G 8 / 2 ^ j % 2)) (by rw [Nat.and_one_is_mod]) ?_
    refine z_iconst (v := nI 1) X dL_takes_19 (by decide) ?_
    refine n_icmp_ne (tgt := 27) X dL_takes_20 (by decide) (by omega) (by omega) (fun c20 => ?_) (fun c20 => ?_)
    ·
      have hm : ¬ mt S x y z G j := fun q => c20 ((op_bit hj).mpr q)
      refine z_iconst (v := nI 0) X dL_takes_27 (by decide) ?_
      refine z_istore X dL_takes_28 (Nat.le_of_ble_eq_true rfl) ?_
      refine z_lv (lv' := [some (.ref (a 0)), some (.ref (b 0)), some (.int (nI j)), some (.int (nI 1)), some (.int (nI G)), some (.int (nI 0)), none]) rfl ?_
      refine z_aload_n X dL_takes_30 rfl rfl ?_
      refine z_iload_n X dL_takes_31 rfl rfl ?_
      refine z_w7 (k := 0) (n := 0) (k' := 1) (n' := 6) (st := []) X Y aA_eq V (fun sz => w_takeGift_S l hfl D t a (p0 u1 p) h hj hm sz) kw_takeGift q_ml_L_125 is24 ⟨by decide, rfl⟩ (fun u => wA t a b (T6 S (p0 u1 p)) (T6 S p2) qb qv qc fB fV fC) (fun u => ⟨⟨by decide, rfl⟩, ⟨by decide, rfl⟩, rfl, rfl⟩) (by decide) (by decide) rfl rfl rfl (Nat.le_of_ble_eq_true rfl) ⟨by omega, by omega⟩ ⟨by omega, by omega⟩ dL_takes_32 (fun r32 u32 h32 => ?_)
      subst h32
      refine z_istore X dL_takes_35 (Nat.le_of_ble_eq_true rfl) ?_
      refine z_lv (lv' := [some (.ref (a 0)), some (.ref (b 0)), some (.int (nI j)), some (.int (nI 1)), some (.int (nI G)), some (.int (nI 0)), some (.int (-1000003))]) rfl ?_
      refine z_aload_n X dL_takes_37 rfl rfl ?_
      refine z_iload_n X dL_takes_38 rfl rfl ?_
      refine z_w7 (k := 1) (n := 6) (k' := 2) (n' := 12) (st := []) X Y aA_eq V (fun sz => w_takeGift_S l hfl D t b p2 h hj hm sz) kw_takeGift q_ml_L_125 is24t ⟨by decide, rfl⟩ (fun u => wA t a b (T6 S (p0 u1 p)) (T6 S p2) qb qv qc fB fV fC) (fun u => ⟨⟨by decide, rfl⟩, ⟨by decide, rfl⟩, rfl, rfl⟩) (by decide) (by decide) rfl rfl rfl (Nat.le_of_ble_eq_true rfl) ⟨by omega, by omega⟩ ⟨by omega, by omega⟩ dL_takes_39 (fun r39 u39 h39 => ?_)
      subst h39
      refine z_iload X dL_takes_42 rfl ?_
      refine z_icmp_ne (tgt := 118) X dL_takes_44 (by decide) (fun c44 => absurd c44 (by decide)) (fun _ => ?_)
      refine z_iload X dL_takes_47 rfl ?_
      refine z_iload X dL_takes_49 rfl ?_
      refine n_if_eq (tgt := 64) X dL_takes_51 (by decide) (by omega) (fun _ => ?_) (fun c51 => absurd c51 (by decide))
      refine z_ldci X q_k_L_40 dL_takes_64 ?_
      refine z_icmp_ne (tgt := 118) X dL_takes_66 (by decide) (fun c66 => absurd c66 (by decide)) (fun _ => ?_)
      refine z_aload_n X dL_takes_69 rfl rfl ?_
      refine z_callV1 (k := 2) (n := 12) (st := []) X (o_gifts l D t a (p0 u1 p) h) k_X3_gifts q_ml_L_90 is24 ⟨by decide, rfl⟩ 0 3 rfl rfl (by decide) rfl rfl rfl (Nat.le_of_ble_eq_true rfl) ⟨by omega, by omega⟩ dL_takes_70 (fun r70 h70 => ?_)
      subst h70
      refine z_iload X dL_takes_73 rfl ?_
      refine n_if_eq (tgt := 87) X dL_takes_75 (by decide) (by omega) (fun _ => ?_) (fun c75 => absurd c75 (by decide))
      refine z_iload X dL_takes_87 rfl ?_
      refine n_icmp_ne (tgt := 118) X dL_takes_89 (by decide) (by omega) (by omega) (fun c89 => absurd c89 (by omega)) (fun _ => ?_)
      refine z_iload_n X dL_takes_92 rfl rfl ?_
      refine n_if_eq (tgt := 103) X dL_takes_93 (by decide) (by omega) (fun c93 => absurd c93 (by decide)) (fun _ => ?_)
      refine z_aload_n X dL_takes_96 rfl rfl ?_
      refine z_callV2 (k := 2) (n := 12) (st := []) X Y aA_eq (o_isLawful l D t a (p0 u1 p) h) k_X3_isLawful q_ml_L_112 is24 (fun u => wA t a b (T6 S (p0 u (p0 u1 p))) (T6 S p2) qb qv qc fB fV fC) (fun u => ⟨⟨by decide, rfl⟩, ⟨by decide, rfl⟩, rfl, rfl⟩) ⟨by decide, rfl⟩ 0 3 rfl rfl (by decide) rfl rfl rfl (Nat.le_of_ble_eq_true rfl) ⟨by omega, by omega⟩ dL_takes_97 (fun r97 u97 h97 => ?_)
      have e97 : r97 = nI 1 := h97.elim (fun q => q.1) (fun q => absurd hR q.2)
      subst e97
      refine n_if_eq (tgt := 118) X dL_takes_100 (by decide) (by omega) (fun c100 => absurd c100 (by decide)) (fun _ => ?_)
      refine z_aload_n X dL_takes_103 rfl rfl ?_
      refine z_bipush (v := nI 8) X dL_takes_104 (by decide) ?_
      refine z_w7 (k := 2) (n := 12) (k' := 3) (n' := 18) (st := []) X Y aA_eq V (fun sz => w_takeGift_I l hfl D t a (p0 u97 (p0 u1 p)) h (am_no (by decide) (by decide) (by decide)) sz) kw_takeGift q_ml_L_125 is24 ⟨by decide, rfl⟩ (fun u => wA t a b (T6 S (p0 u97 (p0 u1 p))) (T6 S p2) qb qv qc fB fV fC) (fun u => ⟨⟨by decide, rfl⟩, ⟨by decide, rfl⟩, rfl, rfl⟩) (by decide) (by decide) rfl rfl rfl (Nat.le_of_ble_eq_true rfl) ⟨by omega, by omega⟩ ⟨by omega, by omega⟩ dL_takes_106 (fun r106 u106 h106 => ?_)
      subst h106
      refine z_ldci X q_k_L_18 dL_takes_109 ?_
      refine z_icmp_ne (tgt := 118) X dL_takes_111 (by decide) (fun c111 => absurd c111 (by decide)) (fun _ => ?_)
      refine z_iconst (v := nI 1) X dL_takes_114 (by decide) ?_
      refine z_goto (tgt := 119) X dL_takes_115 (by decide) ?_
      refine Wz.wide (k' := 10) (n' := 60) (by omega) (by omega) ?_
      refine z_iret X Z (by decide +kernel) dL_takes_119 ?_
      exact ⟨(S, p0 u97 (p0 u1 p), p2), ⟨rfl, ⟨_, h⟩, Ru_rf, rfl, rfl⟩, fun q hq => hq⟩
    ·
      have hm := (op_bit hj).mp c20
      have hp := p8_or G hG j hj hm.1
      refine z_iconst (v := nI 1) X dL_takes_23 (by decide) ?_
      refine z_goto (tgt := 28) X dL_takes_24 (by decide) ?_
      refine z_istore X dL_takes_28 (Nat.le_of_ble_eq_true rfl) ?_
      refine z_lv (lv' := [some (.ref (a 0)), some (.ref (b 0)), some (.int (nI j)), some (.int (nI 1)), some (.int (nI G)), some (.int (nI 1)), none]) rfl ?_
      refine z_aload_n X dL_takes_30 rfl rfl ?_
      refine z_iload_n X dL_takes_31 rfl rfl ?_
      refine z_w7 (k := 0) (n := 0) (k' := 1) (n' := 6) (st := []) X Y aA_eq V (fun sz => w_takeGift l hfl D t a (p0 u1 p) h hj hm sz) kw_takeGift q_ml_L_125 is24 ⟨by decide, rfl⟩ (fun u => wA t a b (T6 (giS S (G ||| (2 ^ j))) (p0 u1 p)) (T6 S p2) qb qv qc fB fV fC) (fun u => ⟨⟨by decide, rfl⟩, ⟨by decide, rfl⟩, rfl, rfl⟩) (by decide) (by decide) rfl rfl rfl (Nat.le_of_ble_eq_true rfl) ⟨by omega, by omega⟩ ⟨by omega, by omega⟩ dL_takes_32 (fun r32 u32 h32 => ?_)
      subst h32
      refine z_istore X dL_takes_35 (Nat.le_of_ble_eq_true rfl) ?_
      refine z_lv (lv' := [some (.ref (a 0)), some (.ref (b 0)), some (.int (nI j)), some (.int (nI 1)), some (.int (nI G)), some (.int (nI 1)), some (.int (nI (p8 (G ||| (2 ^ j)))))]) rfl ?_
      refine z_aload_n X dL_takes_37 rfl rfl ?_
      refine z_iload_n X dL_takes_38 rfl rfl ?_
      refine z_w7 (k := 1) (n := 6) (k' := 2) (n' := 12) (st := []) X Y aA_eq V (fun sz => w_takeGift l hfl D t b p2 h hj hm sz) kw_takeGift q_ml_L_125 is24t ⟨by decide, rfl⟩ (fun u => wA t a b (T6 (giS S (G ||| (2 ^ j))) (p0 u1 p)) (T6 (giS S (G ||| (2 ^ j))) p2) qb qv qc fB fV fC) (fun u => ⟨⟨by decide, rfl⟩, ⟨by decide, rfl⟩, rfl, rfl⟩) (by decide) (by decide) rfl rfl rfl (Nat.le_of_ble_eq_true rfl) ⟨by omega, by omega⟩ ⟨by omega, by omega⟩ dL_takes_39 (fun r39 u39 h39 => ?_)
      subst h39
      refine z_iload X dL_takes_42 rfl ?_
      refine n_icmp_ne (tgt := 118) X dL_takes_44 (by decide) (by omega) (by omega) (fun c44 => absurd c44 (by omega)) (fun _ => ?_)
      refine z_iload X dL_takes_47 rfl ?_
      refine z_iload X dL_takes_49 rfl ?_
      refine n_if_eq (tgt := 64) X dL_takes_51 (by decide) (by omega) (fun c51 => absurd c51 (by decide)) (fun _ => ?_)
      refine z_iload X dL_takes_54 rfl ?_
      refine z_callS1 (k := 2) (n := 12) (st := [.int (nI (p8 (G ||| (2 ^ j))))]) X (c_L_many l D t G (by omega)) k_L_many q_ml_L_106 [] ⟨by decide, rfl⟩ (by decide) rfl rfl rfl (Nat.le_of_ble_eq_true rfl) ⟨by omega, by omega⟩ dL_takes_56 (fun r56 h56 => ?_)
      subst h56
      refine z_iconst (v := nI 1) X dL_takes_59 (by decide) ?_
      refine n_iadd X dL_takes_60 ?_
      refine z_goto (tgt := 66) X dL_takes_61 (by decide) ?_
      refine z_top (y := nI (p8 (G ||| (2 ^ j)))) (congrArg nI hp.symm) ?_
      refine n_icmp_ne (tgt := 118) X dL_takes_66 (by decide) (by omega) (by omega) (fun c66 => absurd c66 (by omega)) (fun _ => ?_)
      refine z_aload_n X dL_takes_69 rfl rfl ?_
      refine z_callV1 (k := 2) (n := 12) (st := []) X (o_gifts l D t a (p0 u1 p) (K_gi h hgo)) k_X3_gifts q_ml_L_90 is24 ⟨by decide, rfl⟩ 0 3 rfl rfl (by decide) rfl rfl rfl (Nat.le_of_ble_eq_true rfl) ⟨by omega, by omega⟩ dL_takes_70 (fun r70 h70 => ?_)
      subst h70
      refine z_iload X dL_takes_73 rfl ?_
      refine n_if_eq (tgt := 87) X dL_takes_75 (by decide) (by omega) (fun c75 => absurd c75 (by decide)) (fun _ => ?_)
      refine z_iload X dL_takes_78 rfl ?_
      refine z_iconst (v := nI 1) X dL_takes_80 (by decide) ?_
      refine z_iload_n X dL_takes_81 rfl rfl ?_
      refine n_ishl1 X dL_takes_82 (by omega) ?_
      refine n_ior X dL_takes_83 ?_
      refine z_goto (tgt := 89) X dL_takes_84 (by decide) ?_
      refine n_icmp_ne (tgt := 118) X dL_takes_89 (by decide) (by omega) (by omega) (fun c89 => absurd c89 (by omega)) (fun _ => ?_)
      refine z_iload_n X dL_takes_92 rfl rfl ?_
      refine n_if_eq (tgt := 103) X dL_takes_93 (by decide) (by omega) (fun c93 => absurd c93 (by decide)) (fun _ => ?_)
      refine z_aload_n X dL_takes_96 rfl rfl ?_
      refine z_callV2 (k := 2) (n := 12) (st := []) X Y aA_eq (o_isLawful l D t a (p0 u1 p) (K_gi h hgo)) k_X3_isLawful q_ml_L_112 is24 (fun u => wA t a b (T6 (giS S (G ||| (2 ^ j))) (p0 u (p0 u1 p))) (T6 (giS S (G ||| (2 ^ j))) p2) qb qv qc fB fV fC) (fun u => ⟨⟨by decide, rfl⟩, ⟨by decide, rfl⟩, rfl, rfl⟩) ⟨by decide, rfl⟩ 0 3 rfl rfl (by decide) rfl rfl rfl (Nat.le_of_ble_eq_true rfl) ⟨by omega, by omega⟩ dL_takes_97 (fun r97 u97 h97 => ?_)
      have e97 : r97 = nI 1 := h97.elim (fun q => q.1) (fun q => absurd ((Rc_ru Ru_gi).mpr (Rc_gift hj hm hR)) q.2)
      subst e97
      refine n_if_eq (tgt := 118) X dL_takes_100 (by decide) (by omega) (fun c100 => absurd c100 (by decide)) (fun _ => ?_)
      refine z_aload_n X dL_takes_103 rfl rfl ?_
      refine z_bipush (v := nI 8) X dL_takes_104 (by decide) ?_
      refine z_w7 (k := 2) (n := 12) (k' := 3) (n' := 18) (st := []) X Y aA_eq V (fun sz => w_takeGift_I l hfl D t a (p0 u97 (p0 u1 p)) (K_gi h hgo) (am_no (by decide) (by decide) (by decide)) sz) kw_takeGift q_ml_L_125 is24 ⟨by decide, rfl⟩ (fun u => wA t a b (T6 (giS S (G ||| (2 ^ j))) (p0 u97 (p0 u1 p))) (T6 (giS S (G ||| (2 ^ j))) p2) qb qv qc fB fV fC) (fun u => ⟨⟨by decide, rfl⟩, ⟨by decide, rfl⟩, rfl, rfl⟩) (by decide) (by decide) rfl rfl rfl (Nat.le_of_ble_eq_true rfl) ⟨by omega, by omega⟩ ⟨by omega, by omega⟩ dL_takes_106 (fun r106 u106 h106 => ?_)
      subst h106
      refine z_ldci X q_k_L_18 dL_takes_109 ?_
      refine z_icmp_ne (tgt := 118) X dL_takes_111 (by decide) (fun c111 => absurd c111 (by decide)) (fun _ => ?_)
      refine z_iconst (v := nI 1) X dL_takes_114 (by decide) ?_
      refine z_goto (tgt := 119) X dL_takes_115 (by decide) ?_
      refine Wz.wide (k' := 10) (n' := 60) (by omega) (by omega) ?_
      refine z_iret X Z (by decide +kernel) dL_takes_119 ?_
      exact ⟨(giS S (G ||| (2 ^ j)), p0 u97 (p0 u1 p), p2), ⟨rfl, ⟨_, (K_gi h hgo)⟩, Ru_gi, rfl, rfl⟩, fun q hq => hq⟩
  ·
    refine z_istore_n X dL_takes_4 rfl (Nat.le_of_ble_eq_true rfl) ?_
    refine z_lv (lv' := [some (.ref (a 0)), some (.ref (b 0)), some (.int (nI j)), some (.int (nI 0)), none, none, none]) rfl ?_
    refine z_aload_n X dL_takes_5 rfl rfl ?_
    refine z_callV1 (k := 0) (n := 0) (st := []) X (o_gifts l D t a (p0 u1 p) h) k_X3_gifts q_ml_L_90 is24 ⟨by decide, rfl⟩ 0 3 rfl rfl (by decide) rfl rfl rfl (Nat.le_of_ble_eq_true rfl) ⟨by omega, by omega⟩ dL_takes_6 (fun r6 h6 => ?_)
    subst h6
    refine z_istore X dL_takes_9 (Nat.le_of_ble_eq_true rfl) ?_
    refine z_lv (lv' := [some (.ref (a 0)), some (.ref (b 0)), some (.int (nI j)), some (.int (nI 0)), some (.int (nI G)), none, none]) rfl ?_
    refine z_aload_n X dL_takes_11 rfl rfl ?_
    refine z_callV1 (k := 0) (n := 0) (st := []) X (o_open l D t a (p0 u1 p) h) k_X3_open q_ml_L_93 is24 ⟨by decide, rfl⟩ 0 3 rfl rfl (by decide) rfl rfl rfl (Nat.le_of_ble_eq_true rfl) ⟨by omega, by omega⟩ dL_takes_12 (fun r12 h12 => ?_)
    subst h12
    refine z_iload_n X dL_takes_15 rfl rfl ?_
    refine n_ishr X dL_takes_16 (by omega) (by omega) ?_
    refine z_iconst (v := nI 1) X dL_takes_17 (by decide) ?_
    refine n_iand X dL_takes_18 ?_
    refine z_top (y := nI (opN S x y z G 8 / 2 ^ j % 2)) (by rw [Nat.and_one_is_mod]) ?_
    refine z_iconst (v := nI 1) X dL_takes_19 (by decide) ?_
    refine n_icmp_ne (tgt := 27) X dL_takes_20 (by decide) (by omega) (by omega) (fun c20 => ?_) (fun c20 => ?_)
    ·
      have hm : ¬ mt S x y z G j := fun q => c20 ((op_bit hj).mpr q)
      refine z_iconst (v := nI 0) X dL_takes_27 (by decide) ?_
      refine z_istore X dL_takes_28 (Nat.le_of_ble_eq_true rfl) ?_
      refine z_lv (lv' := [some (.ref (a 0)), some (.ref (b 0)), some (.int (nI j)), some (.int (nI 0)), some (.int (nI G)), some (.int (nI 0)), none]) rfl ?_
      refine z_aload_n X dL_takes_30 rfl rfl ?_
      refine z_iload_n X dL_takes_31 rfl rfl ?_
      refine z_w7 (k := 0) (n := 0) (k' := 1) (n' := 6) (st := []) X Y aA_eq V (fun sz => w_takeGift_S l hfl D t a (p0 u1 p) h hj hm sz) kw_takeGift q_ml_L_125 is24 ⟨by decide, rfl⟩ (fun u => wA t a b (T6 S (p0 u1 p)) (T6 S p2) qb qv qc fB fV fC) (fun u => ⟨⟨by decide, rfl⟩, ⟨by decide, rfl⟩, rfl, rfl⟩) (by decide) (by decide) rfl rfl rfl (Nat.le_of_ble_eq_true rfl) ⟨by omega, by omega⟩ ⟨by omega, by omega⟩ dL_takes_32 (fun r32 u32 h32 => ?_)
      subst h32
      refine z_istore X dL_takes_35 (Nat.le_of_ble_eq_true rfl) ?_
      refine z_lv (lv' := [some (.ref (a 0)), some (.ref (b 0)), some (.int (nI j)), some (.int (nI 0)), some (.int (nI G)), some (.int (nI 0)), some (.int (-1000003))]) rfl ?_
      refine z_aload_n X dL_takes_37 rfl rfl ?_
      refine z_iload_n X dL_takes_38 rfl rfl ?_
      refine z_w7 (k := 1) (n := 6) (k' := 2) (n' := 12) (st := []) X Y aA_eq V (fun sz => w_takeGift_S l hfl D t b p2 h hj hm sz) kw_takeGift q_ml_L_125 is24t ⟨by decide, rfl⟩ (fun u => wA t a b (T6 S (p0 u1 p)) (T6 S p2) qb qv qc fB fV fC) (fun u => ⟨⟨by decide, rfl⟩, ⟨by decide, rfl⟩, rfl, rfl⟩) (by decide) (by decide) rfl rfl rfl (Nat.le_of_ble_eq_true rfl) ⟨by omega, by omega⟩ ⟨by omega, by omega⟩ dL_takes_39 (fun r39 u39 h39 => ?_)
      subst h39
      refine z_iload X dL_takes_42 rfl ?_
      refine z_icmp_ne (tgt := 118) X dL_takes_44 (by decide) (fun c44 => absurd c44 (by decide)) (fun _ => ?_)
      refine z_iload X dL_takes_47 rfl ?_
      refine z_iload X dL_takes_49 rfl ?_
      refine n_if_eq (tgt := 64) X dL_takes_51 (by decide) (by omega) (fun _ => ?_) (fun c51 => absurd c51 (by decide))
      refine z_ldci X q_k_L_40 dL_takes_64 ?_
      refine z_icmp_ne (tgt := 118) X dL_takes_66 (by decide) (fun c66 => absurd c66 (by decide)) (fun _ => ?_)
      refine z_aload_n X dL_takes_69 rfl rfl ?_
      refine z_callV1 (k := 2) (n := 12) (st := []) X (o_gifts l D t a (p0 u1 p) h) k_X3_gifts q_ml_L_90 is24 ⟨by decide, rfl⟩ 0 3 rfl rfl (by decide) rfl rfl rfl (Nat.le_of_ble_eq_true rfl) ⟨by omega, by omega⟩ dL_takes_70 (fun r70 h70 => ?_)
      subst h70
      refine z_iload X dL_takes_73 rfl ?_
      refine n_if_eq (tgt := 87) X dL_takes_75 (by decide) (by omega) (fun _ => ?_) (fun c75 => absurd c75 (by decide))
      refine z_iload X dL_takes_87 rfl ?_
      refine n_icmp_ne (tgt := 118) X dL_takes_89 (by decide) (by omega) (by omega) (fun c89 => absurd c89 (by omega)) (fun _ => ?_)
      refine z_iload_n X dL_takes_92 rfl rfl ?_
      refine n_if_eq (tgt := 103) X dL_takes_93 (by decide) (by omega) (fun _ => ?_) (fun c93 => absurd c93 (by decide))
      refine z_aload_n X dL_takes_103 rfl rfl ?_
      refine z_bipush (v := nI 8) X dL_takes_104 (by decide) ?_
      refine z_w7 (k := 2) (n := 12) (k' := 3) (n' := 18) (st := []) X Y aA_eq V (fun sz => w_takeGift_I l hfl D t a (p0 u1 p) h (am_no (by decide) (by decide) (by decide)) sz) kw_takeGift q_ml_L_125 is24 ⟨by decide, rfl⟩ (fun u => wA t a b (T6 S (p0 u1 p)) (T6 S p2) qb qv qc fB fV fC) (fun u => ⟨⟨by decide, rfl⟩, ⟨by decide, rfl⟩, rfl, rfl⟩) (by decide) (by decide) rfl rfl rfl (Nat.le_of_ble_eq_true rfl) ⟨by omega, by omega⟩ ⟨by omega, by omega⟩ dL_takes_106 (fun r106 u106 h106 => ?_)
      subst h106
      refine z_ldci X q_k_L_18 dL_takes_109 ?_
      refine z_icmp_ne (tgt := 118) X dL_takes_111 (by decide) (fun c111 => absurd c111 (by decide)) (fun _ => ?_)
      refine z_iconst (v := nI 1) X dL_takes_114 (by decide) ?_
      refine z_goto (tgt := 119) X dL_takes_115 (by decide) ?_
      refine Wz.wide (k' := 10) (n' := 60) (by omega) (by omega) ?_
      refine z_iret X Z (by decide +kernel) dL_takes_119 ?_
      exact ⟨(S, p0 u1 p, p2), ⟨rfl, ⟨_, h⟩, Ru_rf, rfl, rfl⟩, fun q hq => hq⟩
    ·
      have hm := (op_bit hj).mp c20
      have hp := p8_or G hG j hj hm.1
      refine z_iconst (v := nI 1) X dL_takes_23 (by decide) ?_
      refine z_goto (tgt := 28) X dL_takes_24 (by decide) ?_
      refine z_istore X dL_takes_28 (Nat.le_of_ble_eq_true rfl) ?_
      refine z_lv (lv' := [some (.ref (a 0)), some (.ref (b 0)), some (.int (nI j)), some (.int (nI 0)), some (.int (nI G)), some (.int (nI 1)), none]) rfl ?_
      refine z_aload_n X dL_takes_30 rfl rfl ?_
      refine z_iload_n X dL_takes_31 rfl rfl ?_
      refine z_w7 (k := 0) (n := 0) (k' := 1) (n' := 6) (st := []) X Y aA_eq V (fun sz => w_takeGift l hfl D t a (p0 u1 p) h hj hm sz) kw_takeGift q_ml_L_125 is24 ⟨by decide, rfl⟩ (fun u => wA t a b (T6 (giS S (G ||| (2 ^ j))) (p0 u1 p)) (T6 S p2) qb qv qc fB fV fC) (fun u => ⟨⟨by decide, rfl⟩, ⟨by decide, rfl⟩, rfl, rfl⟩) (by decide) (by decide) rfl rfl rfl (Nat.le_of_ble_eq_true rfl) ⟨by omega, by omega⟩ ⟨by omega, by omega⟩ dL_takes_32 (fun r32 u32 h32 => ?_)
      subst h32
      refine z_istore X dL_takes_35 (Nat.le_of_ble_eq_true rfl) ?_
      refine z_lv (lv' := [some (.ref (a 0)), some (.ref (b 0)), some (.int (nI j)), some (.int (nI 0)), some (.int (nI G)), some (.int (nI 1)), some (.int (nI (p8 (G ||| (2 ^ j)))))]) rfl ?_
      refine z_aload_n X dL_takes_37 rfl rfl ?_
      refine z_iload_n X dL_takes_38 rfl rfl ?_
      refine z_w7 (k := 1) (n := 6) (k' := 2) (n' := 12) (st := []) X Y aA_eq V (fun sz => w_takeGift l hfl D t b p2 h hj hm sz) kw_takeGift q_ml_L_125 is24t ⟨by decide, rfl⟩ (fun u => wA t a b (T6 (giS S (G ||| (2 ^ j))) (p0 u1 p)) (T6 (giS S (G ||| (2 ^ j))) p2) qb qv qc fB fV fC) (fun u => ⟨⟨by decide, rfl⟩, ⟨by decide, rfl⟩, rfl, rfl⟩) (by decide) (by decide) rfl rfl rfl (Nat.le_of_ble_eq_true rfl) ⟨by omega, by omega⟩ ⟨by omega, by omega⟩ dL_takes_39 (fun r39 u39 h39 => ?_)
      subst h39
      refine z_iload X dL_takes_42 rfl ?_
      refine n_icmp_ne (tgt := 118) X dL_takes_44 (by decide) (by omega) (by omega) (fun c44 => absurd c44 (by omega)) (fun _ => ?_)
      refine z_iload X dL_takes_47 rfl ?_
      refine z_iload X dL_takes_49 rfl ?_
      refine n_if_eq (tgt := 64) X dL_takes_51 (by decide) (by omega) (fun c51 => absurd c51 (by decide)) (fun _ => ?_)
      refine z_iload X dL_takes_54 rfl ?_
      refine z_callS1 (k := 2) (n := 12) (st := [.int (nI (p8 (G ||| (2 ^ j))))]) X (c_L_many l D t G (by omega)) k_L_many q_ml_L_106 [] ⟨by decide, rfl⟩ (by decide) rfl rfl rfl (Nat.le_of_ble_eq_true rfl) ⟨by omega, by omega⟩ dL_takes_56 (fun r56 h56 => ?_)
      subst h56
      refine z_iconst (v := nI 1) X dL_takes_59 (by decide) ?_
      refine n_iadd X dL_takes_60 ?_
      refine z_goto (tgt := 66) X dL_takes_61 (by decide) ?_
      refine z_top (y := nI (p8 (G ||| (2 ^ j)))) (congrArg nI hp.symm) ?_
      refine n_icmp_ne (tgt := 118) X dL_takes_66 (by decide) (by omega) (by omega) (fun c66 => absurd c66 (by omega)) (fun _ => ?_)
      refine z_aload_n X dL_takes_69 rfl rfl ?_
      refine z_callV1 (k := 2) (n := 12) (st := []) X (o_gifts l D t a (p0 u1 p) (K_gi h hgo)) k_X3_gifts q_ml_L_90 is24 ⟨by decide, rfl⟩ 0 3 rfl rfl (by decide) rfl rfl rfl (Nat.le_of_ble_eq_true rfl) ⟨by omega, by omega⟩ dL_takes_70 (fun r70 h70 => ?_)
      subst h70
      refine z_iload X dL_takes_73 rfl ?_
      refine n_if_eq (tgt := 87) X dL_takes_75 (by decide) (by omega) (fun c75 => absurd c75 (by decide)) (fun _ => ?_)
      refine z_iload X dL_takes_78 rfl ?_
      refine z_iconst (v := nI 1) X dL_takes_80 (by decide) ?_
      refine z_iload_n X dL_takes_81 rfl rfl ?_
      refine n_ishl1 X dL_takes_82 (by omega) ?_
      refine n_ior X dL_takes_83 ?_
      refine z_goto (tgt := 89) X dL_takes_84 (by decide) ?_
      refine n_icmp_ne (tgt := 118) X dL_takes_89 (by decide) (by omega) (by omega) (fun c89 => absurd c89 (by omega)) (fun _ => ?_)
      refine z_iload_n X dL_takes_92 rfl rfl ?_
      refine n_if_eq (tgt := 103) X dL_takes_93 (by decide) (by omega) (fun _ => ?_) (fun c93 => absurd c93 (by decide))
      refine z_aload_n X dL_takes_103 rfl rfl ?_
      refine z_bipush (v := nI 8) X dL_takes_104 (by decide) ?_
      refine z_w7 (k := 2) (n := 12) (k' := 3) (n' := 18) (st := []) X Y aA_eq V (fun sz => w_takeGift_I l hfl D t a (p0 u1 p) (K_gi h hgo) (am_no (by decide) (by decide) (by decide)) sz) kw_takeGift q_ml_L_125 is24 ⟨by decide, rfl⟩ (fun u => wA t a b (T6 (giS S (G ||| (2 ^ j))) (p0 u1 p)) (T6 (giS S (G ||| (2 ^ j))) p2) qb qv qc fB fV fC) (fun u => ⟨⟨by decide, rfl⟩, ⟨by decide, rfl⟩, rfl, rfl⟩) (by decide) (by decide) rfl rfl rfl (Nat.le_of_ble_eq_true rfl) ⟨by omega, by omega⟩ ⟨by omega, by omega⟩ dL_takes_106 (fun r106 u106 h106 => ?_)
      subst h106
      refine z_ldci X q_k_L_18 dL_takes_109 ?_
      refine z_icmp_ne (tgt := 118) X dL_takes_111 (by decide) (fun c111 => absurd c111 (by decide)) (fun _ => ?_)
      refine z_iconst (v := nI 1) X dL_takes_114 (by decide) ?_
      refine z_goto (tgt := 119) X dL_takes_115 (by decide) ?_
      refine Wz.wide (k' := 10) (n' := 60) (by omega) (by omega) ?_
      refine z_iret X Z (by decide +kernel) dL_takes_119 ?_
      exact ⟨(giS S (G ||| (2 ^ j)), p0 u1 p, p2), ⟨rfl, ⟨_, (K_gi h hgo)⟩, Ru_gi, rfl, rfl⟩, fun q hq => hq⟩
set_option maxHeartbeats 1000000 in
set_option maxRecDepth 100000 in
theorem c_L_exchanges (l : Launch) (hfl : l.stackTraces = false) (D : va_G) (t : ClassId × ClassId × ClassId) (sz : Nat) (a b : Nat → Nat) {S : zS} (p p2 : zT) (qb qv qc : Nat) (fB fV fC : Nat → Int32) {sc : Nat → Nat} {x y z G : Nat} (h : zKs S sc x y z G) {i j : Nat} (hi : i < 8) (hj : j < 8) : zM8 l yL_exchanges cL_exchanges 8 (some .boolean) 30 10 60 D t [.ref (a 0), .ref (b 0), .int (nI i), .int (nI j)] (wA t a b (T6 S p) (T6 S p2) qb qv qc fB fV fC) sz (fun r (u : zS × zT × zT) => r = nI 1 ∧ (∃ G9, zKs u.1 sc x y z G9) ∧ Ru u.1 S ∧ pq u.2.1 = pq p ∧ pq u.2.2 = pq p2) (fun u => wA t a b (T6 u.1 u.2.1) (T6 u.1 u.2.2) qb qv qc fB fV fC) := by
  have hX := K_X h
  have hG := K_G h
  have hp8 := p8_le G hG
  have hw : wk S (l3 x y z) G < 256 := wkN_lt 64
  have hop : opN S x y z G 8 < 256 := opN_lt 8 (by decide)
  have hex : exN G i j < 256 := exN_lt hG hj
  have hpf := p8_le _ (faN_lt : faN S (l3 x y z) G i j < 256)
  refine z_m8 (by decide +kernel) (Nat.le_of_ble_eq_true rfl) (by simp [Value.category]) ?_
  intro E X Z V Y
  refine z_lv (lv' := [some (.ref (a 0)), some (.ref (b 0)), some (.int (nI i)), some (.int (nI j)), none, none, none, none]) rfl ?_
  refine z_aload_n X dL_exchanges_0 rfl rfl ?_
  refine z_callV1 (k := 0) (n := 0) (st := []) X (o_gifts l D t a p h) k_X3_gifts q_ml_L_90 is24 ⟨by decide, rfl⟩ 0 3 rfl rfl (by decide) rfl rfl rfl (Nat.le_of_ble_eq_true rfl) ⟨by omega, by omega⟩ dL_exchanges_1 (fun r1 h1 => ?_)
  subst h1
  refine z_istore X dL_exchanges_4 (Nat.le_of_ble_eq_true rfl) ?_
  refine z_lv (lv' := [some (.ref (a 0)), some (.ref (b 0)), some (.int (nI i)), some (.int (nI j)), some (.int (nI G)), none, none, none]) rfl ?_
  refine z_aload_n X dL_exchanges_6 rfl rfl ?_
  refine z_callV1 (k := 0) (n := 0) (st := []) X (o_working l D t a p h) k_X3_working q_ml_L_80 is24 ⟨by decide, rfl⟩ 0 3 rfl rfl (by decide) rfl rfl rfl (Nat.le_of_ble_eq_true rfl) ⟨by omega, by omega⟩ dL_exchanges_7 (fun r7 h7 => ?_)
  subst h7
  refine z_istore X dL_exchanges_10 (Nat.le_of_ble_eq_true rfl) ?_
  refine z_lv (lv' := [some (.ref (a 0)), some (.ref (b 0)), some (.int (nI i)), some (.int (nI j)), some (.int (nI G)), some (.int (nI (wk S (l3 x y z) G))), none, none]) rfl ?_
  by_cases hE : G.testBit i = true ∧ G.testBit j = false ∧ Rc S x y z (exN G i j) 0 0 0 0
  ·
    refine z_aload_n X dL_exchanges_12 rfl rfl ?_
    refine z_iload_n X dL_exchanges_13 rfl rfl ?_
    refine z_iload_n X dL_exchanges_14 rfl rfl ?_
    refine z_w7 (k := 0) (n := 0) (k' := 1) (n' := 6) (st := []) X Y aA_eq V (fun sz => w_exchange l hfl D t a p h hi hj hE.1 hE.2.1 hE.2.2 sz) kw_exchange q_ml_L_127 is24 ⟨by decide, rfl⟩ (fun u => wA t a b (T6 (giS S (exN G i j)) (p0 u p)) (T6 S p2) qb qv qc fB fV fC) (fun u => ⟨⟨by decide, rfl⟩, ⟨by decide, rfl⟩, rfl, rfl⟩) (by decide) (by decide) rfl rfl rfl (Nat.le_of_ble_eq_true rfl) ⟨by omega, by omega⟩ ⟨by omega, by omega⟩ dL_exchanges_15 (fun r15 u15 h15 => ?_)
    subst h15
    refine z_istore X dL_exchanges_18 (Nat.le_of_ble_eq_true rfl) ?_
    refine z_lv (lv' := [some (.ref (a 0)), some (.ref (b 0)), some (.int (nI i)), some (.int (nI j)), some (.int (nI G)), some (.int (nI (wk S (l3 x y z) G))), some (.int (nI (p8 (faN S (l3 x y z) G i j)))), none]) rfl ?_
    refine z_iload X dL_exchanges_20 rfl ?_
    refine z_iload_n X dL_exchanges_22 rfl rfl ?_
    refine n_ishr X dL_exchanges_23 (by omega) (by omega) ?_
    refine z_iconst (v := nI 1) X dL_exchanges_24 (by decide) ?_
    refine n_iand X dL_exchanges_25 ?_
    refine z_top (y := nI 1) (congrArg nI ((Nat.and_one_is_mod _).trans (zt_bit.mpr hE.1))) ?_
    refine z_iconst (v := nI 1) X dL_exchanges_26 (by decide) ?_
    refine n_icmp_ne (tgt := 43) X dL_exchanges_27 (by decide) (by omega) (by omega) (fun c27 => absurd c27 (by decide)) (fun _ => ?_)
    refine z_iload X dL_exchanges_30 rfl ?_
    refine z_iload_n X dL_exchanges_32 rfl rfl ?_
    refine n_ishr X dL_exchanges_33 (by omega) (by omega) ?_
    refine z_iconst (v := nI 1) X dL_exchanges_34 (by decide) ?_
    refine n_iand X dL_exchanges_35 ?_
    refine z_top (y := nI 0) (congrArg nI ((Nat.and_one_is_mod _).trans (zt_b0 hE.2.1))) ?_
    refine n_if_ne (tgt := 43) X dL_exchanges_36 (by decide) (by omega) (fun c36 => absurd c36 (by decide)) (fun _ => ?_)
    refine z_iconst (v := nI 1) X dL_exchanges_39 (by decide) ?_
    refine z_goto (tgt := 44) X dL_exchanges_40 (by decide) ?_
    refine z_istore X dL_exchanges_44 (Nat.le_of_ble_eq_true rfl) ?_
    refine z_lv (lv' := [some (.ref (a 0)), some (.ref (b 0)), some (.int (nI i)), some (.int (nI j)), some (.int (nI G)), some (.int (nI (wk S (l3 x y z) G))), some (.int (nI (p8 (faN S (l3 x y z) G i j)))), some (.int (nI 1))]) rfl ?_
    refine z_aload_n X dL_exchanges_46 rfl rfl ?_
    refine z_iload_n X dL_exchanges_47 rfl rfl ?_
    refine z_iload_n X dL_exchanges_48 rfl rfl ?_
    refine z_w7 (k := 1) (n := 6) (k' := 2) (n' := 12) (st := []) X Y aA_eq V (fun sz => w_exchange l hfl D t b p2 h hi hj hE.1 hE.2.1 hE.2.2 sz) kw_exchange q_ml_L_127 is24t ⟨by decide, rfl⟩ (fun u => wA t a b (T6 (giS S (exN G i j)) (p0 u15 p)) (T6 (giS S (exN G i j)) (p0 u p2)) qb qv qc fB fV fC) (fun u => ⟨⟨by decide, rfl⟩, ⟨by decide, rfl⟩, rfl, rfl⟩) (by decide) (by decide) rfl rfl rfl (Nat.le_of_ble_eq_true rfl) ⟨by omega, by omega⟩ ⟨by omega, by omega⟩ dL_exchanges_49 (fun r49 u49 h49 => ?_)
    subst h49
    refine z_iload X dL_exchanges_52 rfl ?_
    refine n_icmp_ne (tgt := 69) X dL_exchanges_54 (by decide) (by omega) (by omega) (fun c54 => absurd c54 (by omega)) (fun _ => ?_)
    refine z_aload_n X dL_exchanges_57 rfl rfl ?_
    refine z_iload_n X dL_exchanges_58 rfl rfl ?_
    refine z_bipush (v := nI 8) X dL_exchanges_59 (by decide) ?_
    refine z_w7 (k := 2) (n := 12) (k' := 3) (n' := 18) (st := []) X Y aA_eq V (fun sz => w_exchange_I l hfl D t a (p0 u15 p) (K_gi h hex) (am_no (by decide) (by decide) (by decide)) sz) kw_exchange q_ml_L_127 is24 ⟨by decide, rfl⟩ (fun u => wA t a b (T6 (giS S (exN G i j)) (pu u (p0 u15 p))) (T6 (giS S (exN G i j)) (p0 u49 p2)) qb qv qc fB fV fC) (fun u => ⟨⟨by decide, rfl⟩, ⟨by decide, rfl⟩, rfl, rfl⟩) (by decide) (by decide) rfl rfl rfl (Nat.le_of_ble_eq_true rfl) ⟨by omega, by omega⟩ ⟨by omega, by omega⟩ dL_exchanges_61 (fun r61 u61 h61 => ?_)
    subst h61
    refine z_ldci X q_k_L_18 dL_exchanges_64 ?_
    refine z_icmp_eq (tgt := 71) X dL_exchanges_66 (by decide) (fun _ => ?_) (fun c66 => absurd c66 (by decide))
    refine z_iload X dL_exchanges_71 rfl ?_
    refine n_if_ge (tgt := 107) X dL_exchanges_73 (by decide) (by omega) ?_
    refine z_iload X dL_exchanges_107 rfl ?_
    refine n_if_eq (tgt := 165) X dL_exchanges_109 (by decide) (by omega) (fun c109 => absurd c109 (by decide)) (fun _ => ?_)
    refine z_aload_n X dL_exchanges_112 rfl rfl ?_
    refine z_callV2 (k := 3) (n := 18) (st := []) X Y aA_eq (o_isLawful l D t a (pu u61 (p0 u15 p)) (K_gi h hex)) k_X3_isLawful q_ml_L_112 is24 (fun u => wA t a b (T6 (giS S (exN G i j)) (p0 u (pu u61 (p0 u15 p)))) (T6 (giS S (exN G i j)) (p0 u49 p2)) qb qv qc fB fV fC) (fun u => ⟨⟨by decide, rfl⟩, ⟨by decide, rfl⟩, rfl, rfl⟩) ⟨by decide, rfl⟩ 0 3 rfl rfl (by decide) rfl rfl rfl (Nat.le_of_ble_eq_true rfl) ⟨by omega, by omega⟩ dL_exchanges_113 (fun r113 u113 h113 => ?_)
    have e113 : r113 = nI 1 := h113.elim (fun q => q.1) (fun q => absurd ((Rc_ru Ru_gi).mpr hE.2.2) q.2)
    subst e113
    refine n_if_eq (tgt := 165) X dL_exchanges_116 (by decide) (by omega) (fun c116 => absurd c116 (by decide)) (fun _ => ?_)
    refine z_aload_n X dL_exchanges_119 rfl rfl ?_
    refine z_callV1 (k := 3) (n := 18) (st := []) X (o_gifts l D t a (p0 u113 (pu u61 (p0 u15 p))) (K_gi h hex)) k_X3_gifts q_ml_L_90 is24 ⟨by decide, rfl⟩ 0 3 rfl rfl (by decide) rfl rfl rfl (Nat.le_of_ble_eq_true rfl) ⟨by omega, by omega⟩ dL_exchanges_120 (fun r120 h120 => ?_)
    subst h120
    refine z_iload X dL_exchanges_123 rfl ?_
    refine z_iconst (v := nI 1) X dL_exchanges_125 (by decide) ?_
    refine z_iload_n X dL_exchanges_126 rfl rfl ?_
    refine n_ishl1 X dL_exchanges_127 (by omega) ?_
    refine z_iconst (v := (-1)) X dL_exchanges_128 (by decide) ?_
    refine z_ixor X dL_exchanges_129 ?_
    refine z_iand X dL_exchanges_130 ?_
    refine z_top (y := nI (dif G (2 ^ i))) (zn_dif _ _) ?_
    refine z_iconst (v := nI 1) X dL_exchanges_131 (by decide) ?_
    refine z_iload_n X dL_exchanges_132 rfl rfl ?_
    refine n_ishl1 X dL_exchanges_133 (by omega) ?_
    refine n_ior X dL_exchanges_134 ?_
    refine z_top (y := nI (exN G i j)) (rfl) ?_
    refine n_icmp_ne (tgt := 165) X dL_exchanges_135 (by decide) (by omega) (by omega) (fun c135 => absurd c135 (by omega)) (fun _ => ?_)
    refine z_iload X dL_exchanges_138 rfl ?_
    refine z_iload X dL_exchanges_140 rfl ?_
    refine z_iconst (v := nI 1) X dL_exchanges_142 (by decide) ?_
    refine z_iload_n X dL_exchanges_143 rfl rfl ?_
    refine n_ishl1 X dL_exchanges_144 (by omega) ?_
    refine z_iconst (v := (-1)) X dL_exchanges_145 (by decide) ?_
    refine z_ixor X dL_exchanges_146 ?_
    refine z_iand X dL_exchanges_147 ?_
    refine z_top (y := nI (dif (wk S (l3 x y z) G) (2 ^ i))) (zn_dif _ _) ?_
    refine z_aload_n X dL_exchanges_148 rfl rfl ?_
    refine z_callV1 (k := 3) (n := 18) (st := [.int (nI (dif (wk S (l3 x y z) G) (2 ^ i))), .int (nI (p8 (faN S (l3 x y z) G i j)))]) X (o_working l D t a (p0 u113 (pu u61 (p0 u15 p))) (K_gi h hex)) k_X3_working q_ml_L_80 is24 ⟨by decide, rfl⟩ 0 3 rfl rfl (by decide) rfl rfl rfl (Nat.le_of_ble_eq_true rfl) ⟨by omega, by omega⟩ dL_exchanges_149 (fun r149 h149 => ?_)
    subst h149
    refine z_top (y := nI (wk S (l3 x y z) (exN G i j))) (congrArg nI (wk_ru Ru_gi _ _ 64)) ?_
    refine z_iconst (v := (-1)) X dL_exchanges_152 (by decide) ?_
    refine z_ixor X dL_exchanges_153 ?_
    refine z_iand X dL_exchanges_154 ?_
    refine z_top (y := nI (dif (dif (wk S (l3 x y z) G) (2 ^ i)) (wk S (l3 x y z) (exN G i j)))) (zn_dif _ _) ?_
    have hd9 : dif (dif (wk S (l3 x y z) G) (2 ^ i)) (wk S (l3 x y z) (exN G i j)) < 256 := Nat.lt_of_le_of_lt (Nat.le_trans (dif_le _ _) (dif_le _ _)) hw
    refine z_callS1 (k := 3) (n := 18) (st := [.int (nI (p8 (faN S (l3 x y z) G i j)))]) X (c_L_many l D t (dif (dif (wk S (l3 x y z) G) (2 ^ i)) (wk S (l3 x y z) (exN G i j))) (by omega)) k_L_many q_ml_L_106 [] ⟨by decide, rfl⟩ (by decide) rfl rfl rfl (Nat.le_of_ble_eq_true rfl) ⟨by omega, by omega⟩ dL_exchanges_155 (fun r155 h155 => ?_)
    subst h155
    refine z_top (y := nI (p8 (faN S (l3 x y z) G i j))) (congrArg (fun s => nI (p8 s)) (dif_cm _ _ _)) ?_
    refine n_icmp_ne (tgt := 165) X dL_exchanges_158 (by decide) (by omega) (by omega) (fun c158 => absurd c158 (by omega)) (fun _ => ?_)
    refine z_iconst (v := nI 1) X dL_exchanges_161 (by decide) ?_
    refine z_goto (tgt := 166) X dL_exchanges_162 (by decide) ?_
    refine Wz.wide (k' := 10) (n' := 60) (by omega) (by omega) ?_
    refine z_iret X Z (by decide +kernel) dL_exchanges_166 ?_
    exact ⟨(giS S (exN G i j), p0 u113 (pu u61 (p0 u15 p)), p0 u49 p2), ⟨rfl, ⟨_, (K_gi h hex)⟩, Ru_gi, rfl, rfl⟩, fun q hq => hq⟩
  ·
    refine z_aload_n X dL_exchanges_12 rfl rfl ?_
    refine z_iload_n X dL_exchanges_13 rfl rfl ?_
    refine z_iload_n X dL_exchanges_14 rfl rfl ?_
    refine z_w7 (k := 0) (n := 0) (k' := 1) (n' := 6) (st := []) X Y aA_eq V (fun sz => w_exchange_S l hfl D t a p h hi hj hE sz) kw_exchange q_ml_L_127 is24 ⟨by decide, rfl⟩ (fun u => wA t a b (T6 S (pu u p)) (T6 S p2) qb qv qc fB fV fC) (fun u => ⟨⟨by decide, rfl⟩, ⟨by decide, rfl⟩, rfl, rfl⟩) (by decide) (by decide) rfl rfl rfl (Nat.le_of_ble_eq_true rfl) ⟨by omega, by omega⟩ ⟨by omega, by omega⟩ dL_exchanges_15 (fun r15 u15 h15 => ?_)
    subst h15
    refine z_istore X dL_exchanges_18 (Nat.le_of_ble_eq_true rfl) ?_
    refine z_lv (lv' := [some (.ref (a 0)), some (.ref (b 0)), some (.int (nI i)), some (.int (nI j)), some (.int (nI G)), some (.int (nI (wk S (l3 x y z) G))), some (.int (-1000003)), none]) rfl ?_
    have j46 : Wz E (1) (6) 46 [some (.ref (a 0)), some (.ref (b 0)), some (.int (nI i)), some (.int (nI j)), some (.int (nI G)), some (.int (nI (wk S (l3 x y z) G))), some (.int (-1000003)), none] [] (wA t a b (T6 S (pu u15 p)) (T6 S p2) qb qv qc fB fV fC) := by
      refine z_aload_n X dL_exchanges_46 rfl rfl ?_
      refine z_iload_n X dL_exchanges_47 rfl rfl ?_
      refine z_iload_n X dL_exchanges_48 rfl rfl ?_
      refine z_w7 (k := 1) (n := 6) (k' := 2) (n' := 12) (st := []) X Y aA_eq V (fun sz => w_exchange_S l hfl D t b p2 h hi hj hE sz) kw_exchange q_ml_L_127 is24t ⟨by decide, rfl⟩ (fun u => wA t a b (T6 S (pu u15 p)) (T6 S (pu u p2)) qb qv qc fB fV fC) (fun u => ⟨⟨by decide, rfl⟩, ⟨by decide, rfl⟩, rfl, rfl⟩) (by decide) (by decide) rfl rfl rfl (Nat.le_of_ble_eq_true rfl) ⟨by omega, by omega⟩ ⟨by omega, by omega⟩ dL_exchanges_49 (fun r49 u49 h49 => ?_)
      subst h49
      refine z_iload X dL_exchanges_52 rfl ?_
      refine z_icmp_ne (tgt := 69) X dL_exchanges_54 (by decide) (fun c54 => absurd c54 (by decide)) (fun _ => ?_)
      refine z_aload_n X dL_exchanges_57 rfl rfl ?_
      refine z_iload_n X dL_exchanges_58 rfl rfl ?_
      refine z_bipush (v := nI 8) X dL_exchanges_59 (by decide) ?_
      refine z_w7 (k := 2) (n := 12) (k' := 3) (n' := 18) (st := []) X Y aA_eq V (fun sz => w_exchange_I l hfl D t a (pu u15 p) h (am_no (by decide) (by decide) (by decide)) sz) kw_exchange q_ml_L_127 is24 ⟨by decide, rfl⟩ (fun u => wA t a b (T6 S (pu u (pu u15 p))) (T6 S (pu u49 p2)) qb qv qc fB fV fC) (fun u => ⟨⟨by decide, rfl⟩, ⟨by decide, rfl⟩, rfl, rfl⟩) (by decide) (by decide) rfl rfl rfl (Nat.le_of_ble_eq_true rfl) ⟨by omega, by omega⟩ ⟨by omega, by omega⟩ dL_exchanges_61 (fun r61 u61 h61 => ?_)
      subst h61
      refine z_ldci X q_k_L_18 dL_exchanges_64 ?_
      refine z_icmp_eq (tgt := 71) X dL_exchanges_66 (by decide) (fun _ => ?_) (fun c66 => absurd c66 (by decide))
      refine z_iload X dL_exchanges_71 rfl ?_
      refine z_if_ge (tgt := 107) X dL_exchanges_73 (by decide) (fun c73 => absurd c73 (by decide)) (fun _ => ?_)
      refine z_iload X dL_exchanges_76 rfl ?_
      refine z_ldci X q_k_L_40 dL_exchanges_78 ?_
      refine z_icmp_ne (tgt := 105) X dL_exchanges_80 (by decide) (fun c80 => absurd c80 (by decide)) (fun _ => ?_)
      refine z_aload_n X dL_exchanges_83 rfl rfl ?_
      refine z_callV1 (k := 3) (n := 18) (st := []) X (o_gifts l D t a (pu u61 (pu u15 p)) h) k_X3_gifts q_ml_L_90 is24 ⟨by decide, rfl⟩ 0 3 rfl rfl (by decide) rfl rfl rfl (Nat.le_of_ble_eq_true rfl) ⟨by omega, by omega⟩ dL_exchanges_84 (fun r84 h84 => ?_)
      subst h84
      refine z_iload X dL_exchanges_87 rfl ?_
      refine n_icmp_ne (tgt := 105) X dL_exchanges_89 (by decide) (by omega) (by omega) (fun c89 => absurd c89 (by omega)) (fun _ => ?_)
      refine z_aload_n X dL_exchanges_92 rfl rfl ?_
      refine z_callV1 (k := 3) (n := 18) (st := []) X (o_working l D t a (pu u61 (pu u15 p)) h) k_X3_working q_ml_L_80 is24 ⟨by decide, rfl⟩ 0 3 rfl rfl (by decide) rfl rfl rfl (Nat.le_of_ble_eq_true rfl) ⟨by omega, by omega⟩ dL_exchanges_93 (fun r93 h93 => ?_)
      subst h93
      refine z_iload X dL_exchanges_96 rfl ?_
      refine n_icmp_ne (tgt := 105) X dL_exchanges_98 (by decide) (by omega) (by omega) (fun c98 => absurd c98 (by omega)) (fun _ => ?_)
      refine z_iconst (v := nI 1) X dL_exchanges_101 (by decide) ?_
      refine z_goto (tgt := 106) X dL_exchanges_102 (by decide) ?_
      refine Wz.wide (k' := 10) (n' := 60) (by omega) (by omega) ?_
      refine z_iret X Z (by decide +kernel) dL_exchanges_106 ?_
      exact ⟨(S, pu u61 (pu u15 p), pu u49 p2), ⟨rfl, ⟨_, h⟩, Ru_rf, rfl, rfl⟩, fun q hq => hq⟩
    refine z_iload X dL_exchanges_20 rfl ?_
    refine z_iload_n X dL_exchanges_22 rfl rfl ?_
    refine n_ishr X dL_exchanges_23 (by omega) (by omega) ?_
    refine z_iconst (v := nI 1) X dL_exchanges_24 (by decide) ?_
    refine n_iand X dL_exchanges_25 ?_
    refine z_top (y := nI (G / 2 ^ i % 2)) (by rw [Nat.and_one_is_mod]) ?_
    refine z_iconst (v := nI 1) X dL_exchanges_26 (by decide) ?_
    refine n_icmp_ne (tgt := 43) X dL_exchanges_27 (by decide) (by omega) (by omega) (fun c27 => ?_) (fun c27 => ?_)
    ·
      refine z_iconst (v := nI 0) X dL_exchanges_43 (by decide) ?_
      refine z_istore X dL_exchanges_44 (Nat.le_of_ble_eq_true rfl) ?_
      refine z_lv (lv' := [some (.ref (a 0)), some (.ref (b 0)), some (.int (nI i)), some (.int (nI j)), some (.int (nI G)), some (.int (nI (wk S (l3 x y z) G))), some (.int (-1000003)), some (.int (nI 0))]) rfl ?_
      refine Wz.less (lv' := [some (.ref (a 0)), some (.ref (b 0)), some (.int (nI i)), some (.int (nI j)), some (.int (nI G)), some (.int (nI (wk S (l3 x y z) G))), some (.int (-1000003)), none]) (by simp [zle] <;> rfl) ?_
      exact j46
    ·
      refine z_iload X dL_exchanges_30 rfl ?_
      refine z_iload_n X dL_exchanges_32 rfl rfl ?_
      refine n_ishr X dL_exchanges_33 (by omega) (by omega) ?_
      refine z_iconst (v := nI 1) X dL_exchanges_34 (by decide) ?_
      refine n_iand X dL_exchanges_35 ?_
      refine z_top (y := nI (G / 2 ^ j % 2)) (by rw [Nat.and_one_is_mod]) ?_
      refine n_if_ne (tgt := 43) X dL_exchanges_36 (by decide) (by omega) (fun c36 => ?_) (fun c36 => ?_)
      ·
        refine z_iconst (v := nI 0) X dL_exchanges_43 (by decide) ?_
        refine z_istore X dL_exchanges_44 (Nat.le_of_ble_eq_true rfl) ?_
        refine z_lv (lv' := [some (.ref (a 0)), some (.ref (b 0)), some (.int (nI i)), some (.int (nI j)), some (.int (nI G)), some (.int (nI (wk S (l3 x y z) G))), some (.int (-1000003)), some (.int (nI 0))]) rfl ?_
        refine Wz.less (lv' := [some (.ref (a 0)), some (.ref (b 0)), some (.int (nI i)), some (.int (nI j)), some (.int (nI G)), some (.int (nI (wk S (l3 x y z) G))), some (.int (-1000003)), none]) (by simp [zle] <;> rfl) ?_
        exact j46
      ·
        refine z_iconst (v := nI 1) X dL_exchanges_39 (by decide) ?_
        refine z_goto (tgt := 44) X dL_exchanges_40 (by decide) ?_
        refine z_istore X dL_exchanges_44 (Nat.le_of_ble_eq_true rfl) ?_
        refine z_lv (lv' := [some (.ref (a 0)), some (.ref (b 0)), some (.int (nI i)), some (.int (nI j)), some (.int (nI G)), some (.int (nI (wk S (l3 x y z) G))), some (.int (-1000003)), some (.int (nI 1))]) rfl ?_
        refine Wz.less (lv' := [some (.ref (a 0)), some (.ref (b 0)), some (.int (nI i)), some (.int (nI j)), some (.int (nI G)), some (.int (nI (wk S (l3 x y z) G))), some (.int (-1000003)), none]) (by simp [zle] <;> rfl) ?_
        exact j46
