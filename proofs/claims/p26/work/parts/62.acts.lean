set_option maxHeartbeats 1000000 in
set_option maxRecDepth 100000 in
theorem act_score {E : zE} {D : va_G} {t : ClassId × ClassId × ClassId} {l : Launch} (hfl : l.stackTraces = false) {a b : Nat → Nat} {qb qv qc : Nat} {S : zS} {p p2 : zT} {fB fV fC : Nat → Int32} {sc tk : Nat → Nat} {x y z G : Nat} (v5 v6 : Int32) (k7 g : Nat) (hg : g < 8) (X : zX E RL cL_acts 14 (zRm 34 20 120) D t l) (Z : zEnd E (some .boolean) (va_Qi (fun r (u : zU) => r = nI 1 ∧ Gd u) (fun u q => va_P D vwCl (wG t a b qb qv qc u) q.heap) (zA E)) 20 120) (V : zTry E) (Y : zWr E (aR a ++ aR b ++ [qb, qv, qc])) (hGx : Gx S p p2 fB fV fC sc tk x y z G) : Wz E 0 0 731 [some (.ref (a 0)), some (.ref (b 0)), some (.ref qb), some (.ref qv), some (.ref qc), some (.int v5), some (.int v6), some (.int (nI k7)), some (.int (nI g)), none, none, none, none, none] [] (wA t a b (T6 S p) (T6 S p2) qb qv qc fB fV fC) := by
  obtain ⟨h, hT1, hT2, hCt, hB, hV, hC⟩ := hGx
  have hX := K_X h
  have hG := K_G h
  have hp8 := p8_le G hG
  have hw : wk S (l3 x y z) G < 256 := wkN_lt 64
  refine z_iload X dL_acts_731 rfl ?_
  refine z_iconst (v := nI 4) X dL_acts_733 (by decide) ?_
  refine z_callS1 (k := 0) (n := 0) (st := []) X (c_L_low l D t v6 4 (by decide) (by decide)) k_L_low q_ml_L_129 [] ⟨by decide, rfl⟩ (by decide) rfl rfl rfl (Nat.le_of_ble_eq_true rfl) ⟨by omega, by omega⟩ dL_acts_734 (fun r734 h734 => ?_)
  subst h734
  have hl734 : lo v6 4 < 4 := lo_lt (by decide)
  obtain ⟨k9, hk9, e9⟩ : ∃ k9, k9 < 4 ∧ lo v6 4 = k9 := ⟨_, lo_lt (by decide), rfl⟩
  refine z_top (y := nI k9) (congrArg nI e9) ?_
  refine z_istore X dL_acts_737 (Nat.le_of_ble_eq_true rfl) ?_
  refine z_lv (lv' := [some (.ref (a 0)), some (.ref (b 0)), some (.ref qb), some (.ref qv), some (.ref qc), some (.int v5), some (.int v6), some (.int (nI k7)), some (.int (nI g)), some (.int (nI k9)), none, none, none, none]) rfl ?_
  refine z_bipush (v := nI 8) X dL_acts_739 (by decide) ?_
  refine z_iload X dL_acts_741 rfl ?_
  refine z_iconst (v := nI 2) X dL_acts_743 (by decide) ?_
  refine z_ishr X dL_acts_744 ?_
  refine z_bipush (v := nI 9) X dL_acts_745 (by decide) ?_
  refine z_callS1 (k := 0) (n := 0) (st := [.int (nI 8)]) X (c_L_low l D t (v6 >>> (nI 2 &&& 31)) 9 (by decide) (by decide)) k_L_low q_ml_L_129 [] ⟨by decide, rfl⟩ (by decide) rfl rfl rfl (Nat.le_of_ble_eq_true rfl) ⟨by omega, by omega⟩ dL_acts_747 (fun r747 h747 => ?_)
  subst h747
  have hl747 : lo (v6 >>> (nI 2 &&& 31)) 9 < 9 := lo_lt (by decide)
  refine n_iadd X dL_acts_750 ?_
  obtain ⟨j9, h8, h16, e8⟩ : ∃ j9, 8 ≤ j9 ∧ j9 ≤ 16 ∧ 8 + (lo (v6 >>> (nI 2 &&& 31)) 9) = j9 := ⟨_, Nat.le_add_right 8 _, by have := lo_lt (v := v6 >>> (nI 2 &&& 31)) (n := 9) (by decide); omega, rfl⟩
  refine z_top (y := nI j9) (congrArg nI e8) ?_
  refine z_istore X dL_acts_751 (Nat.le_of_ble_eq_true rfl) ?_
  refine z_lv (lv' := [some (.ref (a 0)), some (.ref (b 0)), some (.ref qb), some (.ref qv), some (.ref qc), some (.int v5), some (.int v6), some (.int (nI k7)), some (.int (nI g)), some (.int (nI k9)), some (.int (nI j9)), none, none, none]) rfl ?_
  refine z_aload_n X dL_acts_753 rfl rfl ?_
  refine z_callV1 (k := 0) (n := 0) (st := []) X (o_working l D t a p h) k_X3_working q_ml_L_80 is24 ⟨by decide, rfl⟩ 0 3 rfl rfl (by decide) rfl rfl rfl (Nat.le_of_ble_eq_true rfl) ⟨by omega, by omega⟩ dL_acts_754 (fun r754 h754 => ?_)
  subst h754
  refine z_istore X dL_acts_757 (Nat.le_of_ble_eq_true rfl) ?_
  refine z_lv (lv' := [some (.ref (a 0)), some (.ref (b 0)), some (.ref qb), some (.ref qv), some (.ref qc), some (.int v5), some (.int v6), some (.int (nI k7)), some (.int (nI g)), some (.int (nI k9)), some (.int (nI j9)), some (.int (nI (wk S (l3 x y z) G))), none, none]) rfl ?_
  refine z_aload X dL_acts_759 rfl ?_
  refine z_iload X dL_acts_761 rfl ?_
  refine n_iald (f := fC) X 50 rfl (by omega) (by decide) dL_acts_763 ?_
  refine z_top (y := nI (sc k9)) (hC.1 k9 hk9) ?_
  refine z_istore X dL_acts_764 (Nat.le_of_ble_eq_true rfl) ?_
  refine z_lv (lv' := [some (.ref (a 0)), some (.ref (b 0)), some (.ref qb), some (.ref qv), some (.ref qc), some (.int v5), some (.int v6), some (.int (nI k7)), some (.int (nI g)), some (.int (nI k9)), some (.int (nI j9)), some (.int (nI (wk S (l3 x y z) G))), some (.int (nI (sc k9))), none]) rfl ?_
  have hs9 := h.2.1 k9 hk9
  have hs8 := hs9.2.1
  have hs16 := hs9.2.2
  rcases Nat.lt_or_ge 20 (cs4 (scU sc k9 j9)) with h20 | h20
  ·
    refine z_aload_n X dL_acts_766 rfl rfl ?_
    refine z_iload X dL_acts_767 rfl ?_
    refine z_iload X dL_acts_769 rfl ?_
    refine z_w7 (k := 0) (n := 0) (k' := 1) (n' := 6) (st := []) X Y aA_eq V (fun sz => w_setScore_S l hfl D t a p h hk9 h8 h16 h20 sz) kw_setScore q_ml_L_144 is24 ⟨by decide, rfl⟩ (fun u => wA t a b (T6 S p) (T6 S p2) qb qv qc fB fV fC) (fun u => ⟨⟨by decide, rfl⟩, ⟨by decide, rfl⟩, rfl, rfl⟩) (by decide) (by decide) rfl rfl rfl (Nat.le_of_ble_eq_true rfl) ⟨by omega, by omega⟩ ⟨by omega, by omega⟩ dL_acts_771 (fun r771 u771 h771 => ?_)
    subst h771
    refine z_istore X dL_acts_774 (Nat.le_of_ble_eq_true rfl) ?_
    refine z_lv (lv' := [some (.ref (a 0)), some (.ref (b 0)), some (.ref qb), some (.ref qv), some (.ref qc), some (.int v5), some (.int v6), some (.int (nI k7)), some (.int (nI g)), some (.int (nI k9)), some (.int (nI j9)), some (.int (nI (wk S (l3 x y z) G))), some (.int (nI (sc k9))), some (.int (-1000003))]) rfl ?_
    refine z_aload X dL_acts_776 rfl ?_
    refine z_iload X dL_acts_778 rfl ?_
    refine z_iload X dL_acts_780 rfl ?_
    refine z_if_ge (tgt := 790) X dL_acts_782 (by decide) (fun c782 => absurd c782 (by decide)) (fun _ => ?_)
    refine z_iload X dL_acts_785 rfl ?_
    refine z_goto (tgt := 792) X dL_acts_787 (by decide) ?_
    refine n_iast X Y 50 aA_eq rfl (by omega) (by decide) dL_acts_792 ?_
    refine Wz.eq (uA_C (f := upd fC k9 (nI (sc k9)))) ?_
    refine z_aload_n X dL_acts_793 rfl rfl ?_
    refine z_iload X dL_acts_794 rfl ?_
    refine z_iload X dL_acts_796 rfl ?_
    refine z_w7 (k := 1) (n := 6) (k' := 2) (n' := 12) (st := []) X Y aA_eq V (fun sz => w_setScore_S l hfl D t b p2 h hk9 h8 h16 h20 sz) kw_setScore q_ml_L_144 is24t ⟨by decide, rfl⟩ (fun u => wA t a b (T6 S p) (T6 S p2) qb qv qc fB fV (upd fC k9 (nI (sc k9)))) (fun u => ⟨⟨by decide, rfl⟩, ⟨by decide, rfl⟩, rfl, rfl⟩) (by decide) (by decide) rfl rfl rfl (Nat.le_of_ble_eq_true rfl) ⟨by omega, by omega⟩ ⟨by omega, by omega⟩ dL_acts_798 (fun r798 u798 h798 => ?_)
    subst h798
    refine z_iload X dL_acts_801 rfl ?_
    refine z_icmp_ne (tgt := 872) X dL_acts_803 (by decide) (fun c803 => absurd c803 (by decide)) (fun _ => ?_)
    refine z_iload X dL_acts_806 rfl ?_
    refine z_ldci X q_k_L_40 dL_acts_808 ?_
    refine z_icmp_eq (tgt := 825) X dL_acts_810 (by decide) (fun _ => ?_) (fun c810 => absurd c810 (by decide))
    refine z_iload X dL_acts_825 rfl ?_
    refine z_iload X dL_acts_827 rfl ?_
    refine n_icmp_lt (tgt := 844) X dL_acts_829 (by decide) (by omega) (by omega) (fun c829 => ?_) (fun c829 => ?_)
    ·
      refine z_aload_n X dL_acts_844 rfl rfl ?_
      refine z_iload X dL_acts_845 rfl ?_
      refine z_bipush (v := nI 17) X dL_acts_847 (by decide) ?_
      refine z_w7 (k := 2) (n := 12) (k' := 3) (n' := 18) (st := []) X Y aA_eq V (fun sz => w_setScore_A l hfl D t a p h (am_n hk9) (fun q => absurd q.2 (by decide)) sz) kw_setScore q_ml_L_144 is24 ⟨by decide, rfl⟩ (fun u => wA t a b (T6 S p) (T6 S p2) qb qv qc fB fV (upd fC k9 (nI (sc k9)))) (fun u => ⟨⟨by decide, rfl⟩, ⟨by decide, rfl⟩, rfl, rfl⟩) (by decide) (by decide) rfl rfl rfl (Nat.le_of_ble_eq_true rfl) ⟨by omega, by omega⟩ ⟨by omega, by omega⟩ dL_acts_849 (fun r849 u849 h849 => ?_)
      subst h849
      refine z_ldci X q_k_L_21 dL_acts_852 ?_
      refine z_icmp_ne (tgt := 872) X dL_acts_854 (by decide) (fun c854 => absurd c854 (by decide)) (fun _ => ?_)
      refine z_aload_n X dL_acts_857 rfl rfl ?_
      refine z_iconst (v := nI 4) X dL_acts_858 (by decide) ?_
      refine z_iconst (v := nI 0) X dL_acts_859 (by decide) ?_
      refine z_w7 (k := 3) (n := 18) (k' := 4) (n' := 24) (st := []) X Y aA_eq V (fun sz => w_setScore_I l hfl D t a p h (am_no (by decide) (by decide) (by decide)) sz) kw_setScore q_ml_L_144 is24 ⟨by decide, rfl⟩ (fun u => wA t a b (T6 S p) (T6 S p2) qb qv qc fB fV (upd fC k9 (nI (sc k9)))) (fun u => ⟨⟨by decide, rfl⟩, ⟨by decide, rfl⟩, rfl, rfl⟩) (by decide) (by decide) rfl rfl rfl (Nat.le_of_ble_eq_true rfl) ⟨by omega, by omega⟩ ⟨by omega, by omega⟩ dL_acts_860 (fun r860 u860 h860 => ?_)
      subst h860
      refine z_ldci X q_k_L_18 dL_acts_863 ?_
      refine z_icmp_ne (tgt := 872) X dL_acts_865 (by decide) (fun c865 => absurd c865 (by decide)) (fun _ => ?_)
      refine z_iconst (v := nI 1) X dL_acts_868 (by decide) ?_
      refine z_goto (tgt := 873) X dL_acts_869 (by decide) ?_
      refine Wz.wide (k' := 20) (n' := 120) (by omega) (by omega) ?_
      refine z_iret X Z (by decide +kernel) dL_acts_873 ?_
      exact ⟨(S, p, p2, fB, fV, upd fC k9 (nI (sc k9))), ⟨rfl, sc, tk, x, y, z, G, h, hT1, hT2, hCt, hB, hV, LC_sc0 hC hk9⟩, fun q hq => hq⟩
    ·
      refine z_iload X dL_acts_832 rfl ?_
      refine z_aload_n X dL_acts_834 rfl rfl ?_
      refine z_callV1 (k := 2) (n := 12) (st := [.int (nI (wk S (l3 x y z) G))]) X (o_working l D t a p h) k_X3_working q_ml_L_80 is24 ⟨by decide, rfl⟩ 0 3 rfl rfl (by decide) rfl rfl rfl (Nat.le_of_ble_eq_true rfl) ⟨by omega, by omega⟩ dL_acts_835 (fun r835 h835 => ?_)
      subst h835
      refine z_iconst (v := (-1)) X dL_acts_838 (by decide) ?_
      refine z_ixor X dL_acts_839 ?_
      refine z_iand X dL_acts_840 ?_
      refine z_top (y := nI 0) ((zn_dif _ _).trans (congrArg nI (dif_self hw))) ?_
      refine n_if_ne (tgt := 872) X dL_acts_841 (by decide) (by omega) (fun c841 => absurd c841 (by decide)) (fun _ => ?_)
      refine z_aload_n X dL_acts_844 rfl rfl ?_
      refine z_iload X dL_acts_845 rfl ?_
      refine z_bipush (v := nI 17) X dL_acts_847 (by decide) ?_
      refine z_w7 (k := 2) (n := 12) (k' := 3) (n' := 18) (st := []) X Y aA_eq V (fun sz => w_setScore_A l hfl D t a p h (am_n hk9) (fun q => absurd q.2 (by decide)) sz) kw_setScore q_ml_L_144 is24 ⟨by decide, rfl⟩ (fun u => wA t a b (T6 S p) (T6 S p2) qb qv qc fB fV (upd fC k9 (nI (sc k9)))) (fun u => ⟨⟨by decide, rfl⟩, ⟨by decide, rfl⟩, rfl, rfl⟩) (by decide) (by decide) rfl rfl rfl (Nat.le_of_ble_eq_true rfl) ⟨by omega, by omega⟩ ⟨by omega, by omega⟩ dL_acts_849 (fun r849 u849 h849 => ?_)
      subst h849
      refine z_ldci X q_k_L_21 dL_acts_852 ?_
      refine z_icmp_ne (tgt := 872) X dL_acts_854 (by decide) (fun c854 => absurd c854 (by decide)) (fun _ => ?_)
      refine z_aload_n X dL_acts_857 rfl rfl ?_
      refine z_iconst (v := nI 4) X dL_acts_858 (by decide) ?_
      refine z_iconst (v := nI 0) X dL_acts_859 (by decide) ?_
      refine z_w7 (k := 3) (n := 18) (k' := 4) (n' := 24) (st := []) X Y aA_eq V (fun sz => w_setScore_I l hfl D t a p h (am_no (by decide) (by decide) (by decide)) sz) kw_setScore q_ml_L_144 is24 ⟨by decide, rfl⟩ (fun u => wA t a b (T6 S p) (T6 S p2) qb qv qc fB fV (upd fC k9 (nI (sc k9)))) (fun u => ⟨⟨by decide, rfl⟩, ⟨by decide, rfl⟩, rfl, rfl⟩) (by decide) (by decide) rfl rfl rfl (Nat.le_of_ble_eq_true rfl) ⟨by omega, by omega⟩ ⟨by omega, by omega⟩ dL_acts_860 (fun r860 u860 h860 => ?_)
      subst h860
      refine z_ldci X q_k_L_18 dL_acts_863 ?_
      refine z_icmp_ne (tgt := 872) X dL_acts_865 (by decide) (fun c865 => absurd c865 (by decide)) (fun _ => ?_)
      refine z_iconst (v := nI 1) X dL_acts_868 (by decide) ?_
      refine z_goto (tgt := 873) X dL_acts_869 (by decide) ?_
      refine Wz.wide (k' := 20) (n' := 120) (by omega) (by omega) ?_
      refine z_iret X Z (by decide +kernel) dL_acts_873 ?_
      exact ⟨(S, p, p2, fB, fV, upd fC k9 (nI (sc k9))), ⟨rfl, sc, tk, x, y, z, G, h, hT1, hT2, hCt, hB, hV, LC_sc0 hC hk9⟩, fun q hq => hq⟩
  ·
    have hK : zKs (scS S k9 j9) (scU sc k9 j9) x y z G := K_sc h h8 h16 h20
    have hw2 : wk (scS S k9 j9) (l3 x y z) G < 256 := wkN_lt 64
    refine z_aload_n X dL_acts_766 rfl rfl ?_
    refine z_iload X dL_acts_767 rfl ?_
    refine z_iload X dL_acts_769 rfl ?_
    refine z_w7 (k := 0) (n := 0) (k' := 1) (n' := 6) (st := []) X Y aA_eq V (fun sz => w_setScore l hfl D t a p h hk9 h8 h16 h20 sz) kw_setScore q_ml_L_144 is24 ⟨by decide, rfl⟩ (fun u => wA t a b (T6 (scS S k9 j9) p) (T6 S p2) qb qv qc fB fV fC) (fun u => ⟨⟨by decide, rfl⟩, ⟨by decide, rfl⟩, rfl, rfl⟩) (by decide) (by decide) rfl rfl rfl (Nat.le_of_ble_eq_true rfl) ⟨by omega, by omega⟩ ⟨by omega, by omega⟩ dL_acts_771 (fun r771 u771 h771 => ?_)
    subst h771
    refine z_istore X dL_acts_774 (Nat.le_of_ble_eq_true rfl) ?_
    refine z_lv (lv' := [some (.ref (a 0)), some (.ref (b 0)), some (.ref qb), some (.ref qv), some (.ref qc), some (.int v5), some (.int v6), some (.int (nI k7)), some (.int (nI g)), some (.int (nI k9)), some (.int (nI j9)), some (.int (nI (wk S (l3 x y z) G))), some (.int (nI (sc k9))), some (.int (nI (20 - cs4 (scU sc k9 j9))))]) rfl ?_
    refine z_aload X dL_acts_776 rfl ?_
    refine z_iload X dL_acts_778 rfl ?_
    refine z_iload X dL_acts_780 rfl ?_
    refine n_if_ge (tgt := 790) X dL_acts_782 (by decide) (by omega) ?_
    refine z_iload X dL_acts_790 rfl ?_
    refine n_iast X Y 50 aA_eq rfl (by omega) (by decide) dL_acts_792 ?_
    refine Wz.eq (uA_C (f := upd fC k9 (nI j9))) ?_
    refine z_aload_n X dL_acts_793 rfl rfl ?_
    refine z_iload X dL_acts_794 rfl ?_
    refine z_iload X dL_acts_796 rfl ?_
    refine z_w7 (k := 1) (n := 6) (k' := 2) (n' := 12) (st := []) X Y aA_eq V (fun sz => w_setScore l hfl D t b p2 h hk9 h8 h16 h20 sz) kw_setScore q_ml_L_144 is24t ⟨by decide, rfl⟩ (fun u => wA t a b (T6 (scS S k9 j9) p) (T6 (scS S k9 j9) p2) qb qv qc fB fV (upd fC k9 (nI j9))) (fun u => ⟨⟨by decide, rfl⟩, ⟨by decide, rfl⟩, rfl, rfl⟩) (by decide) (by decide) rfl rfl rfl (Nat.le_of_ble_eq_true rfl) ⟨by omega, by omega⟩ ⟨by omega, by omega⟩ dL_acts_798 (fun r798 u798 h798 => ?_)
    subst h798
    refine z_iload X dL_acts_801 rfl ?_
    refine n_icmp_ne (tgt := 872) X dL_acts_803 (by decide) (by omega) (by omega) (fun c803 => absurd c803 (by omega)) (fun _ => ?_)
    refine z_iload X dL_acts_806 rfl ?_
    refine z_ldci X q_k_L_40 dL_acts_808 ?_
    refine z_icmp_eq (tgt := 825) X dL_acts_810 (by decide) (fun c810 => absurd c810 (zn_neg3 _ (by omega))) (fun c810 => ?_)
    refine z_iload X dL_acts_813 rfl ?_
    refine n_if_lt (tgt := 872) X dL_acts_815 (by decide) (by omega) ?_
    refine z_iload X dL_acts_818 rfl ?_
    refine z_bipush (v := nI 20) X dL_acts_820 (by decide) ?_
    refine n_icmp_gt (tgt := 872) X dL_acts_822 (by decide) (by omega) (by omega) (fun c822 => absurd c822 (by omega)) (fun c822 => ?_)
    refine z_iload X dL_acts_825 rfl ?_
    refine z_iload X dL_acts_827 rfl ?_
    refine n_icmp_lt (tgt := 844) X dL_acts_829 (by decide) (by omega) (by omega) (fun c829 => ?_) (fun c829 => ?_)
    ·
      refine z_aload_n X dL_acts_844 rfl rfl ?_
      refine z_iload X dL_acts_845 rfl ?_
      refine z_bipush (v := nI 17) X dL_acts_847 (by decide) ?_
      refine z_w7 (k := 2) (n := 12) (k' := 3) (n' := 18) (st := []) X Y aA_eq V (fun sz => w_setScore_A l hfl D t a p hK (am_n hk9) (fun q => absurd q.2 (by decide)) sz) kw_setScore q_ml_L_144 is24 ⟨by decide, rfl⟩ (fun u => wA t a b (T6 (scS S k9 j9) p) (T6 (scS S k9 j9) p2) qb qv qc fB fV (upd fC k9 (nI j9))) (fun u => ⟨⟨by decide, rfl⟩, ⟨by decide, rfl⟩, rfl, rfl⟩) (by decide) (by decide) rfl rfl rfl (Nat.le_of_ble_eq_true rfl) ⟨by omega, by omega⟩ ⟨by omega, by omega⟩ dL_acts_849 (fun r849 u849 h849 => ?_)
      subst h849
      refine z_ldci X q_k_L_21 dL_acts_852 ?_
      refine z_icmp_ne (tgt := 872) X dL_acts_854 (by decide) (fun c854 => absurd c854 (by decide)) (fun _ => ?_)
      refine z_aload_n X dL_acts_857 rfl rfl ?_
      refine z_iconst (v := nI 4) X dL_acts_858 (by decide) ?_
      refine z_iconst (v := nI 0) X dL_acts_859 (by decide) ?_
      refine z_w7 (k := 3) (n := 18) (k' := 4) (n' := 24) (st := []) X Y aA_eq V (fun sz => w_setScore_I l hfl D t a p hK (am_no (by decide) (by decide) (by decide)) sz) kw_setScore q_ml_L_144 is24 ⟨by decide, rfl⟩ (fun u => wA t a b (T6 (scS S k9 j9) p) (T6 (scS S k9 j9) p2) qb qv qc fB fV (upd fC k9 (nI j9))) (fun u => ⟨⟨by decide, rfl⟩, ⟨by decide, rfl⟩, rfl, rfl⟩) (by decide) (by decide) rfl rfl rfl (Nat.le_of_ble_eq_true rfl) ⟨by omega, by omega⟩ ⟨by omega, by omega⟩ dL_acts_860 (fun r860 u860 h860 => ?_)
      subst h860
      refine z_ldci X q_k_L_18 dL_acts_863 ?_
      refine z_icmp_ne (tgt := 872) X dL_acts_865 (by decide) (fun c865 => absurd c865 (by decide)) (fun _ => ?_)
      refine z_iconst (v := nI 1) X dL_acts_868 (by decide) ?_
      refine z_goto (tgt := 873) X dL_acts_869 (by decide) ?_
      refine Wz.wide (k' := 20) (n' := 120) (by omega) (by omega) ?_
      refine z_iret X Z (by decide +kernel) dL_acts_873 ?_
      exact ⟨(scS S k9 j9, p, p2, fB, fV, upd fC k9 (nI j9)), ⟨rfl, scU sc k9 j9, tk, x, y, z, G, hK, hT1, hT2, hCt, hB, hV, LC_sc hC hk9⟩, fun q hq => hq⟩
    ·
      refine z_iload X dL_acts_832 rfl ?_
      refine z_aload_n X dL_acts_834 rfl rfl ?_
      refine z_callV1 (k := 2) (n := 12) (st := [.int (nI (wk S (l3 x y z) G))]) X (o_working l D t a p hK) k_X3_working q_ml_L_80 is24 ⟨by decide, rfl⟩ 0 3 rfl rfl (by decide) rfl rfl rfl (Nat.le_of_ble_eq_true rfl) ⟨by omega, by omega⟩ dL_acts_835 (fun r835 h835 => ?_)
      subst h835
      refine z_iconst (v := (-1)) X dL_acts_838 (by decide) ?_
      refine z_ixor X dL_acts_839 ?_
      refine z_iand X dL_acts_840 ?_
      refine z_top (y := nI 0) ((zn_dif _ _).trans (congrArg nI (wk_sc hs9.1 c829 h16))) ?_
      refine n_if_ne (tgt := 872) X dL_acts_841 (by decide) (by omega) (fun c841 => absurd c841 (by decide)) (fun _ => ?_)
      refine z_aload_n X dL_acts_844 rfl rfl ?_
      refine z_iload X dL_acts_845 rfl ?_
      refine z_bipush (v := nI 17) X dL_acts_847 (by decide) ?_
      refine z_w7 (k := 2) (n := 12) (k' := 3) (n' := 18) (st := []) X Y aA_eq V (fun sz => w_setScore_A l hfl D t a p hK (am_n hk9) (fun q => absurd q.2 (by decide)) sz) kw_setScore q_ml_L_144 is24 ⟨by decide, rfl⟩ (fun u => wA t a b (T6 (scS S k9 j9) p) (T6 (scS S k9 j9) p2) qb qv qc fB fV (upd fC k9 (nI j9))) (fun u => ⟨⟨by decide, rfl⟩, ⟨by decide, rfl⟩, rfl, rfl⟩) (by decide) (by decide) rfl rfl rfl (Nat.le_of_ble_eq_true rfl) ⟨by omega, by omega⟩ ⟨by omega, by omega⟩ dL_acts_849 (fun r849 u849 h849 => ?_)
      subst h849
      refine z_ldci X q_k_L_21 dL_acts_852 ?_
      refine z_icmp_ne (tgt := 872) X dL_acts_854 (by decide) (fun c854 => absurd c854 (by decide)) (fun _ => ?_)
      refine z_aload_n X dL_acts_857 rfl rfl ?_
      refine z_iconst (v := nI 4) X dL_acts_858 (by decide) ?_
      refine z_iconst (v := nI 0) X dL_acts_859 (by decide) ?_
      refine z_w7 (k := 3) (n := 18) (k' := 4) (n' := 24) (st := []) X Y aA_eq V (fun sz => w_setScore_I l hfl D t a p hK (am_no (by decide) (by decide) (by decide)) sz) kw_setScore q_ml_L_144 is24 ⟨by decide, rfl⟩ (fun u => wA t a b (T6 (scS S k9 j9) p) (T6 (scS S k9 j9) p2) qb qv qc fB fV (upd fC k9 (nI j9))) (fun u => ⟨⟨by decide, rfl⟩, ⟨by decide, rfl⟩, rfl, rfl⟩) (by decide) (by decide) rfl rfl rfl (Nat.le_of_ble_eq_true rfl) ⟨by omega, by omega⟩ ⟨by omega, by omega⟩ dL_acts_860 (fun r860 u860 h860 => ?_)
      subst h860
      refine z_ldci X q_k_L_18 dL_acts_863 ?_
      refine z_icmp_ne (tgt := 872) X dL_acts_865 (by decide) (fun c865 => absurd c865 (by decide)) (fun _ => ?_)
      refine z_iconst (v := nI 1) X dL_acts_868 (by decide) ?_
      refine z_goto (tgt := 873) X dL_acts_869 (by decide) ?_
      refine Wz.wide (k' := 20) (n' := 120) (by omega) (by omega) ?_
      refine z_iret X Z (by decide +kernel) dL_acts_873 ?_
      exact ⟨(scS S k9 j9, p, p2, fB, fV, upd fC k9 (nI j9)), ⟨rfl, scU sc k9 j9, tk, x, y, z, G, hK, hT1, hT2, hCt, hB, hV, LC_sc hC hk9⟩, fun q hq => hq⟩
set_option maxHeartbeats 1000000 in
set_option maxRecDepth 100000 in
theorem act_level {E : zE} {D : va_G} {t : ClassId × ClassId × ClassId} {l : Launch} (hfl : l.stackTraces = false) {a b : Nat → Nat} {qb qv qc : Nat} {S : zS} {p p2 : zT} {fB fV fC : Nat → Int32} {sc tk : Nat → Nat} {x y z G : Nat} (v5 v6 : Int32) (k7 g : Nat) (hg : g < 8) (X : zX E RL cL_acts 14 (zRm 34 20 120) D t l) (Z : zEnd E (some .boolean) (va_Qi (fun r (u : zU) => r = nI 1 ∧ Gd u) (fun u q => va_P D vwCl (wG t a b qb qv qc u) q.heap) (zA E)) 20 120) (V : zTry E) (Y : zWr E (aR a ++ aR b ++ [qb, qv, qc])) (hGx : Gx S p p2 fB fV fC sc tk x y z G) : Wz E 0 0 881 [some (.ref (a 0)), some (.ref (b 0)), some (.ref qb), some (.ref qv), some (.ref qc), some (.int v5), some (.int v6), some (.int (nI k7)), some (.int (nI g)), none, none, none, none, none] [] (wA t a b (T6 S p) (T6 S p2) qb qv qc fB fV fC) := by
  obtain ⟨h, hT1, hT2, hCt, hB, hV, hC⟩ := hGx
  have hX := K_X h
  have hG := K_G h
  have hp8 := p8_le G hG
  have hw : wk S (l3 x y z) G < 256 := wkN_lt 64
  refine z_iload X dL_acts_881 rfl ?_
  refine z_iconst (v := nI 3) X dL_acts_883 (by decide) ?_
  refine z_callS1 (k := 0) (n := 0) (st := []) X (c_L_low l D t v6 3 (by decide) (by decide)) k_L_low q_ml_L_129 [] ⟨by decide, rfl⟩ (by decide) rfl rfl rfl (Nat.le_of_ble_eq_true rfl) ⟨by omega, by omega⟩ dL_acts_884 (fun r884 h884 => ?_)
  subst h884
  have hl884 : lo v6 3 < 3 := lo_lt (by decide)
  obtain ⟨k9, hk9, e9⟩ : ∃ k9, k9 < 3 ∧ lo v6 3 = k9 := ⟨_, lo_lt (by decide), rfl⟩
  refine z_top (y := nI k9) (congrArg nI e9) ?_
  refine z_istore X dL_acts_887 (Nat.le_of_ble_eq_true rfl) ?_
  refine z_lv (lv' := [some (.ref (a 0)), some (.ref (b 0)), some (.ref qb), some (.ref qv), some (.ref qc), some (.int v5), some (.int v6), some (.int (nI k7)), some (.int (nI g)), some (.int (nI k9)), none, none, none, none]) rfl ?_
  refine z_aload_n X dL_acts_889 rfl rfl ?_
  refine z_callV2 (k := 0) (n := 0) (st := []) X Y aA_eq (o_isLawful l D t a p h) k_X3_isLawful q_ml_L_112 is24 (fun u => wA t a b (T6 S (p0 u p)) (T6 S p2) qb qv qc fB fV fC) (fun u => ⟨⟨by decide, rfl⟩, ⟨by decide, rfl⟩, rfl, rfl⟩) ⟨by decide, rfl⟩ 0 3 rfl rfl (by decide) rfl rfl rfl (Nat.le_of_ble_eq_true rfl) ⟨by omega, by omega⟩ dL_acts_890 (fun r890 u890 h890 => ?_)
  rcases h890 with ⟨rfl, hR⟩ | ⟨rfl, hR⟩
  ·
    refine z_istore X dL_acts_893 (Nat.le_of_ble_eq_true rfl) ?_
    refine z_lv (lv' := [some (.ref (a 0)), some (.ref (b 0)), some (.ref qb), some (.ref qv), some (.ref qc), some (.int v5), some (.int v6), some (.int (nI k7)), some (.int (nI g)), some (.int (nI k9)), some (.int (nI 1)), none, none, none]) rfl ?_
    refine z_aload_n X dL_acts_895 rfl rfl ?_
    refine z_callV1 (k := 0) (n := 0) (st := []) X (o_working l D t a (p0 u890 p) h) k_X3_working q_ml_L_80 is24 ⟨by decide, rfl⟩ 0 3 rfl rfl (by decide) rfl rfl rfl (Nat.le_of_ble_eq_true rfl) ⟨by omega, by omega⟩ dL_acts_896 (fun r896 h896 => ?_)
    subst h896
    refine z_istore X dL_acts_899 (Nat.le_of_ble_eq_true rfl) ?_
    refine z_lv (lv' := [some (.ref (a 0)), some (.ref (b 0)), some (.ref qb), some (.ref qv), some (.ref qc), some (.int v5), some (.int v6), some (.int (nI k7)), some (.int (nI g)), some (.int (nI k9)), some (.int (nI 1)), some (.int (nI (wk S (l3 x y z) G))), none, none]) rfl ?_
    rcases Nat.lt_or_ge (x + y + z) 8 with h8 | h8
    ·
      have hK : zKs (tkS S k9 x y z) sc (gx k9 x) (gy k9 y) (gz k9 z) G := K_tk h hk9 h8
      have hw2 : wk (tkS S k9 x y z) (l3 (gx k9 x) (gy k9 y) (gz k9 z)) G < 256 := wkN_lt 64
      refine z_aload_n X dL_acts_901 rfl rfl ?_
      refine z_iload X dL_acts_902 rfl ?_
      refine z_w7 (k := 0) (n := 0) (k' := 1) (n' := 6) (st := []) X Y aA_eq V (fun sz => w_takeLevel l hfl D t a (p0 u890 p) h hk9 h8 sz) kw_takeLevel q_ml_L_123 is24 ⟨by decide, rfl⟩ (fun u => wA t a b (T6 (tkS S k9 x y z) ((p0 u890 p).1, (p0 u890 p).2.1, (p0 u890 p).2.2.1, (p0 u890 p).2.2.2.1, (p0 u890 p).2.2.2.2.1, upd (pq (p0 u890 p)) (x + y + z) (nI k9))) (T6 S p2) qb qv qc fB fV fC) (fun u => ⟨⟨by decide, rfl⟩, ⟨by decide, rfl⟩, rfl, rfl⟩) (by decide) (by decide) rfl rfl rfl (Nat.le_of_ble_eq_true rfl) ⟨by omega, by omega⟩ ⟨by omega, by omega⟩ dL_acts_904 (fun r904 u904 h904 => ?_)
      subst h904
      refine z_istore X dL_acts_907 (Nat.le_of_ble_eq_true rfl) ?_
      refine z_lv (lv' := [some (.ref (a 0)), some (.ref (b 0)), some (.ref qb), some (.ref qv), some (.ref qc), some (.int v5), some (.int v6), some (.int (nI k7)), some (.int (nI g)), some (.int (nI k9)), some (.int (nI 1)), some (.int (nI (wk S (l3 x y z) G))), some (.int (nI (x + y + z + 1))), none]) rfl ?_
      refine z_aload_n X dL_acts_909 rfl rfl ?_
      refine z_iload X dL_acts_910 rfl ?_
      refine z_w7 (k := 1) (n := 6) (k' := 2) (n' := 12) (st := []) X Y aA_eq V (fun sz => w_takeLevel l hfl D t b p2 h hk9 h8 sz) kw_takeLevel q_ml_L_123 is24t ⟨by decide, rfl⟩ (fun u => wA t a b (T6 (tkS S k9 x y z) ((p0 u890 p).1, (p0 u890 p).2.1, (p0 u890 p).2.2.1, (p0 u890 p).2.2.2.1, (p0 u890 p).2.2.2.2.1, upd (pq (p0 u890 p)) (x + y + z) (nI k9))) (T6 (tkS S k9 x y z) (p2.1, p2.2.1, p2.2.2.1, p2.2.2.2.1, p2.2.2.2.2.1, upd (pq p2) (x + y + z) (nI k9))) qb qv qc fB fV fC) (fun u => ⟨⟨by decide, rfl⟩, ⟨by decide, rfl⟩, rfl, rfl⟩) (by decide) (by decide) rfl rfl rfl (Nat.le_of_ble_eq_true rfl) ⟨by omega, by omega⟩ ⟨by omega, by omega⟩ dL_acts_912 (fun r912 u912 h912 => ?_)
      subst h912
      refine z_iload X dL_acts_915 rfl ?_
      refine n_icmp_ne (tgt := 949) X dL_acts_917 (by decide) (by omega) (by omega) (fun c917 => absurd c917 (by omega)) (fun _ => ?_)
      refine z_iload X dL_acts_920 rfl ?_
      refine z_aload X dL_acts_922 rfl ?_
      refine z_iconst (v := nI 4) X dL_acts_924 (by decide) ?_
      refine n_iald (f := fC) X 50 rfl (by omega) (by decide) dL_acts_925 ?_
      refine z_top (y := nI (x + y + z)) (hC.2) ?_
      refine z_bipush (v := nI 8) X dL_acts_926 (by decide) ?_
      refine n_icmp_ge (tgt := 940) X dL_acts_928 (by decide) (by omega) (by omega) (fun c928 => absurd c928 (by omega)) (fun c928 => ?_)
      refine z_aload X dL_acts_931 rfl ?_
      refine z_iconst (v := nI 4) X dL_acts_933 (by decide) ?_
      refine n_iald (f := fC) X 50 rfl (by omega) (by decide) dL_acts_934 ?_
      refine z_top (y := nI (x + y + z)) (hC.2) ?_
      refine z_iconst (v := nI 1) X dL_acts_935 (by decide) ?_
      refine n_iadd X dL_acts_936 ?_
      refine z_goto (tgt := 942) X dL_acts_937 (by decide) ?_
      refine z_top (y := nI (x + y + z + 1)) (rfl) ?_
      refine n_icmp_ne (tgt := 949) X dL_acts_942 (by decide) (by omega) (by omega) (fun c942 => absurd c942 (by omega)) (fun _ => ?_)
      refine z_iconst (v := nI 1) X dL_acts_945 (by decide) ?_
      refine z_goto (tgt := 950) X dL_acts_946 (by decide) ?_
      refine z_istore X dL_acts_950 (Nat.le_of_ble_eq_true rfl) ?_
      refine z_lv (lv' := [some (.ref (a 0)), some (.ref (b 0)), some (.ref qb), some (.ref qv), some (.ref qc), some (.int v5), some (.int v6), some (.int (nI k7)), some (.int (nI g)), some (.int (nI k9)), some (.int (nI 1)), some (.int (nI (wk S (l3 x y z) G))), some (.int (nI (x + y + z + 1))), some (.int (nI 1))]) rfl ?_
      refine z_aload X dL_acts_952 rfl ?_
      refine z_iconst (v := nI 4) X dL_acts_954 (by decide) ?_
      refine z_dup2 X dL_acts_955 rfl rfl ?_
      refine n_iald (f := fC) X 50 rfl (by omega) (by decide) dL_acts_956 ?_
      refine z_top (y := nI (x + y + z)) (hC.2) ?_
      refine z_aload X dL_acts_957 rfl ?_
      refine z_iconst (v := nI 4) X dL_acts_959 (by decide) ?_
      refine n_iald (f := fC) X 50 rfl (by omega) (by decide) dL_acts_960 ?_
      refine z_top (y := nI (x + y + z)) (hC.2) ?_
      refine z_bipush (v := nI 8) X dL_acts_961 (by decide) ?_
      refine n_icmp_ge (tgt := 970) X dL_acts_963 (by decide) (by omega) (by omega) (fun c963 => absurd c963 (by omega)) (fun c963 => ?_)
      refine z_iconst (v := nI 1) X dL_acts_966 (by decide) ?_
      refine z_goto (tgt := 971) X dL_acts_967 (by decide) ?_
      refine n_iadd X dL_acts_971 ?_
      refine n_iast X Y 50 aA_eq rfl (by omega) (by decide) dL_acts_972 ?_
      refine Wz.eq (uA_C (f := upd fC 4 (nI ((x + y + z) + 1)))) ?_
      refine z_iload X dL_acts_973 rfl ?_
      refine n_if_eq (tgt := 1016) X dL_acts_975 (by decide) (by omega) (fun c975 => absurd c975 (by decide)) (fun _ => ?_)
      refine z_iload X dL_acts_978 rfl ?_
      refine n_if_eq (tgt := 990) X dL_acts_980 (by decide) (by omega) (fun c980 => absurd c980 (by decide)) (fun _ => ?_)
      refine z_aload_n X dL_acts_983 rfl rfl ?_
      refine z_callV2 (k := 2) (n := 12) (st := []) X Y aA_eq (o_isLawful l D t a ((p0 u890 p).1, (p0 u890 p).2.1, (p0 u890 p).2.2.1, (p0 u890 p).2.2.2.1, (p0 u890 p).2.2.2.2.1, upd (pq (p0 u890 p)) (x + y + z) (nI k9)) hK) k_X3_isLawful q_ml_L_112 is24 (fun u => wA t a b (T6 (tkS S k9 x y z) (p0 u ((p0 u890 p).1, (p0 u890 p).2.1, (p0 u890 p).2.2.1, (p0 u890 p).2.2.2.1, (p0 u890 p).2.2.2.2.1, upd (pq (p0 u890 p)) (x + y + z) (nI k9)))) (T6 (tkS S k9 x y z) (p2.1, p2.2.1, p2.2.2.1, p2.2.2.2.1, p2.2.2.2.2.1, upd (pq p2) (x + y + z) (nI k9))) qb qv qc fB fV (upd fC 4 (nI ((x + y + z) + 1)))) (fun u => ⟨⟨by decide, rfl⟩, ⟨by decide, rfl⟩, rfl, rfl⟩) ⟨by decide, rfl⟩ 0 3 rfl rfl (by decide) rfl rfl rfl (Nat.le_of_ble_eq_true rfl) ⟨by omega, by omega⟩ dL_acts_984 (fun r984 u984 h984 => ?_)
      have e984 : r984 = nI 1 := h984.elim (fun q => q.1) (fun q => absurd ((Rc_ru Ru_tk).mpr (Rc_lev hk9 hR)) q.2)
      subst e984
      refine n_if_eq (tgt := 1016) X dL_acts_987 (by decide) (by omega) (fun c987 => absurd c987 (by decide)) (fun _ => ?_)
      refine z_iload X dL_acts_990 rfl ?_
      refine z_aload_n X dL_acts_992 rfl rfl ?_
      refine z_callV1 (k := 2) (n := 12) (st := [.int (nI (wk S (l3 x y z) G))]) X (o_working l D t a (p0 u984 ((p0 u890 p).1, (p0 u890 p).2.1, (p0 u890 p).2.2.1, (p0 u890 p).2.2.2.1, (p0 u890 p).2.2.2.2.1, upd (pq (p0 u890 p)) (x + y + z) (nI k9))) hK) k_X3_working q_ml_L_80 is24 ⟨by decide, rfl⟩ 0 3 rfl rfl (by decide) rfl rfl rfl (Nat.le_of_ble_eq_true rfl) ⟨by omega, by omega⟩ dL_acts_993 (fun r993 h993 => ?_)
      subst h993
      refine z_iconst (v := (-1)) X dL_acts_996 (by decide) ?_
      refine z_ixor X dL_acts_997 ?_
      refine z_iand X dL_acts_998 ?_
      refine z_top (y := nI 0) ((zn_dif _ _).trans (congrArg nI (wk_lev Ru_tk gx_le gy_le gz_le (K_X hK)))) ?_
      refine n_if_ne (tgt := 1016) X dL_acts_999 (by decide) (by omega) (fun c999 => absurd c999 (by decide)) (fun _ => ?_)
      refine z_aload_n X dL_acts_1002 rfl rfl ?_
      refine z_iconst (v := nI 3) X dL_acts_1003 (by decide) ?_
      refine z_w7 (k := 2) (n := 12) (k' := 3) (n' := 18) (st := []) X Y aA_eq V (fun sz => w_takeLevel_I l hfl D t a (p0 u984 ((p0 u890 p).1, (p0 u890 p).2.1, (p0 u890 p).2.2.1, (p0 u890 p).2.2.2.1, (p0 u890 p).2.2.2.2.1, upd (pq (p0 u890 p)) (x + y + z) (nI k9))) hK (am_no (by decide) (by decide) (by decide)) sz) kw_takeLevel q_ml_L_123 is24 ⟨by decide, rfl⟩ (fun u => wA t a b (T6 (tkS S k9 x y z) (p0 u984 ((p0 u890 p).1, (p0 u890 p).2.1, (p0 u890 p).2.2.1, (p0 u890 p).2.2.2.1, (p0 u890 p).2.2.2.2.1, upd (pq (p0 u890 p)) (x + y + z) (nI k9)))) (T6 (tkS S k9 x y z) (p2.1, p2.2.1, p2.2.2.1, p2.2.2.2.1, p2.2.2.2.2.1, upd (pq p2) (x + y + z) (nI k9))) qb qv qc fB fV (upd fC 4 (nI ((x + y + z) + 1)))) (fun u => ⟨⟨by decide, rfl⟩, ⟨by decide, rfl⟩, rfl, rfl⟩) (by decide) (by decide) rfl rfl rfl (Nat.le_of_ble_eq_true rfl) ⟨by omega, by omega⟩ ⟨by omega, by omega⟩ dL_acts_1004 (fun r1004 u1004 h1004 => ?_)
      subst h1004
      refine z_ldci X q_k_L_18 dL_acts_1007 ?_
      refine z_icmp_ne (tgt := 1016) X dL_acts_1009 (by decide) (fun c1009 => absurd c1009 (by decide)) (fun _ => ?_)
      refine z_iconst (v := nI 1) X dL_acts_1012 (by decide) ?_
      refine z_goto (tgt := 1017) X dL_acts_1013 (by decide) ?_
      refine Wz.wide (k' := 20) (n' := 120) (by omega) (by omega) ?_
      refine z_iret X Z (by decide +kernel) dL_acts_1017 ?_
      exact ⟨(tkS S k9 x y z, p0 u984 ((p0 u890 p).1, (p0 u890 p).2.1, (p0 u890 p).2.2.1, (p0 u890 p).2.2.2.1, (p0 u890 p).2.2.2.2.1, upd (pq (p0 u890 p)) (x + y + z) (nI k9)), (p2.1, p2.2.1, p2.2.2.1, p2.2.2.2.1, p2.2.2.2.2.1, upd (pq p2) (x + y + z) (nI k9)), fB, fV, upd fC 4 (nI ((x + y + z) + 1))), ⟨rfl, sc, tkU tk (x + y + z) k9, gx k9 x, gy k9 y, gz k9 z, G, hK, Tk_tk hT1 hk9, Tk_tk hT2 hk9, Ct_tk hCt hk9, LB_ru Ru_tk hB, LV_ru Ru_tk hV, by rw [gx_sum hk9]; exact LC_m hC⟩, fun q hq => hq⟩
    ·
      have hm8 : x + y + z = 8 := by omega
      refine z_aload_n X dL_acts_901 rfl rfl ?_
      refine z_iload X dL_acts_902 rfl ?_
      refine z_w7 (k := 0) (n := 0) (k' := 1) (n' := 6) (st := []) X Y aA_eq V (fun sz => w_takeLevel_S l hfl D t a (p0 u890 p) h hk9 hm8 sz) kw_takeLevel q_ml_L_123 is24 ⟨by decide, rfl⟩ (fun u => wA t a b (T6 S (p0 u890 p)) (T6 S p2) qb qv qc fB fV fC) (fun u => ⟨⟨by decide, rfl⟩, ⟨by decide, rfl⟩, rfl, rfl⟩) (by decide) (by decide) rfl rfl rfl (Nat.le_of_ble_eq_true rfl) ⟨by omega, by omega⟩ ⟨by omega, by omega⟩ dL_acts_904 (fun r904 u904 h904 => ?_)
      subst h904
      refine z_istore X dL_acts_907 (Nat.le_of_ble_eq_true rfl) ?_
      refine z_lv (lv' := [some (.ref (a 0)), some (.ref (b 0)), some (.ref qb), some (.ref qv), some (.ref qc), some (.int v5), some (.int v6), some (.int (nI k7)), some (.int (nI g)), some (.int (nI k9)), some (.int (nI 1)), some (.int (nI (wk S (l3 x y z) G))), some (.int (-1000003)), none]) rfl ?_
      refine z_aload_n X dL_acts_909 rfl rfl ?_
      refine z_iload X dL_acts_910 rfl ?_
      refine z_w7 (k := 1) (n := 6) (k' := 2) (n' := 12) (st := []) X Y aA_eq V (fun sz => w_takeLevel_S l hfl D t b p2 h hk9 hm8 sz) kw_takeLevel q_ml_L_123 is24t ⟨by decide, rfl⟩ (fun u => wA t a b (T6 S (p0 u890 p)) (T6 S p2) qb qv qc fB fV fC) (fun u => ⟨⟨by decide, rfl⟩, ⟨by decide, rfl⟩, rfl, rfl⟩) (by decide) (by decide) rfl rfl rfl (Nat.le_of_ble_eq_true rfl) ⟨by omega, by omega⟩ ⟨by omega, by omega⟩ dL_acts_912 (fun r912 u912 h912 => ?_)
      subst h912
      refine z_iload X dL_acts_915 rfl ?_
      refine z_icmp_ne (tgt := 949) X dL_acts_917 (by decide) (fun c917 => absurd c917 (by decide)) (fun _ => ?_)
      refine z_iload X dL_acts_920 rfl ?_
      refine z_aload X dL_acts_922 rfl ?_
      refine z_iconst (v := nI 4) X dL_acts_924 (by decide) ?_
      refine n_iald (f := fC) X 50 rfl (by omega) (by decide) dL_acts_925 ?_
      refine z_top (y := nI (x + y + z)) (hC.2) ?_
      refine z_bipush (v := nI 8) X dL_acts_926 (by decide) ?_
      refine n_icmp_ge (tgt := 940) X dL_acts_928 (by decide) (by omega) (by omega) (fun c928 => ?_) (fun c928 => absurd c928 (by omega))
      refine z_ldci X q_k_L_40 dL_acts_940 ?_
      refine z_icmp_ne (tgt := 949) X dL_acts_942 (by decide) (fun c942 => absurd c942 (by decide)) (fun _ => ?_)
      refine z_iconst (v := nI 1) X dL_acts_945 (by decide) ?_
      refine z_goto (tgt := 950) X dL_acts_946 (by decide) ?_
      refine z_istore X dL_acts_950 (Nat.le_of_ble_eq_true rfl) ?_
      refine z_lv (lv' := [some (.ref (a 0)), some (.ref (b 0)), some (.ref qb), some (.ref qv), some (.ref qc), some (.int v5), some (.int v6), some (.int (nI k7)), some (.int (nI g)), some (.int (nI k9)), some (.int (nI 1)), some (.int (nI (wk S (l3 x y z) G))), some (.int (-1000003)), some (.int (nI 1))]) rfl ?_
      refine z_aload X dL_acts_952 rfl ?_
      refine z_iconst (v := nI 4) X dL_acts_954 (by decide) ?_
      refine z_dup2 X dL_acts_955 rfl rfl ?_
      refine n_iald (f := fC) X 50 rfl (by omega) (by decide) dL_acts_956 ?_
      refine z_top (y := nI (x + y + z)) (hC.2) ?_
      refine z_aload X dL_acts_957 rfl ?_
      refine z_iconst (v := nI 4) X dL_acts_959 (by decide) ?_
      refine n_iald (f := fC) X 50 rfl (by omega) (by decide) dL_acts_960 ?_
      refine z_top (y := nI (x + y + z)) (hC.2) ?_
      refine z_bipush (v := nI 8) X dL_acts_961 (by decide) ?_
      refine n_icmp_ge (tgt := 970) X dL_acts_963 (by decide) (by omega) (by omega) (fun c963 => ?_) (fun c963 => absurd c963 (by omega))
      refine z_iconst (v := nI 0) X dL_acts_970 (by decide) ?_
      refine n_iadd X dL_acts_971 ?_
      refine n_iast X Y 50 aA_eq rfl (by omega) (by decide) dL_acts_972 ?_
      refine Wz.eq (uA_C (f := upd fC 4 (nI ((x + y + z) + 0)))) ?_
      refine z_iload X dL_acts_973 rfl ?_
      refine n_if_eq (tgt := 1016) X dL_acts_975 (by decide) (by omega) (fun c975 => absurd c975 (by decide)) (fun _ => ?_)
      refine z_iload X dL_acts_978 rfl ?_
      refine n_if_eq (tgt := 990) X dL_acts_980 (by decide) (by omega) (fun c980 => absurd c980 (by decide)) (fun _ => ?_)
      refine z_aload_n X dL_acts_983 rfl rfl ?_
      refine z_callV2 (k := 2) (n := 12) (st := []) X Y aA_eq (o_isLawful l D t a (p0 u890 p) h) k_X3_isLawful q_ml_L_112 is24 (fun u => wA t a b (T6 S (p0 u (p0 u890 p))) (T6 S p2) qb qv qc fB fV (upd fC 4 (nI ((x + y + z) + 0)))) (fun u => ⟨⟨by decide, rfl⟩, ⟨by decide, rfl⟩, rfl, rfl⟩) ⟨by decide, rfl⟩ 0 3 rfl rfl (by decide) rfl rfl rfl (Nat.le_of_ble_eq_true rfl) ⟨by omega, by omega⟩ dL_acts_984 (fun r984 u984 h984 => ?_)
      have e984 : r984 = nI 1 := h984.elim (fun q => q.1) (fun q => absurd hR q.2)
      subst e984
      refine n_if_eq (tgt := 1016) X dL_acts_987 (by decide) (by omega) (fun c987 => absurd c987 (by decide)) (fun _ => ?_)
      refine z_iload X dL_acts_990 rfl ?_
      refine z_aload_n X dL_acts_992 rfl rfl ?_
      refine z_callV1 (k := 2) (n := 12) (st := [.int (nI (wk S (l3 x y z) G))]) X (o_working l D t a (p0 u984 (p0 u890 p)) h) k_X3_working q_ml_L_80 is24 ⟨by decide, rfl⟩ 0 3 rfl rfl (by decide) rfl rfl rfl (Nat.le_of_ble_eq_true rfl) ⟨by omega, by omega⟩ dL_acts_993 (fun r993 h993 => ?_)
      subst h993
      refine z_iconst (v := (-1)) X dL_acts_996 (by decide) ?_
      refine z_ixor X dL_acts_997 ?_
      refine z_iand X dL_acts_998 ?_
      refine z_top (y := nI 0) ((zn_dif _ _).trans (congrArg nI (dif_self hw))) ?_
      refine n_if_ne (tgt := 1016) X dL_acts_999 (by decide) (by omega) (fun c999 => absurd c999 (by decide)) (fun _ => ?_)
      refine z_aload_n X dL_acts_1002 rfl rfl ?_
      refine z_iconst (v := nI 3) X dL_acts_1003 (by decide) ?_
      refine z_w7 (k := 2) (n := 12) (k' := 3) (n' := 18) (st := []) X Y aA_eq V (fun sz => w_takeLevel_I l hfl D t a (p0 u984 (p0 u890 p)) h (am_no (by decide) (by decide) (by decide)) sz) kw_takeLevel q_ml_L_123 is24 ⟨by decide, rfl⟩ (fun u => wA t a b (T6 S (p0 u984 (p0 u890 p))) (T6 S p2) qb qv qc fB fV (upd fC 4 (nI ((x + y + z) + 0)))) (fun u => ⟨⟨by decide, rfl⟩, ⟨by decide, rfl⟩, rfl, rfl⟩) (by decide) (by decide) rfl rfl rfl (Nat.le_of_ble_eq_true rfl) ⟨by omega, by omega⟩ ⟨by omega, by omega⟩ dL_acts_1004 (fun r1004 u1004 h1004 => ?_)
      subst h1004
      refine z_ldci X q_k_L_18 dL_acts_1007 ?_
      refine z_icmp_ne (tgt := 1016) X dL_acts_1009 (by decide) (fun c1009 => absurd c1009 (by decide)) (fun _ => ?_)
      refine z_iconst (v := nI 1) X dL_acts_1012 (by decide) ?_
      refine z_goto (tgt := 1017) X dL_acts_1013 (by decide) ?_
      refine Wz.wide (k' := 20) (n' := 120) (by omega) (by omega) ?_
      refine z_iret X Z (by decide +kernel) dL_acts_1017 ?_
      exact ⟨(S, p0 u984 (p0 u890 p), p2, fB, fV, upd fC 4 (nI ((x + y + z) + 0))), ⟨rfl, sc, tk, x, y, z, G, h, hT1, hT2, hCt, hB, hV, LC_m hC⟩, fun q hq => hq⟩
  ·
    refine z_istore X dL_acts_893 (Nat.le_of_ble_eq_true rfl) ?_
    refine z_lv (lv' := [some (.ref (a 0)), some (.ref (b 0)), some (.ref qb), some (.ref qv), some (.ref qc), some (.int v5), some (.int v6), some (.int (nI k7)), some (.int (nI g)), some (.int (nI k9)), some (.int (nI 0)), none, none, none]) rfl ?_
    refine z_aload_n X dL_acts_895 rfl rfl ?_
    refine z_callV1 (k := 0) (n := 0) (st := []) X (o_working l D t a (p0 u890 p) h) k_X3_working q_ml_L_80 is24 ⟨by decide, rfl⟩ 0 3 rfl rfl (by decide) rfl rfl rfl (Nat.le_of_ble_eq_true rfl) ⟨by omega, by omega⟩ dL_acts_896 (fun r896 h896 => ?_)
    subst h896
    refine z_istore X dL_acts_899 (Nat.le_of_ble_eq_true rfl) ?_
    refine z_lv (lv' := [some (.ref (a 0)), some (.ref (b 0)), some (.ref qb), some (.ref qv), some (.ref qc), some (.int v5), some (.int v6), some (.int (nI k7)), some (.int (nI g)), some (.int (nI k9)), some (.int (nI 0)), some (.int (nI (wk S (l3 x y z) G))), none, none]) rfl ?_
    rcases Nat.lt_or_ge (x + y + z) 8 with h8 | h8
    ·
      have hK : zKs (tkS S k9 x y z) sc (gx k9 x) (gy k9 y) (gz k9 z) G := K_tk h hk9 h8
      have hw2 : wk (tkS S k9 x y z) (l3 (gx k9 x) (gy k9 y) (gz k9 z)) G < 256 := wkN_lt 64
      refine z_aload_n X dL_acts_901 rfl rfl ?_
      refine z_iload X dL_acts_902 rfl ?_
      refine z_w7 (k := 0) (n := 0) (k' := 1) (n' := 6) (st := []) X Y aA_eq V (fun sz => w_takeLevel l hfl D t a (p0 u890 p) h hk9 h8 sz) kw_takeLevel q_ml_L_123 is24 ⟨by decide, rfl⟩ (fun u => wA t a b (T6 (tkS S k9 x y z) ((p0 u890 p).1, (p0 u890 p).2.1, (p0 u890 p).2.2.1, (p0 u890 p).2.2.2.1, (p0 u890 p).2.2.2.2.1, upd (pq (p0 u890 p)) (x + y + z) (nI k9))) (T6 S p2) qb qv qc fB fV fC) (fun u => ⟨⟨by decide, rfl⟩, ⟨by decide, rfl⟩, rfl, rfl⟩) (by decide) (by decide) rfl rfl rfl (Nat.le_of_ble_eq_true rfl) ⟨by omega, by omega⟩ ⟨by omega, by omega⟩ dL_acts_904 (fun r904 u904 h904 => ?_)
      subst h904
      refine z_istore X dL_acts_907 (Nat.le_of_ble_eq_true rfl) ?_
      refine z_lv (lv' := [some (.ref (a 0)), some (.ref (b 0)), some (.ref qb), some (.ref qv), some (.ref qc), some (.int v5), some (.int v6), some (.int (nI k7)), some (.int (nI g)), some (.int (nI k9)), some (.int (nI 0)), some (.int (nI (wk S (l3 x y z) G))), some (.int (nI (x + y + z + 1))), none]) rfl ?_
      refine z_aload_n X dL_acts_909 rfl rfl ?_
      refine z_iload X dL_acts_910 rfl ?_
      refine z_w7 (k := 1) (n := 6) (k' := 2) (n' := 12) (st := []) X Y aA_eq V (fun sz => w_takeLevel l hfl D t b p2 h hk9 h8 sz) kw_takeLevel q_ml_L_123 is24t ⟨by decide, rfl⟩ (fun u => wA t a b (T6 (tkS S k9 x y z) ((p0 u890 p).1, (p0 u890 p).2.1, (p0 u890 p).2.2.1, (p0 u890 p).2.2.2.1, (p0 u890 p).2.2.2.2.1, upd (pq (p0 u890 p)) (x + y + z) (nI k9))) (T6 (tkS S k9 x y z) (p2.1, p2.2.1, p2.2.2.1, p2.2.2.2.1, p2.2.2.2.2.1, upd (pq p2) (x + y + z) (nI k9))) qb qv qc fB fV fC) (fun u => ⟨⟨by decide, rfl⟩, ⟨by decide, rfl⟩, rfl, rfl⟩) (by decide) (by decide) rfl rfl rfl (Nat.le_of_ble_eq_true rfl) ⟨by omega, by omega⟩ ⟨by omega, by omega⟩ dL_acts_912 (fun r912 u912 h912 => ?_)
      subst h912
      refine z_iload X dL_acts_915 rfl ?_
      refine n_icmp_ne (tgt := 949) X dL_acts_917 (by decide) (by omega) (by omega) (fun c917 => absurd c917 (by omega)) (fun _ => ?_)
      refine z_iload X dL_acts_920 rfl ?_
      refine z_aload X dL_acts_922 rfl ?_
      refine z_iconst (v := nI 4) X dL_acts_924 (by decide) ?_
      refine n_iald (f := fC) X 50 rfl (by omega) (by decide) dL_acts_925 ?_
      refine z_top (y := nI (x + y + z)) (hC.2) ?_
      refine z_bipush (v := nI 8) X dL_acts_926 (by decide) ?_
      refine n_icmp_ge (tgt := 940) X dL_acts_928 (by decide) (by omega) (by omega) (fun c928 => absurd c928 (by omega)) (fun c928 => ?_)
      refine z_aload X dL_acts_931 rfl ?_
      refine z_iconst (v := nI 4) X dL_acts_933 (by decide) ?_
      refine n_iald (f := fC) X 50 rfl (by omega) (by decide) dL_acts_934 ?_
      refine z_top (y := nI (x + y + z)) (hC.2) ?_
      refine z_iconst (v := nI 1) X dL_acts_935 (by decide) ?_
      refine n_iadd X dL_acts_936 ?_
      refine z_goto (tgt := 942) X dL_acts_937 (by decide) ?_
      refine z_top (y := nI (x + y + z + 1)) (rfl) ?_
      refine n_icmp_ne (tgt := 949) X dL_acts_942 (by decide) (by omega) (by omega) (fun c942 => absurd c942 (by omega)) (fun _ => ?_)
      refine z_iconst (v := nI 1) X dL_acts_945 (by decide) ?_
      refine z_goto (tgt := 950) X dL_acts_946 (by decide) ?_
      refine z_istore X dL_acts_950 (Nat.le_of_ble_eq_true rfl) ?_
      refine z_lv (lv' := [some (.ref (a 0)), some (.ref (b 0)), some (.ref qb), some (.ref qv), some (.ref qc), some (.int v5), some (.int v6), some (.int (nI k7)), some (.int (nI g)), some (.int (nI k9)), some (.int (nI 0)), some (.int (nI (wk S (l3 x y z) G))), some (.int (nI (x + y + z + 1))), some (.int (nI 1))]) rfl ?_
      refine z_aload X dL_acts_952 rfl ?_
      refine z_iconst (v := nI 4) X dL_acts_954 (by decide) ?_
      refine z_dup2 X dL_acts_955 rfl rfl ?_
      refine n_iald (f := fC) X 50 rfl (by omega) (by decide) dL_acts_956 ?_
      refine z_top (y := nI (x + y + z)) (hC.2) ?_
      refine z_aload X dL_acts_957 rfl ?_
      refine z_iconst (v := nI 4) X dL_acts_959 (by decide) ?_
      refine n_iald (f := fC) X 50 rfl (by omega) (by decide) dL_acts_960 ?_
      refine z_top (y := nI (x + y + z)) (hC.2) ?_
      refine z_bipush (v := nI 8) X dL_acts_961 (by decide) ?_
      refine n_icmp_ge (tgt := 970) X dL_acts_963 (by decide) (by omega) (by omega) (fun c963 => absurd c963 (by omega)) (fun c963 => ?_)
      refine z_iconst (v := nI 1) X dL_acts_966 (by decide) ?_
      refine z_goto (tgt := 971) X dL_acts_967 (by decide) ?_
      refine n_iadd X dL_acts_971 ?_
      refine n_iast X Y 50 aA_eq rfl (by omega) (by decide) dL_acts_972 ?_
      refine Wz.eq (uA_C (f := upd fC 4 (nI ((x + y + z) + 1)))) ?_
      refine z_iload X dL_acts_973 rfl ?_
      refine n_if_eq (tgt := 1016) X dL_acts_975 (by decide) (by omega) (fun c975 => absurd c975 (by decide)) (fun _ => ?_)
      refine z_iload X dL_acts_978 rfl ?_
      refine n_if_eq (tgt := 990) X dL_acts_980 (by decide) (by omega) (fun _ => ?_) (fun c980 => absurd c980 (by decide))
      refine z_iload X dL_acts_990 rfl ?_
      refine z_aload_n X dL_acts_992 rfl rfl ?_
      refine z_callV1 (k := 2) (n := 12) (st := [.int (nI (wk S (l3 x y z) G))]) X (o_working l D t a ((p0 u890 p).1, (p0 u890 p).2.1, (p0 u890 p).2.2.1, (p0 u890 p).2.2.2.1, (p0 u890 p).2.2.2.2.1, upd (pq (p0 u890 p)) (x + y + z) (nI k9)) hK) k_X3_working q_ml_L_80 is24 ⟨by decide, rfl⟩ 0 3 rfl rfl (by decide) rfl rfl rfl (Nat.le_of_ble_eq_true rfl) ⟨by omega, by omega⟩ dL_acts_993 (fun r993 h993 => ?_)
      subst h993
      refine z_iconst (v := (-1)) X dL_acts_996 (by decide) ?_
      refine z_ixor X dL_acts_997 ?_
      refine z_iand X dL_acts_998 ?_
      refine z_top (y := nI 0) ((zn_dif _ _).trans (congrArg nI (wk_lev Ru_tk gx_le gy_le gz_le (K_X hK)))) ?_
      refine n_if_ne (tgt := 1016) X dL_acts_999 (by decide) (by omega) (fun c999 => absurd c999 (by decide)) (fun _ => ?_)
      refine z_aload_n X dL_acts_1002 rfl rfl ?_
      refine z_iconst (v := nI 3) X dL_acts_1003 (by decide) ?_
      refine z_w7 (k := 2) (n := 12) (k' := 3) (n' := 18) (st := []) X Y aA_eq V (fun sz => w_takeLevel_I l hfl D t a ((p0 u890 p).1, (p0 u890 p).2.1, (p0 u890 p).2.2.1, (p0 u890 p).2.2.2.1, (p0 u890 p).2.2.2.2.1, upd (pq (p0 u890 p)) (x + y + z) (nI k9)) hK (am_no (by decide) (by decide) (by decide)) sz) kw_takeLevel q_ml_L_123 is24 ⟨by decide, rfl⟩ (fun u => wA t a b (T6 (tkS S k9 x y z) ((p0 u890 p).1, (p0 u890 p).2.1, (p0 u890 p).2.2.1, (p0 u890 p).2.2.2.1, (p0 u890 p).2.2.2.2.1, upd (pq (p0 u890 p)) (x + y + z) (nI k9))) (T6 (tkS S k9 x y z) (p2.1, p2.2.1, p2.2.2.1, p2.2.2.2.1, p2.2.2.2.2.1, upd (pq p2) (x + y + z) (nI k9))) qb qv qc fB fV (upd fC 4 (nI ((x + y + z) + 1)))) (fun u => ⟨⟨by decide, rfl⟩, ⟨by decide, rfl⟩, rfl, rfl⟩) (by decide) (by decide) rfl rfl rfl (Nat.le_of_ble_eq_true rfl) ⟨by omega, by omega⟩ ⟨by omega, by omega⟩ dL_acts_1004 (fun r1004 u1004 h1004 => ?_)
      subst h1004
      refine z_ldci X q_k_L_18 dL_acts_1007 ?_
      refine z_icmp_ne (tgt := 1016) X dL_acts_1009 (by decide) (fun c1009 => absurd c1009 (by decide)) (fun _ => ?_)
      refine z_iconst (v := nI 1) X dL_acts_1012 (by decide) ?_
      refine z_goto (tgt := 1017) X dL_acts_1013 (by decide) ?_
      refine Wz.wide (k' := 20) (n' := 120) (by omega) (by omega) ?_
      refine z_iret X Z (by decide +kernel) dL_acts_1017 ?_
      exact ⟨(tkS S k9 x y z, ((p0 u890 p).1, (p0 u890 p).2.1, (p0 u890 p).2.2.1, (p0 u890 p).2.2.2.1, (p0 u890 p).2.2.2.2.1, upd (pq (p0 u890 p)) (x + y + z) (nI k9)), (p2.1, p2.2.1, p2.2.2.1, p2.2.2.2.1, p2.2.2.2.2.1, upd (pq p2) (x + y + z) (nI k9)), fB, fV, upd fC 4 (nI ((x + y + z) + 1))), ⟨rfl, sc, tkU tk (x + y + z) k9, gx k9 x, gy k9 y, gz k9 z, G, hK, Tk_tk hT1 hk9, Tk_tk hT2 hk9, Ct_tk hCt hk9, LB_ru Ru_tk hB, LV_ru Ru_tk hV, by rw [gx_sum hk9]; exact LC_m hC⟩, fun q hq => hq⟩
    ·
      have hm8 : x + y + z = 8 := by omega
      refine z_aload_n X dL_acts_901 rfl rfl ?_
      refine z_iload X dL_acts_902 rfl ?_
      refine z_w7 (k := 0) (n := 0) (k' := 1) (n' := 6) (st := []) X Y aA_eq V (fun sz => w_takeLevel_S l hfl D t a (p0 u890 p) h hk9 hm8 sz) kw_takeLevel q_ml_L_123 is24 ⟨by decide, rfl⟩ (fun u => wA t a b (T6 S (p0 u890 p)) (T6 S p2) qb qv qc fB fV fC) (fun u => ⟨⟨by decide, rfl⟩, ⟨by decide, rfl⟩, rfl, rfl⟩) (by decide) (by decide) rfl rfl rfl (Nat.le_of_ble_eq_true rfl) ⟨by omega, by omega⟩ ⟨by omega, by omega⟩ dL_acts_904 (fun r904 u904 h904 => ?_)
      subst h904
      refine z_istore X dL_acts_907 (Nat.le_of_ble_eq_true rfl) ?_
      refine z_lv (lv' := [some (.ref (a 0)), some (.ref (b 0)), some (.ref qb), some (.ref qv), some (.ref qc), some (.int v5), some (.int v6), some (.int (nI k7)), some (.int (nI g)), some (.int (nI k9)), some (.int (nI 0)), some (.int (nI (wk S (l3 x y z) G))), some (.int (-1000003)), none]) rfl ?_
      refine z_aload_n X dL_acts_909 rfl rfl ?_
      refine z_iload X dL_acts_910 rfl ?_
      refine z_w7 (k := 1) (n := 6) (k' := 2) (n' := 12) (st := []) X Y aA_eq V (fun sz => w_takeLevel_S l hfl D t b p2 h hk9 hm8 sz) kw_takeLevel q_ml_L_123 is24t ⟨by decide, rfl⟩ (fun u => wA t a b (T6 S (p0 u890 p)) (T6 S p2) qb qv qc fB fV fC) (fun u => ⟨⟨by decide, rfl⟩, ⟨by decide, rfl⟩, rfl, rfl⟩) (by decide) (by decide) rfl rfl rfl (Nat.le_of_ble_eq_true rfl) ⟨by omega, by omega⟩ ⟨by omega, by omega⟩ dL_acts_912 (fun r912 u912 h912 => ?_)
      subst h912
      refine z_iload X dL_acts_915 rfl ?_
      refine z_icmp_ne (tgt := 949) X dL_acts_917 (by decide) (fun c917 => absurd c917 (by decide)) (fun _ => ?_)
      refine z_iload X dL_acts_920 rfl ?_
      refine z_aload X dL_acts_922 rfl ?_
      refine z_iconst (v := nI 4) X dL_acts_924 (by decide) ?_
      refine n_iald (f := fC) X 50 rfl (by omega) (by decide) dL_acts_925 ?_
      refine z_top (y := nI (x + y + z)) (hC.2) ?_
      refine z_bipush (v := nI 8) X dL_acts_926 (by decide) ?_
      refine n_icmp_ge (tgt := 940) X dL_acts_928 (by decide) (by omega) (by omega) (fun c928 => ?_) (fun c928 => absurd c928 (by omega))
      refine z_ldci X q_k_L_40 dL_acts_940 ?_
      refine z_icmp_ne (tgt := 949) X dL_acts_942 (by decide) (fun c942 => absurd c942 (by decide)) (fun _ => ?_)
      refine z_iconst (v := nI 1) X dL_acts_945 (by decide) ?_
      refine z_goto (tgt := 950) X dL_acts_946 (by decide) ?_
      refine z_istore X dL_acts_950 (Nat.le_of_ble_eq_true rfl) ?_
      refine z_lv (lv' := [some (.ref (a 0)), some (.ref (b 0)), some (.ref qb), some (.ref qv), some (.ref qc), some (.int v5), some (.int v6), some (.int (nI k7)), some (.int (nI g)), some (.int (nI k9)), some (.int (nI 0)), some (.int (nI (wk S (l3 x y z) G))), some (.int (-1000003)), some (.int (nI 1))]) rfl ?_
      refine z_aload X dL_acts_952 rfl ?_
      refine z_iconst (v := nI 4) X dL_acts_954 (by decide) ?_
      refine z_dup2 X dL_acts_955 rfl rfl ?_
      refine n_iald (f := fC) X 50 rfl (by omega) (by decide) dL_acts_956 ?_
      refine z_top (y := nI (x + y + z)) (hC.2) ?_
      refine z_aload X dL_acts_957 rfl ?_
      refine z_iconst (v := nI 4) X dL_acts_959 (by decide) ?_
      refine n_iald (f := fC) X 50 rfl (by omega) (by decide) dL_acts_960 ?_
      refine z_top (y := nI (x + y + z)) (hC.2) ?_
      refine z_bipush (v := nI 8) X dL_acts_961 (by decide) ?_
      refine n_icmp_ge (tgt := 970) X dL_acts_963 (by decide) (by omega) (by omega) (fun c963 => ?_) (fun c963 => absurd c963 (by omega))
      refine z_iconst (v := nI 0) X dL_acts_970 (by decide) ?_
      refine n_iadd X dL_acts_971 ?_
      refine n_iast X Y 50 aA_eq rfl (by omega) (by decide) dL_acts_972 ?_
      refine Wz.eq (uA_C (f := upd fC 4 (nI ((x + y + z) + 0)))) ?_
      refine z_iload X dL_acts_973 rfl ?_
      refine n_if_eq (tgt := 1016) X dL_acts_975 (by decide) (by omega) (fun c975 => absurd c975 (by decide)) (fun _ => ?_)
      refine z_iload X dL_acts_978 rfl ?_
      refine n_if_eq (tgt := 990) X dL_acts_980 (by decide) (by omega) (fun _ => ?_) (fun c980 => absurd c980 (by decide))
      refine z_iload X dL_acts_990 rfl ?_
      refine z_aload_n X dL_acts_992 rfl rfl ?_
      refine z_callV1 (k := 2) (n := 12) (st := [.int (nI (wk S (l3 x y z) G))]) X (o_working l D t a (p0 u890 p) h) k_X3_working q_ml_L_80 is24 ⟨by decide, rfl⟩ 0 3 rfl rfl (by decide) rfl rfl rfl (Nat.le_of_ble_eq_true rfl) ⟨by omega, by omega⟩ dL_acts_993 (fun r993 h993 => ?_)
      subst h993
      refine z_iconst (v := (-1)) X dL_acts_996 (by decide) ?_
      refine z_ixor X dL_acts_997 ?_
      refine z_iand X dL_acts_998 ?_
      refine z_top (y := nI 0) ((zn_dif _ _).trans (congrArg nI (dif_self hw))) ?_
      refine n_if_ne (tgt := 1016) X dL_acts_999 (by decide) (by omega) (fun c999 => absurd c999 (by decide)) (fun _ => ?_)
      refine z_aload_n X dL_acts_1002 rfl rfl ?_
      refine z_iconst (v := nI 3) X dL_acts_1003 (by decide) ?_
      refine z_w7 (k := 2) (n := 12) (k' := 3) (n' := 18) (st := []) X Y aA_eq V (fun sz => w_takeLevel_I l hfl D t a (p0 u890 p) h (am_no (by decide) (by decide) (by decide)) sz) kw_takeLevel q_ml_L_123 is24 ⟨by decide, rfl⟩ (fun u => wA t a b (T6 S (p0 u890 p)) (T6 S p2) qb qv qc fB fV (upd fC 4 (nI ((x + y + z) + 0)))) (fun u => ⟨⟨by decide, rfl⟩, ⟨by decide, rfl⟩, rfl, rfl⟩) (by decide) (by decide) rfl rfl rfl (Nat.le_of_ble_eq_true rfl) ⟨by omega, by omega⟩ ⟨by omega, by omega⟩ dL_acts_1004 (fun r1004 u1004 h1004 => ?_)
      subst h1004
      refine z_ldci X q_k_L_18 dL_acts_1007 ?_
      refine z_icmp_ne (tgt := 1016) X dL_acts_1009 (by decide) (fun c1009 => absurd c1009 (by decide)) (fun _ => ?_)
      refine z_iconst (v := nI 1) X dL_acts_1012 (by decide) ?_
      refine z_goto (tgt := 1017) X dL_acts_1013 (by decide) ?_
      refine Wz.wide (k' := 20) (n' := 120) (by omega) (by omega) ?_
      refine z_iret X Z (by decide +kernel) dL_acts_1017 ?_
      exact ⟨(S, p0 u890 p, p2, fB, fV, upd fC 4 (nI ((x + y + z) + 0))), ⟨rfl, sc, tk, x, y, z, G, h, hT1, hT2, hCt, hB, hV, LC_m hC⟩, fun q hq => hq⟩
