/-! values, as the reference finds them -/
theorem bnG_pos {S : zS} {w : Nat} {v : Int32} {k : Nat} (hk : k < 2 ^ 31) : ∀ j, 0 ≤ bnG S w v (nI k) j
  | 0 => by show 0 ≤ nI 0; decide
  | j + 1 => by
    show 0 ≤ zif _ _ _
    by_cases h : bnC S w v (nI k) j ∧ ¬ (nI k = 0 ∨ S 9 j < 0)
    · rw [zif_t h]
      split
      · exact Int32.not_lt.mp (fun q => h.2 (Or.inr q))
      · exact bnG_pos hk j
    · rw [zif_f h]; exact bnG_pos hk j
theorem nI_z {k : Nat} (hk : k < 2 ^ 31) : nI k = 0 ↔ k = 0 := nI_eq hk (by decide)
theorem nI_nz {k : Nat} (hk : k < 2 ^ 31) (h : ¬ k = 0) : ¬ nI k = 0 := fun q => h ((nI_z hk).mp q)
section
variable {S : zS} {w k j : Nat} {v : Int32}
theorem bo_n (h : ¬ bnC S w v (nI k) j) : bnS S w v (nI k) (j + 1) = bnS S w v (nI k) j ∧ bnG S w v (nI k) (j + 1) = bnG S w v (nI k) j := ⟨zif_f (fun q => h q.1), zif_f (fun q => h q.1)⟩
theorem bo_s (hk : k < 4) (h : bnC S w v (nI k) j) (c : k = 0 ∨ S 9 j < 0) : bnS S w v (nI k) (j + 1) = bnS S w v (nI k) j + S 9 j ∧ bnG S w v (nI k) (j + 1) = bnG S w v (nI k) j := by
  have c' : nI k = 0 ∨ S 9 j < 0 := c.imp (fun q => (nI_z (by omega)).mpr q) id
  exact ⟨zif_t ⟨h, c'⟩, zif_f (fun q => q.2 c')⟩
theorem bo_g (hk : k < 4) (h : bnC S w v (nI k) j) (c : ¬ (k = 0 ∨ S 9 j < 0)) : bnS S w v (nI k) (j + 1) = bnS S w v (nI k) j ∧ bnG S w v (nI k) (j + 1) = if bnG S w v (nI k) j < S 9 j then S 9 j else bnG S w v (nI k) j := by
  have c' : ¬ (nI k = 0 ∨ S 9 j < 0) := fun q => c (q.imp (fun q => (nI_z (by omega)).mp q) id)
  exact ⟨zif_f (fun q => c' q.2), zif_t ⟨h, c'⟩⟩
end
set_option maxHeartbeats 600000 in
set_option maxRecDepth 100000 in
theorem c_X4_bonusOf (l : Launch) (D : va_G) (t : ClassId × ClassId × ClassId) (b : Nat → Nat) (S : zS) (G : Nat) (h18 : S 18 0 = nI G) (hG : G < 256) (hI : zI S) (v : Int32) (k : Nat) (hk : k < 4) : zM1 l yX4_bonusOf cX4_bonusOf 8 (some .int) 4 D t [.ref (b 0), .int v, .int (nI k)] (wM t b S) (fun r => r = bn S (wk S (S 15) G) v (nI k)) := by
  refine z_m1 (by decide +kernel) (Nat.le_of_ble_eq_true rfl) (by simp [Value.category]) ?_
  intro E X Z
  refine z_lv (lv' := [some (.ref (b 0)), some (.int v), some (.int (nI k)), none, none, none, none, none]) rfl ?_
  refine z_aload_n X dX4_bonusOf_0 rfl rfl ?_
  refine z_aload_n X dX4_bonusOf_1 rfl rfl ?_
  refine z_get X (C := RX4) (T := TX4) (N := 21) (ci := 4) (v := .int (S 18 0)) inZ4 0 4 rfl rfl (by decide) q_fl_X4_111 rfl rfl dX4_bonusOf_2 ?_
  refine z_top (y := nI G) (h18) ?_
  refine z_callV1 (k := 0) (n := 0) (st := []) X (c_X4_workingOf l D t b S G (by omega) hI) k_X4_workingOf q_ml_X4_124 is19 ⟨by decide, rfl⟩ 0 4 rfl rfl (by decide) rfl rfl rfl (Nat.le_of_ble_eq_true rfl) ⟨Nat.zero_le _, Nat.zero_le _⟩ dX4_bonusOf_5 (fun r5 h5 => ?_)
  subst h5
  refine z_istore_n X dX4_bonusOf_8 rfl (Nat.le_of_ble_eq_true rfl) ?_
  refine z_lv (lv' := [some (.ref (b 0)), some (.int v), some (.int (nI k)), some (.int (nI (wk S (S 15) G))), none, none, none, none]) rfl ?_
  refine z_iconst (v := nI 0) X dX4_bonusOf_9 (by decide) ?_
  refine z_istore X dX4_bonusOf_10 (Nat.le_of_ble_eq_true rfl) ?_
  refine z_lv (lv' := [some (.ref (b 0)), some (.int v), some (.int (nI k)), some (.int (nI (wk S (S 15) G))), some (.int (nI 0)), none, none, none]) rfl ?_
  refine z_iconst (v := nI 0) X dX4_bonusOf_12 (by decide) ?_
  refine z_istore X dX4_bonusOf_13 (Nat.le_of_ble_eq_true rfl) ?_
  refine z_lv (lv' := [some (.ref (b 0)), some (.int v), some (.int (nI k)), some (.int (nI (wk S (S 15) G))), some (.int (nI 0)), some (.int (nI 0)), none, none]) rfl ?_
  refine z_iconst (v := nI 0) X dX4_bonusOf_15 (by decide) ?_
  refine z_istore X dX4_bonusOf_16 (Nat.le_of_ble_eq_true rfl) ?_
  refine z_lv (lv' := [some (.ref (b 0)), some (.int v), some (.int (nI k)), some (.int (nI (wk S (S 15) G))), some (.int (nI 0)), some (.int (nI 0)), some (.int (nI 0)), none]) rfl ?_
  have hw : wk S (S 15) G < 256 := wkN_lt 64
  refine z_lv (lv' := [some (.ref (b 0)), some (.int v), some (.int (nI k)), some (.int (nI (wk S (S 15) G))), some (.int (bnS S (wk S (S 15) G) v (nI k) 0)), some (.int (bnG S (wk S (S 15) G) v (nI k) 0)), some (.int (nI 0)), none]) rfl ?_
  refine zl_up 8 (fun j => Wz E 0 0 18 [some (.ref (b 0)), some (.int v), some (.int (nI k)), some (.int (nI (wk S (S 15) G))), some (.int (bnS S (wk S (S 15) G) v (nI k) j)), some (.int (bnG S (wk S (S 15) G) v (nI k) j)), some (.int (nI j)), none] [] (wM t b S)) ?_ ?_ 0 (by omega)
  ·
    refine z_iload X dX4_bonusOf_18 rfl ?_
    refine z_bipush (v := nI 8) X dX4_bonusOf_20 (by decide) ?_
    refine n_icmp_ge (tgt := 139) X dX4_bonusOf_22 (by decide) (by omega) (by omega) (fun _ => ?_) (fun c22 => absurd c22 (by decide))
    refine z_iload X dX4_bonusOf_139 rfl ?_
    refine z_iload X dX4_bonusOf_141 rfl ?_
    refine z_iadd X dX4_bonusOf_143 ?_
    refine z_iret X Z rfl dX4_bonusOf_144 ?_
    exact ⟨(), rfl, fun _ _ => trivial⟩
  ·
    intro j hj ihj
    refine z_iload X dX4_bonusOf_18 rfl ?_
    refine z_bipush (v := nI 8) X dX4_bonusOf_20 (by decide) ?_
    refine n_icmp_ge (tgt := 139) X dX4_bonusOf_22 (by decide) (by omega) (by omega) (fun c22 => absurd c22 (by omega)) (fun _ => ?_)
    have jq1 : ∀ (q1 : Int32), bz q1 (bnC S (wk S (S 15) G) v (nI k) j) → Wz E 0 0 61 [some (.ref (b 0)), some (.int v), some (.int (nI k)), some (.int (nI (wk S (S 15) G))), some (.int (bnS S (wk S (S 15) G) v (nI k) j)), some (.int (bnG S (wk S (S 15) G) v (nI k) j)), some (.int (nI j)), none] [.int q1] (wM t b S) := by
      intro q1 hjq1
      refine z_istore X dX4_bonusOf_61 (Nat.le_of_ble_eq_true rfl) ?_
      refine z_lv (lv' := [some (.ref (b 0)), some (.int v), some (.int (nI k)), some (.int (nI (wk S (S 15) G))), some (.int (bnS S (wk S (S 15) G) v (nI k) j)), some (.int (bnG S (wk S (S 15) G) v (nI k) j)), some (.int (nI j)), some (.int q1)]) rfl ?_
      rcases hjq1 with ⟨rfl, hjq1⟩ | ⟨rfl, hjq1⟩
      ·
        refine z_iload X dX4_bonusOf_63 rfl ?_
        refine z_iload X dX4_bonusOf_65 rfl ?_
        refine n_if_eq (tgt := 94) X dX4_bonusOf_67 (by decide) (by omega) (fun c67 => absurd c67 (by decide)) (fun _ => ?_)
        refine z_iload_n X dX4_bonusOf_70 rfl rfl ?_
        refine n_if_eq (tgt := 84) X dX4_bonusOf_71 (by decide) (by omega) (fun c71 => ?_) (fun c71 => ?_)
        ·
          refine z_aload_n X dX4_bonusOf_84 rfl rfl ?_
          refine z_get X (C := RX4) (T := TX4) (N := 21) (ci := 4) (v := .ref (b 13)) inZ4 0 14 rfl rfl (by decide) q_fl_X4_46 rfl rfl dX4_bonusOf_85 ?_
          refine z_iload X dX4_bonusOf_88 rfl ?_
          refine n_iald (f := S 9) X 13 rfl (by omega) (by decide) dX4_bonusOf_90 ?_
          refine z_goto (tgt := 95) X dX4_bonusOf_91 (by decide) ?_
          refine z_iadd X dX4_bonusOf_95 ?_
          refine z_istore X dX4_bonusOf_96 (Nat.le_of_ble_eq_true rfl) ?_
          refine z_lv (lv' := [some (.ref (b 0)), some (.int v), some (.int (nI k)), some (.int (nI (wk S (S 15) G))), some (.int ((bnS S (wk S (S 15) G) v (nI k) j) + (S 9 j))), some (.int (bnG S (wk S (S 15) G) v (nI k) j)), some (.int (nI j)), some (.int (nI 1))]) rfl ?_
          refine z_iload X dX4_bonusOf_98 rfl ?_
          refine n_if_eq (tgt := 129) X dX4_bonusOf_100 (by decide) (by omega) (fun c100 => absurd c100 (by decide)) (fun _ => ?_)
          refine z_iload_n X dX4_bonusOf_103 rfl rfl ?_
          refine n_if_le (tgt := 129) X dX4_bonusOf_104 (by decide) (by omega) (fun c104 => ?_) (fun c104 => ?_)
          ·
            refine z_iload X dX4_bonusOf_129 rfl ?_
            refine z_istore X dX4_bonusOf_131 (Nat.le_of_ble_eq_true rfl) ?_
            refine z_lv (lv' := [some (.ref (b 0)), some (.int v), some (.int (nI k)), some (.int (nI (wk S (S 15) G))), some (.int ((bnS S (wk S (S 15) G) v (nI k) j) + (S 9 j))), some (.int (bnG S (wk S (S 15) G) v (nI k) j)), some (.int (nI j)), some (.int (nI 1))]) rfl ?_
            refine z_iinc (v := nI (j + 1)) X dX4_bonusOf_133 rfl (nI_add j 1) ?_
            refine z_lv (lv' := [some (.ref (b 0)), some (.int v), some (.int (nI k)), some (.int (nI (wk S (S 15) G))), some (.int ((bnS S (wk S (S 15) G) v (nI k) j) + (S 9 j))), some (.int (bnG S (wk S (S 15) G) v (nI k) j)), some (.int (nI (j + 1))), some (.int (nI 1))]) rfl ?_
            refine z_goto (tgt := 18) X dX4_bonusOf_136 (by decide) ?_
            have e9 : bnS S (wk S (S 15) G) v (nI k) (j + 1) = (bnS S (wk S (S 15) G) v (nI k) j) + (S 9 j) ∧ bnG S (wk S (S 15) G) v (nI k) (j + 1) = bnG S (wk S (S 15) G) v (nI k) j := by
              first
                | exact ⟨((bo_n hjq1).1).trans (i_a0 _).symm, (bo_n hjq1).2⟩
                | exact ⟨(bo_s hk hjq1 (Or.inl c71)).1, (bo_s hk hjq1 (Or.inl c71)).2⟩
                | exact ⟨(bo_s hk hjq1 (Or.inr (Int32.not_le.mp c81))).1, (bo_s hk hjq1 (Or.inr (Int32.not_le.mp c81))).2⟩
                | exact ⟨((bo_g hk hjq1 (fun q => q.elim c71 (Int32.not_lt.mpr c81))).1).trans (i_a0 _).symm, ((bo_g hk hjq1 (fun q => q.elim c71 (Int32.not_lt.mpr c81))).2).trans (if_pos (Int32.not_le.mp c116))⟩
                | exact ⟨((bo_g hk hjq1 (fun q => q.elim c71 (Int32.not_lt.mpr c81))).1).trans (i_a0 _).symm, ((bo_g hk hjq1 (fun q => q.elim c71 (Int32.not_lt.mpr c81))).2).trans (if_neg (Int32.not_lt.mpr c116))⟩
                | exact absurd c104 (by omega)
                | exact absurd (Int32.lt_of_le_of_lt (bnG_pos (w := wk S (S 15) G) (v := v) (k := k) (by omega) j) (Int32.not_le.mp c116)) (Int32.not_lt.mpr (Int32.le_of_lt (Int32.not_le.mp c81)))
            refine Wz.less (lv' := [some (.ref (b 0)), some (.int v), some (.int (nI k)), some (.int (nI (wk S (S 15) G))), some (.int (bnS S (wk S (S 15) G) v (nI k) (j + 1))), some (.int (bnG S (wk S (S 15) G) v (nI k) (j + 1))), some (.int (nI (j + 1))), none]) (by simp [zle, e9.1, e9.2]) ?_
            exact ihj
          ·
            refine z_aload_n X dX4_bonusOf_107 rfl rfl ?_
            refine z_get X (C := RX4) (T := TX4) (N := 21) (ci := 4) (v := .ref (b 13)) inZ4 0 14 rfl rfl (by decide) q_fl_X4_46 rfl rfl dX4_bonusOf_108 ?_
            refine z_iload X dX4_bonusOf_111 rfl ?_
            refine n_iald (f := S 9) X 13 rfl (by omega) (by decide) dX4_bonusOf_113 ?_
            refine z_iload X dX4_bonusOf_114 rfl ?_
            refine z_icmp_le (tgt := 129) X dX4_bonusOf_116 (by decide) (fun c116 => ?_) (fun c116 => ?_)
            ·
              refine z_iload X dX4_bonusOf_129 rfl ?_
              refine z_istore X dX4_bonusOf_131 (Nat.le_of_ble_eq_true rfl) ?_
              refine z_lv (lv' := [some (.ref (b 0)), some (.int v), some (.int (nI k)), some (.int (nI (wk S (S 15) G))), some (.int ((bnS S (wk S (S 15) G) v (nI k) j) + (S 9 j))), some (.int (bnG S (wk S (S 15) G) v (nI k) j)), some (.int (nI j)), some (.int (nI 1))]) rfl ?_
              refine z_iinc (v := nI (j + 1)) X dX4_bonusOf_133 rfl (nI_add j 1) ?_
              refine z_lv (lv' := [some (.ref (b 0)), some (.int v), some (.int (nI k)), some (.int (nI (wk S (S 15) G))), some (.int ((bnS S (wk S (S 15) G) v (nI k) j) + (S 9 j))), some (.int (bnG S (wk S (S 15) G) v (nI k) j)), some (.int (nI (j + 1))), some (.int (nI 1))]) rfl ?_
              refine z_goto (tgt := 18) X dX4_bonusOf_136 (by decide) ?_
              have e9 : bnS S (wk S (S 15) G) v (nI k) (j + 1) = (bnS S (wk S (S 15) G) v (nI k) j) + (S 9 j) ∧ bnG S (wk S (S 15) G) v (nI k) (j + 1) = bnG S (wk S (S 15) G) v (nI k) j := by
                first
                  | exact ⟨((bo_n hjq1).1).trans (i_a0 _).symm, (bo_n hjq1).2⟩
                  | exact ⟨(bo_s hk hjq1 (Or.inl c71)).1, (bo_s hk hjq1 (Or.inl c71)).2⟩
                  | exact ⟨(bo_s hk hjq1 (Or.inr (Int32.not_le.mp c81))).1, (bo_s hk hjq1 (Or.inr (Int32.not_le.mp c81))).2⟩
                  | exact ⟨((bo_g hk hjq1 (fun q => q.elim c71 (Int32.not_lt.mpr c81))).1).trans (i_a0 _).symm, ((bo_g hk hjq1 (fun q => q.elim c71 (Int32.not_lt.mpr c81))).2).trans (if_pos (Int32.not_le.mp c116))⟩
                  | exact ⟨((bo_g hk hjq1 (fun q => q.elim c71 (Int32.not_lt.mpr c81))).1).trans (i_a0 _).symm, ((bo_g hk hjq1 (fun q => q.elim c71 (Int32.not_lt.mpr c81))).2).trans (if_neg (Int32.not_lt.mpr c116))⟩
                  | exact absurd c104 (by omega)
                  | exact absurd (Int32.lt_of_le_of_lt (bnG_pos (w := wk S (S 15) G) (v := v) (k := k) (by omega) j) (Int32.not_le.mp c116)) (Int32.not_lt.mpr (Int32.le_of_lt (Int32.not_le.mp c81)))
              refine Wz.less (lv' := [some (.ref (b 0)), some (.int v), some (.int (nI k)), some (.int (nI (wk S (S 15) G))), some (.int (bnS S (wk S (S 15) G) v (nI k) (j + 1))), some (.int (bnG S (wk S (S 15) G) v (nI k) (j + 1))), some (.int (nI (j + 1))), none]) (by simp [zle, e9.1, e9.2]) ?_
              exact ihj
            ·
              refine z_aload_n X dX4_bonusOf_119 rfl rfl ?_
              refine z_get X (C := RX4) (T := TX4) (N := 21) (ci := 4) (v := .ref (b 13)) inZ4 0 14 rfl rfl (by decide) q_fl_X4_46 rfl rfl dX4_bonusOf_120 ?_
              refine z_iload X dX4_bonusOf_123 rfl ?_
              refine n_iald (f := S 9) X 13 rfl (by omega) (by decide) dX4_bonusOf_125 ?_
              refine z_goto (tgt := 131) X dX4_bonusOf_126 (by decide) ?_
              refine z_istore X dX4_bonusOf_131 (Nat.le_of_ble_eq_true rfl) ?_
              refine z_lv (lv' := [some (.ref (b 0)), some (.int v), some (.int (nI k)), some (.int (nI (wk S (S 15) G))), some (.int ((bnS S (wk S (S 15) G) v (nI k) j) + (S 9 j))), some (.int (S 9 j)), some (.int (nI j)), some (.int (nI 1))]) rfl ?_
              refine z_iinc (v := nI (j + 1)) X dX4_bonusOf_133 rfl (nI_add j 1) ?_
              refine z_lv (lv' := [some (.ref (b 0)), some (.int v), some (.int (nI k)), some (.int (nI (wk S (S 15) G))), some (.int ((bnS S (wk S (S 15) G) v (nI k) j) + (S 9 j))), some (.int (S 9 j)), some (.int (nI (j + 1))), some (.int (nI 1))]) rfl ?_
              refine z_goto (tgt := 18) X dX4_bonusOf_136 (by decide) ?_
              have e9 : bnS S (wk S (S 15) G) v (nI k) (j + 1) = (bnS S (wk S (S 15) G) v (nI k) j) + (S 9 j) ∧ bnG S (wk S (S 15) G) v (nI k) (j + 1) = S 9 j := by
                first
                  | exact ⟨((bo_n hjq1).1).trans (i_a0 _).symm, (bo_n hjq1).2⟩
                  | exact ⟨(bo_s hk hjq1 (Or.inl c71)).1, (bo_s hk hjq1 (Or.inl c71)).2⟩
                  | exact ⟨(bo_s hk hjq1 (Or.inr (Int32.not_le.mp c81))).1, (bo_s hk hjq1 (Or.inr (Int32.not_le.mp c81))).2⟩
                  | exact ⟨((bo_g hk hjq1 (fun q => q.elim c71 (Int32.not_lt.mpr c81))).1).trans (i_a0 _).symm, ((bo_g hk hjq1 (fun q => q.elim c71 (Int32.not_lt.mpr c81))).2).trans (if_pos (Int32.not_le.mp c116))⟩
                  | exact ⟨((bo_g hk hjq1 (fun q => q.elim c71 (Int32.not_lt.mpr c81))).1).trans (i_a0 _).symm, ((bo_g hk hjq1 (fun q => q.elim c71 (Int32.not_lt.mpr c81))).2).trans (if_neg (Int32.not_lt.mpr c116))⟩
                  | exact absurd c104 (by omega)
                  | exact absurd (Int32.lt_of_le_of_lt (bnG_pos (w := wk S (S 15) G) (v := v) (k := k) (by omega) j) (Int32.not_le.mp c116)) (Int32.not_lt.mpr (Int32.le_of_lt (Int32.not_le.mp c81)))
              refine Wz.less (lv' := [some (.ref (b 0)), some (.int v), some (.int (nI k)), some (.int (nI (wk S (S 15) G))), some (.int (bnS S (wk S (S 15) G) v (nI k) (j + 1))), some (.int (bnG S (wk S (S 15) G) v (nI k) (j + 1))), some (.int (nI (j + 1))), none]) (by simp [zle, e9.1, e9.2]) ?_
              exact ihj
        ·
          refine z_aload_n X dX4_bonusOf_74 rfl rfl ?_
          refine z_get X (C := RX4) (T := TX4) (N := 21) (ci := 4) (v := .ref (b 13)) inZ4 0 14 rfl rfl (by decide) q_fl_X4_46 rfl rfl dX4_bonusOf_75 ?_
          refine z_iload X dX4_bonusOf_78 rfl ?_
          refine n_iald (f := S 9) X 13 rfl (by omega) (by decide) dX4_bonusOf_80 ?_
          refine z_if_ge (tgt := 94) X dX4_bonusOf_81 (by decide) (fun c81 => ?_) (fun c81 => ?_)
          ·
            refine z_iconst (v := nI 0) X dX4_bonusOf_94 (by decide) ?_
            refine z_iadd X dX4_bonusOf_95 ?_
            refine z_istore X dX4_bonusOf_96 (Nat.le_of_ble_eq_true rfl) ?_
            refine z_lv (lv' := [some (.ref (b 0)), some (.int v), some (.int (nI k)), some (.int (nI (wk S (S 15) G))), some (.int ((bnS S (wk S (S 15) G) v (nI k) j) + (nI 0))), some (.int (bnG S (wk S (S 15) G) v (nI k) j)), some (.int (nI j)), some (.int (nI 1))]) rfl ?_
            refine z_iload X dX4_bonusOf_98 rfl ?_
            refine n_if_eq (tgt := 129) X dX4_bonusOf_100 (by decide) (by omega) (fun c100 => absurd c100 (by decide)) (fun _ => ?_)
            refine z_iload_n X dX4_bonusOf_103 rfl rfl ?_
            refine n_if_le (tgt := 129) X dX4_bonusOf_104 (by decide) (by omega) (fun c104 => ?_) (fun c104 => ?_)
            ·
              refine z_iload X dX4_bonusOf_129 rfl ?_
              refine z_istore X dX4_bonusOf_131 (Nat.le_of_ble_eq_true rfl) ?_
              refine z_lv (lv' := [some (.ref (b 0)), some (.int v), some (.int (nI k)), some (.int (nI (wk S (S 15) G))), some (.int ((bnS S (wk S (S 15) G) v (nI k) j) + (nI 0))), some (.int (bnG S (wk S (S 15) G) v (nI k) j)), some (.int (nI j)), some (.int (nI 1))]) rfl ?_
              refine z_iinc (v := nI (j + 1)) X dX4_bonusOf_133 rfl (nI_add j 1) ?_
              refine z_lv (lv' := [some (.ref (b 0)), some (.int v), some (.int (nI k)), some (.int (nI (wk S (S 15) G))), some (.int ((bnS S (wk S (S 15) G) v (nI k) j) + (nI 0))), some (.int (bnG S (wk S (S 15) G) v (nI k) j)), some (.int (nI (j + 1))), some (.int (nI 1))]) rfl ?_
              refine z_goto (tgt := 18) X dX4_bonusOf_136 (by decide) ?_
              have e9 : bnS S (wk S (S 15) G) v (nI k) (j + 1) = (bnS S (wk S (S 15) G) v (nI k) j) + (nI 0) ∧ bnG S (wk S (S 15) G) v (nI k) (j + 1) = bnG S (wk S (S 15) G) v (nI k) j := by
                first
                  | exact ⟨((bo_n hjq1).1).trans (i_a0 _).symm, (bo_n hjq1).2⟩
                  | exact ⟨(bo_s hk hjq1 (Or.inl c71)).1, (bo_s hk hjq1 (Or.inl c71)).2⟩
                  | exact ⟨(bo_s hk hjq1 (Or.inr (Int32.not_le.mp c81))).1, (bo_s hk hjq1 (Or.inr (Int32.not_le.mp c81))).2⟩
                  | exact ⟨((bo_g hk hjq1 (fun q => q.elim c71 (Int32.not_lt.mpr c81))).1).trans (i_a0 _).symm, ((bo_g hk hjq1 (fun q => q.elim c71 (Int32.not_lt.mpr c81))).2).trans (if_pos (Int32.not_le.mp c116))⟩
                  | exact ⟨((bo_g hk hjq1 (fun q => q.elim c71 (Int32.not_lt.mpr c81))).1).trans (i_a0 _).symm, ((bo_g hk hjq1 (fun q => q.elim c71 (Int32.not_lt.mpr c81))).2).trans (if_neg (Int32.not_lt.mpr c116))⟩
                  | exact absurd c104 (by omega)
                  | exact absurd (Int32.lt_of_le_of_lt (bnG_pos (w := wk S (S 15) G) (v := v) (k := k) (by omega) j) (Int32.not_le.mp c116)) (Int32.not_lt.mpr (Int32.le_of_lt (Int32.not_le.mp c81)))
              refine Wz.less (lv' := [some (.ref (b 0)), some (.int v), some (.int (nI k)), some (.int (nI (wk S (S 15) G))), some (.int (bnS S (wk S (S 15) G) v (nI k) (j + 1))), some (.int (bnG S (wk S (S 15) G) v (nI k) (j + 1))), some (.int (nI (j + 1))), none]) (by simp [zle, e9.1, e9.2]) ?_
              exact ihj
            ·
              refine z_aload_n X dX4_bonusOf_107 rfl rfl ?_
              refine z_get X (C := RX4) (T := TX4) (N := 21) (ci := 4) (v := .ref (b 13)) inZ4 0 14 rfl rfl (by decide) q_fl_X4_46 rfl rfl dX4_bonusOf_108 ?_
              refine z_iload X dX4_bonusOf_111 rfl ?_
              refine n_iald (f := S 9) X 13 rfl (by omega) (by decide) dX4_bonusOf_113 ?_
              refine z_iload X dX4_bonusOf_114 rfl ?_
              refine z_icmp_le (tgt := 129) X dX4_bonusOf_116 (by decide) (fun c116 => ?_) (fun c116 => ?_)
              ·
                refine z_iload X dX4_bonusOf_129 rfl ?_
                refine z_istore X dX4_bonusOf_131 (Nat.le_of_ble_eq_true rfl) ?_
                refine z_lv (lv' := [some (.ref (b 0)), some (.int v), some (.int (nI k)), some (.int (nI (wk S (S 15) G))), some (.int ((bnS S (wk S (S 15) G) v (nI k) j) + (nI 0))), some (.int (bnG S (wk S (S 15) G) v (nI k) j)), some (.int (nI j)), some (.int (nI 1))]) rfl ?_
                refine z_iinc (v := nI (j + 1)) X dX4_bonusOf_133 rfl (nI_add j 1) ?_
                refine z_lv (lv' := [some (.ref (b 0)), some (.int v), some (.int (nI k)), some (.int (nI (wk S (S 15) G))), some (.int ((bnS S (wk S (S 15) G) v (nI k) j) + (nI 0))), some (.int (bnG S (wk S (S 15) G) v (nI k) j)), some (.int (nI (j + 1))), some (.int (nI 1))]) rfl ?_
                refine z_goto (tgt := 18) X dX4_bonusOf_136 (by decide) ?_
                have e9 : bnS S (wk S (S 15) G) v (nI k) (j + 1) = (bnS S (wk S (S 15) G) v (nI k) j) + (nI 0) ∧ bnG S (wk S (S 15) G) v (nI k) (j + 1) = bnG S (wk S (S 15) G) v (nI k) j := by
                  first
                    | exact ⟨((bo_n hjq1).1).trans (i_a0 _).symm, (bo_n hjq1).2⟩
                    | exact ⟨(bo_s hk hjq1 (Or.inl c71)).1, (bo_s hk hjq1 (Or.inl c71)).2⟩
                    | exact ⟨(bo_s hk hjq1 (Or.inr (Int32.not_le.mp c81))).1, (bo_s hk hjq1 (Or.inr (Int32.not_le.mp c81))).2⟩
                    | exact ⟨((bo_g hk hjq1 (fun q => q.elim c71 (Int32.not_lt.mpr c81))).1).trans (i_a0 _).symm, ((bo_g hk hjq1 (fun q => q.elim c71 (Int32.not_lt.mpr c81))).2).trans (if_pos (Int32.not_le.mp c116))⟩
                    | exact ⟨((bo_g hk hjq1 (fun q => q.elim c71 (Int32.not_lt.mpr c81))).1).trans (i_a0 _).symm, ((bo_g hk hjq1 (fun q => q.elim c71 (Int32.not_lt.mpr c81))).2).trans (if_neg (Int32.not_lt.mpr c116))⟩
                    | exact absurd c104 (by omega)
                    | exact absurd (Int32.lt_of_le_of_lt (bnG_pos (w := wk S (S 15) G) (v := v) (k := k) (by omega) j) (Int32.not_le.mp c116)) (Int32.not_lt.mpr (Int32.le_of_lt (Int32.not_le.mp c81)))
                refine Wz.less (lv' := [some (.ref (b 0)), some (.int v), some (.int (nI k)), some (.int (nI (wk S (S 15) G))), some (.int (bnS S (wk S (S 15) G) v (nI k) (j + 1))), some (.int (bnG S (wk S (S 15) G) v (nI k) (j + 1))), some (.int (nI (j + 1))), none]) (by simp [zle, e9.1, e9.2]) ?_
                exact ihj
              ·
                refine z_aload_n X dX4_bonusOf_119 rfl rfl ?_
                refine z_get X (C := RX4) (T := TX4) (N := 21) (ci := 4) (v := .ref (b 13)) inZ4 0 14 rfl rfl (by decide) q_fl_X4_46 rfl rfl dX4_bonusOf_120 ?_
                refine z_iload X dX4_bonusOf_123 rfl ?_
                refine n_iald (f := S 9) X 13 rfl (by omega) (by decide) dX4_bonusOf_125 ?_
                refine z_goto (tgt := 131) X dX4_bonusOf_126 (by decide) ?_
                refine z_istore X dX4_bonusOf_131 (Nat.le_of_ble_eq_true rfl) ?_
                refine z_lv (lv' := [some (.ref (b 0)), some (.int v), some (.int (nI k)), some (.int (nI (wk S (S 15) G))), some (.int ((bnS S (wk S (S 15) G) v (nI k) j) + (nI 0))), some (.int (S 9 j)), some (.int (nI j)), some (.int (nI 1))]) rfl ?_
                refine z_iinc (v := nI (j + 1)) X dX4_bonusOf_133 rfl (nI_add j 1) ?_
                refine z_lv (lv' := [some (.ref (b 0)), some (.int v), some (.int (nI k)), some (.int (nI (wk S (S 15) G))), some (.int ((bnS S (wk S (S 15) G) v (nI k) j) + (nI 0))), some (.int (S 9 j)), some (.int (nI (j + 1))), some (.int (nI 1))]) rfl ?_
                refine z_goto (tgt := 18) X dX4_bonusOf_136 (by decide) ?_
                have e9 : bnS S (wk S (S 15) G) v (nI k) (j + 1) = (bnS S (wk S (S 15) G) v (nI k) j) + (nI 0) ∧ bnG S (wk S (S 15) G) v (nI k) (j + 1) = S 9 j := by
                  first
                    | exact ⟨((bo_n hjq1).1).trans (i_a0 _).symm, (bo_n hjq1).2⟩
                    | exact ⟨(bo_s hk hjq1 (Or.inl c71)).1, (bo_s hk hjq1 (Or.inl c71)).2⟩
                    | exact ⟨(bo_s hk hjq1 (Or.inr (Int32.not_le.mp c81))).1, (bo_s hk hjq1 (Or.inr (Int32.not_le.mp c81))).2⟩
                    | exact ⟨((bo_g hk hjq1 (fun q => q.elim c71 (Int32.not_lt.mpr c81))).1).trans (i_a0 _).symm, ((bo_g hk hjq1 (fun q => q.elim c71 (Int32.not_lt.mpr c81))).2).trans (if_pos (Int32.not_le.mp c116))⟩
                    | exact ⟨((bo_g hk hjq1 (fun q => q.elim c71 (Int32.not_lt.mpr c81))).1).trans (i_a0 _).symm, ((bo_g hk hjq1 (fun q => q.elim c71 (Int32.not_lt.mpr c81))).2).trans (if_neg (Int32.not_lt.mpr c116))⟩
                    | exact absurd c104 (by omega)
                    | exact absurd (Int32.lt_of_le_of_lt (bnG_pos (w := wk S (S 15) G) (v := v) (k := k) (by omega) j) (Int32.not_le.mp c116)) (Int32.not_lt.mpr (Int32.le_of_lt (Int32.not_le.mp c81)))
                refine Wz.less (lv' := [some (.ref (b 0)), some (.int v), some (.int (nI k)), some (.int (nI (wk S (S 15) G))), some (.int (bnS S (wk S (S 15) G) v (nI k) (j + 1))), some (.int (bnG S (wk S (S 15) G) v (nI k) (j + 1))), some (.int (nI (j + 1))), none]) (by simp [zle, e9.1, e9.2]) ?_
                exact ihj
          ·
            refine z_aload_n X dX4_bonusOf_84 rfl rfl ?_
            refine z_get X (C := RX4) (T := TX4) (N := 21) (ci := 4) (v := .ref (b 13)) inZ4 0 14 rfl rfl (by decide) q_fl_X4_46 rfl rfl dX4_bonusOf_85 ?_
            refine z_iload X dX4_bonusOf_88 rfl ?_
            refine n_iald (f := S 9) X 13 rfl (by omega) (by decide) dX4_bonusOf_90 ?_
            refine z_goto (tgt := 95) X dX4_bonusOf_91 (by decide) ?_
            refine z_iadd X dX4_bonusOf_95 ?_
            refine z_istore X dX4_bonusOf_96 (Nat.le_of_ble_eq_true rfl) ?_
            refine z_lv (lv' := [some (.ref (b 0)), some (.int v), some (.int (nI k)), some (.int (nI (wk S (S 15) G))), some (.int ((bnS S (wk S (S 15) G) v (nI k) j) + (S 9 j))), some (.int (bnG S (wk S (S 15) G) v (nI k) j)), some (.int (nI j)), some (.int (nI 1))]) rfl ?_
            refine z_iload X dX4_bonusOf_98 rfl ?_
            refine n_if_eq (tgt := 129) X dX4_bonusOf_100 (by decide) (by omega) (fun c100 => absurd c100 (by decide)) (fun _ => ?_)
            refine z_iload_n X dX4_bonusOf_103 rfl rfl ?_
            refine n_if_le (tgt := 129) X dX4_bonusOf_104 (by decide) (by omega) (fun c104 => ?_) (fun c104 => ?_)
            ·
              refine z_iload X dX4_bonusOf_129 rfl ?_
              refine z_istore X dX4_bonusOf_131 (Nat.le_of_ble_eq_true rfl) ?_
              refine z_lv (lv' := [some (.ref (b 0)), some (.int v), some (.int (nI k)), some (.int (nI (wk S (S 15) G))), some (.int ((bnS S (wk S (S 15) G) v (nI k) j) + (S 9 j))), some (.int (bnG S (wk S (S 15) G) v (nI k) j)), some (.int (nI j)), some (.int (nI 1))]) rfl ?_
              refine z_iinc (v := nI (j + 1)) X dX4_bonusOf_133 rfl (nI_add j 1) ?_
              refine z_lv (lv' := [some (.ref (b 0)), some (.int v), some (.int (nI k)), some (.int (nI (wk S (S 15) G))), some (.int ((bnS S (wk S (S 15) G) v (nI k) j) + (S 9 j))), some (.int (bnG S (wk S (S 15) G) v (nI k) j)), some (.int (nI (j + 1))), some (.int (nI 1))]) rfl ?_
              refine z_goto (tgt := 18) X dX4_bonusOf_136 (by decide) ?_
              have e9 : bnS S (wk S (S 15) G) v (nI k) (j + 1) = (bnS S (wk S (S 15) G) v (nI k) j) + (S 9 j) ∧ bnG S (wk S (S 15) G) v (nI k) (j + 1) = bnG S (wk S (S 15) G) v (nI k) j := by
                first
                  | exact ⟨((bo_n hjq1).1).trans (i_a0 _).symm, (bo_n hjq1).2⟩
                  | exact ⟨(bo_s hk hjq1 (Or.inl c71)).1, (bo_s hk hjq1 (Or.inl c71)).2⟩
                  | exact ⟨(bo_s hk hjq1 (Or.inr (Int32.not_le.mp c81))).1, (bo_s hk hjq1 (Or.inr (Int32.not_le.mp c81))).2⟩
                  | exact ⟨((bo_g hk hjq1 (fun q => q.elim c71 (Int32.not_lt.mpr c81))).1).trans (i_a0 _).symm, ((bo_g hk hjq1 (fun q => q.elim c71 (Int32.not_lt.mpr c81))).2).trans (if_pos (Int32.not_le.mp c116))⟩
                  | exact ⟨((bo_g hk hjq1 (fun q => q.elim c71 (Int32.not_lt.mpr c81))).1).trans (i_a0 _).symm, ((bo_g hk hjq1 (fun q => q.elim c71 (Int32.not_lt.mpr c81))).2).trans (if_neg (Int32.not_lt.mpr c116))⟩
                  | exact absurd c104 (by omega)
                  | exact absurd (Int32.lt_of_le_of_lt (bnG_pos (w := wk S (S 15) G) (v := v) (k := k) (by omega) j) (Int32.not_le.mp c116)) (Int32.not_lt.mpr (Int32.le_of_lt (Int32.not_le.mp c81)))
              refine Wz.less (lv' := [some (.ref (b 0)), some (.int v), some (.int (nI k)), some (.int (nI (wk S (S 15) G))), some (.int (bnS S (wk S (S 15) G) v (nI k) (j + 1))), some (.int (bnG S (wk S (S 15) G) v (nI k) (j + 1))), some (.int (nI (j + 1))), none]) (by simp [zle, e9.1, e9.2]) ?_
              exact ihj
            ·
              refine z_aload_n X dX4_bonusOf_107 rfl rfl ?_
              refine z_get X (C := RX4) (T := TX4) (N := 21) (ci := 4) (v := .ref (b 13)) inZ4 0 14 rfl rfl (by decide) q_fl_X4_46 rfl rfl dX4_bonusOf_108 ?_
              refine z_iload X dX4_bonusOf_111 rfl ?_
              refine n_iald (f := S 9) X 13 rfl (by omega) (by decide) dX4_bonusOf_113 ?_
              refine z_iload X dX4_bonusOf_114 rfl ?_
              refine z_icmp_le (tgt := 129) X dX4_bonusOf_116 (by decide) (fun c116 => ?_) (fun c116 => ?_)
              ·
                refine z_iload X dX4_bonusOf_129 rfl ?_
                refine z_istore X dX4_bonusOf_131 (Nat.le_of_ble_eq_true rfl) ?_
                refine z_lv (lv' := [some (.ref (b 0)), some (.int v), some (.int (nI k)), some (.int (nI (wk S (S 15) G))), some (.int ((bnS S (wk S (S 15) G) v (nI k) j) + (S 9 j))), some (.int (bnG S (wk S (S 15) G) v (nI k) j)), some (.int (nI j)), some (.int (nI 1))]) rfl ?_
                refine z_iinc (v := nI (j + 1)) X dX4_bonusOf_133 rfl (nI_add j 1) ?_
                refine z_lv (lv' := [some (.ref (b 0)), some (.int v), some (.int (nI k)), some (.int (nI (wk S (S 15) G))), some (.int ((bnS S (wk S (S 15) G) v (nI k) j) + (S 9 j))), some (.int (bnG S (wk S (S 15) G) v (nI k) j)), some (.int (nI (j + 1))), some (.int (nI 1))]) rfl ?_
                refine z_goto (tgt := 18) X dX4_bonusOf_136 (by decide) ?_
                have e9 : bnS S (wk S (S 15) G) v (nI k) (j + 1) = (bnS S (wk S (S 15) G) v (nI k) j) + (S 9 j) ∧ bnG S (wk S (S 15) G) v (nI k) (j + 1) = bnG S (wk S (S 15) G) v (nI k) j := by
                  first
                    | exact ⟨((bo_n hjq1).1).trans (i_a0 _).symm, (bo_n hjq1).2⟩
                    | exact ⟨(bo_s hk hjq1 (Or.inl c71)).1, (bo_s hk hjq1 (Or.inl c71)).2⟩
                    | exact ⟨(bo_s hk hjq1 (Or.inr (Int32.not_le.mp c81))).1, (bo_s hk hjq1 (Or.inr (Int32.not_le.mp c81))).2⟩
                    | exact ⟨((bo_g hk hjq1 (fun q => q.elim c71 (Int32.not_lt.mpr c81))).1).trans (i_a0 _).symm, ((bo_g hk hjq1 (fun q => q.elim c71 (Int32.not_lt.mpr c81))).2).trans (if_pos (Int32.not_le.mp c116))⟩
                    | exact ⟨((bo_g hk hjq1 (fun q => q.elim c71 (Int32.not_lt.mpr c81))).1).trans (i_a0 _).symm, ((bo_g hk hjq1 (fun q => q.elim c71 (Int32.not_lt.mpr c81))).2).trans (if_neg (Int32.not_lt.mpr c116))⟩
                    | exact absurd c104 (by omega)
                    | exact absurd (Int32.lt_of_le_of_lt (bnG_pos (w := wk S (S 15) G) (v := v) (k := k) (by omega) j) (Int32.not_le.mp c116)) (Int32.not_lt.mpr (Int32.le_of_lt (Int32.not_le.mp c81)))
                refine Wz.less (lv' := [some (.ref (b 0)), some (.int v), some (.int (nI k)), some (.int (nI (wk S (S 15) G))), some (.int (bnS S (wk S (S 15) G) v (nI k) (j + 1))), some (.int (bnG S (wk S (S 15) G) v (nI k) (j + 1))), some (.int (nI (j + 1))), none]) (by simp [zle, e9.1, e9.2]) ?_
                exact ihj
              ·
                refine z_aload_n X dX4_bonusOf_119 rfl rfl ?_
                refine z_get X (C := RX4) (T := TX4) (N := 21) (ci := 4) (v := .ref (b 13)) inZ4 0 14 rfl rfl (by decide) q_fl_X4_46 rfl rfl dX4_bonusOf_120 ?_
                refine z_iload X dX4_bonusOf_123 rfl ?_
                refine n_iald (f := S 9) X 13 rfl (by omega) (by decide) dX4_bonusOf_125 ?_
                refine z_goto (tgt := 131) X dX4_bonusOf_126 (by decide) ?_
                refine z_istore X dX4_bonusOf_131 (Nat.le_of_ble_eq_true rfl) ?_
                refine z_lv (lv' := [some (.ref (b 0)), some (.int v), some (.int (nI k)), some (.int (nI (wk S (S 15) G))), some (.int ((bnS S (wk S (S 15) G) v (nI k) j) + (S 9 j))), some (.int (S 9 j)), some (.int (nI j)), some (.int (nI 1))]) rfl ?_
                refine z_iinc (v := nI (j + 1)) X dX4_bonusOf_133 rfl (nI_add j 1) ?_
                refine z_lv (lv' := [some (.ref (b 0)), some (.int v), some (.int (nI k)), some (.int (nI (wk S (S 15) G))), some (.int ((bnS S (wk S (S 15) G) v (nI k) j) + (S 9 j))), some (.int (S 9 j)), some (.int (nI (j + 1))), some (.int (nI 1))]) rfl ?_
                refine z_goto (tgt := 18) X dX4_bonusOf_136 (by decide) ?_
                have e9 : bnS S (wk S (S 15) G) v (nI k) (j + 1) = (bnS S (wk S (S 15) G) v (nI k) j) + (S 9 j) ∧ bnG S (wk S (S 15) G) v (nI k) (j + 1) = S 9 j := by
                  first
                    | exact ⟨((bo_n hjq1).1).trans (i_a0 _).symm, (bo_n hjq1).2⟩
                    | exact ⟨(bo_s hk hjq1 (Or.inl c71)).1, (bo_s hk hjq1 (Or.inl c71)).2⟩
                    | exact ⟨(bo_s hk hjq1 (Or.inr (Int32.not_le.mp c81))).1, (bo_s hk hjq1 (Or.inr (Int32.not_le.mp c81))).2⟩
                    | exact ⟨((bo_g hk hjq1 (fun q => q.elim c71 (Int32.not_lt.mpr c81))).1).trans (i_a0 _).symm, ((bo_g hk hjq1 (fun q => q.elim c71 (Int32.not_lt.mpr c81))).2).trans (if_pos (Int32.not_le.mp c116))⟩
                    | exact ⟨((bo_g hk hjq1 (fun q => q.elim c71 (Int32.not_lt.mpr c81))).1).trans (i_a0 _).symm, ((bo_g hk hjq1 (fun q => q.elim c71 (Int32.not_lt.mpr c81))).2).trans (if_neg (Int32.not_lt.mpr c116))⟩
                    | exact absurd c104 (by omega)
                    | exact absurd (Int32.lt_of_le_of_lt (bnG_pos (w := wk S (S 15) G) (v := v) (k := k) (by omega) j) (Int32.not_le.mp c116)) (Int32.not_lt.mpr (Int32.le_of_lt (Int32.not_le.mp c81)))
                refine Wz.less (lv' := [some (.ref (b 0)), some (.int v), some (.int (nI k)), some (.int (nI (wk S (S 15) G))), some (.int (bnS S (wk S (S 15) G) v (nI k) (j + 1))), some (.int (bnG S (wk S (S 15) G) v (nI k) (j + 1))), some (.int (nI (j + 1))), none]) (by simp [zle, e9.1, e9.2]) ?_
                exact ihj
      ·
        refine z_iload X dX4_bonusOf_63 rfl ?_
        refine z_iload X dX4_bonusOf_65 rfl ?_
        refine n_if_eq (tgt := 94) X dX4_bonusOf_67 (by decide) (by omega) (fun _ => ?_) (fun c67 => absurd c67 (by decide))
        refine z_iconst (v := nI 0) X dX4_bonusOf_94 (by decide) ?_
        refine z_iadd X dX4_bonusOf_95 ?_
        refine z_istore X dX4_bonusOf_96 (Nat.le_of_ble_eq_true rfl) ?_
        refine z_lv (lv' := [some (.ref (b 0)), some (.int v), some (.int (nI k)), some (.int (nI (wk S (S 15) G))), some (.int ((bnS S (wk S (S 15) G) v (nI k) j) + (nI 0))), some (.int (bnG S (wk S (S 15) G) v (nI k) j)), some (.int (nI j)), some (.int (nI 0))]) rfl ?_
        refine z_iload X dX4_bonusOf_98 rfl ?_
        refine n_if_eq (tgt := 129) X dX4_bonusOf_100 (by decide) (by omega) (fun _ => ?_) (fun c100 => absurd c100 (by decide))
        refine z_iload X dX4_bonusOf_129 rfl ?_
        refine z_istore X dX4_bonusOf_131 (Nat.le_of_ble_eq_true rfl) ?_
        refine z_lv (lv' := [some (.ref (b 0)), some (.int v), some (.int (nI k)), some (.int (nI (wk S (S 15) G))), some (.int ((bnS S (wk S (S 15) G) v (nI k) j) + (nI 0))), some (.int (bnG S (wk S (S 15) G) v (nI k) j)), some (.int (nI j)), some (.int (nI 0))]) rfl ?_
        refine z_iinc (v := nI (j + 1)) X dX4_bonusOf_133 rfl (nI_add j 1) ?_
        refine z_lv (lv' := [some (.ref (b 0)), some (.int v), some (.int (nI k)), some (.int (nI (wk S (S 15) G))), some (.int ((bnS S (wk S (S 15) G) v (nI k) j) + (nI 0))), some (.int (bnG S (wk S (S 15) G) v (nI k) j)), some (.int (nI (j + 1))), some (.int (nI 0))]) rfl ?_
        refine z_goto (tgt := 18) X dX4_bonusOf_136 (by decide) ?_
        have e9 : bnS S (wk S (S 15) G) v (nI k) (j + 1) = (bnS S (wk S (S 15) G) v (nI k) j) + (nI 0) ∧ bnG S (wk S (S 15) G) v (nI k) (j + 1) = bnG S (wk S (S 15) G) v (nI k) j := by
          first
            | exact ⟨((bo_n hjq1).1).trans (i_a0 _).symm, (bo_n hjq1).2⟩
            | exact ⟨(bo_s hk hjq1 (Or.inl c71)).1, (bo_s hk hjq1 (Or.inl c71)).2⟩
            | exact ⟨(bo_s hk hjq1 (Or.inr (Int32.not_le.mp c81))).1, (bo_s hk hjq1 (Or.inr (Int32.not_le.mp c81))).2⟩
            | exact ⟨((bo_g hk hjq1 (fun q => q.elim c71 (Int32.not_lt.mpr c81))).1).trans (i_a0 _).symm, ((bo_g hk hjq1 (fun q => q.elim c71 (Int32.not_lt.mpr c81))).2).trans (if_pos (Int32.not_le.mp c116))⟩
            | exact ⟨((bo_g hk hjq1 (fun q => q.elim c71 (Int32.not_lt.mpr c81))).1).trans (i_a0 _).symm, ((bo_g hk hjq1 (fun q => q.elim c71 (Int32.not_lt.mpr c81))).2).trans (if_neg (Int32.not_lt.mpr c116))⟩
            | exact absurd c104 (by omega)
            | exact absurd (Int32.lt_of_le_of_lt (bnG_pos (w := wk S (S 15) G) (v := v) (k := k) (by omega) j) (Int32.not_le.mp c116)) (Int32.not_lt.mpr (Int32.le_of_lt (Int32.not_le.mp c81)))
        refine Wz.less (lv' := [some (.ref (b 0)), some (.int v), some (.int (nI k)), some (.int (nI (wk S (S 15) G))), some (.int (bnS S (wk S (S 15) G) v (nI k) (j + 1))), some (.int (bnG S (wk S (S 15) G) v (nI k) (j + 1))), some (.int (nI (j + 1))), none]) (by simp [zle, e9.1, e9.2]) ?_
        exact ihj
    refine z_iload_n X dX4_bonusOf_25 rfl rfl ?_
    refine z_iload X dX4_bonusOf_26 rfl ?_
    refine z_callS1 (k := 0) (n := 0) (st := []) X (c_X4_has l D t (wk S (S 15) G) j (by omega) (by omega)) k_X4_has q_ml_X4_107 [] ⟨by decide, rfl⟩ (by decide) rfl rfl rfl (Nat.le_of_ble_eq_true rfl) ⟨Nat.zero_le _, Nat.zero_le _⟩ dX4_bonusOf_28 (fun r28 h28 => ?_)
    rcases h28 with ⟨rfl, h28⟩ | ⟨rfl, h28⟩
    ·
      refine n_if_eq (tgt := 60) X dX4_bonusOf_31 (by decide) (by omega) (fun c31 => absurd c31 (by decide)) (fun _ => ?_)
      refine z_aload_n X dX4_bonusOf_34 rfl rfl ?_
      refine z_get X (C := RX4) (T := TX4) (N := 21) (ci := 4) (v := .ref (b 11)) inZ4 0 12 rfl rfl (by decide) q_fl_X4_40 rfl rfl dX4_bonusOf_35 ?_
      refine z_iload X dX4_bonusOf_38 rfl ?_
      refine n_iald (f := S 7) X 11 rfl (by omega) (by decide) dX4_bonusOf_40 ?_
      refine z_iload_n X dX4_bonusOf_41 rfl rfl ?_
      refine z_icmp_ne (tgt := 60) X dX4_bonusOf_42 (by decide) (fun c42 => ?_) (fun c42 => ?_)
      ·
        refine z_iconst (v := nI 0) X dX4_bonusOf_60 (by decide) ?_
        exact jq1 (nI 0) (by
                    first
                      | exact bz_t (⟨h28, Classical.not_not.mp c42, Classical.not_not.mp c53⟩)
                      | exact bz_t (⟨h28, c42, c53⟩)
                      | exact bz_f (fun q => h28 q.1)
                      | exact bz_f (fun q => c42 q.2.1)
                      | exact bz_f (fun q => c53 q.2.2))
      ·
        refine z_aload_n X dX4_bonusOf_45 rfl rfl ?_
        refine z_get X (C := RX4) (T := TX4) (N := 21) (ci := 4) (v := .ref (b 12)) inZ4 0 13 rfl rfl (by decide) q_fl_X4_43 rfl rfl dX4_bonusOf_46 ?_
        refine z_iload X dX4_bonusOf_49 rfl ?_
        refine n_iald (f := S 8) X 12 rfl (by omega) (by decide) dX4_bonusOf_51 ?_
        refine z_iload_n X dX4_bonusOf_52 rfl rfl ?_
        refine z_icmp_ne (tgt := 60) X dX4_bonusOf_53 (by decide) (fun c53 => ?_) (fun c53 => ?_)
        ·
          refine z_iconst (v := nI 0) X dX4_bonusOf_60 (by decide) ?_
          exact jq1 (nI 0) (by
                    first
                      | exact bz_t (⟨h28, Classical.not_not.mp c42, Classical.not_not.mp c53⟩)
                      | exact bz_t (⟨h28, c42, c53⟩)
                      | exact bz_f (fun q => h28 q.1)
                      | exact bz_f (fun q => c42 q.2.1)
                      | exact bz_f (fun q => c53 q.2.2))
        ·
          refine z_iconst (v := nI 1) X dX4_bonusOf_56 (by decide) ?_
          refine z_goto (tgt := 61) X dX4_bonusOf_57 (by decide) ?_
          exact jq1 (nI 1) (by
                    first
                      | exact bz_t (⟨h28, Classical.not_not.mp c42, Classical.not_not.mp c53⟩)
                      | exact bz_t (⟨h28, c42, c53⟩)
                      | exact bz_f (fun q => h28 q.1)
                      | exact bz_f (fun q => c42 q.2.1)
                      | exact bz_f (fun q => c53 q.2.2))
    ·
      refine n_if_eq (tgt := 60) X dX4_bonusOf_31 (by decide) (by omega) (fun _ => ?_) (fun c31 => absurd c31 (by decide))
      refine z_iconst (v := nI 0) X dX4_bonusOf_60 (by decide) ?_
      exact jq1 (nI 0) (by
                    first
                      | exact bz_t (⟨h28, Classical.not_not.mp c42, Classical.not_not.mp c53⟩)
                      | exact bz_t (⟨h28, c42, c53⟩)
                      | exact bz_f (fun q => h28 q.1)
                      | exact bz_f (fun q => c42 q.2.1)
                      | exact bz_f (fun q => c53 q.2.2))
set_option maxHeartbeats 600000 in
set_option maxRecDepth 100000 in
theorem c_X4_bonus (l : Launch) (D : va_G) (t : ClassId × ClassId × ClassId) (b : Nat → Nat) (S : zS) (G : Nat) (h18 : S 18 0 = nI G) (hG : G < 256) (hI : zI S) (v kd : Int32) : zM2 l yX4_bonus cX4_bonus 3 (some .int) 6 D t [.ref (b 0), .int v, .int kd] (wM t b S) (fun r (u : zS) => (am v 6 ∧ am kd 4 ∧ r = bn S (wk S (S 15) G) v kd ∧ u = va_up S 23 (fun _ => nI 0)) ∨ (¬ am v 6 ∧ u = va_up S 23 (fun _ => nI 1)) ∨ (am v 6 ∧ ¬ am kd 4 ∧ u = va_up S 23 (fun _ => nI 2))) (fun u => wM t b u) := by
  refine z_m2 (by decide +kernel) (Nat.le_of_ble_eq_true rfl) (by simp [Value.category]) ?_
  intro E X Z Y
  refine z_lv (lv' := [some (.ref (b 0)), some (.int v), some (.int kd)]) rfl ?_
  refine z_aload_n X dX4_bonus_0 rfl rfl ?_
  refine z_iload_n X dX4_bonus_1 rfl rfl ?_
  refine z_callS1 (k := 0) (n := 0) (st := [.ref (b 0)]) X (c_X4_isValue l D t v) k_X4_isValue q_ml_X4_81 [] ⟨by decide, rfl⟩ (by decide) rfl rfl rfl (Nat.le_of_ble_eq_true rfl) ⟨Nat.zero_le _, Nat.zero_le _⟩ dX4_bonus_2 (fun r2 h2 => ?_)
  refine z_iload_n X dX4_bonus_5 rfl rfl ?_
  refine z_iconst (v := nI 0) X dX4_bonus_6 (by decide) ?_
  refine z_iconst (v := nI 3) X dX4_bonus_7 (by decide) ?_
  refine z_callS1 (k := 0) (n := 0) (st := [.int r2, .ref (b 0)]) X (c_X4_in l D t kd (nI 0) (nI 3)) k_X4_in q_ml_X4_69 [] ⟨by decide, rfl⟩ (by decide) rfl rfl rfl (Nat.le_of_ble_eq_true rfl) ⟨Nat.zero_le _, Nat.zero_le _⟩ dX4_bonus_8 (fun r8 h8 => ?_)
  replace h8 := h8.iff (am_in (by decide))
  refine z_iconst (v := nI 1) X dX4_bonus_11 (by decide) ?_
  refine z_callV2 (k := 0) (n := 0) (st := []) X Y aM_eq (c_X4_goes l D t b S r2 r8 (nI 1) (am v 6) (am kd 4) True h2 h8 (bz_t trivial)) k_X4_goes q_ml_X4_77 is19 (fun u => wM t b (va_up S 23 (fun _ => nI u))) (fun u => swM) ppM 0 4 rfl rfl (by decide) rfl rfl rfl (Nat.le_of_ble_eq_true rfl) ⟨Nat.zero_le _, Nat.zero_le _⟩ dX4_bonus_12 (fun r12 u12 h12 => ?_)
  rcases h12 with ⟨rfl, rfl, g1, g2, g3⟩ | ⟨rfl, rfl, g1⟩ | ⟨rfl, rfl, g1, g2⟩ | ⟨rfl, rfl, g1, g2, g3⟩
  ·
    refine n_if_eq (tgt := 27) X dX4_bonus_15 (by decide) (by omega) (fun c15 => absurd c15 (by decide)) (fun _ => ?_)
    obtain ⟨kkd, hkkd, rfl⟩ := g2
    refine z_aload_n X dX4_bonus_18 rfl rfl ?_
    refine z_iload_n X dX4_bonus_19 rfl rfl ?_
    refine z_iload_n X dX4_bonus_20 rfl rfl ?_
    refine z_callV1 (k := 0) (n := 0) (st := []) X (c_X4_bonusOf l D t b (va_up S 23 (fun _ => nI 0)) G h18 hG hI v kkd (by omega)) k_X4_bonusOf q_ml_X4_130 is19 ⟨by decide, rfl⟩ 0 4 rfl rfl (by decide) rfl rfl rfl (Nat.le_of_ble_eq_true rfl) ⟨Nat.zero_le _, Nat.zero_le _⟩ dX4_bonus_21 (fun r21 h21 => ?_)
    subst h21
    refine z_goto (tgt := 28) X dX4_bonus_24 (by decide) ?_
    refine z_iret X Z rfl dX4_bonus_28 ?_
    exact ⟨(va_up S 23 (fun _ => nI 0)), Or.inl ⟨g1, ⟨kkd, hkkd, rfl⟩, rfl, rfl⟩, fun q hq => hq⟩
  ·
    refine n_if_eq (tgt := 27) X dX4_bonus_15 (by decide) (by omega) (fun _ => ?_) (fun c15 => absurd c15 (by decide))
    refine z_iconst (v := nI 0) X dX4_bonus_27 (by decide) ?_
    refine z_iret X Z rfl dX4_bonus_28 ?_
    exact ⟨(va_up S 23 (fun _ => nI 1)), Or.inr (Or.inl ⟨g1, rfl⟩), fun q hq => hq⟩
  ·
    refine n_if_eq (tgt := 27) X dX4_bonus_15 (by decide) (by omega) (fun _ => ?_) (fun c15 => absurd c15 (by decide))
    refine z_iconst (v := nI 0) X dX4_bonus_27 (by decide) ?_
    refine z_iret X Z rfl dX4_bonus_28 ?_
    exact ⟨(va_up S 23 (fun _ => nI 2)), Or.inr (Or.inr ⟨g1, g2, rfl⟩), fun q hq => hq⟩
  ·
    exact absurd trivial g3
set_option maxHeartbeats 600000 in
set_option maxRecDepth 100000 in
theorem c_X4_isEndless (l : Launch) (D : va_G) (t : ClassId × ClassId × ClassId) (b : Nat → Nat) (S : zS) (hI : zI S) (v : Nat) (hv : v < 6) : zM1 l yX4_isEndless cX4_isEndless 4 (some .boolean) 0 D t [.ref (b 0), .int (nI v)] (wM t b S) (fun r => bz r (¬ ch S (nI v) 6 = -1)) := by
  refine z_m1 (by decide +kernel) (Nat.le_of_ble_eq_true rfl) (by simp [Value.category]) ?_
  intro E X Z
  refine z_lv (lv' := [some (.ref (b 0)), some (.int (nI v)), none, none]) rfl ?_
  refine z_iload_n X dX4_isEndless_0 rfl rfl ?_
  refine z_istore_n X dX4_isEndless_1 rfl (Nat.le_of_ble_eq_true rfl) ?_
  refine z_lv (lv' := [some (.ref (b 0)), some (.int (nI v)), some (.int (nI v)), none]) rfl ?_
  refine z_iconst (v := nI 0) X dX4_isEndless_2 (by decide) ?_
  refine z_istore_n X dX4_isEndless_3 rfl (Nat.le_of_ble_eq_true rfl) ?_
  refine z_lv (lv' := [some (.ref (b 0)), some (.int (nI v)), some (.int (nI v)), some (.int (nI 0))]) rfl ?_
  refine z_lv (lv' := [some (.ref (b 0)), some (.int (nI v)), some (.int (ch S (nI v) 0)), some (.int (nI 0))]) rfl ?_
  refine zl_up 6 (fun i => Wz E 0 0 4 [some (.ref (b 0)), some (.int (nI v)), some (.int (ch S (nI v) i)), some (.int (nI i))] [] (wM t b S)) ?_ ?_ 0 (by omega)
  ·
    refine z_iload_n X dX4_isEndless_4 rfl rfl ?_
    refine z_bipush (v := nI 6) X dX4_isEndless_5 (by decide) ?_
    refine n_icmp_ge (tgt := 28) X dX4_isEndless_7 (by decide) (by omega) (by omega) (fun _ => ?_) (fun c7 => absurd c7 (by decide))
    rcases ch_zo hI.2.2.2.2.2.2.2 (Or.inr ⟨v, hv, rfl⟩) 6 with h0 | ⟨k, hk, h0⟩
    ·
      rw [h0]
      refine z_iload_n X dX4_isEndless_28 rfl rfl ?_
      refine z_iconst (v := (-1)) X dX4_isEndless_29 (by decide) ?_
      refine z_icmp_eq (tgt := 37) X dX4_isEndless_30 (by decide) (fun _ => ?_) (fun c30 => absurd c30 (by decide))
      refine z_iconst (v := nI 0) X dX4_isEndless_37 (by decide) ?_
      refine z_iret X Z (by decide +kernel) dX4_isEndless_38 ?_
      exact ⟨(), bz_f (fun h => h h0), fun _ _ => trivial⟩
    ·
      rw [h0]
      refine z_iload_n X dX4_isEndless_28 rfl rfl ?_
      refine z_iconst (v := (-1)) X dX4_isEndless_29 (by decide) ?_
      refine z_icmp_eq (tgt := 37) X dX4_isEndless_30 (by decide) (fun c30 => absurd c30 (zn_m1 k (by omega))) (fun c30 => ?_)
      refine z_iconst (v := nI 1) X dX4_isEndless_33 (by decide) ?_
      refine z_goto (tgt := 38) X dX4_isEndless_34 (by decide) ?_
      refine z_iret X Z (by decide +kernel) dX4_isEndless_38 ?_
      exact ⟨(), bz_t (by rw [h0]; exact zn_m1 k (by omega)), fun _ _ => trivial⟩
  ·
    intro i hi ih
    refine z_iload_n X dX4_isEndless_4 rfl rfl ?_
    refine z_bipush (v := nI 6) X dX4_isEndless_5 (by decide) ?_
    refine n_icmp_ge (tgt := 28) X dX4_isEndless_7 (by decide) (by omega) (by omega) (fun c7 => absurd c7 (by omega)) (fun _ => ?_)
    rcases ch_zo hI.2.2.2.2.2.2.2 (Or.inr ⟨v, hv, rfl⟩) i with h0 | ⟨k, hk, h0⟩
    ·
      rw [h0]
      refine z_iload_n X dX4_isEndless_10 rfl rfl ?_
      refine z_iconst (v := (-1)) X dX4_isEndless_11 (by decide) ?_
      refine z_icmp_eq (tgt := 28) X dX4_isEndless_12 (by decide) (fun _ => ?_) (fun c12 => absurd c12 (by decide))
      refine z_iload_n X dX4_isEndless_28 rfl rfl ?_
      refine z_iconst (v := (-1)) X dX4_isEndless_29 (by decide) ?_
      refine z_icmp_eq (tgt := 37) X dX4_isEndless_30 (by decide) (fun _ => ?_) (fun c30 => absurd c30 (by decide))
      refine z_iconst (v := nI 0) X dX4_isEndless_37 (by decide) ?_
      refine z_iret X Z (by decide +kernel) dX4_isEndless_38 ?_
      first
        | exact ⟨(), bz_f (fun h => h (by have q := ch_m h0 (6 - i); rw [show i + (6 - i) = 6 by omega] at q; exact q)), fun _ _ => trivial⟩
    ·
      rw [h0]
      refine z_iload_n X dX4_isEndless_10 rfl rfl ?_
      refine z_iconst (v := (-1)) X dX4_isEndless_11 (by decide) ?_
      refine z_icmp_eq (tgt := 28) X dX4_isEndless_12 (by decide) (fun c12 => absurd c12 (zn_m1 k (by omega))) (fun c12 => ?_)
      refine z_aload_n X dX4_isEndless_15 rfl rfl ?_
      refine z_get X (C := RX4) (T := TX4) (N := 21) (ci := 4) (v := .ref (b 17)) inZ4 0 18 rfl rfl (by decide) q_fl_X4_58 rfl rfl dX4_isEndless_16 ?_
      refine z_iload_n X dX4_isEndless_19 rfl rfl ?_
      refine n_iald (f := S 13) X 17 rfl (by omega) (by decide) dX4_isEndless_20 ?_
      refine z_top (y := ch S (nI v) (i + 1)) ((ch_s h0 (by omega)).symm) ?_
      refine z_istore_n X dX4_isEndless_21 rfl (Nat.le_of_ble_eq_true rfl) ?_
      refine z_lv (lv' := [some (.ref (b 0)), some (.int (nI v)), some (.int (ch S (nI v) (i + 1))), some (.int (nI i))]) rfl ?_
      refine z_iinc (v := nI (i + 1)) X dX4_isEndless_22 rfl (nI_add i 1) ?_
      refine z_lv (lv' := [some (.ref (b 0)), some (.int (nI v)), some (.int (ch S (nI v) (i + 1))), some (.int (nI (i + 1)))]) rfl ?_
      refine z_goto (tgt := 4) X dX4_isEndless_25 (by decide) ?_
      exact ih
set_option maxHeartbeats 600000 in
set_option maxRecDepth 100000 in
theorem c_X4_isRing (l : Launch) (D : va_G) (t : ClassId × ClassId × ClassId) (b : Nat → Nat) (S : zS) (hI : zI S) (v : Int32) : zM2 l yX4_isRing cX4_isRing 2 (some .boolean) 6 D t [.ref (b 0), .int v] (wM t b S) (fun r (u : zS) => (∃ k, k < 6 ∧ v = nI k ∧ bz r (¬ ch S (nI k) 6 = -1) ∧ u = va_up S 23 (fun _ => nI 0)) ∨ (¬ am v 6 ∧ u = va_up S 23 (fun _ => nI 1))) (fun u => wM t b u) := by
  refine z_m2 (by decide +kernel) (Nat.le_of_ble_eq_true rfl) (by simp [Value.category]) ?_
  intro E X Z Y
  refine z_lv (lv' := [some (.ref (b 0)), some (.int v)]) rfl ?_
  refine z_aload_n X dX4_isRing_0 rfl rfl ?_
  refine z_iload_n X dX4_isRing_1 rfl rfl ?_
  refine z_callS1 (k := 0) (n := 0) (st := [.ref (b 0)]) X (c_X4_isValue l D t v) k_X4_isValue q_ml_X4_81 [] ⟨by decide, rfl⟩ (by decide) rfl rfl rfl (Nat.le_of_ble_eq_true rfl) ⟨Nat.zero_le _, Nat.zero_le _⟩ dX4_isRing_2 (fun r2 h2 => ?_)
  refine z_iconst (v := nI 1) X dX4_isRing_5 (by decide) ?_
  refine z_iconst (v := nI 1) X dX4_isRing_6 (by decide) ?_
  refine z_callV2 (k := 0) (n := 0) (st := []) X Y aM_eq (c_X4_goes l D t b S r2 (nI 1) (nI 1) (am v 6) True True h2 (bz_t trivial) (bz_t trivial)) k_X4_goes q_ml_X4_77 is19 (fun u => wM t b (va_up S 23 (fun _ => nI u))) (fun u => swM) ppM 0 4 rfl rfl (by decide) rfl rfl rfl (Nat.le_of_ble_eq_true rfl) ⟨Nat.zero_le _, Nat.zero_le _⟩ dX4_isRing_7 (fun r7 u7 h7 => ?_)
  rcases h7 with ⟨rfl, rfl, g1, g2, g3⟩ | ⟨rfl, rfl, g1⟩ | ⟨rfl, rfl, g1, g2⟩ | ⟨rfl, rfl, g1, g2, g3⟩
  ·
    refine n_if_eq (tgt := 25) X dX4_isRing_10 (by decide) (by omega) (fun c10 => absurd c10 (by decide)) (fun _ => ?_)
    obtain ⟨kv, hkv, rfl⟩ := g1
    refine z_aload_n X dX4_isRing_13 rfl rfl ?_
    refine z_iload_n X dX4_isRing_14 rfl rfl ?_
    refine z_callV1 (k := 0) (n := 0) (st := []) X (c_X4_isEndless l D t b (va_up S 23 (fun _ => nI 0)) hI kv (by omega)) k_X4_isEndless q_ml_X4_134 is19 ⟨by decide, rfl⟩ 0 4 rfl rfl (by decide) rfl rfl rfl (Nat.le_of_ble_eq_true rfl) ⟨Nat.zero_le _, Nat.zero_le _⟩ dX4_isRing_15 (fun r15 h15 => ?_)
    rcases h15 with ⟨rfl, h15⟩ | ⟨rfl, h15⟩
    ·
      refine n_if_eq (tgt := 25) X dX4_isRing_18 (by decide) (by omega) (fun c18 => absurd c18 (by decide)) (fun _ => ?_)
      refine z_iconst (v := nI 1) X dX4_isRing_21 (by decide) ?_
      refine z_goto (tgt := 26) X dX4_isRing_22 (by decide) ?_
      refine z_iret X Z (by decide +kernel) dX4_isRing_26 ?_
      exact ⟨(va_up S 23 (fun _ => nI 0)), Or.inl ⟨kv, hkv, rfl, bz_t h15, rfl⟩, fun q hq => hq⟩
    ·
      refine n_if_eq (tgt := 25) X dX4_isRing_18 (by decide) (by omega) (fun _ => ?_) (fun c18 => absurd c18 (by decide))
      refine z_iconst (v := nI 0) X dX4_isRing_25 (by decide) ?_
      refine z_iret X Z (by decide +kernel) dX4_isRing_26 ?_
      exact ⟨(va_up S 23 (fun _ => nI 0)), Or.inl ⟨kv, hkv, rfl, bz_f h15, rfl⟩, fun q hq => hq⟩
  ·
    refine n_if_eq (tgt := 25) X dX4_isRing_10 (by decide) (by omega) (fun _ => ?_) (fun c10 => absurd c10 (by decide))
    refine z_iconst (v := nI 0) X dX4_isRing_25 (by decide) ?_
    refine z_iret X Z (by decide +kernel) dX4_isRing_26 ?_
    exact ⟨(va_up S 23 (fun _ => nI 1)), Or.inr ⟨g1, rfl⟩, fun q hq => hq⟩
  ·
    exact absurd trivial g2
  ·
    exact absurd trivial g3
/-- a value without the one that it goes on by -/
noncomputable def al (S : zS) (f : Nat → Int32) (w k : Nat) : Int32 := S 10 k + md S (S 11 k) + lvv f (S 12 k) + bn S w (nI k) (nI 0) + bn S w (nI k) (nI 1) + bn S w (nI k) (nI 2) + bn S w (nI k) (nI 3)
theorem al_vl {S : zS} {f : Nat → Int32} {w k m : Nat} (hk : k < 2 ^ 31) : al S f w k + hlf (vl S f w m (S 13 k)) = vl S f w (m + 1) (nI k) := by
  show _ = if nI k = -1 then nI 0 else _
  rw [if_neg (zn_m1 k hk), nI_clamp hk]
  unfold al
  have e : ∀ a b c h p q u v : Int32, a + b + c + p + q + u + v + h = a + b + c + h + p + q + u + v := by intros; ac_rfl
  exact e _ _ _ _ _ _ _ _
theorem vl_m1 {S : zS} {f : Nat → Int32} {w : Nat} : ∀ m, vl S f w m (-1) = nI 0
  | 0 => rfl
  | m + 1 => if_pos rfl
theorem lvv_k {f : Nat → Int32} {k : Nat} (hk : k < 2 ^ 31) : lvv f (nI k) = f k := by unfold lvv; rw [if_neg (zn_m1 k hk), nI_clamp hk]
set_option maxHeartbeats 600000 in
set_option maxRecDepth 100000 in
theorem c_X4_alone (l : Launch) (D : va_G) (t : ClassId × ClassId × ClassId) (b : Nat → Nat) (S : zS) (G : Nat) (h18 : S 18 0 = nI G) (hG : G < 256) (hI : zI S) (k : Nat) (hk : k < 6) : zM1 l yX4_alone cX4_alone 4 (some .int) 5 D t [.ref (b 0), .int (nI k)] (wM t b S) (fun r => r = al S (S 15) (wk S (S 15) G) k) := by
  refine z_m1 (by decide +kernel) (Nat.le_of_ble_eq_true rfl) (by simp [Value.category]) ?_
  intro E X Z
  refine z_lv (lv' := [some (.ref (b 0)), some (.int (nI k)), none, none]) rfl ?_
  refine z_aload_n X dX4_alone_0 rfl rfl ?_
  refine z_get X (C := RX4) (T := TX4) (N := 21) (ci := 4) (v := .ref (b 14)) inZ4 0 15 rfl rfl (by decide) q_fl_X4_49 rfl rfl dX4_alone_1 ?_
  refine z_iload_n X dX4_alone_4 rfl rfl ?_
  refine n_iald (f := S 10) X 14 rfl (by omega) (by decide) dX4_alone_5 ?_
  refine z_istore_n X dX4_alone_6 rfl (Nat.le_of_ble_eq_true rfl) ?_
  refine z_lv (lv' := [some (.ref (b 0)), some (.int (nI k)), some (.int (S 10 k)), none]) rfl ?_
  have ja1 : ∀ (a1 : Int32), a1 = S 10 k + md S (S 11 k) → Wz E 0 0 40 [some (.ref (b 0)), some (.int (nI k)), some (.int (S 10 k)), none] [.int a1] (wM t b S) := by
    intro a1 hja1
    refine z_istore_n X dX4_alone_40 rfl (Nat.le_of_ble_eq_true rfl) ?_
    refine z_lv (lv' := [some (.ref (b 0)), some (.int (nI k)), some (.int a1), none]) rfl ?_
    subst hja1
    have ja2 : ∀ (a2 : Int32), a2 = S 10 k + md S (S 11 k) + lvv (S 15) (S 12 k) → Wz E 0 0 68 [some (.ref (b 0)), some (.int (nI k)), some (.int (S 10 k + md S (S 11 k))), none] [.int a2] (wM t b S) := by
      intro a2 hja2
      refine z_istore_n X dX4_alone_68 rfl (Nat.le_of_ble_eq_true rfl) ?_
      refine z_lv (lv' := [some (.ref (b 0)), some (.int (nI k)), some (.int a2), none]) rfl ?_
      subst hja2
      refine z_iconst (v := nI 0) X dX4_alone_69 (by decide) ?_
      refine z_istore_n X dX4_alone_70 rfl (Nat.le_of_ble_eq_true rfl) ?_
      refine z_lv (lv' := [some (.ref (b 0)), some (.int (nI k)), some (.int (S 10 k + md S (S 11 k) + lvv (S 15) (S 12 k))), some (.int (nI 0))]) rfl ?_
      refine z_iload_n X dX4_alone_71 rfl rfl ?_
      refine z_iconst (v := nI 4) X dX4_alone_72 (by decide) ?_
      refine n_icmp_ge (tgt := 91) X dX4_alone_73 (by decide) (by omega) (by omega) (fun c73 => absurd c73 (by decide)) (fun _ => ?_)
      refine z_iload_n X dX4_alone_76 rfl rfl ?_
      refine z_aload_n X dX4_alone_77 rfl rfl ?_
      refine z_iload_n X dX4_alone_78 rfl rfl ?_
      refine z_iload_n X dX4_alone_79 rfl rfl ?_
      refine z_callV1 (k := 0) (n := 0) (st := [.int (S 10 k + md S (S 11 k) + lvv (S 15) (S 12 k))]) X (c_X4_bonusOf l D t b S G h18 hG hI (nI k) 0 (by omega)) k_X4_bonusOf q_ml_X4_130 is19 ⟨by decide, rfl⟩ 0 4 rfl rfl (by decide) rfl rfl rfl (Nat.le_of_ble_eq_true rfl) ⟨Nat.zero_le _, Nat.zero_le _⟩ dX4_alone_80 (fun r80 h80 => ?_)
      subst h80
      refine z_iadd X dX4_alone_83 ?_
      refine z_istore_n X dX4_alone_84 rfl (Nat.le_of_ble_eq_true rfl) ?_
      refine z_lv (lv' := [some (.ref (b 0)), some (.int (nI k)), some (.int ((S 10 k + md S (S 11 k) + lvv (S 15) (S 12 k)) + (bn S (wk S (S 15) G) (nI k) (nI 0)))), some (.int (nI 0))]) rfl ?_
      refine z_iinc (v := nI 1) X dX4_alone_85 rfl (by decide) ?_
      refine z_lv (lv' := [some (.ref (b 0)), some (.int (nI k)), some (.int ((S 10 k + md S (S 11 k) + lvv (S 15) (S 12 k)) + (bn S (wk S (S 15) G) (nI k) (nI 0)))), some (.int (nI 1))]) rfl ?_
      refine z_goto (tgt := 71) X dX4_alone_88 (by decide) ?_
      refine z_iload_n X dX4_alone_71 rfl rfl ?_
      refine z_iconst (v := nI 4) X dX4_alone_72 (by decide) ?_
      refine n_icmp_ge (tgt := 91) X dX4_alone_73 (by decide) (by omega) (by omega) (fun c73 => absurd c73 (by decide)) (fun _ => ?_)
      refine z_iload_n X dX4_alone_76 rfl rfl ?_
      refine z_aload_n X dX4_alone_77 rfl rfl ?_
      refine z_iload_n X dX4_alone_78 rfl rfl ?_
      refine z_iload_n X dX4_alone_79 rfl rfl ?_
      refine z_callV1 (k := 0) (n := 0) (st := [.int ((S 10 k + md S (S 11 k) + lvv (S 15) (S 12 k)) + (bn S (wk S (S 15) G) (nI k) (nI 0)))]) X (c_X4_bonusOf l D t b S G h18 hG hI (nI k) 1 (by omega)) k_X4_bonusOf q_ml_X4_130 is19 ⟨by decide, rfl⟩ 0 4 rfl rfl (by decide) rfl rfl rfl (Nat.le_of_ble_eq_true rfl) ⟨Nat.zero_le _, Nat.zero_le _⟩ dX4_alone_80 (fun r80 h80 => ?_)
      subst h80
      refine z_iadd X dX4_alone_83 ?_
      refine z_istore_n X dX4_alone_84 rfl (Nat.le_of_ble_eq_true rfl) ?_
      refine z_lv (lv' := [some (.ref (b 0)), some (.int (nI k)), some (.int (((S 10 k + md S (S 11 k) + lvv (S 15) (S 12 k)) + (bn S (wk S (S 15) G) (nI k) (nI 0))) + (bn S (wk S (S 15) G) (nI k) (nI 1)))), some (.int (nI 1))]) rfl ?_
      refine z_iinc (v := nI 2) X dX4_alone_85 rfl (by decide) ?_
      refine z_lv (lv' := [some (.ref (b 0)), some (.int (nI k)), some (.int (((S 10 k + md S (S 11 k) + lvv (S 15) (S 12 k)) + (bn S (wk S (S 15) G) (nI k) (nI 0))) + (bn S (wk S (S 15) G) (nI k) (nI 1)))), some (.int (nI 2))]) rfl ?_
      refine z_goto (tgt := 71) X dX4_alone_88 (by decide) ?_
      refine z_iload_n X dX4_alone_71 rfl rfl ?_
      refine z_iconst (v := nI 4) X dX4_alone_72 (by decide) ?_
      refine n_icmp_ge (tgt := 91) X dX4_alone_73 (by decide) (by omega) (by omega) (fun c73 => absurd c73 (by decide)) (fun _ => ?_)
      refine z_iload_n X dX4_alone_76 rfl rfl ?_
      refine z_aload_n X dX4_alone_77 rfl rfl ?_
      refine z_iload_n X dX4_alone_78 rfl rfl ?_
      refine z_iload_n X dX4_alone_79 rfl rfl ?_
      refine z_callV1 (k := 0) (n := 0) (st := [.int (((S 10 k + md S (S 11 k) + lvv (S 15) (S 12 k)) + (bn S (wk S (S 15) G) (nI k) (nI 0))) + (bn S (wk S (S 15) G) (nI k) (nI 1)))]) X (c_X4_bonusOf l D t b S G h18 hG hI (nI k) 2 (by omega)) k_X4_bonusOf q_ml_X4_130 is19 ⟨by decide, rfl⟩ 0 4 rfl rfl (by decide) rfl rfl rfl (Nat.le_of_ble_eq_true rfl) ⟨Nat.zero_le _, Nat.zero_le _⟩ dX4_alone_80 (fun r80 h80 => ?_)
      subst h80
      refine z_iadd X dX4_alone_83 ?_
      refine z_istore_n X dX4_alone_84 rfl (Nat.le_of_ble_eq_true rfl) ?_
      refine z_lv (lv' := [some (.ref (b 0)), some (.int (nI k)), some (.int ((((S 10 k + md S (S 11 k) + lvv (S 15) (S 12 k)) + (bn S (wk S (S 15) G) (nI k) (nI 0))) + (bn S (wk S (S 15) G) (nI k) (nI 1))) + (bn S (wk S (S 15) G) (nI k) (nI 2)))), some (.int (nI 2))]) rfl ?_
      refine z_iinc (v := nI 3) X dX4_alone_85 rfl (by decide) ?_
      refine z_lv (lv' := [some (.ref (b 0)), some (.int (nI k)), some (.int ((((S 10 k + md S (S 11 k) + lvv (S 15) (S 12 k)) + (bn S (wk S (S 15) G) (nI k) (nI 0))) + (bn S (wk S (S 15) G) (nI k) (nI 1))) + (bn S (wk S (S 15) G) (nI k) (nI 2)))), some (.int (nI 3))]) rfl ?_
      refine z_goto (tgt := 71) X dX4_alone_88 (by decide) ?_
      refine z_iload_n X dX4_alone_71 rfl rfl ?_
      refine z_iconst (v := nI 4) X dX4_alone_72 (by decide) ?_
      refine n_icmp_ge (tgt := 91) X dX4_alone_73 (by decide) (by omega) (by omega) (fun c73 => absurd c73 (by decide)) (fun _ => ?_)
      refine z_iload_n X dX4_alone_76 rfl rfl ?_
      refine z_aload_n X dX4_alone_77 rfl rfl ?_
      refine z_iload_n X dX4_alone_78 rfl rfl ?_
      refine z_iload_n X dX4_alone_79 rfl rfl ?_
      refine z_callV1 (k := 0) (n := 0) (st := [.int ((((S 10 k + md S (S 11 k) + lvv (S 15) (S 12 k)) + (bn S (wk S (S 15) G) (nI k) (nI 0))) + (bn S (wk S (S 15) G) (nI k) (nI 1))) + (bn S (wk S (S 15) G) (nI k) (nI 2)))]) X (c_X4_bonusOf l D t b S G h18 hG hI (nI k) 3 (by omega)) k_X4_bonusOf q_ml_X4_130 is19 ⟨by decide, rfl⟩ 0 4 rfl rfl (by decide) rfl rfl rfl (Nat.le_of_ble_eq_true rfl) ⟨Nat.zero_le _, Nat.zero_le _⟩ dX4_alone_80 (fun r80 h80 => ?_)
      subst h80
      refine z_iadd X dX4_alone_83 ?_
      refine z_istore_n X dX4_alone_84 rfl (Nat.le_of_ble_eq_true rfl) ?_
      refine z_lv (lv' := [some (.ref (b 0)), some (.int (nI k)), some (.int (((((S 10 k + md S (S 11 k) + lvv (S 15) (S 12 k)) + (bn S (wk S (S 15) G) (nI k) (nI 0))) + (bn S (wk S (S 15) G) (nI k) (nI 1))) + (bn S (wk S (S 15) G) (nI k) (nI 2))) + (bn S (wk S (S 15) G) (nI k) (nI 3)))), some (.int (nI 3))]) rfl ?_
      refine z_iinc (v := nI 4) X dX4_alone_85 rfl (by decide) ?_
      refine z_lv (lv' := [some (.ref (b 0)), some (.int (nI k)), some (.int (((((S 10 k + md S (S 11 k) + lvv (S 15) (S 12 k)) + (bn S (wk S (S 15) G) (nI k) (nI 0))) + (bn S (wk S (S 15) G) (nI k) (nI 1))) + (bn S (wk S (S 15) G) (nI k) (nI 2))) + (bn S (wk S (S 15) G) (nI k) (nI 3)))), some (.int (nI 4))]) rfl ?_
      refine z_goto (tgt := 71) X dX4_alone_88 (by decide) ?_
      refine z_iload_n X dX4_alone_71 rfl rfl ?_
      refine z_iconst (v := nI 4) X dX4_alone_72 (by decide) ?_
      refine n_icmp_ge (tgt := 91) X dX4_alone_73 (by decide) (by omega) (by omega) (fun _ => ?_) (fun c73 => absurd c73 (by decide))
      refine z_iload_n X dX4_alone_91 rfl rfl ?_
      refine z_iret X Z rfl dX4_alone_92 ?_
      exact ⟨(), rfl, fun _ _ => trivial⟩
    rcases hI.2.2.2.2.2.2.1 k hk with h0 | ⟨k1, hk1, h0⟩
    ·
      refine z_iload_n X dX4_alone_41 rfl rfl ?_
      refine z_aload_n X dX4_alone_42 rfl rfl ?_
      refine z_get X (C := RX4) (T := TX4) (N := 21) (ci := 4) (v := .ref (b 16)) inZ4 0 17 rfl rfl (by decide) q_fl_X4_55 rfl rfl dX4_alone_43 ?_
      refine z_iload_n X dX4_alone_46 rfl rfl ?_
      refine n_iald (f := S 12) X 16 rfl (by omega) (by decide) dX4_alone_47 ?_
      refine z_top (y := (-1)) (h0) ?_
      refine z_iconst (v := (-1)) X dX4_alone_48 (by decide) ?_
      refine z_icmp_ne (tgt := 56) X dX4_alone_49 (by decide) (fun c49 => absurd c49 (by decide)) (fun _ => ?_)
      refine z_iconst (v := nI 0) X dX4_alone_52 (by decide) ?_
      refine z_goto (tgt := 67) X dX4_alone_53 (by decide) ?_
      refine z_iadd X dX4_alone_67 ?_
      exact ja2 ((S 10 k + md S (S 11 k)) + (nI 0)) (by
                    first
                      | exact (by rw [h0]; rfl)
                      | exact (by rw [h0, lvv_k (by omega)]))
    ·
      refine z_iload_n X dX4_alone_41 rfl rfl ?_
      refine z_aload_n X dX4_alone_42 rfl rfl ?_
      refine z_get X (C := RX4) (T := TX4) (N := 21) (ci := 4) (v := .ref (b 16)) inZ4 0 17 rfl rfl (by decide) q_fl_X4_55 rfl rfl dX4_alone_43 ?_
      refine z_iload_n X dX4_alone_46 rfl rfl ?_
      refine n_iald (f := S 12) X 16 rfl (by omega) (by decide) dX4_alone_47 ?_
      refine z_top (y := nI k1) (h0) ?_
      refine z_iconst (v := (-1)) X dX4_alone_48 (by decide) ?_
      refine z_icmp_ne (tgt := 56) X dX4_alone_49 (by decide) (fun c49 => ?_) (fun c49 => absurd c49 (zn_m1 k1 (by omega)))
      refine z_aload_n X dX4_alone_56 rfl rfl ?_
      refine z_get X (C := RX4) (T := TX4) (N := 21) (ci := 4) (v := .ref (b 3)) inZ4 0 2 rfl rfl (by decide) q_fl_X4_16 rfl rfl dX4_alone_57 ?_
      refine z_aload_n X dX4_alone_60 rfl rfl ?_
      refine z_get X (C := RX4) (T := TX4) (N := 21) (ci := 4) (v := .ref (b 16)) inZ4 0 17 rfl rfl (by decide) q_fl_X4_55 rfl rfl dX4_alone_61 ?_
      refine z_iload_n X dX4_alone_64 rfl rfl ?_
      refine n_iald (f := S 12) X 16 rfl (by omega) (by decide) dX4_alone_65 ?_
      refine z_top (y := nI k1) (h0) ?_
      refine n_iald (f := S 15) X 3 rfl (by omega) (by decide) dX4_alone_66 ?_
      refine z_iadd X dX4_alone_67 ?_
      exact ja2 ((S 10 k + md S (S 11 k)) + (S 15 k1)) (by
                    first
                      | exact (by rw [h0]; rfl)
                      | exact (by rw [h0, lvv_k (by omega)]))
  rcases hI.2.2.2.2.2.1 k hk with h0 | ⟨k1, hk1, h0⟩
  ·
    refine z_iload_n X dX4_alone_7 rfl rfl ?_
    refine z_aload_n X dX4_alone_8 rfl rfl ?_
    refine z_get X (C := RX4) (T := TX4) (N := 21) (ci := 4) (v := .ref (b 15)) inZ4 0 16 rfl rfl (by decide) q_fl_X4_52 rfl rfl dX4_alone_9 ?_
    refine z_iload_n X dX4_alone_12 rfl rfl ?_
    refine n_iald (f := S 11) X 15 rfl (by omega) (by decide) dX4_alone_13 ?_
    refine z_top (y := (-1)) (h0) ?_
    refine z_iconst (v := (-1)) X dX4_alone_14 (by decide) ?_
    refine z_icmp_ne (tgt := 22) X dX4_alone_15 (by decide) (fun c15 => absurd c15 (by decide)) (fun _ => ?_)
    refine z_iconst (v := nI 0) X dX4_alone_18 (by decide) ?_
    refine z_goto (tgt := 39) X dX4_alone_19 (by decide) ?_
    refine z_iadd X dX4_alone_39 ?_
    exact ja1 ((S 10 k) + (nI 0)) (by
                  first
                    | exact (by rw [h0]; rfl)
                    | exact (by rw [h0, md_k (by omega)]))
  ·
    refine z_iload_n X dX4_alone_7 rfl rfl ?_
    refine z_aload_n X dX4_alone_8 rfl rfl ?_
    refine z_get X (C := RX4) (T := TX4) (N := 21) (ci := 4) (v := .ref (b 15)) inZ4 0 16 rfl rfl (by decide) q_fl_X4_52 rfl rfl dX4_alone_9 ?_
    refine z_iload_n X dX4_alone_12 rfl rfl ?_
    refine n_iald (f := S 11) X 15 rfl (by omega) (by decide) dX4_alone_13 ?_
    refine z_top (y := nI k1) (h0) ?_
    refine z_iconst (v := (-1)) X dX4_alone_14 (by decide) ?_
    refine z_icmp_ne (tgt := 22) X dX4_alone_15 (by decide) (fun c15 => ?_) (fun c15 => absurd c15 (zn_m1 k1 (by omega)))
    refine z_aload_n X dX4_alone_22 rfl rfl ?_
    refine z_get X (C := RX4) (T := TX4) (N := 21) (ci := 4) (v := .ref (b 1)) inZ4 0 0 rfl rfl (by decide) q_fl_X4_7 rfl rfl dX4_alone_23 ?_
    refine z_aload_n X dX4_alone_26 rfl rfl ?_
    refine z_get X (C := RX4) (T := TX4) (N := 21) (ci := 4) (v := .ref (b 15)) inZ4 0 16 rfl rfl (by decide) q_fl_X4_52 rfl rfl dX4_alone_27 ?_
    refine z_iload_n X dX4_alone_30 rfl rfl ?_
    refine n_iald (f := S 11) X 15 rfl (by omega) (by decide) dX4_alone_31 ?_
    refine z_top (y := nI k1) (h0) ?_
    refine n_iald (f := S 14) X 1 rfl (by omega) (by decide) dX4_alone_32 ?_
    refine z_bipush (v := nI 10) X dX4_alone_33 (by decide) ?_
    refine z_isub X dX4_alone_35 ?_
    refine z_callS1 (k := 0) (n := 0) (st := [.int (S 10 k)]) X (c_X4_half l D t (S 14 k1 - nI 10)) k_X4_half q_ml_X4_101 [] ⟨by decide, rfl⟩ (by decide) rfl rfl rfl (Nat.le_of_ble_eq_true rfl) ⟨Nat.zero_le _, Nat.zero_le _⟩ dX4_alone_36 (fun r36 h36 => ?_)
    subst h36
    refine z_iadd X dX4_alone_39 ?_
    exact ja1 ((S 10 k) + (hlf (S 14 k1 - nI 10))) (by
                  first
                    | exact (by rw [h0]; rfl)
                    | exact (by rw [h0, md_k (by omega)]))
