/-- one look at a gift, while what works grows -/
noncomputable def wks (S : zS) (f : Nat → Int32) (s w j : Nat) : Nat := zif (s.testBit j = true ∧ pS S j ∧ pL S f j ∧ pO S w j) (w ||| 2 ^ j) w
noncomputable def wkN (S : zS) (f : Nat → Int32) (s : Nat) : Nat → Nat
  | 0 => 0
  | k + 1 => wks S f s (wkN S f s k) (k % 8)
/-- the gifts that work among s -/
noncomputable abbrev wk (S : zS) (f : Nat → Int32) (s : Nat) : Nat := wkN S f s 64
section
variable {S : zS} {f : Nat → Int32} {s : Nat}
theorem wkN_lt (k : Nat) : wkN S f s k < 256 := by
  induction k with
  | zero => exact (by decide : (0 : Nat) < 256)
  | succ k ih =>
    unfold wkN wks
    by_cases h : s.testBit (k % 8) = true ∧ pS S (k % 8) ∧ pL S f (k % 8) ∧ pO S (wkN S f s k) (k % 8)
    · rw [zif_t h]; exact zn_or8 _ ih _ (Nat.mod_lt _ (by decide))
    · rw [zif_f h]; exact ih
theorem wk_m (r j : Nat) (hj : j < 8) : (8 * r + j) % 8 = j := by omega
theorem wk_t {r j : Nat} (hj : j < 8) (h : s.testBit j = true ∧ pS S j ∧ pL S f j ∧ pO S (wkN S f s (8 * r + j)) j) : wkN S f s (8 * r + (j + 1)) = wkN S f s (8 * r + j) ||| 2 ^ j := by
  show wks S f s (wkN S f s (8 * r + j)) ((8 * r + j) % 8) = _
  rw [wk_m r j hj]; exact zif_t h
theorem wk_f {r j : Nat} (hj : j < 8) (h : ¬ (s.testBit j = true ∧ pS S j ∧ pL S f j ∧ pO S (wkN S f s (8 * r + j)) j)) : wkN S f s (8 * r + (j + 1)) = wkN S f s (8 * r + j) := by
  show wks S f s (wkN S f s (8 * r + j)) ((8 * r + j) % 8) = _
  rw [wk_m r j hj]; exact zif_f h
end
/-- a gift's bonus is of this value and kind -/
def bnC (S : zS) (w : Nat) (v k : Int32) (j : Nat) : Prop := w.testBit j = true ∧ S 7 j = v ∧ S 8 j = k
noncomputable def bnS (S : zS) (w : Nat) (v k : Int32) : Nat → Int32
  | 0 => nI 0
  | j + 1 => zif (bnC S w v k j ∧ (k = 0 ∨ S 9 j < 0)) (bnS S w v k j + S 9 j) (bnS S w v k j)
noncomputable def bnG (S : zS) (w : Nat) (v k : Int32) : Nat → Int32
  | 0 => nI 0
  | j + 1 => zif (bnC S w v k j ∧ ¬ (k = 0 ∨ S 9 j < 0)) (if bnG S w v k j < S 9 j then S 9 j else bnG S w v k j) (bnG S w v k j)
/-- the sum of the bonuses of a kind that count -/
noncomputable def bn (S : zS) (w : Nat) (v k : Int32) : Int32 := bnS S w v k 8 + bnG S w v k 8
/-- the value that is reached after k links -/
def ch (S : zS) (v : Int32) : Nat → Int32
  | 0 => v
  | k + 1 => if ch S v k = -1 then -1 else S 13 (ch S v k).toNatClampNeg
theorem ch_zo {S : zS} {v : Int32} (hI : ∀ j, j < 6 → zo (S 13 j) 6) (hv : zo v 6) : ∀ k, zo (ch S v k) 6
  | 0 => hv
  | k + 1 => by
    unfold ch
    split
    · exact Or.inl rfl
    · rcases ch_zo hI hv k with h | ⟨j, hj, h⟩
      · contradiction
      · rw [h, nI_clamp (by omega)]; exact hI j hj
theorem ch_m {S : zS} {v : Int32} {k : Nat} (h : ch S v k = -1) : ∀ i, ch S v (k + i) = -1
  | 0 => h
  | i + 1 => by show (if ch S v (k + i) = -1 then -1 else _) = _; rw [if_pos (ch_m h i)]
theorem ch_s {S : zS} {v : Int32} {k j : Nat} (h : ch S v k = nI j) (hj : j < 2 ^ 31) : ch S v (k + 1) = S 13 j := by
  show (if ch S v k = -1 then -1 else _) = _
  rw [h, if_neg (zn_m1 j hj), nI_clamp hj]
/-- the level in a value's calling -/
def lvv (f : Nat → Int32) (c : Int32) : Int32 := if c = -1 then 0 else f c.toNatClampNeg
/-- a value, with so many links to go -/
noncomputable def vl (S : zS) (f : Nat → Int32) (w : Nat) : Nat → Int32 → Int32
  | 0, _ => nI 0
  | m + 1, c => if c = -1 then nI 0 else S 10 c.toNatClampNeg + md S (S 11 c.toNatClampNeg) + lvv f (S 12 c.toNatClampNeg) + hlf (vl S f w m (S 13 c.toNatClampNeg)) + bn S w c (nI 0) + bn S w c (nI 1) + bn S w c (nI 2) + bn S w c (nI 3)
set_option maxHeartbeats 4000000 in
set_option maxRecDepth 100000 in
theorem c_X3_workingAmong (l : Launch) (D : va_G) (t : ClassId × ClassId × ClassId) (a : Nat → Nat) (S : zS) (s : Nat) (hs : s < 256) (hI : zI S) : zM1 l yX3_workingAmong cX3_workingAmong 5 (some .int) 1 D t [.ref (a 0), .int (nI s)] (wR t a S) (fun r => r = nI (wk S (S 15) s)) := by
  refine z_m1 (by decide +kernel) (Nat.le_of_ble_eq_true rfl) (by simp [Value.category]) ?_
  intro E X Z
  refine z_lv (lv' := [some (.ref (a 0)), some (.int (nI s)), none, none, none]) rfl ?_
  refine z_iconst (v := nI 0) X dX3_workingAmong_0 (by decide) ?_
  refine z_istore_n X dX3_workingAmong_1 rfl (Nat.le_of_ble_eq_true rfl) ?_
  refine z_lv (lv' := [some (.ref (a 0)), some (.int (nI s)), some (.int (nI 0)), none, none]) rfl ?_
  refine z_iconst (v := nI 0) X dX3_workingAmong_2 (by decide) ?_
  refine z_istore_n X dX3_workingAmong_3 rfl (Nat.le_of_ble_eq_true rfl) ?_
  refine z_lv (lv' := [some (.ref (a 0)), some (.int (nI s)), some (.int (nI 0)), some (.int (nI 0)), none]) rfl ?_
  refine Wz.less (lv' := [some (.ref (a 0)), some (.int (nI s)), some (.int (nI (wkN S (S 15) s (8 * (0))))), some (.int (nI 0)), none]) (by simp [zle] <;> rfl) ?_
  refine zl_up 8 (fun r => Wz E 0 0 4 [some (.ref (a 0)), some (.int (nI s)), some (.int (nI (wkN S (S 15) s (8 * (r))))), some (.int (nI r)), none] [] (wR t a S)) ?_ ?_ 0 (by omega)
  ·
    refine z_iload_n X dX3_workingAmong_4 rfl rfl ?_
    refine z_bipush (v := nI 8) X dX3_workingAmong_5 (by decide) ?_
    refine n_icmp_ge (tgt := 80) X dX3_workingAmong_7 (by decide) (by omega) (by omega) (fun _ => ?_) (fun c7 => absurd c7 (by decide))
    refine z_iload_n X dX3_workingAmong_80 rfl rfl ?_
    refine z_iret X Z rfl dX3_workingAmong_81 ?_
    exact ⟨(), rfl, fun _ _ => trivial⟩
  ·
    intro r hr ihr
    refine z_iload_n X dX3_workingAmong_4 rfl rfl ?_
    refine z_bipush (v := nI 8) X dX3_workingAmong_5 (by decide) ?_
    refine n_icmp_ge (tgt := 80) X dX3_workingAmong_7 (by decide) (by omega) (by omega) (fun c7 => absurd c7 (by omega)) (fun _ => ?_)
    refine z_iconst (v := nI 0) X dX3_workingAmong_10 (by decide) ?_
    refine z_istore X dX3_workingAmong_11 (Nat.le_of_ble_eq_true rfl) ?_
    refine z_lv (lv' := [some (.ref (a 0)), some (.int (nI s)), some (.int (nI (wkN S (S 15) s (8 * (r))))), some (.int (nI r)), some (.int (nI 0))]) rfl ?_
    refine Wz.less (lv' := [some (.ref (a 0)), some (.int (nI s)), some (.int (nI (wkN S (S 15) s (8 * r + (0))))), some (.int (nI r)), some (.int (nI 0))]) (by simp [zle] <;> rfl) ?_
    refine zl_up 8 (fun j => Wz E 0 0 13 [some (.ref (a 0)), some (.int (nI s)), some (.int (nI (wkN S (S 15) s (8 * r + (j))))), some (.int (nI r)), some (.int (nI j))] [] (wR t a S)) ?_ ?_ 0 (by omega)
    ·
      refine z_iload X dX3_workingAmong_13 rfl ?_
      refine z_bipush (v := nI 8) X dX3_workingAmong_15 (by decide) ?_
      refine n_icmp_ge (tgt := 74) X dX3_workingAmong_17 (by decide) (by omega) (by omega) (fun _ => ?_) (fun c17 => absurd c17 (by decide))
      refine z_iinc (v := nI (r + 1)) X dX3_workingAmong_74 rfl (nI_add r 1) ?_
      refine z_lv (lv' := [some (.ref (a 0)), some (.int (nI s)), some (.int (nI (wkN S (S 15) s (8 * r + (8))))), some (.int (nI (r + 1))), some (.int (nI 8))]) rfl ?_
      refine z_goto (tgt := 4) X dX3_workingAmong_77 (by decide) ?_
      refine Wz.less (lv' := [some (.ref (a 0)), some (.int (nI s)), some (.int (nI (wkN S (S 15) s (8 * (r + 1))))), some (.int (nI (r + 1))), none]) (by simp [zle] <;> rfl) ?_
      exact ihr
    ·
      intro j hj ihj
      refine z_iload X dX3_workingAmong_13 rfl ?_
      refine z_bipush (v := nI 8) X dX3_workingAmong_15 (by decide) ?_
      refine n_icmp_ge (tgt := 74) X dX3_workingAmong_17 (by decide) (by omega) (by omega) (fun c17 => absurd c17 (by omega)) (fun _ => ?_)
      have hw := wkN_lt (S := S) (f := S 15) (s := s) (8 * r + j)
      refine z_iload_n X dX3_workingAmong_20 rfl rfl ?_
      refine z_iload X dX3_workingAmong_21 rfl ?_
      refine n_ishr X dX3_workingAmong_23 (by omega) (by omega) ?_
      refine z_iconst (v := nI 1) X dX3_workingAmong_24 (by decide) ?_
      refine n_iand X dX3_workingAmong_25 ?_
      rw [zt_bit1]
      refine n_if_eq (tgt := 68) X dX3_workingAmong_26 (by decide) (by omega) (fun c26 => ?_) (fun c26 => ?_)
      ·
        refine z_iinc (v := nI (j + 1)) X dX3_workingAmong_68 rfl (nI_add j 1) ?_
        refine z_lv (lv' := [some (.ref (a 0)), some (.int (nI s)), some (.int (nI (wkN S (S 15) s (8 * r + (j))))), some (.int (nI r)), some (.int (nI (j + 1)))]) rfl ?_
        refine z_goto (tgt := 13) X dX3_workingAmong_71 (by decide) ?_
        have e9 : wkN S (S 15) s (8 * r + (j + 1)) = wkN S (S 15) s (8 * r + (j)) := by
          first
            | exact wk_t hj ⟨zt_b1 c26, h32, h45, h55⟩
            | exact wk_f hj (fun h => by rw [zt_b2 c26] at h; cases h.1)
            | exact wk_f hj (fun h => h32 h.2.1)
            | exact wk_f hj (fun h => h45 h.2.2.1)
            | exact wk_f hj (fun h => h55 h.2.2.2)
        rw [← e9]
        exact ihj
      ·
        refine z_aload_n X dX3_workingAmong_29 rfl rfl ?_
        refine z_iload X dX3_workingAmong_30 rfl ?_
        refine z_callV1 (k := 0) (n := 0) (st := []) X (c_X3_hasScoreFor l D t a S j (by omega) hI) k_X3_hasScoreFor q_ml_X3_239 is24 ⟨by decide, rfl⟩ 0 3 rfl rfl (by decide) rfl rfl rfl (Nat.le_of_ble_eq_true rfl) ⟨Nat.zero_le _, Nat.zero_le _⟩ dX3_workingAmong_32 (fun r32 h32 => ?_)
        rcases h32 with ⟨rfl, h32⟩ | ⟨rfl, h32⟩
        ·
          refine n_if_eq (tgt := 68) X dX3_workingAmong_35 (by decide) (by omega) (fun c35 => absurd c35 (by decide)) (fun _ => ?_)
          refine z_aload_n X dX3_workingAmong_38 rfl rfl ?_
          refine z_aload_n X dX3_workingAmong_39 rfl rfl ?_
          refine z_get X (C := RX3) (T := TX3) (N := 8) (ci := 3) (v := .ref (a 4)) inZ3 0 3 rfl rfl (by decide) q_fl_X3_30 rfl rfl dX3_workingAmong_40 ?_
          refine z_iload X dX3_workingAmong_43 rfl ?_
          refine z_callV1 (k := 0) (n := 0) (st := []) X (c_X3_hasLevelForC l D t a S j (by omega) hI) k_X3_hasLevelFor q_ml_X3_242 is24 ⟨by decide, rfl⟩ 0 3 rfl rfl (by decide) rfl rfl rfl (Nat.le_of_ble_eq_true rfl) ⟨Nat.zero_le _, Nat.zero_le _⟩ dX3_workingAmong_45 (fun r45 h45 => ?_)
          rcases h45 with ⟨rfl, h45⟩ | ⟨rfl, h45⟩
          ·
            refine n_if_eq (tgt := 68) X dX3_workingAmong_48 (by decide) (by omega) (fun c48 => absurd c48 (by decide)) (fun _ => ?_)
            refine z_aload_n X dX3_workingAmong_51 rfl rfl ?_
            refine z_iload_n X dX3_workingAmong_52 rfl rfl ?_
            refine z_iload X dX3_workingAmong_53 rfl ?_
            refine z_callV1 (k := 0) (n := 0) (st := []) X (c_X3_isOtherIn l D t a S (wkN S (S 15) s (8 * r + (j))) j (by omega) (by omega) hI) k_X3_isOtherIn q_ml_X3_245 is24 ⟨by decide, rfl⟩ 0 3 rfl rfl (by decide) rfl rfl rfl (Nat.le_of_ble_eq_true rfl) ⟨Nat.zero_le _, Nat.zero_le _⟩ dX3_workingAmong_55 (fun r55 h55 => ?_)
            rcases h55 with ⟨rfl, h55⟩ | ⟨rfl, h55⟩
            ·
              refine n_if_eq (tgt := 68) X dX3_workingAmong_58 (by decide) (by omega) (fun c58 => absurd c58 (by decide)) (fun _ => ?_)
              refine z_iload_n X dX3_workingAmong_61 rfl rfl ?_
              refine z_iconst (v := nI 1) X dX3_workingAmong_62 (by decide) ?_
              refine z_iload X dX3_workingAmong_63 rfl ?_
              refine n_ishl1 X dX3_workingAmong_65 (by omega) ?_
              refine n_ior X dX3_workingAmong_66 ?_
              refine z_istore_n X dX3_workingAmong_67 rfl (Nat.le_of_ble_eq_true rfl) ?_
              refine z_lv (lv' := [some (.ref (a 0)), some (.int (nI s)), some (.int (nI ((wkN S (S 15) s (8 * r + (j))) ||| (2 ^ j)))), some (.int (nI r)), some (.int (nI j))]) rfl ?_
              refine z_iinc (v := nI (j + 1)) X dX3_workingAmong_68 rfl (nI_add j 1) ?_
              refine z_lv (lv' := [some (.ref (a 0)), some (.int (nI s)), some (.int (nI ((wkN S (S 15) s (8 * r + (j))) ||| (2 ^ j)))), some (.int (nI r)), some (.int (nI (j + 1)))]) rfl ?_
              refine z_goto (tgt := 13) X dX3_workingAmong_71 (by decide) ?_
              have e9 : wkN S (S 15) s (8 * r + (j + 1)) = (wkN S (S 15) s (8 * r + (j))) ||| (2 ^ j) := by
                first
                  | exact wk_t hj ⟨zt_b1 c26, h32, h45, h55⟩
                  | exact wk_f hj (fun h => by rw [zt_b2 c26] at h; cases h.1)
                  | exact wk_f hj (fun h => h32 h.2.1)
                  | exact wk_f hj (fun h => h45 h.2.2.1)
                  | exact wk_f hj (fun h => h55 h.2.2.2)
              rw [← e9]
              exact ihj
            ·
              refine n_if_eq (tgt := 68) X dX3_workingAmong_58 (by decide) (by omega) (fun _ => ?_) (fun c58 => absurd c58 (by decide))
              refine z_iinc (v := nI (j + 1)) X dX3_workingAmong_68 rfl (nI_add j 1) ?_
              refine z_lv (lv' := [some (.ref (a 0)), some (.int (nI s)), some (.int (nI (wkN S (S 15) s (8 * r + (j))))), some (.int (nI r)), some (.int (nI (j + 1)))]) rfl ?_
              refine z_goto (tgt := 13) X dX3_workingAmong_71 (by decide) ?_
              have e9 : wkN S (S 15) s (8 * r + (j + 1)) = wkN S (S 15) s (8 * r + (j)) := by
                first
                  | exact wk_t hj ⟨zt_b1 c26, h32, h45, h55⟩
                  | exact wk_f hj (fun h => by rw [zt_b2 c26] at h; cases h.1)
                  | exact wk_f hj (fun h => h32 h.2.1)
                  | exact wk_f hj (fun h => h45 h.2.2.1)
                  | exact wk_f hj (fun h => h55 h.2.2.2)
              rw [← e9]
              exact ihj
          ·
            refine n_if_eq (tgt := 68) X dX3_workingAmong_48 (by decide) (by omega) (fun _ => ?_) (fun c48 => absurd c48 (by decide))
            refine z_iinc (v := nI (j + 1)) X dX3_workingAmong_68 rfl (nI_add j 1) ?_
            refine z_lv (lv' := [some (.ref (a 0)), some (.int (nI s)), some (.int (nI (wkN S (S 15) s (8 * r + (j))))), some (.int (nI r)), some (.int (nI (j + 1)))]) rfl ?_
            refine z_goto (tgt := 13) X dX3_workingAmong_71 (by decide) ?_
            have e9 : wkN S (S 15) s (8 * r + (j + 1)) = wkN S (S 15) s (8 * r + (j)) := by
              first
                | exact wk_t hj ⟨zt_b1 c26, h32, h45, h55⟩
                | exact wk_f hj (fun h => by rw [zt_b2 c26] at h; cases h.1)
                | exact wk_f hj (fun h => h32 h.2.1)
                | exact wk_f hj (fun h => h45 h.2.2.1)
                | exact wk_f hj (fun h => h55 h.2.2.2)
            rw [← e9]
            exact ihj
        ·
          refine n_if_eq (tgt := 68) X dX3_workingAmong_35 (by decide) (by omega) (fun _ => ?_) (fun c35 => absurd c35 (by decide))
          refine z_iinc (v := nI (j + 1)) X dX3_workingAmong_68 rfl (nI_add j 1) ?_
          refine z_lv (lv' := [some (.ref (a 0)), some (.int (nI s)), some (.int (nI (wkN S (S 15) s (8 * r + (j))))), some (.int (nI r)), some (.int (nI (j + 1)))]) rfl ?_
          refine z_goto (tgt := 13) X dX3_workingAmong_71 (by decide) ?_
          have e9 : wkN S (S 15) s (8 * r + (j + 1)) = wkN S (S 15) s (8 * r + (j)) := by
            first
              | exact wk_t hj ⟨zt_b1 c26, h32, h45, h55⟩
              | exact wk_f hj (fun h => by rw [zt_b2 c26] at h; cases h.1)
              | exact wk_f hj (fun h => h32 h.2.1)
              | exact wk_f hj (fun h => h45 h.2.2.1)
              | exact wk_f hj (fun h => h55 h.2.2.2)
          rw [← e9]
          exact ihj
set_option maxHeartbeats 4000000 in
set_option maxRecDepth 100000 in
theorem c_X3_bonusFrom (l : Launch) (D : va_G) (t : ClassId × ClassId × ClassId) (a : Nat → Nat) (S : zS) (w : Nat) (v k : Int32) (hw : w < 256) : zM1 l yX3_bonusFrom cX3_bonusFrom 8 (some .int) 1 D t [.ref (a 0), .int (nI w), .int v, .int k] (wR t a S) (fun r => r = bn S w v k) := by
  refine z_m1 (by decide +kernel) (Nat.le_of_ble_eq_true rfl) (by simp [Value.category]) ?_
  intro E X Z
  refine z_lv (lv' := [some (.ref (a 0)), some (.int (nI w)), some (.int v), some (.int k), none, none, none, none]) rfl ?_
  refine z_iconst (v := nI 0) X dX3_bonusFrom_0 (by decide) ?_
  refine z_istore X dX3_bonusFrom_1 (Nat.le_of_ble_eq_true rfl) ?_
  refine z_lv (lv' := [some (.ref (a 0)), some (.int (nI w)), some (.int v), some (.int k), some (.int (nI 0)), none, none, none]) rfl ?_
  refine z_iconst (v := nI 0) X dX3_bonusFrom_3 (by decide) ?_
  refine z_istore X dX3_bonusFrom_4 (Nat.le_of_ble_eq_true rfl) ?_
  refine z_lv (lv' := [some (.ref (a 0)), some (.int (nI w)), some (.int v), some (.int k), some (.int (nI 0)), some (.int (nI 0)), none, none]) rfl ?_
  refine z_iconst (v := nI 0) X dX3_bonusFrom_6 (by decide) ?_
  refine z_istore X dX3_bonusFrom_7 (Nat.le_of_ble_eq_true rfl) ?_
  refine z_lv (lv' := [some (.ref (a 0)), some (.int (nI w)), some (.int v), some (.int k), some (.int (nI 0)), some (.int (nI 0)), some (.int (nI 0)), none]) rfl ?_
  refine z_lv (lv' := [some (.ref (a 0)), some (.int (nI w)), some (.int v), some (.int k), some (.int (bnS S w v k 0)), some (.int (bnG S w v k 0)), some (.int (nI 0)), none]) rfl ?_
  refine zl_up 8 (fun j => Wz E 0 0 9 [some (.ref (a 0)), some (.int (nI w)), some (.int v), some (.int k), some (.int (bnS S w v k j)), some (.int (bnG S w v k j)), some (.int (nI j)), none] [] (wR t a S)) ?_ ?_ 0 (by omega)
  ·
    refine z_iload X dX3_bonusFrom_9 rfl ?_
    refine z_bipush (v := nI 8) X dX3_bonusFrom_11 (by decide) ?_
    refine n_icmp_ge (tgt := 99) X dX3_bonusFrom_13 (by decide) (by omega) (by omega) (fun _ => ?_) (fun c13 => absurd c13 (by decide))
    refine z_iload X dX3_bonusFrom_99 rfl ?_
    refine z_iload X dX3_bonusFrom_101 rfl ?_
    refine z_iadd X dX3_bonusFrom_103 ?_
    refine z_iret X Z rfl dX3_bonusFrom_104 ?_
    exact ⟨(), rfl, fun _ _ => trivial⟩
  ·
    intro j hj ihj
    refine z_iload X dX3_bonusFrom_9 rfl ?_
    refine z_bipush (v := nI 8) X dX3_bonusFrom_11 (by decide) ?_
    refine n_icmp_ge (tgt := 99) X dX3_bonusFrom_13 (by decide) (by omega) (by omega) (fun c13 => absurd c13 (by omega)) (fun _ => ?_)
    refine z_iload_n X dX3_bonusFrom_16 rfl rfl ?_
    refine z_iload X dX3_bonusFrom_17 rfl ?_
    refine n_ishr X dX3_bonusFrom_19 (by omega) (by omega) ?_
    refine z_iconst (v := nI 1) X dX3_bonusFrom_20 (by decide) ?_
    refine n_iand X dX3_bonusFrom_21 ?_
    rw [zt_bit1]
    refine n_if_eq (tgt := 93) X dX3_bonusFrom_22 (by decide) (by omega) (fun c22 => ?_) (fun c22 => ?_)
    ·
      refine z_iinc (v := nI (j + 1)) X dX3_bonusFrom_93 rfl (nI_add j 1) ?_
      refine z_lv (lv' := [some (.ref (a 0)), some (.int (nI w)), some (.int v), some (.int k), some (.int (bnS S w v k j)), some (.int (bnG S w v k j)), some (.int (nI (j + 1))), none]) rfl ?_
      refine z_goto (tgt := 9) X dX3_bonusFrom_96 (by decide) ?_
      have e9 : bnS S w v k (j + 1) = bnS S w v k j ∧ bnG S w v k (j + 1) = bnG S w v k j := by
        first
          | exact ⟨zif_t ⟨⟨zt_b1 c22, Classical.not_not.mp c36, Classical.not_not.mp c50⟩, Or.inl c66⟩, zif_f (fun h => h.2 (Or.inl c66))⟩
          | exact ⟨zif_t ⟨⟨zt_b1 c22, c36, c50⟩, Or.inl c66⟩, zif_f (fun h => h.2 (Or.inl c66))⟩
          | exact ⟨zif_t ⟨⟨zt_b1 c22, c36, c50⟩, Or.inr (Int32.not_le.mp c71)⟩, zif_f (fun h => h.2 (Or.inr (Int32.not_le.mp c71)))⟩
          | exact ⟨zif_f (fun h => h.2.elim c66 (Int32.not_lt.mpr c71)), zif_t ⟨⟨zt_b1 c22, c36, c50⟩, fun h => h.elim c66 (Int32.not_lt.mpr c71)⟩⟩
          | exact ⟨zif_f (fun h => by have q := h.1.1; rw [zt_b2 c22] at q; cases q), zif_f (fun h => by have q := h.1.1; rw [zt_b2 c22] at q; cases q)⟩
          | exact ⟨zif_f (fun h => c36 h.1.2.1), zif_f (fun h => c36 h.1.2.1)⟩
          | exact ⟨zif_f (fun h => c50 h.1.2.2), zif_f (fun h => c50 h.1.2.2)⟩
      refine Wz.less (lv' := [some (.ref (a 0)), some (.int (nI w)), some (.int v), some (.int k), some (.int (bnS S w v k (j + 1))), some (.int (bnG S w v k (j + 1))), some (.int (nI (j + 1))), none]) (by simp [zle, e9.1, e9.2]) ?_
      exact ihj
    ·
      refine z_aload_n X dX3_bonusFrom_25 rfl rfl ?_
      refine z_get X (C := RX3) (T := TX3) (N := 8) (ci := 3) (v := .ref (a 1)) inZ3 0 0 rfl rfl (by decide) q_fl_X3_12 rfl rfl dX3_bonusFrom_26 ?_
      refine z_get X (C := RX1) (T := TX1) (N := 10) (ci := 1) (v := .ref (a 15)) inZ1 1 7 rfl rfl (by decide) q_fl_X3_105 rfl rfl dX3_bonusFrom_29 ?_
      refine z_iload X dX3_bonusFrom_32 rfl ?_
      refine n_iald (f := S 7) X 15 rfl (by omega) (by decide) dX3_bonusFrom_34 ?_
      refine z_iload_n X dX3_bonusFrom_35 rfl rfl ?_
      refine z_icmp_ne (tgt := 93) X dX3_bonusFrom_36 (by decide) (fun c36 => ?_) (fun c36 => ?_)
      ·
        refine z_iinc (v := nI (j + 1)) X dX3_bonusFrom_93 rfl (nI_add j 1) ?_
        refine z_lv (lv' := [some (.ref (a 0)), some (.int (nI w)), some (.int v), some (.int k), some (.int (bnS S w v k j)), some (.int (bnG S w v k j)), some (.int (nI (j + 1))), none]) rfl ?_
        refine z_goto (tgt := 9) X dX3_bonusFrom_96 (by decide) ?_
        have e9 : bnS S w v k (j + 1) = bnS S w v k j ∧ bnG S w v k (j + 1) = bnG S w v k j := by
          first
            | exact ⟨zif_t ⟨⟨zt_b1 c22, Classical.not_not.mp c36, Classical.not_not.mp c50⟩, Or.inl c66⟩, zif_f (fun h => h.2 (Or.inl c66))⟩
            | exact ⟨zif_t ⟨⟨zt_b1 c22, c36, c50⟩, Or.inl c66⟩, zif_f (fun h => h.2 (Or.inl c66))⟩
            | exact ⟨zif_t ⟨⟨zt_b1 c22, c36, c50⟩, Or.inr (Int32.not_le.mp c71)⟩, zif_f (fun h => h.2 (Or.inr (Int32.not_le.mp c71)))⟩
            | exact ⟨zif_f (fun h => h.2.elim c66 (Int32.not_lt.mpr c71)), zif_t ⟨⟨zt_b1 c22, c36, c50⟩, fun h => h.elim c66 (Int32.not_lt.mpr c71)⟩⟩
            | exact ⟨zif_f (fun h => by have q := h.1.1; rw [zt_b2 c22] at q; cases q), zif_f (fun h => by have q := h.1.1; rw [zt_b2 c22] at q; cases q)⟩
            | exact ⟨zif_f (fun h => c36 h.1.2.1), zif_f (fun h => c36 h.1.2.1)⟩
            | exact ⟨zif_f (fun h => c50 h.1.2.2), zif_f (fun h => c50 h.1.2.2)⟩
        refine Wz.less (lv' := [some (.ref (a 0)), some (.int (nI w)), some (.int v), some (.int k), some (.int (bnS S w v k (j + 1))), some (.int (bnG S w v k (j + 1))), some (.int (nI (j + 1))), none]) (by simp [zle, e9.1, e9.2]) ?_
        exact ihj
      ·
        refine z_aload_n X dX3_bonusFrom_39 rfl rfl ?_
        refine z_get X (C := RX3) (T := TX3) (N := 8) (ci := 3) (v := .ref (a 1)) inZ3 0 0 rfl rfl (by decide) q_fl_X3_12 rfl rfl dX3_bonusFrom_40 ?_
        refine z_get X (C := RX1) (T := TX1) (N := 10) (ci := 1) (v := .ref (a 16)) inZ1 1 8 rfl rfl (by decide) q_fl_X3_108 rfl rfl dX3_bonusFrom_43 ?_
        refine z_iload X dX3_bonusFrom_46 rfl ?_
        refine n_iald (f := S 8) X 16 rfl (by omega) (by decide) dX3_bonusFrom_48 ?_
        refine z_iload_n X dX3_bonusFrom_49 rfl rfl ?_
        refine z_icmp_ne (tgt := 93) X dX3_bonusFrom_50 (by decide) (fun c50 => ?_) (fun c50 => ?_)
        ·
          refine z_iinc (v := nI (j + 1)) X dX3_bonusFrom_93 rfl (nI_add j 1) ?_
          refine z_lv (lv' := [some (.ref (a 0)), some (.int (nI w)), some (.int v), some (.int k), some (.int (bnS S w v k j)), some (.int (bnG S w v k j)), some (.int (nI (j + 1))), none]) rfl ?_
          refine z_goto (tgt := 9) X dX3_bonusFrom_96 (by decide) ?_
          have e9 : bnS S w v k (j + 1) = bnS S w v k j ∧ bnG S w v k (j + 1) = bnG S w v k j := by
            first
              | exact ⟨zif_t ⟨⟨zt_b1 c22, Classical.not_not.mp c36, Classical.not_not.mp c50⟩, Or.inl c66⟩, zif_f (fun h => h.2 (Or.inl c66))⟩
              | exact ⟨zif_t ⟨⟨zt_b1 c22, c36, c50⟩, Or.inl c66⟩, zif_f (fun h => h.2 (Or.inl c66))⟩
              | exact ⟨zif_t ⟨⟨zt_b1 c22, c36, c50⟩, Or.inr (Int32.not_le.mp c71)⟩, zif_f (fun h => h.2 (Or.inr (Int32.not_le.mp c71)))⟩
              | exact ⟨zif_f (fun h => h.2.elim c66 (Int32.not_lt.mpr c71)), zif_t ⟨⟨zt_b1 c22, c36, c50⟩, fun h => h.elim c66 (Int32.not_lt.mpr c71)⟩⟩
              | exact ⟨zif_f (fun h => by have q := h.1.1; rw [zt_b2 c22] at q; cases q), zif_f (fun h => by have q := h.1.1; rw [zt_b2 c22] at q; cases q)⟩
              | exact ⟨zif_f (fun h => c36 h.1.2.1), zif_f (fun h => c36 h.1.2.1)⟩
              | exact ⟨zif_f (fun h => c50 h.1.2.2), zif_f (fun h => c50 h.1.2.2)⟩
          refine Wz.less (lv' := [some (.ref (a 0)), some (.int (nI w)), some (.int v), some (.int k), some (.int (bnS S w v k (j + 1))), some (.int (bnG S w v k (j + 1))), some (.int (nI (j + 1))), none]) (by simp [zle, e9.1, e9.2]) ?_
          exact ihj
        ·
          refine z_aload_n X dX3_bonusFrom_53 rfl rfl ?_
          refine z_get X (C := RX3) (T := TX3) (N := 8) (ci := 3) (v := .ref (a 1)) inZ3 0 0 rfl rfl (by decide) q_fl_X3_12 rfl rfl dX3_bonusFrom_54 ?_
          refine z_get X (C := RX1) (T := TX1) (N := 10) (ci := 1) (v := .ref (a 17)) inZ1 1 9 rfl rfl (by decide) q_fl_X3_111 rfl rfl dX3_bonusFrom_57 ?_
          refine z_iload X dX3_bonusFrom_60 rfl ?_
          refine n_iald (f := S 9) X 17 rfl (by omega) (by decide) dX3_bonusFrom_62 ?_
          refine z_istore X dX3_bonusFrom_63 (Nat.le_of_ble_eq_true rfl) ?_
          refine z_lv (lv' := [some (.ref (a 0)), some (.int (nI w)), some (.int v), some (.int k), some (.int (bnS S w v k j)), some (.int (bnG S w v k j)), some (.int (nI j)), some (.int (S 9 j))]) rfl ?_
          refine z_iload_n X dX3_bonusFrom_65 rfl rfl ?_
          refine z_if_eq (tgt := 74) X dX3_bonusFrom_66 (by decide) (fun c66 => ?_) (fun c66 => ?_)
          ·
            refine z_iload X dX3_bonusFrom_74 rfl ?_
            refine z_iload X dX3_bonusFrom_76 rfl ?_
            refine z_iadd X dX3_bonusFrom_78 ?_
            refine z_istore X dX3_bonusFrom_79 (Nat.le_of_ble_eq_true rfl) ?_
            refine z_lv (lv' := [some (.ref (a 0)), some (.int (nI w)), some (.int v), some (.int k), some (.int ((bnS S w v k j) + (S 9 j))), some (.int (bnG S w v k j)), some (.int (nI j)), some (.int (S 9 j))]) rfl ?_
            refine z_goto (tgt := 93) X dX3_bonusFrom_81 (by decide) ?_
            refine z_iinc (v := nI (j + 1)) X dX3_bonusFrom_93 rfl (nI_add j 1) ?_
            refine z_lv (lv' := [some (.ref (a 0)), some (.int (nI w)), some (.int v), some (.int k), some (.int ((bnS S w v k j) + (S 9 j))), some (.int (bnG S w v k j)), some (.int (nI (j + 1))), some (.int (S 9 j))]) rfl ?_
            refine z_goto (tgt := 9) X dX3_bonusFrom_96 (by decide) ?_
            have e9 : bnS S w v k (j + 1) = (bnS S w v k j) + (S 9 j) ∧ bnG S w v k (j + 1) = bnG S w v k j := by
              first
                | exact ⟨zif_t ⟨⟨zt_b1 c22, Classical.not_not.mp c36, Classical.not_not.mp c50⟩, Or.inl c66⟩, zif_f (fun h => h.2 (Or.inl c66))⟩
                | exact ⟨zif_t ⟨⟨zt_b1 c22, c36, c50⟩, Or.inl c66⟩, zif_f (fun h => h.2 (Or.inl c66))⟩
                | exact ⟨zif_t ⟨⟨zt_b1 c22, c36, c50⟩, Or.inr (Int32.not_le.mp c71)⟩, zif_f (fun h => h.2 (Or.inr (Int32.not_le.mp c71)))⟩
                | exact ⟨zif_f (fun h => h.2.elim c66 (Int32.not_lt.mpr c71)), zif_t ⟨⟨zt_b1 c22, c36, c50⟩, fun h => h.elim c66 (Int32.not_lt.mpr c71)⟩⟩
                | exact ⟨zif_f (fun h => by have q := h.1.1; rw [zt_b2 c22] at q; cases q), zif_f (fun h => by have q := h.1.1; rw [zt_b2 c22] at q; cases q)⟩
                | exact ⟨zif_f (fun h => c36 h.1.2.1), zif_f (fun h => c36 h.1.2.1)⟩
                | exact ⟨zif_f (fun h => c50 h.1.2.2), zif_f (fun h => c50 h.1.2.2)⟩
            refine Wz.less (lv' := [some (.ref (a 0)), some (.int (nI w)), some (.int v), some (.int k), some (.int (bnS S w v k (j + 1))), some (.int (bnG S w v k (j + 1))), some (.int (nI (j + 1))), none]) (by simp [zle, e9.1, e9.2]) ?_
            exact ihj
          ·
            refine z_iload X dX3_bonusFrom_69 rfl ?_
            refine z_if_ge (tgt := 84) X dX3_bonusFrom_71 (by decide) (fun c71 => ?_) (fun c71 => ?_)
            ·
              refine z_iload X dX3_bonusFrom_84 rfl ?_
              refine z_iload X dX3_bonusFrom_86 rfl ?_
              refine z_callS1 (k := 0) (n := 0) (st := []) X (c_J9_max_7cf53 l D t (bnG S w v k j) (S 9 j)) k_J9_max_7cf53 q_ml_X3_227 [] ⟨by decide, rfl⟩ (by decide) rfl rfl rfl (Nat.le_of_ble_eq_true rfl) ⟨Nat.zero_le _, Nat.zero_le _⟩ dX3_bonusFrom_88 (fun r88 h88 => ?_)
              subst h88
              refine z_istore X dX3_bonusFrom_91 (Nat.le_of_ble_eq_true rfl) ?_
              refine z_lv (lv' := [some (.ref (a 0)), some (.int (nI w)), some (.int v), some (.int k), some (.int (bnS S w v k j)), some (.int (if bnG S w v k j < S 9 j then S 9 j else bnG S w v k j)), some (.int (nI j)), some (.int (S 9 j))]) rfl ?_
              refine z_iinc (v := nI (j + 1)) X dX3_bonusFrom_93 rfl (nI_add j 1) ?_
              refine z_lv (lv' := [some (.ref (a 0)), some (.int (nI w)), some (.int v), some (.int k), some (.int (bnS S w v k j)), some (.int (if bnG S w v k j < S 9 j then S 9 j else bnG S w v k j)), some (.int (nI (j + 1))), some (.int (S 9 j))]) rfl ?_
              refine z_goto (tgt := 9) X dX3_bonusFrom_96 (by decide) ?_
              have e9 : bnS S w v k (j + 1) = bnS S w v k j ∧ bnG S w v k (j + 1) = (if bnG S w v k j < S 9 j then S 9 j else bnG S w v k j) := by
                first
                  | exact ⟨zif_t ⟨⟨zt_b1 c22, Classical.not_not.mp c36, Classical.not_not.mp c50⟩, Or.inl c66⟩, zif_f (fun h => h.2 (Or.inl c66))⟩
                  | exact ⟨zif_t ⟨⟨zt_b1 c22, c36, c50⟩, Or.inl c66⟩, zif_f (fun h => h.2 (Or.inl c66))⟩
                  | exact ⟨zif_t ⟨⟨zt_b1 c22, c36, c50⟩, Or.inr (Int32.not_le.mp c71)⟩, zif_f (fun h => h.2 (Or.inr (Int32.not_le.mp c71)))⟩
                  | exact ⟨zif_f (fun h => h.2.elim c66 (Int32.not_lt.mpr c71)), zif_t ⟨⟨zt_b1 c22, c36, c50⟩, fun h => h.elim c66 (Int32.not_lt.mpr c71)⟩⟩
                  | exact ⟨zif_f (fun h => by have q := h.1.1; rw [zt_b2 c22] at q; cases q), zif_f (fun h => by have q := h.1.1; rw [zt_b2 c22] at q; cases q)⟩
                  | exact ⟨zif_f (fun h => c36 h.1.2.1), zif_f (fun h => c36 h.1.2.1)⟩
                  | exact ⟨zif_f (fun h => c50 h.1.2.2), zif_f (fun h => c50 h.1.2.2)⟩
              refine Wz.less (lv' := [some (.ref (a 0)), some (.int (nI w)), some (.int v), some (.int k), some (.int (bnS S w v k (j + 1))), some (.int (bnG S w v k (j + 1))), some (.int (nI (j + 1))), none]) (by simp [zle, e9.1, e9.2]) ?_
              exact ihj
            ·
              refine z_iload X dX3_bonusFrom_74 rfl ?_
              refine z_iload X dX3_bonusFrom_76 rfl ?_
              refine z_iadd X dX3_bonusFrom_78 ?_
              refine z_istore X dX3_bonusFrom_79 (Nat.le_of_ble_eq_true rfl) ?_
              refine z_lv (lv' := [some (.ref (a 0)), some (.int (nI w)), some (.int v), some (.int k), some (.int ((bnS S w v k j) + (S 9 j))), some (.int (bnG S w v k j)), some (.int (nI j)), some (.int (S 9 j))]) rfl ?_
              refine z_goto (tgt := 93) X dX3_bonusFrom_81 (by decide) ?_
              refine z_iinc (v := nI (j + 1)) X dX3_bonusFrom_93 rfl (nI_add j 1) ?_
              refine z_lv (lv' := [some (.ref (a 0)), some (.int (nI w)), some (.int v), some (.int k), some (.int ((bnS S w v k j) + (S 9 j))), some (.int (bnG S w v k j)), some (.int (nI (j + 1))), some (.int (S 9 j))]) rfl ?_
              refine z_goto (tgt := 9) X dX3_bonusFrom_96 (by decide) ?_
              have e9 : bnS S w v k (j + 1) = (bnS S w v k j) + (S 9 j) ∧ bnG S w v k (j + 1) = bnG S w v k j := by
                first
                  | exact ⟨zif_t ⟨⟨zt_b1 c22, Classical.not_not.mp c36, Classical.not_not.mp c50⟩, Or.inl c66⟩, zif_f (fun h => h.2 (Or.inl c66))⟩
                  | exact ⟨zif_t ⟨⟨zt_b1 c22, c36, c50⟩, Or.inl c66⟩, zif_f (fun h => h.2 (Or.inl c66))⟩
                  | exact ⟨zif_t ⟨⟨zt_b1 c22, c36, c50⟩, Or.inr (Int32.not_le.mp c71)⟩, zif_f (fun h => h.2 (Or.inr (Int32.not_le.mp c71)))⟩
                  | exact ⟨zif_f (fun h => h.2.elim c66 (Int32.not_lt.mpr c71)), zif_t ⟨⟨zt_b1 c22, c36, c50⟩, fun h => h.elim c66 (Int32.not_lt.mpr c71)⟩⟩
                  | exact ⟨zif_f (fun h => by have q := h.1.1; rw [zt_b2 c22] at q; cases q), zif_f (fun h => by have q := h.1.1; rw [zt_b2 c22] at q; cases q)⟩
                  | exact ⟨zif_f (fun h => c36 h.1.2.1), zif_f (fun h => c36 h.1.2.1)⟩
                  | exact ⟨zif_f (fun h => c50 h.1.2.2), zif_f (fun h => c50 h.1.2.2)⟩
              refine Wz.less (lv' := [some (.ref (a 0)), some (.int (nI w)), some (.int v), some (.int k), some (.int (bnS S w v k (j + 1))), some (.int (bnG S w v k (j + 1))), some (.int (nI (j + 1))), none]) (by simp [zle, e9.1, e9.2]) ?_
              exact ihj
