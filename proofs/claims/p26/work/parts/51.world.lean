/-! the law's world: two objects, and its three arrays -/
abbrev is24t : List Nat := [24, 25, 26, 27, 28, 29, 30, 31, 32, 33, 34, 35, 36, 37, 38, 39, 40, 41, 42, 43, 44, 45, 46, 47]
abbrev is51 : List Nat := [0, 1, 2, 3, 4, 5, 6, 7, 8, 9, 10, 11, 12, 13, 14, 15, 16, 17, 18, 19, 20, 21, 22, 23, 24, 25, 26, 27, 28, 29, 30, 31, 32, 33, 34, 35, 36, 37, 38, 39, 40, 41, 42, 43, 44, 45, 46, 47, 48, 49, 50]
def wA (t : ClassId × ClassId × ClassId) (a b : Nat → Nat) (A B : zS) (qb qv qc : Nat) (fB fV fC : Nat → Int32) : va_W := wR t a A ++ wR t b B ++ [(qb, .inl (t.1, 24, .inl fB)), (qv, .inl (t.1, 24, .inl fV)), (qc, .inl (t.1, 5, .inl fC))]
section
variable {t : ClassId × ClassId × ClassId} {a b : Nat → Nat} {A B : zS} {qb qv qc : Nat} {fB fV fC f : Nat → Int32}
theorem aA_eq : (wA t a b A B qb qv qc fB fV fC).map (fun x => x.1) = aR a ++ aR b ++ [qb, qv, qc] := rfl
theorem uA_B : (wA t a b A B qb qv qc fB fV fC).set 48 (qb, .inl (t.1, 24, .inl f)) = wA t a b A B qb qv qc f fV fC := rfl
theorem uA_V : (wA t a b A B qb qv qc fB fV fC).set 49 (qv, .inl (t.1, 24, .inl f)) = wA t a b A B qb qv qc fB f fC := rfl
theorem uA_C : (wA t a b A B qb qv qc fB fV fC).set 50 (qc, .inl (t.1, 5, .inl f)) = wA t a b A B qb qv qc fB fV f := rfl
end
/-- a script's number, made small -/
def lo (v : Int32) (n : Nat) : Nat := (v.toBitVec.toNat &&& 2147483647) % n
theorem lo_lt {v : Int32} {n : Nat} (h : 0 < n) : lo v n < n := Nat.mod_lt _ h
theorem and_max (v : Int32) : v &&& 2147483647 = nI (v.toBitVec.toNat &&& 2147483647) := by
  rw [← zn_and]
  congr 1
  apply Int32.toBitVec_inj.mp
  show v.toBitVec = BitVec.ofNat 32 v.toBitVec.toNat
  simp
theorem and_max_lt (v : Nat) : v &&& 2147483647 < 2 ^ 31 := Nat.lt_of_le_of_lt Nat.and_le_right (by decide)
theorem k_L_low : zPkS yL_low cL_low 2 (some .int) 2 := ⟨q_st_L_low, q_in_L, q_co_L_low, by decide +kernel, by decide⟩
theorem k_L_many : zPkS yL_many cL_many 3 (some .int) 1 := ⟨q_st_L_many, q_in_L, q_co_L_many, by decide +kernel, by decide⟩
set_option maxHeartbeats 600000 in
set_option maxRecDepth 100000 in
theorem c_L_low (l : Launch) (D : va_G) (t : ClassId × ClassId × ClassId) (v : Int32) (n9 : Nat) (h0 : 0 < n9) (h9 : n9 < 2 ^ 31) : zM1 l yL_low cL_low 2 (some .int) 0 D t [.int v, .int (nI n9)] ([]) (fun r => r = nI (lo v n9)) := by
  refine z_m1 (by decide +kernel) (Nat.le_of_ble_eq_true rfl) (by simp [Value.category]) ?_
  intro E X Z
  refine z_lv (lv' := [some (.int v), some (.int (nI n9))]) rfl ?_
  refine z_iload_n X dL_low_0 rfl rfl ?_
  refine z_ldci X q_k_L_9 dL_low_1 ?_
  refine z_iand X dL_low_3 ?_
  refine z_top (y := nI (v.toBitVec.toNat &&& 2147483647)) (and_max v) ?_
  refine z_iload_n X dL_low_4 rfl rfl ?_
  refine n_irem X dL_low_5 (and_max_lt _) h0 h9 ?_
  refine z_iret X Z rfl dL_low_6 ?_
  exact ⟨(), rfl, fun _ _ => trivial⟩
set_option maxHeartbeats 600000 in
set_option maxRecDepth 100000 in
theorem c_L_many (l : Launch) (D : va_G) (t : ClassId × ClassId × ClassId) (s : Nat) (hs : s < 256) : zM1 l yL_many cL_many 3 (some .int) 0 D t [.int (nI s)] ([]) (fun r => r = nI (p8 s)) := by
  refine z_m1 (by decide +kernel) (Nat.le_of_ble_eq_true rfl) (by simp [Value.category]) ?_
  intro E X Z
  refine z_lv (lv' := [some (.int (nI s)), none, none]) rfl ?_
  refine z_iconst (v := nI 0) X dL_many_0 (by decide) ?_
  refine z_istore_n X dL_many_1 rfl (Nat.le_of_ble_eq_true rfl) ?_
  refine z_lv (lv' := [some (.int (nI s)), some (.int (nI 0)), none]) rfl ?_
  refine z_iconst (v := nI 0) X dL_many_2 (by decide) ?_
  refine z_istore_n X dL_many_3 rfl (Nat.le_of_ble_eq_true rfl) ?_
  refine z_lv (lv' := [some (.int (nI s)), some (.int (nI 0)), some (.int (nI 0))]) rfl ?_
  refine Wz.less (lv' := [some (.int (nI s)), some (.int (nI (pcN s 0))), some (.int (nI 0))]) (by simp [zle] <;> rfl) ?_
  refine zl_up 8 (fun i => Wz E 0 0 4 [some (.int (nI s)), some (.int (nI (pcN s i))), some (.int (nI i))] [] ([])) ?_ ?_ 0 (by omega)
  ·
    refine z_iload_n X dL_many_4 rfl rfl ?_
    refine z_bipush (v := nI 8) X dL_many_5 (by decide) ?_
    refine n_icmp_ge (tgt := 24) X dL_many_7 (by decide) (by omega) (by omega) (fun _ => ?_) (fun c7 => absurd c7 (by decide))
    refine z_iload_n X dL_many_24 rfl rfl ?_
    refine z_iret X Z rfl dL_many_25 ?_
    exact ⟨(), rfl, fun _ _ => trivial⟩
  ·
    intro i hi ih
    refine z_iload_n X dL_many_4 rfl rfl ?_
    refine z_bipush (v := nI 8) X dL_many_5 (by decide) ?_
    refine n_icmp_ge (tgt := 24) X dL_many_7 (by decide) (by omega) (by omega) (fun c7 => absurd c7 (by omega)) (fun _ => ?_)
    refine z_iload_n X dL_many_10 rfl rfl ?_
    refine z_iload_n X dL_many_11 rfl rfl ?_
    refine z_iload_n X dL_many_12 rfl rfl ?_
    refine n_ishr X dL_many_13 (by omega) (by omega) ?_
    refine z_iconst (v := nI 1) X dL_many_14 (by decide) ?_
    refine n_iand X dL_many_15 ?_
    refine z_top (y := nI (s / 2 ^ i % 2)) (by rw [Nat.and_one_is_mod]) ?_
    refine n_iadd X dL_many_16 ?_
    refine z_istore_n X dL_many_17 rfl (Nat.le_of_ble_eq_true rfl) ?_
    refine z_lv (lv' := [some (.int (nI s)), some (.int (nI ((pcN s i) + (s / 2 ^ i % 2)))), some (.int (nI i))]) rfl ?_
    refine z_iinc (v := nI (i + 1)) X dL_many_18 rfl (nI_add i 1) ?_
    refine z_lv (lv' := [some (.int (nI s)), some (.int (nI ((pcN s i) + (s / 2 ^ i % 2)))), some (.int (nI (i + 1)))]) rfl ?_
    refine z_goto (tgt := 4) X dL_many_21 (by decide) ?_
    refine Wz.less (lv' := [some (.int (nI s)), some (.int (nI (pcN s (i + 1)))), some (.int (nI (i + 1)))]) (by simp [zle] <;> rfl) ?_
    exact ih
set_option maxHeartbeats 1000000 in
set_option maxRecDepth 100000 in
theorem c_L_levels (l : Launch) (hfl : l.stackTraces = false) (D : va_G) (t : ClassId × ClassId × ClassId) (sz : Nat) (a : Nat → Nat) {S : zS} (p : zT) {sc : Nat → Nat} {x y z G : Nat} (h : zKs S sc x y z G) : zM8 l yL_levels cL_levels 1 (some .int) 26 3 18 D t [.ref (a 0)] (wR t a (T6 S p)) sz (fun r (_ : Unit) => r = nI (x + y + z)) (fun _ => wR t a (T6 S p)) := by
  have hX := K_X h
  refine z_m8 (by decide +kernel) (Nat.le_of_ble_eq_true rfl) (by simp [Value.category]) ?_
  intro E X Z V Y
  refine z_lv (lv' := [some (.ref (a 0))]) rfl ?_
  refine z_aload_n X dL_levels_0 rfl rfl ?_
  refine z_iconst (v := nI 0) X dL_levels_1 (by decide) ?_
  refine z_w7 (k := 0) (n := 0) (k' := 1) (n' := 6) (st := []) X Y aR_eq V (fun sz => w_level l hfl D t a p h (show 0 < 3 by decide) sz) kw_level q_ml_L_75 is24 ⟨by decide, rfl⟩ (fun u => wR t a (T6 S p)) (fun u => ⟨⟨by decide, rfl⟩, ⟨by decide, rfl⟩, rfl, rfl⟩) (by decide) (by decide) rfl rfl rfl (Nat.le_of_ble_eq_true rfl) ⟨by omega, by omega⟩ ⟨by omega, by omega⟩ dL_levels_2 (fun r2 u2 h2 => ?_)
  subst h2
  refine z_aload_n X dL_levels_5 rfl rfl ?_
  refine z_iconst (v := nI 1) X dL_levels_6 (by decide) ?_
  refine z_w7 (k := 1) (n := 6) (k' := 2) (n' := 12) (st := [.int (nI x)]) X Y aR_eq V (fun sz => w_level l hfl D t a p h (show 1 < 3 by decide) sz) kw_level q_ml_L_75 is24 ⟨by decide, rfl⟩ (fun u => wR t a (T6 S p)) (fun u => ⟨⟨by decide, rfl⟩, ⟨by decide, rfl⟩, rfl, rfl⟩) (by decide) (by decide) rfl rfl rfl (Nat.le_of_ble_eq_true rfl) ⟨by omega, by omega⟩ ⟨by omega, by omega⟩ dL_levels_7 (fun r7 u7 h7 => ?_)
  subst h7
  refine n_iadd X dL_levels_10 ?_
  refine z_aload_n X dL_levels_11 rfl rfl ?_
  refine z_iconst (v := nI 2) X dL_levels_12 (by decide) ?_
  refine z_w7 (k := 2) (n := 12) (k' := 3) (n' := 18) (st := [.int (nI (x + y))]) X Y aR_eq V (fun sz => w_level l hfl D t a p h (show 2 < 3 by decide) sz) kw_level q_ml_L_75 is24 ⟨by decide, rfl⟩ (fun u => wR t a (T6 S p)) (fun u => ⟨⟨by decide, rfl⟩, ⟨by decide, rfl⟩, rfl, rfl⟩) (by decide) (by decide) rfl rfl rfl (Nat.le_of_ble_eq_true rfl) ⟨by omega, by omega⟩ ⟨by omega, by omega⟩ dL_levels_13 (fun r13 u13 h13 => ?_)
  subst h13
  refine n_iadd X dL_levels_16 ?_
  refine Wz.wide (k' := 3) (n' := 18) (by omega) (by omega) ?_
  refine z_iret X Z rfl dL_levels_17 ?_
  exact ⟨(), rfl, fun q hq => hq⟩
/-! the script -/
section
variable {l : Launch} {D : va_G} {t : ClassId × ClassId × ClassId} {b L : Nat} {xs : Nat → Int32}
def zPa (D : va_G) (t : ClassId × ClassId × ClassId) (b L : Nat) (xs : Nat → Int32) (j : Nat) : Array Value → State → Prop := va_Pc [.ref b, .int (nI j)] (fun U => va_X b L xs U U.heap ∧ b < U.heap.size ∧ zKp D t U)
theorem c_L_at (hL : L < 2 ^ 31) (j : Nat) (hj : j < 2 ^ 31) : Met l yL_at (zWs yL_at cL_at 2 (some .int)) (zR 0) (zPa D t b L xs j) (va_Qi (fun (_ : Int32) (_ : Unit) => True) (fun _ _ => True) (fun _ => False)) 0 0 (fun _ => False) := by
  refine z_metW (cc := cL_at) (maxL := 2) (ret := some .int) (by decide +kernel) rfl ?_
  intro p e s m args below meth c0 s₁ B hml hv
  obtain ⟨rfl, hX, hbl, hK⟩ := hv
  have hts := atoms_spec (ws := zWs yL_at cL_at 2 (some .int)) B.pre
  rw [entry_eq m [.ref b, .int (nI j)] (by simp [Value.category]) 2]
  suffices q : ∀ E : zE, zX E RL cL_at 2 (zR 0) D t l → zEnd E (some .int) (va_Qi (fun (_ : Int32) (_ : Unit) => True) (fun _ _ => True) (zA E)) 0 0 → va_X b L xs (zs E) (zs E).heap → b < (zs E).heap.size → ¬ zA E b → Wz E 0 0 0 [some (.ref b), some (.int (nI j))] [] [] from
    q (p, l, e, zR 0, s, m, _, below, meth, c0, D, (fun _ => False), MQ below (va_Qi (fun (_ : Int32) (_ : Unit) => True) (fun _ _ => True) (fun _ => False)) _ s 0 0 (fun _ => False), t)
      ⟨B.exec, B.bytes, hml, findClass_of_methodNamed B.named, hK, rfl, fun w hw => hts w (List.mem_cons_of_mem _ hw), rfl, rfl, rfl⟩
      ⟨B.returns, B.notSynchronized, rfl⟩ hX hbl id _ s.heap [] (z_entry (As := [.ref b, .int (nI j)]) (n := 2) (by simp [Value.category]) (Nat.le_of_ble_eq_true rfl)) (fun k q h => by simp at h) ⟨fun i j p q h => by simp at h, fun k q h => by simp at h⟩ va_S.rf
  intro E X Z hX hbl hbA
  refine z_iload_n X dL_at_0 rfl rfl ?_
  refine z_aload_n X dL_at_1 rfl rfl ?_
  refine z_slen X hX hbl hbA dL_at_2 ?_
  have fin : ∀ v, Wz E 0 0 21 [some (.ref b), some (.int (nI j))] [.int v] [] := fun v => z_iret X Z rfl dL_at_21 ⟨(), trivial, fun _ _ => trivial⟩
  refine n_icmp_ge (tgt := 12) X dL_at_3 (by decide) hj hL (fun _ => ?_) (fun h => ?_)
  · refine z_ldci X q_k_L_7 dL_at_12 ?_
    refine z_iload_n X dL_at_14 rfl rfl ?_
    refine z_iconst (v := nI 1) X dL_at_15 (by decide) ?_
    refine z_iadd X dL_at_16 ?_
    refine z_imul X dL_at_17 ?_
    refine z_ldci X q_k_L_8 dL_at_18 ?_
    refine z_iadd X dL_at_20 ?_
    exact fin _
  · refine z_aload_n X dL_at_6 rfl rfl ?_
    refine z_iload_n X dL_at_7 rfl rfl ?_
    refine z_sld X hX hbl hbA h hL dL_at_8 ?_
    refine z_goto (tgt := 21) X dL_at_9 (by decide) ?_
    exact fin _
/-- a call that reads the script -/
theorem z_at {E : zE} {k n pc : Nat} {lv : List (Option Value)} {st : List Value} {ws : va_W} {own : String} {cc : ByteArray} {nL h rc rs i j : Nat} (X : zX E own cc nL (zRm h rc rs) D t l) (hX : va_X b L xs (zs E) (zs E).heap) (hbl : b < (zs E).heap.size) (hbA : ¬ zA E b) (hL : L < 2 ^ 31) (hj : j < 2 ^ 31) (hml : Cond.methodLink own i yL_at ∈ zTs) (hh : 0 < h) (hnl : lv.length = nL) (hst : (st.map fun v => v.category).sum ≤ 8) (hcs : k ≤ rc ∧ n ≤ rs) (hd : decode cc pc = .ok (.invokestatic i, 3)) (kk : ∀ r, Wz E k n (pc + 3) lv (.int r :: st) ws) : Wz E k n pc lv (.int (nI j) :: .ref b :: st) ws := by
  intro ls H locs hl hP hD hS
  obtain ⟨p1, p2, p3, p4⟩ := k8_at
  have hl2 : E.2.1 = l := X.2.2.2.2.2.2.2.2.2
  have hR : E.2.2.2.1 = zRm h rc rs := X.2.2.2.2.2.1
  have hpre : PreS (zs E) H (zPa D t b L xs j) [.ref b, .int (nI j)] := by
    refine ⟨fun a U g mk q => ?_, fun U hU hW => ⟨rfl, ?_, ?_, X.2.2.2.2.1.moved hW⟩⟩
    · obtain ⟨q0, q1, q2, q3⟩ := q
      exact ⟨q0, q1.moved (u := U) (Vm.Alike.refl U.vm), q2, ⟨va_K.moved (u := U) (U := U.calling g mk a) (Vm.Alike.refl U.vm) q3.1, va_Nw.same rfl rfl q3.2⟩⟩
    · rw [hU]; exact (hX.kept (hS.2.1 b hbl hbA)).moved hW.alike
    · rw [hU]; exact Nat.lt_of_lt_of_le hbl hS.1
  have hrun : va_Run E.1 E.2.1 E.2.2.1 E.2.2.2.1 (zs E) (zm E) (zargs E) (zb E) (zh E) (zc E) H locs k n 0 0 (F0 (zm E) pc ls (.int (nI j) :: .ref b :: st)) st (va_Qi (fun (_ : Int32) (_ : Unit) => True) (fun _ _ => True) (fun _ => False) ([.ref b, .int (nI j)] : List Value).toArray) (fun _ => False) := by
    rw [hl2]
    refine va_runS (nL := nL) (n := 2) (own := own) (bytes := cL_at) (maxL := 2) (ret := some .int) ⟨X.1, X.2.1, X.2.2.1, X.2.2.2.1, X.2.2.2.2.2.2.1⟩ (c_L_at hL j hj) ⟨callB_of 2 X.2.2.2.2.2.2.1 (zGoodW p3) rfl rfl rfl (X.w p2) (X.w hml) p4 ?_, X.w p1⟩ hpre rfl rfl ?_ rfl (lv_room hst) hd ?_
    · rw [hR]; exact ⟨hh, by show 8 + (2 + 11) + 32 * 0 ≤ 32 * h; omega⟩
    · exact hl.1.1.trans hnl
    · rw [hR]; exact hcs
  refine va_calli hrun hS (fun q _ z => z.elim) (fun q z => z.elim) (fun r u T H1 locs1 hT _ hφ _ hz hk hS1 => ?_)
  exact kk r ls H1 locs1 hl (hP.kept fun j q hq => hk q.1 (hP j q hq).lt id) hD hS1
end
