/-! the law's cases with wrappers: how an argument is loaded, and how a case ends -/
/-- the world after both sides' calls -/
abbrev wN (t : ClassId × ClassId × ClassId) (a b : Nat → Nat) (o : Nat) (S9 u9 : zS) (q : Nat → Int64) : va_W := wR t a S9 ++ wM t b u9 ++ [(o, .inl (t.2.2, 1, .inr (.inl q)))]
theorem nN {t : ClassId × ClassId × ClassId} {a b : Nat → Nat} {o : Nat} {S9 u9 : zS} {q : Nat → Int64} : (wN t a b o S9 u9 q).map (fun x => x.1) = aR a ++ aM b ++ [o] := rfl
theorem lpNR {t : ClassId × ClassId × ClassId} {a b : Nat → Nat} {o : Nat} {S9 u9 : zS} {q : Nat → Int64} : zPart (wN t a b o S9 u9 q) is24 (wR t a S9) := ⟨by decide, rfl⟩
theorem lpNM {t : ClassId × ClassId × ClassId} {a b : Nat → Nat} {o : Nat} {S9 u9 : zS} {q : Nat → Int64} : zPart (wN t a b o S9 u9 q) [24, 25, 26, 27, 28, 29, 30, 31, 32, 33, 34, 35, 36, 37, 38, 39, 40, 41, 42] (wM t b u9) := ⟨by decide, rfl⟩
theorem lpNo {t : ClassId × ClassId × ClassId} {a b : Nat → Nat} {o : Nat} {S9 u9 : zS} {q : Nat → Int64} : zPart (wN t a b o S9 u9 q) [0, 1, 2, 3, 4, 5, 6, 7, 8, 9, 10, 11, 12, 13, 14, 15, 16, 17, 18, 19, 20, 21, 22, 23, 43] (wR t a S9 ++ [(o, .inl (t.2.2, 1, .inr (.inl q)))]) := ⟨by decide, rfl⟩
theorem lsNR {t : ClassId × ClassId × ClassId} {a b : Nat → Nat} {o : Nat} {S9 S8 u9 : zS} {q : Nat → Int64} : zSwap (wN t a b o S9 u9 q) is24 (wR t a S9) (wR t a S8) (wN t a b o S8 u9 q) := ⟨⟨by decide, rfl⟩, ⟨by decide, rfl⟩, rfl, rfl⟩
theorem lsNM {t : ClassId × ClassId × ClassId} {a b : Nat → Nat} {o : Nat} {S9 u8 u9 : zS} {q : Nat → Int64} : zSwap (wN t a b o S9 u9 q) [24, 25, 26, 27, 28, 29, 30, 31, 32, 33, 34, 35, 36, 37, 38, 39, 40, 41, 42] (wM t b u9) (wM t b u8) (wN t a b o S9 u8 q) := ⟨⟨by decide, rfl⟩, ⟨by decide, rfl⟩, rfl, rfl⟩
theorem lsNo {t : ClassId × ClassId × ClassId} {a b : Nat → Nat} {o : Nat} {S9 S8 u9 : zS} {q q8 : Nat → Int64} : zSwap (wN t a b o S9 u9 q) [0, 1, 2, 3, 4, 5, 6, 7, 8, 9, 10, 11, 12, 13, 14, 15, 16, 17, 18, 19, 20, 21, 22, 23, 43] (wR t a S9 ++ [(o, .inl (t.2.2, 1, .inr (.inl q)))]) (wR t a S8 ++ [(o, .inl (t.2.2, 1, .inr (.inl q8)))]) (wN t a b o S8 u9 q8) := ⟨⟨by decide, rfl⟩, ⟨by decide, rfl⟩, rfl, rfl⟩
/-- what both sides leave is a state of the loop -/
def FinOk (t : ClassId × ClassId × ClassId) (a b : Nat → Nat) (S9 u9 : zS) : Prop := ∃ (S : zS) (sc tk : Nat → Nat) (m G x y z s : Nat) (e f g : Nat → Int32), zIv S sc tk m G ∧ ∀ (o : Nat) (q : Nat → Int64) (D : va_G) (H : Heap), va_P D vwCl (wN t a b o S9 u9 q) H → va_P D vwCl (wL t a b o S x y z s e f g q) H
section ZE5
variable {E : zE} {k n i pc : Nat} {D : va_G} {t : ClassId × ClassId × ClassId} {l : Launch} {a b : Nat → Nat} {o bs L : Nat} {xs : Nat → Int32} {lv : List (Option Value)} {st : List Value} {ws : va_W} {rm : Room}
theorem z_arg (X : zX E RL code 7 rm D t l) (hX : va_X bs L xs (zs E) (zs E).heap) (hbl : bs < (zs E).heap.size) (hbA : ¬ zA E bs) (hL : L ≤ 3584) (h0 : lv[0]? = some (some (.ref bs))) (h4 : lv[4]? = some (some (.int (nI i)))) {c : Int} {j : Nat} (hj : i + j < L) (hc : Int32.ofInt c = nI j) (d1 : decode code pc = .ok (.aload_n 0, 1)) (d2 : decode code (pc + 1) = .ok (.iload 4, 2)) (d3 : decode code (pc + 3) = .ok (.iconst c, 1)) (d4 : decode code (pc + 4) = .ok (.iadd, 1)) (d5 : decode code (pc + 5) = .ok (.iaload, 1)) (kk : Wz E k n (pc + 6) lv (.int (xs (i + j)) :: st) ws) : Wz E k n pc lv st ws := by
  refine z_aload_n X d1 rfl h0 ?_
  refine z_iload X d2 h4 ?_
  refine z_iconst X d3 hc ?_
  refine n_iadd X d4 ?_
  exact z_sld X hX hbl hbA hj (by omega) d5 kk
theorem z_arg6 (X : zX E RL code 7 rm D t l) (hX : va_X bs L xs (zs E) (zs E).heap) (hbl : bs < (zs E).heap.size) (hbA : ¬ zA E bs) (hL : L ≤ 3584) (h0 : lv[0]? = some (some (.ref bs))) (h4 : lv[4]? = some (some (.int (nI i)))) {c : Int} {j : Nat} (hj : i + j < L) (hc : (Int8.ofInt c).toInt32 = nI j) (d1 : decode code pc = .ok (.aload_n 0, 1)) (d2 : decode code (pc + 1) = .ok (.iload 4, 2)) (d3 : decode code (pc + 3) = .ok (.bipush c, 2)) (d4 : decode code (pc + 5) = .ok (.iadd, 1)) (d5 : decode code (pc + 6) = .ok (.iaload, 1)) (kk : Wz E k n (pc + 7) lv (.int (xs (i + j)) :: st) ws) : Wz E k n pc lv st ws := by
  refine z_aload_n X d1 rfl h0 ?_
  refine z_iload X d2 h4 ?_
  refine z_bipush X d3 hc ?_
  refine n_iadd X d4 ?_
  exact z_sld X hX hbl hbA hj (by omega) d5 kk
theorem FinOk.go {S9 u9 : zS} {q : Nat → Int64} {v5 v6 : Option Value} (hF : FinOk t a b S9 u9) (kk : HL E t a b o bs k n 1208 i) : Wz E k n 1208 [some (.ref bs), some (.ref (a 0)), some (.ref (b 0)), some (.ref o), some (.int (nI i)), v5, v6] [] (wN t a b o S9 u9 q) := by
  obtain ⟨S, sc, tk, m, G, x, y, z, s, e, f, g, hI, hw⟩ := hF
  refine z_cells (ws' := wL t a b o S x y z s e f g q) (hw o q) rfl ?_
  exact Wz.less (lv' := [some (.ref bs), some (.ref (a 0)), some (.ref (b 0)), some (.ref o), some (.int (nI i)), none, none]) ⟨rfl, rfl, rfl, rfl, rfl, trivial⟩ (kk S sc tk m G x y z s e f g q hI)
set_option maxHeartbeats 1000000 in
/-- a case's end: the reference's thrown is the class's -/
theorem lw_endV {r : Int32} {S9 u9 : zS} {q : Nat → Int64} {v6 : Option Value} (X : zX E RL code 7 (zRm 64 601024 7293034) D t l) (hk : k ≤ 601024) (hn : n ≤ 7293034) (d1 : decode code pc = .ok (.aload_n 2, 1)) (d2 : decode code (pc + 1) = .ok (.invokevirtual 79, 3)) (d3 : decode code (pc + 4) = .ok (.iload 5, 2)) (d4 : decode code (pc + 6) = .ok (.if_icmp .eq 5, 3)) (hr : u9 23 0 = r) (kk : Wz E k n (pc + 11) [some (.ref bs), some (.ref (a 0)), some (.ref (b 0)), some (.ref o), some (.int (nI i)), some (.int r), v6] [] (wN t a b o S9 u9 q)) : Wz E k n pc [some (.ref bs), some (.ref (a 0)), some (.ref (b 0)), some (.ref o), some (.int (nI i)), some (.int r), v6] [] (wN t a b o S9 u9 q) := by
  refine z_aload_n X d1 rfl rfl ?_
  refine z_callV1 X (c_X4_thrown l D t b u9) k_X4_thrown q_ml_L_79 [24, 25, 26, 27, 28, 29, 30, 31, 32, 33, 34, 35, 36, 37, 38, 39, 40, 41, 42] lpNM 24 4 rfl rfl (by decide) rfl rfl rfl (Nat.le_of_ble_eq_true rfl) ⟨hk, hn⟩ d2 (fun r1 e1 => ?_)
  refine z_iload X d3 rfl ?_
  exact z_icmp_eq (tgt := pc + 11) X d4 (by omega) (fun _ => kk) (fun c => absurd (e1.trans hr) c)
set_option maxHeartbeats 1000000 in
/-- the answers are compared, ints -/
theorem lw_endI {off : Int} {r r2 : Int32} {S9 u9 : zS} {q : Nat → Int64} (X : zX E RL code 7 (zRm 64 601024 7293034) D t l) (d1 : decode code pc = .ok (.iload 5, 2)) (d2 : decode code (pc + 2) = .ok (.ifCond .ne 15, 3)) (d3 : decode code (pc + 5) = .ok (.aload_n 3, 1)) (d4 : decode code (pc + 6) = .ok (.iconst 0, 1)) (d5 : decode code (pc + 7) = .ok (.laload, 1)) (d6 : decode code (pc + 8) = .ok (.iload 6, 2)) (d7 : decode code (pc + 10) = .ok (.i2l, 1)) (d8 : decode code (pc + 11) = .ok (.lcmp, 1)) (d9 : decode code (pc + 12) = .ok (.ifCond .eq 5, 3)) (d10 : decode code (pc + 17) = .ok (.goto off, 3)) (ht : ((pc + 17 : Nat) : Int) + off = ((1208 : Nat) : Int)) (hq : r = 0 → q 0 = r2.toInt64) (hF : FinOk t a b S9 u9) (kk : HL E t a b o bs k n 1208 i) : Wz E k n pc [some (.ref bs), some (.ref (a 0)), some (.ref (b 0)), some (.ref o), some (.int (nI i)), some (.int r), some (.int r2)] [] (wN t a b o S9 u9 q) := by
  have fin : Wz E k n (pc + 17) [some (.ref bs), some (.ref (a 0)), some (.ref (b 0)), some (.ref o), some (.int (nI i)), some (.int r), some (.int r2)] [] (wN t a b o S9 u9 q) := z_goto X d10 ht (hF.go kk)
  refine z_iload X d1 rfl ?_
  refine z_if_ne (tgt := pc + 17) X d2 (by omega) (fun _ => fin) (fun h => ?_)
  refine z_aload_n X d3 rfl rfl ?_
  refine z_iconst (v := 0) X d4 rfl ?_
  refine z_lald X 43 rfl (vp_in_nI (by decide : 0 < 1) (by decide)) d5 ?_
  refine z_iload X d6 rfl ?_
  refine z_i2l X d7 ?_
  refine z_lcmp X d8 ?_
  exact z_if_eq (tgt := pc + 17) X d9 (by omega) (fun _ => fin) (fun c => absurd ((lg_cmp_eq _ _).mpr (hq h)) c)
set_option maxHeartbeats 1000000 in
/-- the answers are compared, truths -/
theorem lw_endZ {off : Int} {r r2 : Int32} {S9 u9 : zS} {q : Nat → Int64} (X : zX E RL code 7 (zRm 64 601024 7293034) D t l) (d1 : decode code pc = .ok (.iload 5, 2)) (d2 : decode code (pc + 2) = .ok (.ifCond .ne 22, 3)) (d3 : decode code (pc + 5) = .ok (.aload_n 3, 1)) (d4 : decode code (pc + 6) = .ok (.iconst 0, 1)) (d5 : decode code (pc + 7) = .ok (.laload, 1)) (d6 : decode code (pc + 8) = .ok (.iload 6, 2)) (d7 : decode code (pc + 10) = .ok (.ifCond .eq 7, 3)) (d8 : decode code (pc + 13) = .ok (.lconst 1, 1)) (d9 : decode code (pc + 14) = .ok (.goto 4, 3)) (d10 : decode code (pc + 17) = .ok (.lconst 0, 1)) (d11 : decode code (pc + 18) = .ok (.lcmp, 1)) (d12 : decode code (pc + 19) = .ok (.ifCond .eq 5, 3)) (d13 : decode code (pc + 24) = .ok (.goto off, 3)) (ht : ((pc + 24 : Nat) : Int) + off = ((1208 : Nat) : Int)) (hq : r = 0 → (r2 = nI 1 ∧ q 0 = 1) ∨ (r2 = nI 0 ∧ q 0 = 0)) (hF : FinOk t a b S9 u9) (kk : HL E t a b o bs k n 1208 i) : Wz E k n pc [some (.ref bs), some (.ref (a 0)), some (.ref (b 0)), some (.ref o), some (.int (nI i)), some (.int r), some (.int r2)] [] (wN t a b o S9 u9 q) := by
  have fin : Wz E k n (pc + 24) [some (.ref bs), some (.ref (a 0)), some (.ref (b 0)), some (.ref o), some (.int (nI i)), some (.int r), some (.int r2)] [] (wN t a b o S9 u9 q) := z_goto X d13 ht (hF.go kk)
  refine z_iload X d1 rfl ?_
  refine z_if_ne (tgt := pc + 24) X d2 (by omega) (fun _ => fin) (fun h => ?_)
  refine z_aload_n X d3 rfl rfl ?_
  refine z_iconst (v := 0) X d4 rfl ?_
  refine z_lald X 43 rfl (vp_in_nI (by decide : 0 < 1) (by decide)) d5 ?_
  refine z_iload X d6 rfl ?_
  have hq := hq h
  refine z_if_eq (tgt := pc + 17) X d7 (by omega) (fun h2 => ?_) (fun h2 => ?_)
  · refine z_lconst (v := 0) X d10 rfl ?_
    refine z_lcmp X d11 ?_
    refine z_if_eq (tgt := pc + 24) X d12 (by omega) (fun _ => fin) (fun c => absurd ((lg_cmp_eq _ _).mpr ?_) c)
    rcases hq with ⟨h3, h4⟩ | ⟨h3, h4⟩
    · rw [h3] at h2; exact absurd h2 (by decide)
    · exact h4
  · refine z_lconst (v := 1) X d8 rfl ?_
    refine z_goto (tgt := pc + 18) X d9 (by omega) ?_
    refine z_lcmp X d11 ?_
    refine z_if_eq (tgt := pc + 24) X d12 (by omega) (fun _ => fin) (fun c => absurd ((lg_cmp_eq _ _).mpr ?_) c)
    rcases hq with ⟨h3, h4⟩ | ⟨h3, h4⟩
    · exact h4
    · exact absurd h3 h2
end ZE5
theorem ifC_I : (if eI = eI then nI 1 else nI 2) = nI 1 := by decide +kernel
theorem ifC_A : (if eA = eI then nI 1 else nI 2) = nI 2 := by decide +kernel
theorem ifC_S : (if eS = eI then nI 1 else nI 2) = nI 2 := by decide +kernel
theorem ifD_I : (if eI = eI then nI 1 else if eI = eA then nI 2 else nI 3) = nI 1 := by decide +kernel
theorem ifD_A : (if eA = eI then nI 1 else if eA = eA then nI 2 else nI 3) = nI 2 := by decide +kernel
theorem ifD_S : (if eS = eI then nI 1 else if eS = eA then nI 2 else nI 3) = nI 3 := by decide +kernel
theorem exn {n : Nat} {g : Int32} {Q : Nat → Prop} (hn : n ≤ 2 ^ 31) (h : ∃ k, k < n ∧ g = nI k ∧ ¬ Q k) : ¬ ∃ k, k < n ∧ g = nI k ∧ Q k := by
  rintro ⟨k, hk, hg, hq⟩
  obtain ⟨j, hj, hg2, hq2⟩ := h
  have e : k = j := zn_inj (by omega) (by omega) (hg.symm.trans hg2)
  exact hq2 (e ▸ hq)
theorem exn2 {n : Nat} {g o : Int32} {Q : Nat → Nat → Prop} (hn : n ≤ 2 ^ 31) (h : ∃ k j, k < n ∧ j < n ∧ g = nI k ∧ o = nI j ∧ ¬ Q k j) : ¬ ∃ k j, k < n ∧ j < n ∧ g = nI k ∧ o = nI j ∧ Q k j := by
  rintro ⟨k, j, hk, hj, hg, ho, hq⟩
  obtain ⟨k2, j2, hk2, hj2, hg2, ho2, hq2⟩ := h
  have e : k = k2 := zn_inj (by omega) (by omega) (hg.symm.trans hg2)
  have e' : j = j2 := zn_inj (by omega) (by omega) (ho.symm.trans ho2)
  subst e e'
  exact hq2 hq
theorem rg_of {j lo hi : Nat} {v : Int32} (h1 : lo ≤ j) (h2 : j ≤ hi) (hh : hi < 2 ^ 31) (hv : v = nI j) : rg v (nI lo) (nI hi) := by
  subst hv
  exact ⟨(nI_leI (by omega) (by omega)).mpr h1, (nI_leI (by omega) hh).mpr h2⟩
theorem updL0 {f : Nat → Int64} {x : Int64} : vp_updL f 0 x 0 = x := if_pos rfl
theorem bz64 {r r2 : Int32} {P Q : Prop} {g : Nat → Int64} (h1 : bz r P) (h2 : bz r2 Q) (e : P ↔ Q) : (r2 = nI 1 ∧ vp_updL g 0 r.toInt64 0 = 1) ∨ (r2 = nI 0 ∧ vp_updL g 0 r.toInt64 0 = 0) := by
  have e1 : r = r2 := h1.eq (h2.iff e.symm)
  rcases h2 with ⟨h3, -⟩ | ⟨h3, -⟩
  · exact Or.inl ⟨h3, by rw [updL0, e1, h3]; decide +kernel⟩
  · exact Or.inr ⟨h3, by rw [updL0, e1, h3]; decide +kernel⟩
