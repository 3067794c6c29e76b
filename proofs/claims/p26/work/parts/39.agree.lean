/-! from the other claim: congruences -/
theorem dif_cm (a p q : Nat) : dif (dif a p) q = dif (dif a q) p := by
  unfold dif
  rw [Nat.and_assoc, Nat.and_assoc, Nat.and_comm (p ^^^ 4294967295)]
theorem wkN_mt {S S' : zS} {f : Nat → Int32} {g : Nat} (h1 : ∀ j, pS S j ↔ pS S' j) (h2 : ∀ j, pL S f j ↔ pL S' f j) (h3 : ∀ s j, pO S s j ↔ pO S' s j) : ∀ n, wkN S f g n = wkN S' f g n
  | 0 => rfl
  | n + 1 => by
    show wks S f g (wkN S f g n) (n % 8) = wks S' f g (wkN S' f g n) (n % 8)
    rw [wkN_mt h1 h2 h3 n]
    unfold wks
    rw [h1, h2, h3]
theorem zSc_up {S : zS} {sc : Nat → Nat} {k j : Nat} (h : zSc S sc) (h8 : 8 ≤ j) (h16 : j ≤ 16) : zSc (va_up S 14 (upd (S 14) k (nI j))) (scU sc k j) := by
  intro i hi
  rw [va_up_self]
  unfold upd scU
  by_cases e : i = k
  · rw [if_pos e, if_pos e]; exact ⟨rfl, h8, h16⟩
  · rw [if_neg e, if_neg e]; exact h i hi
/-! what both sides keep -/
def Ag (S S' : zS) : Prop := ∀ k, k ≤ 18 → S k = S' k
section
variable {S S' : zS} {x y z s : Nat} {e f g : Nat → Int32}
theorem Ag_T3 : Ag (T3 S x y z s e) S := fun k hk => by
  unfold T3
  rw [up_n (by omega), up_n (by omega), up_n (by omega)]
theorem Ag_M2 : Ag (va_up (va_up S 22 f) 23 g) S := fun k hk => by rw [up_n (by omega), up_n (by omega)]
theorem mt_ag (h : Ag S S') (x y z s j : Nat) : mt S x y z s j ↔ mt S' x y z s j := by
  unfold mt pS pL pO pB
  rw [h 0 (by omega), h 1 (by omega), h 2 (by omega), h 3 (by omega), h 4 (by omega), h 5 (by omega), h 6 (by omega), h 14 (by omega)]
theorem wk_ag (h : Ag S S') (f : Nat → Int32) (s n : Nat) : wkN S f s n = wkN S' f s n := by
  refine wkN_mt (fun j => ?_) (fun j => ?_) (fun s j => ?_) n
  · unfold pS; rw [h 0 (by omega), h 1 (by omega), h 14 (by omega)]
  · unfold pL; rw [h 2 (by omega), h 3 (by omega)]
  · unfold pO; rw [h 4 (by omega)]
theorem bnS_ag (h : Ag S S') (w : Nat) (v k : Int32) : ∀ j, bnS S w v k j = bnS S' w v k j
  | 0 => rfl
  | j + 1 => by
    show zif (bnC S w v k j ∧ (k = 0 ∨ S 9 j < 0)) (bnS S w v k j + S 9 j) (bnS S w v k j) = zif (bnC S' w v k j ∧ (k = 0 ∨ S' 9 j < 0)) (bnS S' w v k j + S' 9 j) (bnS S' w v k j)
    rw [bnS_ag h w v k j]
    unfold bnC
    rw [h 7 (by omega), h 8 (by omega), h 9 (by omega)]
theorem bnG_ag (h : Ag S S') (w : Nat) (v k : Int32) : ∀ j, bnG S w v k j = bnG S' w v k j
  | 0 => rfl
  | j + 1 => by
    show zif (bnC S w v k j ∧ ¬ (k = 0 ∨ S 9 j < 0)) (if bnG S w v k j < S 9 j then S 9 j else bnG S w v k j) (bnG S w v k j) = zif (bnC S' w v k j ∧ ¬ (k = 0 ∨ S' 9 j < 0)) (if bnG S' w v k j < S' 9 j then S' 9 j else bnG S' w v k j) (bnG S' w v k j)
    rw [bnG_ag h w v k j]
    unfold bnC
    rw [h 7 (by omega), h 8 (by omega), h 9 (by omega)]
theorem bn_ag (h : Ag S S') (w : Nat) (v k : Int32) : bn S w v k = bn S' w v k := by
  unfold bn; rw [bnS_ag h, bnG_ag h]
theorem ch_ag (h : Ag S S') (v : Int32) : ∀ k, ch S v k = ch S' v k
  | 0 => rfl
  | k + 1 => by
    show (if ch S v k = -1 then -1 else S 13 (ch S v k).toNatClampNeg) = (if ch S' v k = -1 then -1 else S' 13 (ch S' v k).toNatClampNeg)
    rw [ch_ag h v k, h 13 (by omega)]
theorem vl_ag (h : Ag S S') (f : Nat → Int32) (w : Nat) : ∀ (m : Nat) (c : Int32), vl S f w m c = vl S' f w m c
  | 0, _ => rfl
  | m + 1, c => by
    show (if c = -1 then nI 0 else S 10 c.toNatClampNeg + md S (S 11 c.toNatClampNeg) + lvv f (S 12 c.toNatClampNeg) + hlf (vl S f w m (S 13 c.toNatClampNeg)) + bn S w c (nI 0) + bn S w c (nI 1) + bn S w c (nI 2) + bn S w c (nI 3)) = (if c = -1 then nI 0 else S' 10 c.toNatClampNeg + md S' (S' 11 c.toNatClampNeg) + lvv f (S' 12 c.toNatClampNeg) + hlf (vl S' f w m (S' 13 c.toNatClampNeg)) + bn S' w c (nI 0) + bn S' w c (nI 1) + bn S' w c (nI 2) + bn S' w c (nI 3))
    unfold md
    rw [vl_ag h f w m, h 10 (by omega), h 11 (by omega), h 12 (by omega), h 13 (by omega), h 14 (by omega), bn_ag h, bn_ag h, bn_ag h, bn_ag h]
theorem opN_ag (h : Ag S S') (x y z G : Nat) : ∀ j, opN S x y z G j = opN S' x y z G j
  | 0 => rfl
  | j + 1 => by
    show zif (mt S x y z G j) (opN S x y z G j ||| 2 ^ j) (opN S x y z G j) = zif (mt S' x y z G j) (opN S' x y z G j ||| 2 ^ j) (opN S' x y z G j)
    rw [opN_ag h x y z G j, mt_ag h]
theorem faN_ag (h : Ag S S') (f : Nat → Int32) (G k j : Nat) : faN S f G k j = faN S' f G k j := by
  show dif (dif (wkN S f G 64) (wkN S f (exN G k j) 64)) (2 ^ k) = dif (dif (wkN S' f G 64) (wkN S' f (exN G k j) 64)) (2 ^ k)
  rw [wk_ag h, wk_ag h]
end
/-- how many of the first m levels are of calling c -/
def ctk (tk : Nat → Nat) : Nat → Nat → Nat
  | 0, _ => 0
  | m + 1, c => ctk tk m c + if tk m = c then 1 else 0
/-- what holds of the state between calls -/
def zIv (S : zS) (sc tk : Nat → Nat) (m G : Nat) : Prop := zI S ∧ zSc S sc ∧ cs4 sc ≤ 20 ∧ S 17 0 = nI m ∧ m ≤ 8 ∧ S 18 0 = nI G ∧ G < 256 ∧ (∀ j, j < m → tk j < 3 ∧ S 16 j = nI (tk j)) ∧ S 15 = l3 (ctk tk m 0) (ctk tk m 1) (ctk tk m 2)
theorem ctk_sum {tk : Nat → Nat} : ∀ m, (∀ j, j < m → tk j < 3) → ctk tk m 0 + ctk tk m 1 + ctk tk m 2 = m
  | 0, _ => rfl
  | m + 1, h => by
    have ih := ctk_sum m (fun j hj => h j (by omega))
    have h3 := h m (by omega)
    show (ctk tk m 0 + if tk m = 0 then 1 else 0) + (ctk tk m 1 + if tk m = 1 then 1 else 0) + (ctk tk m 2 + if tk m = 2 then 1 else 0) = m + 1
    rcases (show tk m = 0 ∨ tk m = 1 ∨ tk m = 2 by omega) with e | e | e <;> rw [e] <;> simp <;> omega
theorem ctk_congr {tk tk' : Nat → Nat} {c : Nat} : ∀ m, (∀ j, j < m → tk j = tk' j) → ctk tk m c = ctk tk' m c
  | 0, _ => rfl
  | m + 1, h => by
    show ctk tk m c + _ = ctk tk' m c + _
    rw [ctk_congr m (fun j hj => h j (by omega)), h m (by omega)]
section
variable {S : zS} {sc tk : Nat → Nat} {m G : Nat}
theorem Iv_00 : zIv S00 (fun _ => 8) (fun _ => 0) 0 0 := by
  refine ⟨⟨?_, ?_, ?_, ?_, ?_, ?_, ?_, ?_⟩, fun j hj => ⟨rfl, Nat.le_refl 8, Nat.le_of_ble_eq_true rfl⟩, Nat.le_of_ble_eq_true rfl, rfl, Nat.zero_le 8, rfl, Nat.le_of_ble_eq_true rfl, fun j hj => absurd hj (Nat.not_lt_zero j), ?_⟩
  all_goals first
    | exact fun j hj => Or.inl rfl
    | exact l3_000.symm
theorem upd_all {f : Nat → Int32} {P : Int32 → Prop} {n k : Nat} {v : Int32} (h : ∀ j, j < n → P (f j)) (hv : P v) : ∀ j, j < n → P (upd f k v j) := by
  intro j hj
  unfold upd
  by_cases e : j = k
  · rw [if_pos e]; exact hv
  · rw [if_neg e]; exact h j hj
theorem Iv_nd {k : Nat} {g ab s ca lv ot : Int32} (h : zIv S sc tk m G) (h1 : nd1 g ab ca ot) : zIv (ndS S k ab s ca lv ot) sc tk m G := by
  obtain ⟨⟨a0, a2, a4, a5, a7, a11, a12, a13⟩, h⟩ := h
  exact ⟨⟨upd_all (P := fun v => zo v 4) a0 h1.2.1, upd_all (P := fun v => zo v 3) a2 h1.2.2.1, upd_all (P := fun v => zo v 8) a4 h1.2.2.2, a5, a7, a11, a12, a13⟩, h⟩
theorem Iv_br {k : Nat} {g ca lv : Int32} (h : zIv S sc tk m G) (h1 : br1 g ca) : zIv (brS S k ca lv) sc tk m G := by
  obtain ⟨⟨a0, a2, a4, a5, a7, a11, a12, a13⟩, h⟩ := h
  exact ⟨⟨a0, a2, a4, upd_all (P := fun v => zo v 3) a5 h1.2, a7, a11, a12, a13⟩, h⟩
theorem Iv_bo {k : Nat} {g v kd i : Int32} (h : zIv S sc tk m G) (h1 : bo1 g v) : zIv (boS S k v kd i) sc tk m G := by
  obtain ⟨⟨a0, a2, a4, a5, a7, a11, a12, a13⟩, h⟩ := h
  exact ⟨⟨a0, a2, a4, a5, upd_all (P := fun v => zo v 6) a7 h1.2, a11, a12, a13⟩, h⟩
theorem Iv_va {k : Nat} {v i ab ca ot : Int32} (h : zIv S sc tk m G) (h1 : va1 v ab ca ot) : zIv (vaS S k i ab ca ot) sc tk m G := by
  obtain ⟨⟨a0, a2, a4, a5, a7, a11, a12, a13⟩, h⟩ := h
  exact ⟨⟨a0, a2, a4, a5, a7, upd_all (P := fun v => zo v 4) a11 h1.2.1, upd_all (P := fun v => zo v 3) a12 h1.2.2.1, upd_all (P := fun v => zo v 6) a13 h1.2.2.2⟩, h⟩
theorem Iv_sc {k j : Nat} (h : zIv S sc tk m G) (h8 : 8 ≤ j) (h16 : j ≤ 16) (hc : cs4 (scU sc k j) ≤ 20) : zIv (va_up S 14 (upd (S 14) k (nI j))) (scU sc k j) tk m G :=
  ⟨h.1, zSc_up h.2.1 h8 h16, hc, h.2.2.2⟩
theorem l3_up {x y z k : Nat} (hk : k < 3) : ∀ i, i < 3 → upd (l3 x y z) k (l3 x y z k + nI 1) i = l3 (x + if k = 0 then 1 else 0) (y + if k = 1 then 1 else 0) (z + if k = 2 then 1 else 0) i := by
  intro i hi
  unfold upd l3
  rcases (show k = 0 ∨ k = 1 ∨ k = 2 by omega) with rfl | rfl | rfl <;> rcases (show i = 0 ∨ i = 1 ∨ i = 2 by omega) with rfl | rfl | rfl <;> simp [nI_add]
theorem Iv_gift {G' : Nat} (h : zIv S sc tk m G) (hG : G' < 256) : zIv (va_up S 18 (fun _ => nI G')) sc tk m G' :=
  ⟨h.1, h.2.1, h.2.2.1, h.2.2.2.1, h.2.2.2.2.1, rfl, hG, h.2.2.2.2.2.2.2.1, h.2.2.2.2.2.2.2.2⟩
theorem Iv_clear (h : zIv S sc tk m G) : zIv (va_up (va_up (va_up S 18 (fun _ => nI 0)) 15 (fun _ => nI 0)) 17 (fun _ => nI 0)) sc tk 0 0 :=
  ⟨h.1, h.2.1, h.2.2.1, rfl, by decide, rfl, by decide, fun j hj => absurd hj (Nat.not_lt_zero j), l3_000.symm⟩
theorem l3_at {x y z k : Nat} (hk : k < 3) : l3 x y z k = nI (if k = 0 then x else if k = 1 then y else z) := by
  unfold l3
  rcases (show k = 0 ∨ k = 1 ∨ k = 2 by omega) with rfl | rfl | rfl <;> simp
theorem l3_dn {x y z x' y' z' k : Nat} (hk : k < 3) (hx : x = x' + if k = 0 then 1 else 0) (hy : y = y' + if k = 1 then 1 else 0) (hz : z = z' + if k = 2 then 1 else 0) : ∀ i, i < 3 → upd (l3 x y z) k (l3 x y z k + (-1)) i = l3 x' y' z' i := by
  intro i hi
  unfold upd
  by_cases e : i = k
  · rw [if_pos e, e, l3_at hk, l3_at hk]
    rcases (show k = 0 ∨ k = 1 ∨ k = 2 by omega) with rfl | rfl | rfl
    · rw [if_pos rfl] at hx
      rw [if_pos rfl, if_pos rfl, hx]; exact pk_m1 _
    · rw [if_pos rfl] at hy
      rw [if_neg (by decide), if_pos rfl, if_neg (by decide), if_pos rfl, hy]; exact pk_m1 _
    · rw [if_pos rfl] at hz
      rw [if_neg (by decide), if_neg (by decide), if_neg (by decide), if_neg (by decide), hz]; exact pk_m1 _
  · rw [if_neg e, l3_at hi, l3_at hi]
    congr 1
    rcases (show i = 0 ∨ i = 1 ∨ i = 2 by omega) with rfl | rfl | rfl
    · rw [if_neg (fun q => e q.symm)] at hx
      rw [if_pos rfl, if_pos rfl, hx]; rfl
    · rw [if_neg (fun q => e q.symm)] at hy
      rw [if_neg (by decide), if_pos rfl, if_neg (by decide), if_pos rfl, hy]; rfl
    · rw [if_neg (fun q => e q.symm)] at hz
      rw [if_neg (by decide), if_neg (by decide), if_neg (by decide), if_neg (by decide), hz]; rfl
theorem Iv_take {k : Nat} (h : zIv S sc tk m G) (hm : m < 8) (hk : k < 3) : zIv (va_up (va_up (va_up S 16 (upd (S 16) m (nI k))) 17 (fun _ => nI (m + 1))) 15 (l3 (ctk tk m 0 + if k = 0 then 1 else 0) (ctk tk m 1 + if k = 1 then 1 else 0) (ctk tk m 2 + if k = 2 then 1 else 0))) sc (fun j => if j = m then k else tk j) (m + 1) G := by
  obtain ⟨h1, h2, h3, h4, h5, h6, h7, h8, h9⟩ := h
  refine ⟨h1, h2, h3, rfl, hm, h6, h7, fun j hj => ?_, ?_⟩
  · show (if j = m then k else tk j) < 3 ∧ upd (S 16) m (nI k) j = nI (if j = m then k else tk j)
    unfold upd
    by_cases e : j = m
    · rw [if_pos e, if_pos e]; exact ⟨hk, rfl⟩
    · rw [if_neg e, if_neg e]; exact h8 j (by omega)
  · have e : ∀ c, ctk (fun j => if j = m then k else tk j) (m + 1) c = ctk tk m c + if k = c then 1 else 0 := fun c => by
      show ctk (fun j => if j = m then k else tk j) m c + (if (if m = m then k else tk m) = c then 1 else 0) = _
      rw [if_pos rfl, ctk_congr (tk' := tk) m (fun j hj => if_neg (by omega))]
    rw [e, e, e]; rfl
theorem Iv_lose (h : zIv S sc tk m G) (hm : 0 < m) : zIv (va_up (va_up S 17 (fun _ => nI (m - 1))) 15 (l3 (ctk tk (m - 1) 0) (ctk tk (m - 1) 1) (ctk tk (m - 1) 2))) sc tk (m - 1) G := by
  obtain ⟨h1, h2, h3, h4, h5, h6, h7, h8, h9⟩ := h
  exact ⟨h1, h2, h3, rfl, by omega, h6, h7, fun j hj => h8 j (by omega), rfl⟩
end
