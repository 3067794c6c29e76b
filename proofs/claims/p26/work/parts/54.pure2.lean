/-! values: what the law finds by itself -/
theorem i_alc (a b c : Int32) : a + (b + c) = b + (a + c) := by rw [← Int32.add_assoc, Int32.add_comm a b, Int32.add_assoc]
/-- more places than values: two are the same -/
theorem php : ∀ (n : Nat) (f : Nat → Nat), (∀ i, i ≤ n → f i < n) → ∃ i j, i < j ∧ j ≤ n ∧ f i = f j
  | 0, f, h => absurd (h 0 (Nat.le_refl 0)) (Nat.not_lt_zero _)
  | n + 1, f, h => by
    apply Classical.byContradiction
    intro hc
    have hne : ∀ i, i ≤ n → f i ≠ f (n + 1) := fun i hi e => hc ⟨i, n + 1, by omega, Nat.le_refl _, e⟩
    obtain ⟨i, j, h1, h2, h3⟩ := php n (fun i => if f (n + 1) < f i then f i - 1 else f i) (fun i hi => by
      have a1 := h i (by omega)
      have a2 := h (n + 1) (Nat.le_refl _)
      have a3 := hne i hi
      show (if f (n + 1) < f i then f i - 1 else f i) < n
      split <;> omega)
    have b1 := hne i (by omega)
    have b2 := hne j h2
    refine hc ⟨i, j, h1, by omega, ?_⟩
    have h3' : (if f (n + 1) < f i then f i - 1 else f i) = (if f (n + 1) < f j then f j - 1 else f j) := h3
    split at h3' <;> split at h3' <;> omega
section
variable {S : zS}
theorem ch_sh {v : Nat} (hv : v < 2 ^ 31) : ∀ k, ch S (nI v) (k + 1) = ch S (S 13 v) k
  | 0 => by
    show (if nI v = -1 then -1 else S 13 (nI v).toNatClampNeg) = S 13 v
    rw [if_neg (zn_m1 v hv), nI_clamp hv]
  | k + 1 => by
    show (if ch S (nI v) (k + 1) = -1 then -1 else S 13 (ch S (nI v) (k + 1)).toNatClampNeg) = (if ch S (S 13 v) k = -1 then -1 else S 13 (ch S (S 13 v) k).toNatClampNeg)
    rw [ch_sh hv k]
theorem ch_det {v : Int32} {i j : Nat} (h : ch S v i = ch S v j) : ∀ m, ch S v (i + m) = ch S v (j + m)
  | 0 => h
  | m + 1 => by
    show (if ch S v (i + m) = -1 then -1 else S 13 (ch S v (i + m)).toNatClampNeg) = (if ch S v (j + m) = -1 then -1 else S 13 (ch S v (j + m)).toNatClampNeg)
    rw [ch_det h m]
theorem ch_back {v : Int32} {i j : Nat} (hij : i ≤ j) (h : ch S v i = -1) : ch S v j = -1 := by
  have := ch_m h (j - i)
  rwa [show i + (j - i) = j by omega] at this
/-- a chain that ends ends within six links -/
theorem ch_7 (hI : ∀ j, j < 6 → zo (S 13 j) 6) {v : Int32} (hv : zo v 6) (h : ch S v 7 = -1) : ch S v 6 = -1 := by
  apply Classical.byContradiction
  intro hc
  have hk : ∀ k, k ≤ 6 → ∃ j, j < 6 ∧ ch S v k = nI j := fun k hk => (ch_zo hI hv k).elim (fun e => absurd (ch_back hk e) hc) id
  obtain ⟨i, j, h1, h2, h3⟩ := php 6 (fun k => (ch S v k).toNatClampNeg) (fun k hk9 => by
    obtain ⟨j, hj, e⟩ := hk k hk9
    show (ch S v k).toNatClampNeg < 6
    rw [e, nI_clamp (by omega)]; exact hj)
  have h3' : (ch S v i).toNatClampNeg = (ch S v j).toNatClampNeg := h3
  obtain ⟨p, hp, e1⟩ := hk i (by omega)
  obtain ⟨q, hq, e2⟩ := hk j h2
  rw [e1, e2, nI_clamp (by omega), nI_clamp (by omega)] at h3'
  have e3 : ch S v i = ch S v j := by rw [e1, e2, h3']
  have e4 := ch_det e3 (7 - j)
  rw [show j + (7 - j) = 7 by omega, h] at e4
  exact hc (ch_back (by omega) e4)
/-- a value that goes by another one is in a ring just if that one is -/
theorem ring_iff (hI : zI S) {v j : Nat} (hv : v < 6) (hj : j < 6) (e : S 13 v = nI j) : ch S (nI v) 6 = -1 ↔ ch S (nI j) 6 = -1 := by
  have h13 := hI.2.2.2.2.2.2.2
  have e7 : ch S (nI v) 7 = ch S (nI j) 6 := by rw [ch_sh (by omega) 6, e]
  constructor
  · intro h; rw [← e7]; exact ch_back (by decide : 6 ≤ 7) h
  · intro h; exact ch_7 h13 (Or.inr ⟨v, hv, rfl⟩) (e7.trans h)
theorem ring_self {v : Nat} (hv : v < 6) (e : S 13 v = nI v) : ¬ ch S (nI v) 6 = -1 := by
  have key : ∀ k, ch S (nI v) k = nI v := by
    intro k
    induction k with
    | zero => rfl
    | succ k ih => rw [ch_sh (by omega) k, e]; exact ih
  rw [key 6]; exact zn_m1 v (by omega)
theorem ring_none {v : Nat} (hv : v < 6) (e : S 13 v = -1) : ch S (nI v) 6 = -1 := by
  refine ch_back (by decide : 1 ≤ 6) ?_
  rw [ch_sh (by omega) 0, e]; rfl
/-- links behind the end change nothing -/
theorem vl_more (hI : ∀ j, j < 6 → zo (S 13 j) 6) {f : Nat → Int32} {w : Nat} : ∀ (k : Nat) (c : Int32), zo c 6 → ch S c k = -1 → vl S f w k c = vl S f w (k + 1) c
  | 0, c, _, h => by
    have h' : c = -1 := h
    subst h'
    show nI 0 = (if (-1 : Int32) = -1 then nI 0 else _)
    rw [if_pos rfl]
  | k + 1, c, hz, h => by
    rcases hz with rfl | ⟨j, hj, rfl⟩
    · show (if (-1 : Int32) = -1 then nI 0 else _) = (if (-1 : Int32) = -1 then nI 0 else _)
      rw [if_pos rfl, if_pos rfl]
    · have e := nI_clamp (by omega : j < 2 ^ 31)
      have ih := vl_more hI (f := f) (w := w) k (S 13 j) (hI j hj) (by rw [← ch_sh (by omega) k]; exact h)
      show (if nI j = -1 then nI 0 else S 10 (nI j).toNatClampNeg + md S (S 11 (nI j).toNatClampNeg) + lvv f (S 12 (nI j).toNatClampNeg) + hlf (vl S f w k (S 13 (nI j).toNatClampNeg)) + bn S w (nI j) (nI 0) + bn S w (nI j) (nI 1) + bn S w (nI j) (nI 2) + bn S w (nI j) (nI 3)) = (if nI j = -1 then nI 0 else S 10 (nI j).toNatClampNeg + md S (S 11 (nI j).toNatClampNeg) + lvv f (S 12 (nI j).toNatClampNeg) + hlf (vl S f w (k + 1) (S 13 (nI j).toNatClampNeg)) + bn S w (nI j) (nI 0) + bn S w (nI j) (nI 1) + bn S w (nI j) (nI 2) + bn S w (nI j) (nI 3))
      rw [e, ih]
/-- base and bonuses of the first kinds -/
noncomputable def vsN (S : zS) (w v : Nat) : Nat → Int32
  | 0 => S 10 v
  | k + 1 => vsN S w v k + bn S w (nI v) (nI k)
theorem vl_sum {f : Nat → Int32} {w v : Nat} (hv : v < 6) {q : Int32} (hq : vl S f w 5 (S 13 v) = q) : vl S f w 6 (nI v) = vsN S w v 4 + md S (S 11 v) + lvv f (S 12 v) + hlf q := by
  show (if nI v = -1 then nI 0 else S 10 (nI v).toNatClampNeg + md S (S 11 (nI v).toNatClampNeg) + lvv f (S 12 (nI v).toNatClampNeg) + hlf (vl S f w 5 (S 13 (nI v).toNatClampNeg)) + bn S w (nI v) (nI 0) + bn S w (nI v) (nI 1) + bn S w (nI v) (nI 2) + bn S w (nI v) (nI 3)) = S 10 v + bn S w (nI v) (nI 0) + bn S w (nI v) (nI 1) + bn S w (nI v) (nI 2) + bn S w (nI v) (nI 3) + md S (S 11 v) + lvv f (S 12 v) + hlf q
  rw [if_neg (zn_m1 v (by omega)), nI_clamp (by omega), hq]
  simp only [Int32.add_assoc, Int32.add_comm, i_alc]
theorem vl_sum0 {f : Nat → Int32} {w v : Nat} (hv : v < 6) (e : S 13 v = -1) : vl S f w 6 (nI v) = vsN S w v 4 + md S (S 11 v) + lvv f (S 12 v) + hlf (nI 0) := by
  refine vl_sum hv ?_
  rw [e]
  show (if (-1 : Int32) = -1 then nI 0 else _) = nI 0
  rw [if_pos rfl]
theorem vl_sum1 (hI : zI S) {f : Nat → Int32} {w v j : Nat} (hv : v < 6) (hj : j < 6) (e : S 13 v = nI j) (hr : ch S (nI v) 6 = -1) : vl S f w 6 (nI v) = vsN S w v 4 + md S (S 11 v) + lvv f (S 12 v) + hlf (vl S f w 6 (nI j)) := by
  refine vl_sum hv ?_
  rw [e]
  refine vl_more hI.2.2.2.2.2.2.2 5 (nI j) (Or.inr ⟨j, hj, rfl⟩) ?_
  rw [← e, ← ch_sh (by omega) 5]; exact hr
/-! bonuses -/
noncomputable def blN (S : zS) (w : Nat) (v k : Int32) : Nat → Int32
  | 0 => nI 0
  | j + 1 => zif (bnC S w v k j) (blN S w v k j + (if S 9 j < 0 then S 9 j else nI 0)) (blN S w v k j)
noncomputable def abN (S : zS) (w : Nat) (v k : Int32) : Nat → Int32
  | 0 => nI 0
  | j + 1 => zif (bnC S w v k j) (abN S w v k j + (if 0 < S 9 j then S 9 j else nI 0)) (abN S w v k j)
noncomputable def grN (S : zS) (w : Nat) (v k : Int32) : Nat → Int32
  | 0 => nI 0
  | j + 1 => zif (bnC S w v k j) (if grN S w v k j < S 9 j then S 9 j else grN S w v k j) (grN S w v k j)
theorem n0 : nI 0 = (0 : Int32) := rfl
theorem bn_due0 {w : Nat} {v : Int32} : bn S w v (nI 0) = blN S w v (nI 0) 8 + abN S w v (nI 0) 8 := by
  have key : ∀ j, bnS S w v (nI 0) j = blN S w v (nI 0) j + abN S w v (nI 0) j ∧ bnG S w v (nI 0) j = nI 0 := by
    intro j
    induction j with
    | zero => exact ⟨rfl, rfl⟩
    | succ j ih =>
      obtain ⟨i1, i2⟩ := ih
      show zif (bnC S w v (nI 0) j ∧ (nI 0 = 0 ∨ S 9 j < 0)) (bnS S w v (nI 0) j + S 9 j) (bnS S w v (nI 0) j) = zif (bnC S w v (nI 0) j) (blN S w v (nI 0) j + (if S 9 j < 0 then S 9 j else nI 0)) (blN S w v (nI 0) j) + zif (bnC S w v (nI 0) j) (abN S w v (nI 0) j + (if 0 < S 9 j then S 9 j else nI 0)) (abN S w v (nI 0) j) ∧ zif (bnC S w v (nI 0) j ∧ ¬ (nI 0 = 0 ∨ S 9 j < 0)) (if bnG S w v (nI 0) j < S 9 j then S 9 j else bnG S w v (nI 0) j) (bnG S w v (nI 0) j) = nI 0
      by_cases c : bnC S w v (nI 0) j
      · rw [zif_t ⟨c, Or.inl rfl⟩, zif_t c, zif_t c, zif_f (fun q => q.2 (Or.inl rfl))]
        refine ⟨?_, i2⟩
        rw [i1]
        rcases Int32.lt_or_le (S 9 j) 0 with h | h
        · rw [if_pos h, if_neg (Int32.not_lt.mpr (Int32.le_of_lt h)), n0, Int32.add_zero]
          simp only [Int32.add_assoc, Int32.add_comm, i_alc]
        · rw [if_neg (Int32.not_lt.mpr h), n0, Int32.add_zero]
          by_cases h2 : 0 < S 9 j
          · rw [if_pos h2, Int32.add_assoc]
          · rw [if_neg h2, Int32.add_zero]
            have e : S 9 j = 0 := Int32.le_antisymm (Int32.not_lt.mp h2) h
            rw [e, Int32.add_zero]
      · rw [zif_f (fun q => c q.1), zif_f c, zif_f c, zif_f (fun q => c q.1)]
        exact ⟨i1, i2⟩
  obtain ⟨k1, k2⟩ := key 8
  unfold bn
  rw [k1, k2, n0, Int32.add_zero]
theorem grN_pos {w : Nat} {v k : Int32} : ∀ j, 0 ≤ grN S w v k j
  | 0 => Int32.le_refl _
  | j + 1 => by
    have ih := grN_pos (w := w) (v := v) (k := k) j
    show 0 ≤ zif (bnC S w v k j) (if grN S w v k j < S 9 j then S 9 j else grN S w v k j) (grN S w v k j)
    by_cases c : bnC S w v k j
    · rw [zif_t c]
      split
      · exact Int32.le_trans ih (Int32.le_of_lt ‹_›)
      · exact ih
    · rw [zif_f c]; exact ih
theorem bn_due1 {w : Nat} {v k : Int32} (hk : ¬ k = 0) : bn S w v k = blN S w v k 8 + grN S w v k 8 := by
  have key : ∀ j, bnS S w v k j = blN S w v k j ∧ bnG S w v k j = grN S w v k j := by
    intro j
    induction j with
    | zero => exact ⟨rfl, rfl⟩
    | succ j ih =>
      obtain ⟨i1, i2⟩ := ih
      show zif (bnC S w v k j ∧ (k = 0 ∨ S 9 j < 0)) (bnS S w v k j + S 9 j) (bnS S w v k j) = zif (bnC S w v k j) (blN S w v k j + (if S 9 j < 0 then S 9 j else nI 0)) (blN S w v k j) ∧ zif (bnC S w v k j ∧ ¬ (k = 0 ∨ S 9 j < 0)) (if bnG S w v k j < S 9 j then S 9 j else bnG S w v k j) (bnG S w v k j) = zif (bnC S w v k j) (if grN S w v k j < S 9 j then S 9 j else grN S w v k j) (grN S w v k j)
      by_cases c : bnC S w v k j
      · rw [zif_t c, zif_t c]
        rcases Int32.lt_or_le (S 9 j) 0 with h | h
        · rw [zif_t ⟨c, Or.inr h⟩, zif_f (fun q => q.2 (Or.inr h)), if_pos h, if_neg (Int32.not_lt.mpr (Int32.le_trans (Int32.le_of_lt h) (grN_pos j)))]
          exact ⟨by rw [i1], i2⟩
        · have hn : ¬ (k = 0 ∨ S 9 j < 0) := fun q => q.elim hk (Int32.not_lt.mpr h)
          rw [zif_f (fun q => hn q.2), zif_t ⟨c, hn⟩, if_neg (Int32.not_lt.mpr h), n0, Int32.add_zero, i2]
          exact ⟨i1, rfl⟩
      · rw [zif_f (fun q => c q.1), zif_f c, zif_f (fun q => c q.1), zif_f c]
        exact ⟨i1, i2⟩
  obtain ⟨k1, k2⟩ := key 8
  unfold bn
  rw [k1, k2]
/-! modifiers, levels, halves -/
theorem md_neg {c : Int32} (hz : zo c 4) (h : ¬ 0 ≤ c) : md S c = nI 0 := by
  rcases hz with e | ⟨k, hk, e⟩
  · unfold md; rw [if_pos e]; rfl
  · rw [e] at h; exact absurd (nI_pos' (by omega)) h
theorem zo_pos {c : Int32} {m : Nat} (hz : zo c m) (h : 0 ≤ c) : ∃ k, k < m ∧ c = nI k := by
  rcases hz with e | h9
  · rw [e] at h; exact absurd h (by decide)
  · exact h9
theorem md_8 : ∀ j, j < 17 → 8 ≤ j → nI (j / 2) - nI 5 = hlf (nI j - nI 10) := by unfold hlf; decide +kernel
theorem md_sc {sc : Nat → Nat} (h : zSc S sc) {k : Nat} (hk : k < 4) : nI (sc k / 2) - nI 5 = md S (nI k) := by
  obtain ⟨h1, h2, h3⟩ := h k hk
  rw [md_k (by omega), h1]
  exact md_8 _ (by omega) h2
theorem lvv_neg {f : Nat → Int32} {c : Int32} (hz : zo c 3) (h : ¬ 0 ≤ c) : lvv f c = nI 0 := by
  rcases hz with e | ⟨k, hk, e⟩
  · unfold lvv; rw [if_pos e]; rfl
  · rw [e] at h; exact absurd (nI_pos' (by omega)) h
theorem lvv_k {f : Nat → Int32} {k : Nat} (hk : k < 2 ^ 31) : lvv f (nI k) = f k := by unfold lvv; rw [if_neg (zn_m1 k hk), nI_clamp hk]
end
theorem and1_toInt (x : Int32) : (x &&& nI 1).toInt = x.toInt % 2 := by
  have h1 : x &&& nI 1 = nI (x.toBitVec.toNat % 2) := by
    rw [← Nat.and_one_is_mod, ← zn_and]
    congr 1
    apply Int32.toBitVec_inj.mp
    show x.toBitVec = BitVec.ofNat 32 x.toBitVec.toNat
    simp
  rw [h1, nI_toInt (by omega)]
  show _ = x.toBitVec.toInt % 2
  rw [BitVec.toInt_eq_toNat_cond]
  split <;> omega
theorem half_eq (x : Int32) : (x - (x &&& nI 1)) / nI 2 = hlf x := by
  apply Int32.toInt_inj.mp
  have h0 := and1_toInt x
  have hlo := x.minValue_le_toInt
  have hhi := x.toInt_le
  have e : (x - (x &&& nI 1)).toInt = x.toInt - x.toInt % 2 := by
    rw [Int32.toInt_sub, h0]
    have hlo' : -2147483648 ≤ x.toInt := hlo
    have hhi' : x.toInt ≤ 2147483647 := hhi
    unfold Int.bmod
    dsimp only
    split <;> omega
  show ((x - (x &&& nI 1)) / 2).toInt = _
  rw [hlf_div, e, hlf_toInt]
  have : (2 : Int) ∣ x.toInt - x.toInt % 2 := ⟨x.toInt / 2, by omega⟩
  rw [Int.tdiv_eq_ediv_of_dvd this]
  omega
/-- the law's own copies of bonuses and values -/
def LB (S : zS) (fB : Nat → Int32) : Prop := ∀ g, g < 8 → fB (3 * g) = S 7 g ∧ fB (3 * g + 1) = S 8 g ∧ fB (3 * g + 2) = S 9 g
def LV (S : zS) (fV : Nat → Int32) : Prop := ∀ v, v < 6 → fV (4 * v) = S 10 v ∧ fV (4 * v + 1) = S 11 v ∧ fV (4 * v + 2) = S 12 v ∧ fV (4 * v + 3) = S 13 v
