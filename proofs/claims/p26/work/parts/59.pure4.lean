/-! the state between the law's turns -/
abbrev zU : Type := zS × zT × zT × (Nat → Int32) × (Nat → Int32) × (Nat → Int32)
def Gx (S : zS) (p p2 : zT) (fB fV fC : Nat → Int32) (sc tk : Nat → Nat) (x y z G : Nat) : Prop := zKs S sc x y z G ∧ zTk tk (pq p) (x + y + z) ∧ zTk tk (pq p2) (x + y + z) ∧ zCt tk x y z ∧ LB S fB ∧ LV S fV ∧ LC sc (x + y + z) fC
def Gd (u : zU) : Prop := ∃ (sc tk : Nat → Nat) (x y z G : Nat), Gx u.1 u.2.1 u.2.2.1 u.2.2.2.1 u.2.2.2.2.1 u.2.2.2.2.2 sc tk x y z G
abbrev wG (t : ClassId × ClassId × ClassId) (a b : Nat → Nat) (qb qv qc : Nat) (u : zU) : va_W := wA t a b (T6 u.1 u.2.1) (T6 u.1 u.2.2.1) qb qv qc u.2.2.2.1 u.2.2.2.2.1 u.2.2.2.2.2
theorem zo_no {k m : Nat} (hk : k < 2 ^ 31) (hm : m < 2 ^ 31) (h : m ≤ k) : ¬ zo (nI k) m := by
  rintro (e | ⟨j, hj, e⟩)
  · exact zn_m1 k hk e
  · have := zn_inj hk (by omega) e; omega
theorem zo_m2 {m : Nat} (hm : m < 2 ^ 31) : ¬ zo (-2) m := by
  rintro (e | ⟨j, hj, e⟩)
  · exact absurd e (by decide)
  · have h := nI_pos' (show j < 2 ^ 31 by omega)
    rw [← e] at h; exact absurd h (by decide)
theorem zo_n {k m : Nat} (h : k < m) : zo (nI k) m := Or.inr ⟨k, h, rfl⟩
theorem zo_sub1 {k m : Nat} (h : k < m + 1) : zo (nI k - nI 1) m := by
  cases k with
  | zero => exact Or.inl (by decide)
  | succ k => exact Or.inr ⟨k, by omega, by rw [pk_sub (by omega)]; rfl⟩
theorem rg_9 : ∀ k, k < 19 → rg (nI k - nI 9) (-9) (nI 9) := by decide +kernel
theorem rg_50 : ∀ k, k < 101 → rg (nI k - nI 50) (-50) (nI 50) := by decide +kernel
theorem zn_neg3 (a : Nat) (h : a < 2 ^ 31) : ¬ nI a = -1000003 := fun e => by
  have h1 := nI_pos' h
  rw [e] at h1
  exact absurd h1 (by decide)
theorem dif_self {s : Nat} (h : s < 256) : dif s s = 0 := (dif_0 h).mpr sub8_rf
section
variable {S S' : zS} {sc tk : Nat → Nat} {x y z G k j m : Nat} {f : Nat → Int32}
theorem LB_ru (hR : Ru S' S) (h : LB S f) : LB S' f := fun g hg => by rw [hR 7 (by omega), hR 8 (by omega), hR 9 (by omega)]; exact h g hg
theorem LV_ru (hR : Ru S' S) (h : LV S f) : LV S' f := fun g hg => by rw [hR 10 (by omega), hR 11 (by omega), hR 12 (by omega), hR 13 (by omega)]; exact h g hg
/-! rules -/
theorem K_nd {g ab s9 ca lw ot : Int32} (h : zKs S sc x y z G) (h1 : nd1 g ab ca ot) : zKs (ndS S k ab s9 ca lw ot) sc x y z G := by
  obtain ⟨⟨a0, a2, a4, a5, a7, a11, a12, a13⟩, h⟩ := h
  exact ⟨⟨upd_all (P := fun v => zo v 4) a0 h1.2.1, upd_all (P := fun v => zo v 3) a2 h1.2.2.1, upd_all (P := fun v => zo v 8) a4 h1.2.2.2, a5, a7, a11, a12, a13⟩, h⟩
theorem K_br {g ca lw : Int32} (h : zKs S sc x y z G) (h1 : br1 g ca) : zKs (brS S k ca lw) sc x y z G := by
  obtain ⟨⟨a0, a2, a4, a5, a7, a11, a12, a13⟩, h⟩ := h
  exact ⟨⟨a0, a2, a4, upd_all (P := fun v => zo v 3) a5 h1.2, a7, a11, a12, a13⟩, h⟩
theorem K_bo {g v kd i : Int32} (h : zKs S sc x y z G) (h1 : bo1 g v) : zKs (boS S k v kd i) sc x y z G := by
  obtain ⟨⟨a0, a2, a4, a5, a7, a11, a12, a13⟩, h⟩ := h
  exact ⟨⟨a0, a2, a4, a5, upd_all (P := fun v => zo v 6) a7 h1.2, a11, a12, a13⟩, h⟩
theorem K_va {v i ab ca ot : Int32} (h : zKs S sc x y z G) (h1 : va1 v ab ca ot) : zKs (vaS S k i ab ca ot) sc x y z G := by
  obtain ⟨⟨a0, a2, a4, a5, a7, a11, a12, a13⟩, h⟩ := h
  exact ⟨⟨a0, a2, a4, a5, a7, upd_all (P := fun v => zo v 4) a11 h1.2.1, upd_all (P := fun v => zo v 3) a12 h1.2.2.1, upd_all (P := fun v => zo v 6) a13 h1.2.2.2⟩, h⟩
theorem K_sc (h : zKs S sc x y z G) (h8 : 8 ≤ j) (h16 : j ≤ 16) (hc : cs4 (scU sc k j) ≤ 20) : zKs (scS S k j) (scU sc k j) x y z G := ⟨h.1, zSc_up h.2.1 h8 h16, hc, h.2.2.2⟩
theorem LB_nd {ab s9 ca lw ot : Int32} (h : LB S f) : LB (ndS S k ab s9 ca lw ot) f := h
theorem LV_nd {ab s9 ca lw ot : Int32} (h : LV S f) : LV (ndS S k ab s9 ca lw ot) f := h
theorem LB_br {ca lw : Int32} (h : LB S f) : LB (brS S k ca lw) f := h
theorem LV_br {ca lw : Int32} (h : LV S f) : LV (brS S k ca lw) f := h
def bo3 (f : Nat → Int32) (g : Nat) (v k i : Int32) : Nat → Int32 := upd (upd (upd f (3 * g) v) (3 * g + 1) k) (3 * g + 2) i
theorem bo3_0 {g : Nat} {v k i : Int32} : bo3 f g v k i (3 * g) = v := by
  unfold bo3 upd; rw [if_neg (by omega), if_neg (by omega), if_pos rfl]
theorem bo3_1 {g : Nat} {v k i : Int32} : bo3 f g v k i (3 * g + 1) = k := by
  unfold bo3 upd; rw [if_neg (by omega), if_pos rfl]
theorem bo3_2 {g : Nat} {v k i : Int32} : bo3 f g v k i (3 * g + 2) = i := by
  unfold bo3 upd; rw [if_pos rfl]
theorem LB_bo {v kd i : Int32} (h : LB S f) : LB (boS S k v kd i) (bo3 f k v kd i) := fun g hg => by
  show bo3 f k v kd i (3 * g) = upd (S 7) k v g ∧ bo3 f k v kd i (3 * g + 1) = upd (S 8) k kd g ∧ bo3 f k v kd i (3 * g + 2) = upd (S 9) k i g
  by_cases e : g = k
  · subst e
    exact ⟨bo3_0.trans (if_pos rfl).symm, bo3_1.trans (if_pos rfl).symm, bo3_2.trans (if_pos rfl).symm⟩
  · obtain ⟨h1, h2, h3⟩ := h g hg
    unfold bo3 upd
    refine ⟨?_, ?_, ?_⟩
    · rw [if_neg (by omega), if_neg (by omega), if_neg (by omega), if_neg e]; exact h1
    · rw [if_neg (by omega), if_neg (by omega), if_neg (by omega), if_neg e]; exact h2
    · rw [if_neg (by omega), if_neg (by omega), if_neg (by omega), if_neg e]; exact h3
theorem LV_bo {v kd i : Int32} (h : LV S f) : LV (boS S k v kd i) f := h
def va4 (f : Nat → Int32) (w : Nat) (i ab ca ot : Int32) : Nat → Int32 := upd (upd (upd (upd f (4 * w) i) (4 * w + 1) ab) (4 * w + 2) ca) (4 * w + 3) ot
theorem va4_0 {w : Nat} {i ab ca ot : Int32} : va4 f w i ab ca ot (4 * w) = i := by
  unfold va4 upd; rw [if_neg (by omega), if_neg (by omega), if_neg (by omega), if_pos rfl]
theorem va4_1 {w : Nat} {i ab ca ot : Int32} : va4 f w i ab ca ot (4 * w + 1) = ab := by
  unfold va4 upd; rw [if_neg (by omega), if_neg (by omega), if_pos rfl]
theorem va4_2 {w : Nat} {i ab ca ot : Int32} : va4 f w i ab ca ot (4 * w + 2) = ca := by
  unfold va4 upd; rw [if_neg (by omega), if_pos rfl]
theorem va4_3 {w : Nat} {i ab ca ot : Int32} : va4 f w i ab ca ot (4 * w + 3) = ot := by
  unfold va4 upd; rw [if_pos rfl]
theorem LV_va {i ab ca ot : Int32} (h : LV S f) : LV (vaS S k i ab ca ot) (va4 f k i ab ca ot) := fun w hw => by
  show va4 f k i ab ca ot (4 * w) = upd (S 10) k i w ∧ va4 f k i ab ca ot (4 * w + 1) = upd (S 11) k ab w ∧ va4 f k i ab ca ot (4 * w + 2) = upd (S 12) k ca w ∧ va4 f k i ab ca ot (4 * w + 3) = upd (S 13) k ot w
  by_cases e : w = k
  · subst e
    exact ⟨va4_0.trans (if_pos rfl).symm, va4_1.trans (if_pos rfl).symm, va4_2.trans (if_pos rfl).symm, va4_3.trans (if_pos rfl).symm⟩
  · obtain ⟨h1, h2, h3, h4⟩ := h w hw
    unfold va4 upd
    refine ⟨?_, ?_, ?_, ?_⟩
    · rw [if_neg (by omega), if_neg (by omega), if_neg (by omega), if_neg (by omega), if_neg e]; exact h1
    · rw [if_neg (by omega), if_neg (by omega), if_neg (by omega), if_neg (by omega), if_neg e]; exact h2
    · rw [if_neg (by omega), if_neg (by omega), if_neg (by omega), if_neg (by omega), if_neg e]; exact h3
    · rw [if_neg (by omega), if_neg (by omega), if_neg (by omega), if_neg (by omega), if_neg e]; exact h4
theorem LB_va {i ab ca ot : Int32} (h : LB S f) : LB (vaS S k i ab ca ot) f := h
/-! scores -/
theorem LC_sc (h : LC sc m f) (hk : k < 4) : LC (scU sc k j) m (upd f k (nI j)) := by
  refine ⟨fun i hi => ?_, ?_⟩
  · unfold upd scU
    by_cases e : i = k
    · rw [if_pos e, if_pos e]
    · rw [if_neg e, if_neg e]; exact h.1 i hi
  · unfold upd; rw [if_neg (by omega)]; exact h.2
theorem LC_sc0 (h : LC sc m f) (hk : k < 4) : LC sc m (upd f k (nI (sc k))) := by
  refine ⟨fun i hi => ?_, ?_⟩
  · unfold upd
    by_cases e : i = k
    · rw [if_pos e, e]
    · rw [if_neg e]; exact h.1 i hi
  · unfold upd; rw [if_neg (by omega)]; exact h.2
theorem LC_m {m' : Nat} (h : LC sc m f) : LC sc m' (upd f 4 (nI m')) := by
  refine ⟨fun i hi => ?_, ?_⟩
  · unfold upd; rw [if_neg (by omega)]; exact h.1 i hi
  · unfold upd; rw [if_pos rfl]
/-! levels -/
theorem gx_sum (hk : k < 3) : gx k x + gy k y + gz k z = x + y + z + 1 := by
  rcases (show k = 0 ∨ k = 1 ∨ k = 2 by omega) with rfl | rfl | rfl
  · show (x + 1) + y + z = _; omega
  · show x + (y + 1) + z = _; omega
  · show x + y + (z + 1) = _; omega
theorem gx_le : x ≤ gx k x := by unfold gx; split <;> omega
theorem gy_le : y ≤ gy k y := by unfold gy; split <;> omega
theorem gz_le : z ≤ gz k z := by unfold gz; split <;> omega
theorem K_tk (h : zKs S sc x y z G) (hk : k < 3) (hm : x + y + z < 8) : zKs (tkS S k x y z) sc (gx k x) (gy k y) (gz k z) G :=
  ⟨h.1, h.2.1, h.2.2.1, by rw [gx_sum hk]; rfl, by rw [gx_sum hk]; omega, h.2.2.2.2.2.1, h.2.2.2.2.2.2.1, rfl⟩
theorem Ru_tk : Ru (tkS S k x y z) S := fun i hi => by
  unfold tkS
  rw [up_n (by omega), up_n (by omega)]
theorem Ru_lv : Ru (lvS S x y z) S := fun i hi => by
  unfold lvS
  rw [up_n (by omega), up_n (by omega)]
/-- what was taken, a level more -/
def tkU (tk : Nat → Nat) (m k : Nat) : Nat → Nat := fun j => if j = m then k else tk j
theorem Tk_tk {q : Nat → Int32} (h : zTk tk q (x + y + z)) (hk : k < 3) : zTk (tkU tk (x + y + z) k) (upd q (x + y + z) (nI k)) (gx k x + gy k y + gz k z) := fun j hj => by
  rw [gx_sum hk] at hj
  unfold tkU upd
  by_cases e : j = x + y + z
  · rw [if_pos e, if_pos e]; exact ⟨hk, rfl⟩
  · rw [if_neg e, if_neg e]; exact h j (by omega)
theorem ctk_U {c : Nat} : ctk (tkU tk m k) (m + 1) c = ctk tk m c + if k = c then 1 else 0 := by
  show ctk (tkU tk m k) m c + (if (tkU tk m k) m = c then 1 else 0) = _
  have e : tkU tk m k m = k := if_pos rfl
  rw [e, ctk_congr (tk := tkU tk m k) (tk' := tk) m (fun j hj => if_neg (by omega))]
theorem Ct_tk (h : zCt tk x y z) (hk : k < 3) : zCt (tkU tk (x + y + z) k) (gx k x) (gy k y) (gz k z) := by
  obtain ⟨h1, h2, h3⟩ := h
  unfold zCt
  rw [gx_sum hk, ctk_U, ctk_U, ctk_U, ← h1, ← h2, ← h3]
  rcases (show k = 0 ∨ k = 1 ∨ k = 2 by omega) with rfl | rfl | rfl
  · exact ⟨rfl, rfl, rfl⟩
  · exact ⟨rfl, rfl, rfl⟩
  · exact ⟨rfl, rfl, rfl⟩
/-- the last level, taken back -/
theorem lose_ex {q : Nat → Int32} (hT : zTk tk q (x + y + z)) (hC : zCt tk x y z) (hm : 0 < x + y + z) : ∃ x' y' z' k, k < 3 ∧ x = gx k x' ∧ y = gy k y' ∧ z = gz k z' ∧ x + y + z = x' + y' + z' + 1 ∧ tk (x' + y' + z') = k ∧ zCt tk x' y' z' := by
  obtain ⟨n, hn⟩ : ∃ n, x + y + z = n + 1 := ⟨x + y + z - 1, by omega⟩
  obtain ⟨h1, h2, h3⟩ := hC
  rw [hn] at h1 h2 h3 hT
  have hk := (hT n (by omega)).1
  have c : ∀ c, ctk tk (n + 1) c = ctk tk n c + if tk n = c then 1 else 0 := fun c => rfl
  rw [c] at h1 h2 h3
  have hs := ctk_sum n (fun j hj => (hT j (by omega)).1)
  refine ⟨ctk tk n 0, ctk tk n 1, ctk tk n 2, tk n, hk, ?_, ?_, ?_, by omega, by rw [hs], by unfold zCt; rw [hs]; exact ⟨rfl, rfl, rfl⟩⟩
  · rw [h1]; unfold gx; split <;> rfl
  · rw [h2]; unfold gy; split <;> rfl
  · rw [h3]; unfold gz; split <;> rfl
theorem K_lv {x9 y9 z9 : Nat} (h : zKs S sc x9 y9 z9 G) (hm : x + y + z ≤ 8) : zKs (lvS S x y z) sc x y z G := ⟨h.1, h.2.1, h.2.2.1, rfl, hm, h.2.2.2.2.2.1, h.2.2.2.2.2.2.1, rfl⟩
theorem lose_num {x9 y9 z9 : Nat} (hk : k < 3) (hx : x9 = gx k x) (hy : y9 = gy k y) (hz : z9 = gz k z) : nI ((x9 + (16 * y9)) + (256 * z9)) - nI (2 ^ (4 * k)) = nI ((x + (16 * y)) + (256 * z)) := by
  subst hx hy hz
  rcases (show k = 0 ∨ k = 1 ∨ k = 2 by omega) with rfl | rfl | rfl
  · show nI (((x + 1) + (16 * y)) + (256 * z)) - nI (2 ^ (4 * 0)) = _
    rw [pk_sub (show 2 ^ (4 * 0) ≤ ((x + 1) + (16 * y)) + (256 * z) from by omega)]
    exact congrArg nI (show ((x + 1) + (16 * y)) + (256 * z) - 1 = _ by omega)
  · show nI ((x + (16 * (y + 1))) + (256 * z)) - nI (2 ^ (4 * 1)) = _
    rw [pk_sub (show 2 ^ (4 * 1) ≤ (x + (16 * (y + 1))) + (256 * z) from by omega)]
    exact congrArg nI (show (x + (16 * (y + 1))) + (256 * z) - 16 = _ by omega)
  · show nI ((x + (16 * y)) + (256 * (z + 1))) - nI (2 ^ (4 * 2)) = _
    rw [pk_sub (show 2 ^ (4 * 2) ≤ (x + (16 * y)) + (256 * (z + 1)) from by omega)]
    exact congrArg nI (show (x + (16 * y)) + (256 * (z + 1)) - 256 = _ by omega)
end
