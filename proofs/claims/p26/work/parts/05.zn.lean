/-! rows over small numbers: nI a is the int a -/
theorem zn_and (a b : Nat) : nI a &&& nI b = nI (a &&& b) := by
  apply Int32.toBitVec_inj.1
  show BitVec.ofNat 32 a &&& BitVec.ofNat 32 b = BitVec.ofNat 32 (a &&& b)
  apply BitVec.eq_of_getLsbD_eq
  intro i hi
  simp [hi]
theorem zn_or (a b : Nat) : nI a ||| nI b = nI (a ||| b) := by
  apply Int32.toBitVec_inj.1
  show BitVec.ofNat 32 a ||| BitVec.ofNat 32 b = BitVec.ofNat 32 (a ||| b)
  apply BitVec.eq_of_getLsbD_eq
  intro i hi
  simp [hi]
theorem zn_s : ∀ n, n < 32 → ((nI n &&& 31).toBitVec.smod 32).toNat = n := by decide +kernel
theorem zn_shr {a j : Nat} (h : a < 2 ^ 31) (hj : j < 32) : nI a >>> (nI j &&& 31) = nI (a / 2 ^ j) := pk_shrN h _ j (zn_s j hj)
theorem zn_shl {a j : Nat} (hj : j < 32) (h : a * 2 ^ j < 2 ^ 32) : nI a <<< (nI j &&& 31) = nI (a * 2 ^ j) := pk_shlN _ j (zn_s j hj) h
theorem zn_inj {a b : Nat} (ha : a < 2 ^ 31) (hb : b < 2 ^ 31) (h : nI a = nI b) : a = b := (nI_eq ha hb).mp h
theorem zn_m1 (a : Nat) (h : a < 2 ^ 31) : ¬ nI a = -1 := fun e => by
  have h1 := nI_toInt h
  rw [e] at h1
  have h2 : (-1 : Int32).toInt = -1 := by decide
  omega
theorem zn_m1lt (a : Nat) (h : a < 2 ^ 31) : (-1 : Int32) < nI a := by
  rw [Int32.lt_iff_toInt_lt, nI_toInt h]
  have h2 : (-1 : Int32).toInt = -1 := by decide
  omega
section ZN
variable {E : zE} {k n pc : Nat} {lv : List (Option Value)} {st : List Value} {ws : va_W} {own : String} {cc : ByteArray} {nL : Nat} {rm : Room} {D : va_G} {t : ClassId × ClassId × ClassId} {l : Launch} {a b : Nat}
theorem n_iadd (X : zX E own cc nL rm D t l) (hd : decode cc pc = .ok (.iadd, 1)) (kk : Wz E k n (pc + 1) lv (.int (nI (a + b)) :: st) ws) : Wz E k n pc lv (.int (nI b) :: .int (nI a) :: st) ws := z_iadd X hd (by rw [nI_add]; exact kk)
theorem n_isub (X : zX E own cc nL rm D t l) (hd : decode cc pc = .ok (.isub, 1)) (h : b ≤ a) (kk : Wz E k n (pc + 1) lv (.int (nI (a - b)) :: st) ws) : Wz E k n pc lv (.int (nI b) :: .int (nI a) :: st) ws := z_isub X hd (by rw [pk_sub h]; exact kk)
theorem n_imul (X : zX E own cc nL rm D t l) (hd : decode cc pc = .ok (.imul, 1)) (kk : Wz E k n (pc + 1) lv (.int (nI (a * b)) :: st) ws) : Wz E k n pc lv (.int (nI b) :: .int (nI a) :: st) ws := z_imul X hd (by rw [pk_mul]; exact kk)
theorem n_idiv (X : zX E own cc nL rm D t l) (hd : decode cc pc = .ok (.idiv, 1)) (ha : a < 2 ^ 31) (h0 : 0 < b) (hb : b < 2 ^ 31) (kk : Wz E k n (pc + 1) lv (.int (nI (a / b)) :: st) ws) : Wz E k n pc lv (.int (nI b) :: .int (nI a) :: st) ws := z_idiv X hd (nI_ne0 h0 hb) (by rw [pk_div ha h0 hb]; exact kk)
theorem n_irem (X : zX E own cc nL rm D t l) (hd : decode cc pc = .ok (.irem, 1)) (ha : a < 2 ^ 31) (h0 : 0 < b) (hb : b < 2 ^ 31) (kk : Wz E k n (pc + 1) lv (.int (nI (a % b)) :: st) ws) : Wz E k n pc lv (.int (nI b) :: .int (nI a) :: st) ws := z_irem X hd (nI_ne0 h0 hb) (by rw [pk_rem ha h0 hb]; exact kk)
theorem n_iand (X : zX E own cc nL rm D t l) (hd : decode cc pc = .ok (.iand, 1)) (kk : Wz E k n (pc + 1) lv (.int (nI (a &&& b)) :: st) ws) : Wz E k n pc lv (.int (nI b) :: .int (nI a) :: st) ws := z_iand X hd (by rw [zn_and]; exact kk)
theorem n_ior (X : zX E own cc nL rm D t l) (hd : decode cc pc = .ok (.ior, 1)) (kk : Wz E k n (pc + 1) lv (.int (nI (a ||| b)) :: st) ws) : Wz E k n pc lv (.int (nI b) :: .int (nI a) :: st) ws := z_ior X hd (by rw [zn_or]; exact kk)
theorem n_ishr (X : zX E own cc nL rm D t l) (hd : decode cc pc = .ok (.ishr, 1)) (ha : a < 2 ^ 31) (hb : b < 32) (kk : Wz E k n (pc + 1) lv (.int (nI (a / 2 ^ b)) :: st) ws) : Wz E k n pc lv (.int (nI b) :: .int (nI a) :: st) ws := z_ishr X hd (by rw [zn_shr ha hb]; exact kk)
theorem n_ishl1 (X : zX E own cc nL rm D t l) (hd : decode cc pc = .ok (.ishl, 1)) (hb : b < 32) (kk : Wz E k n (pc + 1) lv (.int (nI (2 ^ b)) :: st) ws) : Wz E k n pc lv (.int (nI b) :: .int (nI 1) :: st) ws := z_ishl X hd (by rw [zn_shl hb (by rw [Nat.one_mul]; exact Nat.pow_lt_pow_right (by decide) hb), Nat.one_mul]; exact kk)
theorem n_if_eq (X : zX E own cc nL rm D t l) {off : Int} {tgt : Nat} (hd : decode cc pc = .ok (.ifCond .eq off, 3)) (ht : (pc : Int) + off = (tgt : Int)) (ha : a < 2 ^ 31) (kt : a = 0 → Wz E k n tgt lv st ws) (kf : ¬ a = 0 → Wz E k n (pc + 3) lv st ws) : Wz E k n pc lv (.int (nI a) :: st) ws :=
  z_if_eq X hd ht (fun h => kt (zn_inj ha (by decide) (h.trans nI_0.symm))) (fun h => kf (fun e => h (by rw [e]; rfl)))
theorem n_if_ne (X : zX E own cc nL rm D t l) {off : Int} {tgt : Nat} (hd : decode cc pc = .ok (.ifCond .ne off, 3)) (ht : (pc : Int) + off = (tgt : Int)) (ha : a < 2 ^ 31) (kt : ¬ a = 0 → Wz E k n tgt lv st ws) (kf : a = 0 → Wz E k n (pc + 3) lv st ws) : Wz E k n pc lv (.int (nI a) :: st) ws :=
  z_if_ne X hd ht (fun h => kt (fun e => h (by rw [e]; rfl))) (fun h => kf (zn_inj ha (by decide) (h.trans nI_0.symm)))
theorem n_if_lt (X : zX E own cc nL rm D t l) {off : Int} {tgt : Nat} (hd : decode cc pc = .ok (.ifCond .lt off, 3)) (ht : (pc : Int) + off = (tgt : Int)) (ha : a < 2 ^ 31) (kf : Wz E k n (pc + 3) lv st ws) : Wz E k n pc lv (.int (nI a) :: st) ws :=
  z_if_lt X hd ht (fun h => absurd h (nI_pos ha)) (fun _ => kf)
theorem n_if_ge (X : zX E own cc nL rm D t l) {off : Int} {tgt : Nat} (hd : decode cc pc = .ok (.ifCond .ge off, 3)) (ht : (pc : Int) + off = (tgt : Int)) (ha : a < 2 ^ 31) (kt : Wz E k n tgt lv st ws) : Wz E k n pc lv (.int (nI a) :: st) ws :=
  z_if_ge X hd ht (fun _ => kt) (fun h => absurd (nI_pos' ha) h)
theorem n_if_le (X : zX E own cc nL rm D t l) {off : Int} {tgt : Nat} (hd : decode cc pc = .ok (.ifCond .le off, 3)) (ht : (pc : Int) + off = (tgt : Int)) (ha : a < 2 ^ 31) (kt : a = 0 → Wz E k n tgt lv st ws) (kf : 0 < a → Wz E k n (pc + 3) lv st ws) : Wz E k n pc lv (.int (nI a) :: st) ws :=
  z_if_le X hd ht (fun h => kt (by rcases Nat.eq_zero_or_pos a with e | e; exact e; exact absurd h (nI_nle e ha))) (fun h => kf (by rcases Nat.eq_zero_or_pos a with e | e; exact absurd (by rw [e]; decide) h; exact e))
theorem n_if_gt (X : zX E own cc nL rm D t l) {off : Int} {tgt : Nat} (hd : decode cc pc = .ok (.ifCond .gt off, 3)) (ht : (pc : Int) + off = (tgt : Int)) (ha : a < 2 ^ 31) (kt : 0 < a → Wz E k n tgt lv st ws) (kf : a = 0 → Wz E k n (pc + 3) lv st ws) : Wz E k n pc lv (.int (nI a) :: st) ws :=
  z_if_gt X hd ht (fun h => kt (by rcases Nat.eq_zero_or_pos a with e | e; rw [e] at h; exact absurd h (by decide); exact e)) (fun h => kf (by rcases Nat.eq_zero_or_pos a with e | e; exact e; exact absurd ((nI_ltI (by decide) ha).mpr e) h))
theorem n_icmp_eq (X : zX E own cc nL rm D t l) {off : Int} {tgt : Nat} (hd : decode cc pc = .ok (.if_icmp .eq off, 3)) (ht : (pc : Int) + off = (tgt : Int)) (ha : a < 2 ^ 31) (hb : b < 2 ^ 31) (kt : a = b → Wz E k n tgt lv st ws) (kf : ¬ a = b → Wz E k n (pc + 3) lv st ws) : Wz E k n pc lv (.int (nI b) :: .int (nI a) :: st) ws :=
  z_icmp_eq X hd ht (fun h => kt (zn_inj ha hb h)) (fun h => kf (fun e => h (by rw [e])))
theorem n_icmp_ne (X : zX E own cc nL rm D t l) {off : Int} {tgt : Nat} (hd : decode cc pc = .ok (.if_icmp .ne off, 3)) (ht : (pc : Int) + off = (tgt : Int)) (ha : a < 2 ^ 31) (hb : b < 2 ^ 31) (kt : ¬ a = b → Wz E k n tgt lv st ws) (kf : a = b → Wz E k n (pc + 3) lv st ws) : Wz E k n pc lv (.int (nI b) :: .int (nI a) :: st) ws :=
  z_icmp_ne X hd ht (fun h => kt (fun e => h (by rw [e]))) (fun h => kf (zn_inj ha hb h))
theorem n_icmp_lt (X : zX E own cc nL rm D t l) {off : Int} {tgt : Nat} (hd : decode cc pc = .ok (.if_icmp .lt off, 3)) (ht : (pc : Int) + off = (tgt : Int)) (ha : a < 2 ^ 31) (hb : b < 2 ^ 31) (kt : a < b → Wz E k n tgt lv st ws) (kf : b ≤ a → Wz E k n (pc + 3) lv st ws) : Wz E k n pc lv (.int (nI b) :: .int (nI a) :: st) ws :=
  z_icmp_lt X hd ht (fun h => kt ((nI_ltI ha hb).mp h)) (fun h => kf (Nat.not_lt.mp (fun e => h ((nI_ltI ha hb).mpr e))))
theorem n_icmp_ge (X : zX E own cc nL rm D t l) {off : Int} {tgt : Nat} (hd : decode cc pc = .ok (.if_icmp .ge off, 3)) (ht : (pc : Int) + off = (tgt : Int)) (ha : a < 2 ^ 31) (hb : b < 2 ^ 31) (kt : b ≤ a → Wz E k n tgt lv st ws) (kf : a < b → Wz E k n (pc + 3) lv st ws) : Wz E k n pc lv (.int (nI b) :: .int (nI a) :: st) ws :=
  z_icmp_ge X hd ht (fun h => kt ((nI_leI hb ha).mp h)) (fun h => kf (Nat.not_le.mp (fun e => h ((nI_leI hb ha).mpr e))))
theorem n_icmp_gt (X : zX E own cc nL rm D t l) {off : Int} {tgt : Nat} (hd : decode cc pc = .ok (.if_icmp .gt off, 3)) (ht : (pc : Int) + off = (tgt : Int)) (ha : a < 2 ^ 31) (hb : b < 2 ^ 31) (kt : b < a → Wz E k n tgt lv st ws) (kf : a ≤ b → Wz E k n (pc + 3) lv st ws) : Wz E k n pc lv (.int (nI b) :: .int (nI a) :: st) ws :=
  z_icmp_gt X hd ht (fun h => kt ((nI_ltI hb ha).mp h)) (fun h => kf (Nat.not_lt.mp (fun e => h ((nI_ltI hb ha).mpr e))))
theorem n_icmp_le (X : zX E own cc nL rm D t l) {off : Int} {tgt : Nat} (hd : decode cc pc = .ok (.if_icmp .le off, 3)) (ht : (pc : Int) + off = (tgt : Int)) (ha : a < 2 ^ 31) (hb : b < 2 ^ 31) (kt : a ≤ b → Wz E k n tgt lv st ws) (kf : b < a → Wz E k n (pc + 3) lv st ws) : Wz E k n pc lv (.int (nI b) :: .int (nI a) :: st) ws :=
  z_icmp_le X hd ht (fun h => kt ((nI_leI ha hb).mp h)) (fun h => kf (Nat.not_le.mp (fun e => h ((nI_leI ha hb).mpr e))))
theorem n_iald (X : zX E own cc nL rm D t l) {q m : Nat} {f : Nat → Int32} (q0 : Nat) (ha : ws[q0]? = some (q, .inl (t.1, m, .inl f))) (hi : a < m) (hm : m < 2 ^ 31) (hd : decode cc pc = .ok (.iaload, 1)) (kk : Wz E k n (pc + 1) lv (.int (f a) :: st) ws) : Wz E k n pc lv (.int (nI a) :: .ref q :: st) ws :=
  z_iald X q0 ha (vp_in_nI hi hm) hd (by rw [nI_clamp (Nat.lt_trans hi hm)]; exact kk)
theorem n_iast (X : zX E own cc nL rm D t l) {L : List Nat} (Y : zWr E L) {q m : Nat} {f : Nat → Int32} {x : Int32} (q0 : Nat) (hL : ws.map (fun x => x.1) = L) (ha : ws[q0]? = some (q, .inl (t.1, m, .inl f))) (hi : a < m) (hm : m < 2 ^ 31) (hd : decode cc pc = .ok (.iastore, 1)) (kk : Wz E k n (pc + 1) lv st (ws.set q0 (q, .inl (t.1, m, .inl (upd f a x))))) : Wz E k n pc lv (.int x :: .int (nI a) :: .ref q :: st) ws :=
  z_iast X Y q0 hL ha (vp_in_nI hi hm) hd (by rw [nI_clamp (Nat.lt_trans hi hm)]; exact kk)
/-- a name for what stands on the stack -/
theorem z_top {x y : Int32} (h : x = y) (kk : Wz E k n pc lv (.int y :: st) ws) : Wz E k n pc lv (.int x :: st) ws := h ▸ kk
theorem z_lv {lv' : List (Option Value)} (h : lv = lv') (kk : Wz E k n pc lv' st ws) : Wz E k n pc lv st ws := h ▸ kk
theorem z_pc {pc' : Nat} (h : pc = pc') (kk : Wz E k n pc' lv st ws) : Wz E k n pc lv st ws := h ▸ kk
end ZN
/-- a boolean answer -/
def bz (r : Int32) (P : Prop) : Prop := (r = nI 1 ∧ P) ∨ (r = nI 0 ∧ ¬ P)
theorem bz_t {P : Prop} (h : P) : bz (nI 1) P := Or.inl ⟨rfl, h⟩
theorem bz_f {P : Prop} (h : ¬ P) : bz (nI 0) P := Or.inr ⟨rfl, h⟩
theorem bz.iff {r : Int32} {P Q : Prop} (h : bz r P) (e : P ↔ Q) : bz r Q := by
  rcases h with ⟨h1, h2⟩ | ⟨h1, h2⟩
  · exact Or.inl ⟨h1, e.mp h2⟩
  · exact Or.inr ⟨h1, fun q => h2 (e.mpr q)⟩
theorem bz.eq {r s : Int32} {P : Prop} (h : bz r P) (h' : bz s P) : r = s := by
  rcases h with ⟨h1, h2⟩ | ⟨h1, h2⟩ <;> rcases h' with ⟨h3, h4⟩ | ⟨h3, h4⟩
  · rw [h1, h3]
  · exact absurd h2 h4
  · exact absurd h4 h2
  · rw [h1, h3]
theorem bz.bool {r : Int32} {P : Prop} (h : bz r P) : narrow .boolean (.int r) = .int r := by
  rcases h with ⟨rfl, -⟩ | ⟨rfl, -⟩ <;> decide +kernel
theorem bz.c {r : Int32} {P : Prop} (h : bz r P) : r = nI 1 ∧ P ∨ r = nI 0 ∧ ¬ P := h
/-- a loop that counts up -/
theorem zl_up (N : Nat) (F : Nat → Prop) (hN : F N) (hs : ∀ i, i < N → F (i + 1) → F i) : ∀ i, i ≤ N → F i := by
  have key : ∀ d i, i + d = N → F i := by
    intro d
    induction d with
    | zero => intro i h; rw [show i = N by omega]; exact hN
    | succ d ih => intro i h; exact hs i (by omega) (ih (i + 1) (by omega))
  exact fun i h => key (N - i) i (by omega)
/-- an int that is none or a place -/
def zo (v : Int32) (m : Nat) : Prop := v = -1 ∨ ∃ k, k < m ∧ v = nI k
