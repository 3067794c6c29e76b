/-! ===== the z layer: a walk over pc, locals by place, stack and cells; heap and locals' array are hidden ===== -/
/-- what a method's walk keeps: program, launch, environment, room, start, method, arguments, frames below, method record, code, class table, writable cells, end, array classes -/
abbrev zE : Type := Program × Launch × Env × Room × State × MethodId × Array Value × List Frame × Method × Code × va_G × (Nat → Prop) × (State → Prop) × (ClassId × ClassId × ClassId)
abbrev zs (E : zE) : State := E.2.2.2.2.1
abbrev zm (E : zE) : MethodId := E.2.2.2.2.2.1
abbrev zargs (E : zE) : Array Value := E.2.2.2.2.2.2.1
abbrev zb (E : zE) : List Frame := E.2.2.2.2.2.2.2.1
abbrev zh (E : zE) : Method := E.2.2.2.2.2.2.2.2.1
abbrev zc (E : zE) : Code := E.2.2.2.2.2.2.2.2.2.1
abbrev zD (E : zE) : va_G := E.2.2.2.2.2.2.2.2.2.2.1
abbrev zA (E : zE) : Nat → Prop := E.2.2.2.2.2.2.2.2.2.2.2.1
abbrev zQ (E : zE) : State → Prop := E.2.2.2.2.2.2.2.2.2.2.2.2.1
abbrev zt (E : zE) : ClassId × ClassId × ClassId := E.2.2.2.2.2.2.2.2.2.2.2.2.2
/-- locals by place -/
def zp : Nat → List (Option Value) → List (Nat × Value)
  | _, [] => []
  | i, none :: l => zp (i + 1) l
  | i, some v :: l => (i, v) :: zp (i + 1) l
def zcat1 (l : List (Option Value)) : Prop := ∀ v, some v ∈ l → v.category = 1
def zHas (ls : Array Slot) (l : List (Option Value)) : Prop := lv_has ls l.length (zp 0 l) ∧ zcat1 l
theorem zp_mem : ∀ (l : List (Option Value)) (b i : Nat) (v : Value), (i, v) ∈ zp b l ↔ b ≤ i ∧ l[i - b]? = some (some v)
  | [], b, i, v => by simp [zp]
  | none :: l, b, i, v => by
    rw [zp, zp_mem l (b + 1) i v]
    constructor
    · rintro ⟨h1, h2⟩
      refine ⟨by omega, ?_⟩
      rw [show i - b = (i - (b + 1)) + 1 by omega]
      simpa using h2
    · rintro ⟨h1, h2⟩
      rcases Nat.eq_or_lt_of_le h1 with e | e
      · subst e; simp at h2
      · refine ⟨e, ?_⟩
        rw [show i - b = (i - (b + 1)) + 1 by omega] at h2
        simpa using h2
  | some w :: l, b, i, v => by
    rw [zp, List.mem_cons, zp_mem l (b + 1) i v]
    constructor
    · rintro (h | ⟨h1, h2⟩)
      · cases h; exact ⟨Nat.le_refl _, by simp⟩
      · refine ⟨by omega, ?_⟩
        rw [show i - b = (i - (b + 1)) + 1 by omega]
        simpa using h2
    · rintro ⟨h1, h2⟩
      rcases Nat.eq_or_lt_of_le h1 with e | e
      · subst e; simp at h2; left; rw [h2]
      · right
        refine ⟨e, ?_⟩
        rw [show i - b = (i - (b + 1)) + 1 by omega] at h2
        simpa using h2
theorem zHas.get {ls : Array Slot} {l : List (Option Value)} (h : zHas ls l) {i : Nat} {v : Value} (hi : l[i]? = some (some v)) : ls[i]? = some (.val v) :=
  h.1.2.2 (i, v) ((zp_mem l 0 i v).mpr ⟨Nat.zero_le _, by simpa using hi⟩)
theorem zHas.of {ls : Array Slot} {l : List (Option Value)} {nL : Nat} {lv : List (Nat × Value)} (h : lv_has ls nL lv) (hn : nL = l.length) (hc : zcat1 l) (hm : ∀ i v, l[i]? = some (some v) → (i, v) ∈ lv) : zHas ls l :=
  ⟨⟨h.1.trans hn, h.2.1, fun q hq => h.2.2 q (hm q.1 q.2 (by simpa using ((zp_mem l 0 q.1 q.2).mp hq).2))⟩, hc⟩
theorem zHas.set {ls' : Array Slot} {l : List (Option Value)} {i : Nat} {v : Value} (hc : zcat1 l) (hv : v.category = 1) (h' : lv_has ls' l.length ((i, v) :: (zp 0 l).filter (fun q => !(q.1 == i) && !(q.1 + 1 == i && q.2.category == 2)))) : zHas ls' (l.set i (some v)) := by
  refine zHas.of h' (by simp) ?_ ?_
  · intro w hw
    rcases List.mem_or_eq_of_mem_set hw with h | h
    · exact hc w h
    · cases h; exact hv
  · intro j w hj
    by_cases e : j = i
    · subst e
      have hlt : j < l.length := by
        have := (List.getElem?_eq_some_iff.mp hj).1
        simpa using this
      rw [List.getElem?_set_self hlt] at hj
      cases hj
      exact List.mem_cons_self
    · rw [List.getElem?_set_ne (Ne.symm e)] at hj
      refine List.mem_cons_of_mem _ (List.mem_filter.mpr ⟨(zp_mem l 0 j w).mpr ⟨Nat.zero_le _, by simpa using hj⟩, ?_⟩)
      have hw : w.category = 1 := hc w (List.mem_of_getElem? hj)
      simp [e, hw]
/-- fewer known locals -/
def zle : List (Option Value) → List (Option Value) → Prop
  | [], [] => True
  | none :: a, _ :: b => zle a b
  | some v :: a, some w :: b => v = w ∧ zle a b
  | _, _ => False
theorem zle_get : ∀ {a b : List (Option Value)}, zle a b → a.length = b.length ∧ ∀ (i : Nat) (v : Value), a[i]? = some (some v) → b[i]? = some (some v)
  | [], [], _ => ⟨rfl, fun i v h => by simp at h⟩
  | none :: a, x :: b, h => by
    obtain ⟨h1, h2⟩ := zle_get (a := a) (b := b) h
    refine ⟨by simp [h1], fun i v hi => ?_⟩
    cases i with
    | zero => simp at hi
    | succ i => simp only [List.getElem?_cons_succ] at hi ⊢; exact h2 i v hi
  | some v :: a, some w :: b, h => by
    obtain ⟨rfl, h⟩ := h
    obtain ⟨h1, h2⟩ := zle_get (a := a) (b := b) h
    refine ⟨by simp [h1], fun i u hi => ?_⟩
    cases i with
    | zero => exact hi
    | succ i => simp only [List.getElem?_cons_succ] at hi ⊢; exact h2 i u hi
theorem zHas.less {ls : Array Slot} {a b : List (Option Value)} (h : zHas ls b) (hl : zle a b) : zHas ls a := by
  obtain ⟨h1, h2⟩ := zle_get hl
  refine zHas.of h.1 h1.symm (fun v hv => ?_) (fun i v hi => (zp_mem b 0 i v).mpr ⟨Nat.zero_le _, by simpa using h2 i v hi⟩)
  obtain ⟨i, hi⟩ := List.getElem?_of_mem hv
  exact h.2 v (List.mem_of_getElem? (h2 i v hi))
/-- the walk -/
def Wz (E : zE) (k n : Nat) (pc : Nat) (lv : List (Option Value)) (st : List Value) (ws : va_W) : Prop :=
  ∀ (ls : Array Slot) (H : Heap) (locs : List Loc), zHas ls lv → va_P (zD E) vwCl ws H → va_D (fun _ => True) ws → va_S (zA E) (zs E).heap H locs →
    W E.1 E.2.1 E.2.2.1 E.2.2.2.1 (zs E) (zm E) (zargs E) (zb E) (zh E) (zc E) H locs k n (zQ E) (F0 (zm E) pc ls st)
/-- the array class of int -/
abbrev zTy (t : ClassId × ClassId × ClassId) : List (ClassId × FieldType) := [(t.1, .int)]
/-- what every method's start has of the tables beside its words -/
def zKp (D : va_G) (t : ClassId × ClassId × ClassId) (U : State) : Prop := va_K D vwCl (zTy t) U ∧ va_Nw zNest U
/-- the room of a method of height h -/
abbrev zR (h : Nat) : Room := { frames := h, cells := 0, slots := 0, locals := 32 * h }
abbrev zRx (h : Nat) : Room := { frames := h, cells := 1, slots := 6, locals := 32 * h }
/-- what its rows stand on -/
def zX (E : zE) (own : String) (cc : ByteArray) (nL : Nat) (rm : Room) (D : va_G) (t : ClassId × ClassId × ClassId) (l : Launch) : Prop :=
  E.1.tables.exec = Jvm.exec ∧ (zc E).code = cc ∧ (zc E).maxLocals = nL ∧ (zs E).vm.findClass own = some (zm E).cls ∧ zKp D t (zs E) ∧ E.2.2.2.1 = rm ∧ (∀ w ∈ zTs, w.before (zargs E) (zs E) = true) ∧ zD E = D ∧ zt E = t ∧ E.2.1 = l
/-- the cells that may be written -/
def zWr (E : zE) (L : List Nat) : Prop := ∀ q ∈ L, zA E q
def zin (w : va_W) : Nat → Prop := fun q => q ∈ w.map (fun x => x.1)
section ZR
variable {E : zE} {k n pc : Nat} {lv : List (Option Value)} {st : List Value} {ws : va_W} {own : String} {cc : ByteArray} {nL : Nat} {rm : Room} {D : va_G} {t : ClassId × ClassId × ClassId} {l : Launch}
theorem Wz.eq {ws' : va_W} (h : ws = ws') (kk : Wz E k n pc lv st ws') : Wz E k n pc lv st ws := h ▸ kk
theorem Wz.less {lv' : List (Option Value)} (h : zle lv' lv) (kk : Wz E k n pc lv' st ws) : Wz E k n pc lv st ws := fun ls H locs hl => kk ls H locs (hl.less h)
theorem Wz.wide {k' n' : Nat} (h1 : k ≤ k') (h2 : n ≤ n') (kk : Wz E k' n' pc lv st ws) : Wz E k n pc lv st ws := fun ls H locs hl hP hD hS => W.widen h1 h2 (kk ls H locs hl hP hD hS)
theorem z_iconst (X : zX E own cc nL rm D t l) {i : Int} {v : Int32} (hd : decode cc pc = .ok (.iconst i, 1)) (hv : Int32.ofInt i = v) (kk : Wz E k n (pc + 1) lv (.int v :: st) ws) : Wz E k n pc lv st ws :=
  fun ls H locs hl hP hD hS => lv_iconst X.1 X.2.1 hd hv (kk ls H locs hl hP hD hS)
theorem z_bipush (X : zX E own cc nL rm D t l) {i : Int} {v : Int32} (hd : decode cc pc = .ok (.bipush i, 2)) (hv : (Int8.ofInt i).toInt32 = v) (kk : Wz E k n (pc + 2) lv (.int v :: st) ws) : Wz E k n pc lv st ws :=
  fun ls H locs hl hP hD hS => lv_bipush X.1 X.2.1 hd hv (kk ls H locs hl hP hD hS)
theorem z_sipush (X : zX E own cc nL rm D t l) {i : Int} {v : Int32} (hd : decode cc pc = .ok (.sipush i, 3)) (hv : (Int16.ofInt i).toInt32 = v) (kk : Wz E k n (pc + 3) lv (.int v :: st) ws) : Wz E k n pc lv st ws :=
  fun ls H locs hl hP hD hS => lv_sipush X.1 X.2.1 hd hv (kk ls H locs hl hP hD hS)
theorem z_iload_n (X : zX E own cc nL rm D t l) {i : Fin 4} {j : Nat} {x : Int32} (hd : decode cc pc = .ok (.iload_n i, 1)) (hj : (i : Nat) = j) (hx : lv[j]? = some (some (.int x))) (kk : Wz E k n (pc + 1) lv (.int x :: st) ws) : Wz E k n pc lv st ws :=
  fun ls H locs hl hP hD hS => lv_iload_n X.1 X.2.1 hd hj (hl.get hx) (kk ls H locs hl hP hD hS)
theorem z_iload (X : zX E own cc nL rm D t l) {j : Nat} {x : Int32} (hd : decode cc pc = .ok (.iload j, 2)) (hx : lv[j]? = some (some (.int x))) (kk : Wz E k n (pc + 2) lv (.int x :: st) ws) : Wz E k n pc lv st ws :=
  fun ls H locs hl hP hD hS => lv_iload X.1 X.2.1 hd (hl.get hx) (kk ls H locs hl hP hD hS)
theorem z_aload_n (X : zX E own cc nL rm D t l) {i : Fin 4} {j : Nat} {x : Nat} (hd : decode cc pc = .ok (.aload_n i, 1)) (hj : (i : Nat) = j) (hx : lv[j]? = some (some (.ref x))) (kk : Wz E k n (pc + 1) lv (.ref x :: st) ws) : Wz E k n pc lv st ws :=
  fun ls H locs hl hP hD hS => lv_aload_n X.1 X.2.1 hd hj (hl.get hx) (kk ls H locs hl hP hD hS)
theorem z_aload (X : zX E own cc nL rm D t l) {j : Nat} {x : Nat} (hd : decode cc pc = .ok (.aload j, 2)) (hx : lv[j]? = some (some (.ref x))) (kk : Wz E k n (pc + 2) lv (.ref x :: st) ws) : Wz E k n pc lv st ws :=
  fun ls H locs hl hP hD hS => lv_aload X.1 X.2.1 hd (hl.get hx) (kk ls H locs hl hP hD hS)
theorem z_fload_n (X : zX E own cc nL rm D t l) {i : Fin 4} {j : Nat} {x : UInt32} (hd : decode cc pc = .ok (.fload_n i, 1)) (hj : (i : Nat) = j) (hx : lv[j]? = some (some (.float x))) (kk : Wz E k n (pc + 1) lv (.float x :: st) ws) : Wz E k n pc lv st ws :=
  fun ls H locs hl hP hD hS => lv_fload_n X.1 X.2.1 hd hj (hl.get hx) (kk ls H locs hl hP hD hS)
theorem z_istore_n (X : zX E own cc nL rm D t l) {i : Fin 4} {j : Nat} {x : Int32} (hd : decode cc pc = .ok (.istore_n i, 1)) (hj : (i : Nat) = j) (hn : j < lv.length) (kk : Wz E k n (pc + 1) (lv.set j (some (.int x))) st ws) : Wz E k n pc lv (.int x :: st) ws :=
  fun ls H locs hl hP hD hS => lv_istore_n X.1 X.2.1 hd hj hl.1 hn rfl (fun ls' h' => kk ls' H locs (zHas.set hl.2 rfl h') hP hD hS)
theorem z_istore (X : zX E own cc nL rm D t l) {j : Nat} {x : Int32} (hd : decode cc pc = .ok (.istore j, 2)) (hn : j < lv.length) (kk : Wz E k n (pc + 2) (lv.set j (some (.int x))) st ws) : Wz E k n pc lv (.int x :: st) ws :=
  fun ls H locs hl hP hD hS => lv_istore X.1 X.2.1 hd hl.1 hn rfl (fun ls' h' => kk ls' H locs (zHas.set hl.2 rfl h') hP hD hS)
theorem z_astore_n (X : zX E own cc nL rm D t l) {i : Fin 4} {j : Nat} {x : Nat} (hd : decode cc pc = .ok (.astore_n i, 1)) (hj : (i : Nat) = j) (hn : j < lv.length) (kk : Wz E k n (pc + 1) (lv.set j (some (.ref x))) st ws) : Wz E k n pc lv (.ref x :: st) ws :=
  fun ls H locs hl hP hD hS => lv_astore_n X.1 X.2.1 hd hj hl.1 hn rfl (fun ls' h' => kk ls' H locs (zHas.set hl.2 rfl h') hP hD hS)
theorem z_astore (X : zX E own cc nL rm D t l) {j : Nat} {x : Nat} (hd : decode cc pc = .ok (.astore j, 2)) (hn : j < lv.length) (kk : Wz E k n (pc + 2) (lv.set j (some (.ref x))) st ws) : Wz E k n pc lv (.ref x :: st) ws :=
  fun ls H locs hl hP hD hS => lv_astore X.1 X.2.1 hd hl.1 hn rfl (fun ls' h' => kk ls' H locs (zHas.set hl.2 rfl h') hP hD hS)
theorem z_fstore_n (X : zX E own cc nL rm D t l) {i : Fin 4} {j : Nat} {x : UInt32} (hd : decode cc pc = .ok (.fstore_n i, 1)) (hj : (i : Nat) = j) (hn : j < lv.length) (kk : Wz E k n (pc + 1) (lv.set j (some (.float x))) st ws) : Wz E k n pc lv (.float x :: st) ws :=
  fun ls H locs hl hP hD hS => lv_fstore_n X.1 X.2.1 hd hj hl.1 hn rfl (fun ls' h' => kk ls' H locs (zHas.set hl.2 rfl h') hP hD hS)
theorem z_iinc (X : zX E own cc nL rm D t l) {j : Nat} {i : Int} {x v : Int32} (hd : decode cc pc = .ok (.iinc j i, 3)) (hx : lv[j]? = some (some (.int x))) (hv : x + Int32.ofInt i = v) (kk : Wz E k n (pc + 3) (lv.set j (some (.int v))) st ws) : Wz E k n pc lv st ws := by
  intro ls H locs hl hP hD hS
  obtain ⟨q, hq⟩ := List.getElem?_of_mem ((zp_mem lv 0 j (.int x)).mpr ⟨Nat.zero_le _, by simpa using hx⟩)
  exact lv_iinc X.1 X.2.1 hd hl.1 hq hv (List.getElem?_eq_some_iff.mp hx).1 rfl (fun ls' h' => kk ls' H locs (zHas.set hl.2 rfl h') hP hD hS)
theorem z_dup (X : zX E own cc nL rm D t l) {v : Value} (hd : decode cc pc = .ok (.dup, 1)) (hv : v.category = 1) (kk : Wz E k n (pc + 1) lv (v :: v :: st) ws) : Wz E k n pc lv (v :: st) ws :=
  fun ls H locs hl hP hD hS => lv_dup X.1 X.2.1 hd hv (kk ls H locs hl hP hD hS)
theorem z_dup2 (X : zX E own cc nL rm D t l) {v w : Value} (hd : decode cc pc = .ok (.dup2, 1)) (hv : v.category = 1) (hw : w.category = 1) (kk : Wz E k n (pc + 1) lv (v :: w :: v :: w :: st) ws) : Wz E k n pc lv (v :: w :: st) ws :=
  fun ls H locs hl hP hD hS => lv_dup2_11 X.1 X.2.1 hd hv hw (kk ls H locs hl hP hD hS)
theorem z_iadd (X : zX E own cc nL rm D t l) {x y : Int32} (hd : decode cc pc = .ok (.iadd, 1)) (kk : Wz E k n (pc + 1) lv (.int (x + y) :: st) ws) : Wz E k n pc lv (.int y :: .int x :: st) ws :=
  fun ls H locs hl hP hD hS => lv_iadd X.1 X.2.1 hd (kk ls H locs hl hP hD hS)
theorem z_isub (X : zX E own cc nL rm D t l) {x y : Int32} (hd : decode cc pc = .ok (.isub, 1)) (kk : Wz E k n (pc + 1) lv (.int (x - y) :: st) ws) : Wz E k n pc lv (.int y :: .int x :: st) ws :=
  fun ls H locs hl hP hD hS => lv_isub X.1 X.2.1 hd (kk ls H locs hl hP hD hS)
theorem z_imul (X : zX E own cc nL rm D t l) {x y : Int32} (hd : decode cc pc = .ok (.imul, 1)) (kk : Wz E k n (pc + 1) lv (.int (x * y) :: st) ws) : Wz E k n pc lv (.int y :: .int x :: st) ws :=
  fun ls H locs hl hP hD hS => lv_imul X.1 X.2.1 hd (kk ls H locs hl hP hD hS)
theorem z_idiv (X : zX E own cc nL rm D t l) {x y : Int32} (hd : decode cc pc = .ok (.idiv, 1)) (hy : ¬ y = 0) (kk : Wz E k n (pc + 1) lv (.int (x / y) :: st) ws) : Wz E k n pc lv (.int y :: .int x :: st) ws :=
  fun ls H locs hl hP hD hS => lv_idiv X.1 X.2.1 hd hy (kk ls H locs hl hP hD hS)
theorem z_irem (X : zX E own cc nL rm D t l) {x y : Int32} (hd : decode cc pc = .ok (.irem, 1)) (hy : ¬ y = 0) (kk : Wz E k n (pc + 1) lv (.int (x - x / y * y) :: st) ws) : Wz E k n pc lv (.int y :: .int x :: st) ws :=
  fun ls H locs hl hP hD hS => lv_irem X.1 X.2.1 hd hy (kk ls H locs hl hP hD hS)
theorem z_iand (X : zX E own cc nL rm D t l) {x y : Int32} (hd : decode cc pc = .ok (.iand, 1)) (kk : Wz E k n (pc + 1) lv (.int (x &&& y) :: st) ws) : Wz E k n pc lv (.int y :: .int x :: st) ws :=
  fun ls H locs hl hP hD hS => lv_iand X.1 X.2.1 hd (kk ls H locs hl hP hD hS)
theorem z_ior (X : zX E own cc nL rm D t l) {x y : Int32} (hd : decode cc pc = .ok (.ior, 1)) (kk : Wz E k n (pc + 1) lv (.int (x ||| y) :: st) ws) : Wz E k n pc lv (.int y :: .int x :: st) ws :=
  fun ls H locs hl hP hD hS => lv_ior X.1 X.2.1 hd (kk ls H locs hl hP hD hS)
theorem z_ixor (X : zX E own cc nL rm D t l) {x y : Int32} (hd : decode cc pc = .ok (.ixor, 1)) (kk : Wz E k n (pc + 1) lv (.int (x ^^^ y) :: st) ws) : Wz E k n pc lv (.int y :: .int x :: st) ws :=
  fun ls H locs hl hP hD hS => lv_ixor X.1 X.2.1 hd (kk ls H locs hl hP hD hS)
theorem z_ishl (X : zX E own cc nL rm D t l) {x y : Int32} (hd : decode cc pc = .ok (.ishl, 1)) (kk : Wz E k n (pc + 1) lv (.int (x <<< (y &&& 31)) :: st) ws) : Wz E k n pc lv (.int y :: .int x :: st) ws :=
  fun ls H locs hl hP hD hS => lv_ishl X.1 X.2.1 hd (kk ls H locs hl hP hD hS)
theorem z_ishr (X : zX E own cc nL rm D t l) {x y : Int32} (hd : decode cc pc = .ok (.ishr, 1)) (kk : Wz E k n (pc + 1) lv (.int (x >>> (y &&& 31)) :: st) ws) : Wz E k n pc lv (.int y :: .int x :: st) ws :=
  fun ls H locs hl hP hD hS => lv_ishr X.1 X.2.1 hd (kk ls H locs hl hP hD hS)
theorem z_iushr (X : zX E own cc nL rm D t l) {x y : Int32} (hd : decode cc pc = .ok (.iushr, 1)) (kk : Wz E k n (pc + 1) lv (.int (x.toUInt32 >>> (y.toUInt32 &&& Int32.toUInt32 31)).toInt32 :: st) ws) : Wz E k n pc lv (.int y :: .int x :: st) ws :=
  fun ls H locs hl hP hD hS => lv_iushr X.1 X.2.1 hd rfl (kk ls H locs hl hP hD hS)
theorem z_goto (X : zX E own cc nL rm D t l) {off : Int} {tgt : Nat} (hd : decode cc pc = .ok (.goto off, 3)) (ht : (pc : Int) + off = (tgt : Int)) (kk : Wz E k n tgt lv st ws) : Wz E k n pc lv st ws :=
  fun ls H locs hl hP hD hS => lv_goto X.1 X.2.1 hd ht (kk ls H locs hl hP hD hS)
theorem z_i2l (X : zX E own cc nL rm D t l) {x : Int32} (hd : decode cc pc = .ok (.i2l, 1)) (kk : Wz E k n (pc + 1) lv (.long x.toInt64 :: st) ws) : Wz E k n pc lv (.int x :: st) ws :=
  fun ls H locs hl hP hD hS => lv_i2l X.1 X.2.1 hd rfl (kk ls H locs hl hP hD hS)
theorem z_lconst (X : zX E own cc nL rm D t l) {i : Fin 2} {v : Int64} (hd : decode cc pc = .ok (.lconst i, 1)) (hv : Int64.ofNat (i : Nat) = v) (kk : Wz E k n (pc + 1) lv (.long v :: st) ws) : Wz E k n pc lv st ws :=
  fun ls H locs hl hP hD hS => lv_lconst X.1 X.2.1 hd hv (kk ls H locs hl hP hD hS)
theorem z_lcmp (X : zX E own cc nL rm D t l) {x y : Int64} (hd : decode cc pc = .ok (.lcmp, 1)) (kk : Wz E k n (pc + 1) lv (.int (lg_cmp x y) :: st) ws) : Wz E k n pc lv (.long y :: .long x :: st) ws :=
  fun ls H locs hl hP hD hS => W.lcmp X.1 X.2.1 hd (kk ls H locs hl hP hD hS)
theorem z_fconst0 (X : zX E own cc nL rm D t l) (hd : decode cc pc = .ok (.fconst 0, 1)) (kk : Wz E k n (pc + 1) lv (.float FP.fconst0 :: st) ws) : Wz E k n pc lv st ws :=
  fun ls H locs hl hP hD hS => lv_fconst0 X.1 X.2.1 hd (kk ls H locs hl hP hD hS)
theorem z_i2f (X : zX E own cc nL rm D t l) {x : Int32} (hd : decode cc pc = .ok (.i2f, 1)) (kk : Wz E k n (pc + 1) lv (.float (FP.i2f x) :: st) ws) : Wz E k n pc lv (.int x :: st) ws :=
  fun ls H locs hl hP hD hS => lv_i2f X.1 X.2.1 hd (kk ls H locs hl hP hD hS)
theorem z_f2i (X : zX E own cc nL rm D t l) {x : UInt32} (hd : decode cc pc = .ok (.f2i, 1)) (kk : Wz E k n (pc + 1) lv (.int (FP.f2i x) :: st) ws) : Wz E k n pc lv (.float x :: st) ws :=
  fun ls H locs hl hP hD hS => lv_f2i X.1 X.2.1 hd (kk ls H locs hl hP hD hS)
theorem z_fadd (X : zX E own cc nL rm D t l) {x y : UInt32} (hd : decode cc pc = .ok (.fadd, 1)) (hn : vf_n32 (FP.fadd x y)) (kk : Wz E k n (pc + 1) lv (.float (FP.fadd x y) :: st) ws) : Wz E k n pc lv (.float y :: .float x :: st) ws :=
  fun ls H locs hl hP hD hS => lv_fadd X.1 X.2.1 hd hn (kk ls H locs hl hP hD hS)
theorem z_fsub (X : zX E own cc nL rm D t l) {x y : UInt32} (hd : decode cc pc = .ok (.fsub, 1)) (hn : vf_n32 (FP.fsub x y)) (kk : Wz E k n (pc + 1) lv (.float (FP.fsub x y) :: st) ws) : Wz E k n pc lv (.float y :: .float x :: st) ws :=
  fun ls H locs hl hP hD hS => lv_fsub X.1 X.2.1 hd hn (kk ls H locs hl hP hD hS)
theorem z_fmul (X : zX E own cc nL rm D t l) {x y : UInt32} (hd : decode cc pc = .ok (.fmul, 1)) (hn : vf_n32 (FP.fmul x y)) (kk : Wz E k n (pc + 1) lv (.float (FP.fmul x y) :: st) ws) : Wz E k n pc lv (.float y :: .float x :: st) ws :=
  fun ls H locs hl hP hD hS => lv_fmul X.1 X.2.1 hd hn (kk ls H locs hl hP hD hS)
theorem z_fdiv (X : zX E own cc nL rm D t l) {x y : UInt32} (hd : decode cc pc = .ok (.fdiv, 1)) (hn : vf_n32 (FP.fdiv x y)) (kk : Wz E k n (pc + 1) lv (.float (FP.fdiv x y) :: st) ws) : Wz E k n pc lv (.float y :: .float x :: st) ws :=
  fun ls H locs hl hP hD hS => lv_fdiv X.1 X.2.1 hd hn (kk ls H locs hl hP hD hS)
theorem z_ldcw (X : zX E own cc nL rm D t l) {i : Nat} {v : Int32} (hw : Cond.constant own i v ∈ zTs) (hd : decode cc pc = .ok (.ldc_w i, 3)) (kk : Wz E k n (pc + 3) lv (.int v :: st) ws) : Wz E k n pc lv st ws :=
  fun ls H locs hl hP hD hS => lv_ldcw X.1 X.2.1 X.2.2.2.1 (X.2.2.2.2.2.2.1 _ hw) hd (kk ls H locs hl hP hD hS)
theorem z_ldcf (X : zX E own cc nL rm D t l) {i : Nat} {v : UInt32} (hw : Cond.constantFloat own i v ∈ zTs) (hd : decode cc pc = .ok (.ldc i, 2)) (kk : Wz E k n (pc + 2) lv (.float v :: st) ws) : Wz E k n pc lv st ws :=
  fun ls H locs hl hP hD hS => lv_ldcf X.1 X.2.1 X.2.2.2.1 (X.2.2.2.2.2.2.1 _ hw) hd (kk ls H locs hl hP hD hS)
theorem z_if_eq (X : zX E own cc nL rm D t l) {x : Int32} {off : Int} {tgt : Nat} (hd : decode cc pc = .ok (.ifCond .eq off, 3)) (ht : (pc : Int) + off = (tgt : Int)) (kt : x = 0 → Wz E k n tgt lv st ws) (kf : ¬ (x = 0) → Wz E k n (pc + 3) lv st ws) : Wz E k n pc lv (.int x :: st) ws :=
  fun ls H locs hl hP hD hS => lv_if_eq X.1 X.2.1 hd ht (fun h => kt h ls H locs hl hP hD hS) (fun h => kf h ls H locs hl hP hD hS)
theorem z_if_ne (X : zX E own cc nL rm D t l) {x : Int32} {off : Int} {tgt : Nat} (hd : decode cc pc = .ok (.ifCond .ne off, 3)) (ht : (pc : Int) + off = (tgt : Int)) (kt : ¬ x = 0 → Wz E k n tgt lv st ws) (kf : x = 0 → Wz E k n (pc + 3) lv st ws) : Wz E k n pc lv (.int x :: st) ws :=
  fun ls H locs hl hP hD hS => lv_if_ne X.1 X.2.1 hd ht (fun h => kt h ls H locs hl hP hD hS) (fun h => kf h ls H locs hl hP hD hS)
theorem z_if_lt (X : zX E own cc nL rm D t l) {x : Int32} {off : Int} {tgt : Nat} (hd : decode cc pc = .ok (.ifCond .lt off, 3)) (ht : (pc : Int) + off = (tgt : Int)) (kt : x < 0 → Wz E k n tgt lv st ws) (kf : ¬ (x < 0) → Wz E k n (pc + 3) lv st ws) : Wz E k n pc lv (.int x :: st) ws :=
  fun ls H locs hl hP hD hS => lv_if_lt X.1 X.2.1 hd ht (fun h => kt h ls H locs hl hP hD hS) (fun h => kf h ls H locs hl hP hD hS)
theorem z_if_ge (X : zX E own cc nL rm D t l) {x : Int32} {off : Int} {tgt : Nat} (hd : decode cc pc = .ok (.ifCond .ge off, 3)) (ht : (pc : Int) + off = (tgt : Int)) (kt : 0 ≤ x → Wz E k n tgt lv st ws) (kf : ¬ (0 ≤ x) → Wz E k n (pc + 3) lv st ws) : Wz E k n pc lv (.int x :: st) ws :=
  fun ls H locs hl hP hD hS => lv_if_ge X.1 X.2.1 hd ht (fun h => kt h ls H locs hl hP hD hS) (fun h => kf h ls H locs hl hP hD hS)
theorem z_if_gt (X : zX E own cc nL rm D t l) {x : Int32} {off : Int} {tgt : Nat} (hd : decode cc pc = .ok (.ifCond .gt off, 3)) (ht : (pc : Int) + off = (tgt : Int)) (kt : 0 < x → Wz E k n tgt lv st ws) (kf : ¬ (0 < x) → Wz E k n (pc + 3) lv st ws) : Wz E k n pc lv (.int x :: st) ws :=
  fun ls H locs hl hP hD hS => lv_if_gt X.1 X.2.1 hd ht (fun h => kt h ls H locs hl hP hD hS) (fun h => kf h ls H locs hl hP hD hS)
theorem z_if_le (X : zX E own cc nL rm D t l) {x : Int32} {off : Int} {tgt : Nat} (hd : decode cc pc = .ok (.ifCond .le off, 3)) (ht : (pc : Int) + off = (tgt : Int)) (kt : x ≤ 0 → Wz E k n tgt lv st ws) (kf : ¬ (x ≤ 0) → Wz E k n (pc + 3) lv st ws) : Wz E k n pc lv (.int x :: st) ws :=
  fun ls H locs hl hP hD hS => lv_if_le X.1 X.2.1 hd ht (fun h => kt h ls H locs hl hP hD hS) (fun h => kf h ls H locs hl hP hD hS)
theorem z_icmp_eq (X : zX E own cc nL rm D t l) {x y : Int32} {off : Int} {tgt : Nat} (hd : decode cc pc = .ok (.if_icmp .eq off, 3)) (ht : (pc : Int) + off = (tgt : Int)) (kt : x = y → Wz E k n tgt lv st ws) (kf : ¬ (x = y) → Wz E k n (pc + 3) lv st ws) : Wz E k n pc lv (.int y :: .int x :: st) ws :=
  fun ls H locs hl hP hD hS => lv_icmp_eq X.1 X.2.1 hd ht (fun h => kt h ls H locs hl hP hD hS) (fun h => kf h ls H locs hl hP hD hS)
theorem z_icmp_ne (X : zX E own cc nL rm D t l) {x y : Int32} {off : Int} {tgt : Nat} (hd : decode cc pc = .ok (.if_icmp .ne off, 3)) (ht : (pc : Int) + off = (tgt : Int)) (kt : ¬ x = y → Wz E k n tgt lv st ws) (kf : x = y → Wz E k n (pc + 3) lv st ws) : Wz E k n pc lv (.int y :: .int x :: st) ws :=
  fun ls H locs hl hP hD hS => lv_icmp_ne X.1 X.2.1 hd ht (fun h => kt h ls H locs hl hP hD hS) (fun h => kf h ls H locs hl hP hD hS)
theorem z_icmp_lt (X : zX E own cc nL rm D t l) {x y : Int32} {off : Int} {tgt : Nat} (hd : decode cc pc = .ok (.if_icmp .lt off, 3)) (ht : (pc : Int) + off = (tgt : Int)) (kt : x < y → Wz E k n tgt lv st ws) (kf : ¬ (x < y) → Wz E k n (pc + 3) lv st ws) : Wz E k n pc lv (.int y :: .int x :: st) ws :=
  fun ls H locs hl hP hD hS => lv_icmp_lt X.1 X.2.1 hd ht (fun h => kt h ls H locs hl hP hD hS) (fun h => kf h ls H locs hl hP hD hS)
theorem z_icmp_ge (X : zX E own cc nL rm D t l) {x y : Int32} {off : Int} {tgt : Nat} (hd : decode cc pc = .ok (.if_icmp .ge off, 3)) (ht : (pc : Int) + off = (tgt : Int)) (kt : y ≤ x → Wz E k n tgt lv st ws) (kf : ¬ (y ≤ x) → Wz E k n (pc + 3) lv st ws) : Wz E k n pc lv (.int y :: .int x :: st) ws :=
  fun ls H locs hl hP hD hS => lv_icmp_ge X.1 X.2.1 hd ht (fun h => kt h ls H locs hl hP hD hS) (fun h => kf h ls H locs hl hP hD hS)
theorem z_icmp_gt (X : zX E own cc nL rm D t l) {x y : Int32} {off : Int} {tgt : Nat} (hd : decode cc pc = .ok (.if_icmp .gt off, 3)) (ht : (pc : Int) + off = (tgt : Int)) (kt : y < x → Wz E k n tgt lv st ws) (kf : ¬ (y < x) → Wz E k n (pc + 3) lv st ws) : Wz E k n pc lv (.int y :: .int x :: st) ws :=
  fun ls H locs hl hP hD hS => lv_icmp_gt X.1 X.2.1 hd ht (fun h => kt h ls H locs hl hP hD hS) (fun h => kf h ls H locs hl hP hD hS)
theorem z_icmp_le (X : zX E own cc nL rm D t l) {x y : Int32} {off : Int} {tgt : Nat} (hd : decode cc pc = .ok (.if_icmp .le off, 3)) (ht : (pc : Int) + off = (tgt : Int)) (kt : x ≤ y → Wz E k n tgt lv st ws) (kf : ¬ (x ≤ y) → Wz E k n (pc + 3) lv st ws) : Wz E k n pc lv (.int y :: .int x :: st) ws :=
  fun ls H locs hl hP hD hS => lv_icmp_le X.1 X.2.1 hd ht (fun h => kt h ls H locs hl hP hD hS) (fun h => kf h ls H locs hl hP hD hS)
theorem zX.K (X : zX E own cc nL rm D t l) : va_K (zD E) vwCl (zTy t) (zs E) := by
  obtain ⟨-, -, -, -, hK, -, -, hD, -⟩ := X
  rw [hD]; exact hK.1
theorem zX.w (X : zX E own cc nL rm D t l) {w : Cond} (h : w ∈ zTs) : w.before (zargs E) (zs E) = true := X.2.2.2.2.2.2.1 w h
theorem zWr.dd {L : List Nat} (Y : zWr E L) (hL : ws.map (fun x => x.1) = L) (hD : va_D (fun _ => True) ws) : va_D (zA E) ws := ⟨hD.1, fun k q hq => Y q.1 (by rw [← hL]; exact List.mem_map.mpr ⟨q, List.mem_of_getElem? hq, rfl⟩)⟩
theorem z_get (X : zX E own cc nL rm D t l) {C ref : String} {T : u_T} {N ci i a : Nat} {fs : List Value} {v : Value} (hin : ∀ w ∈ u_ws C T N, w ∈ zTs) (q0 j : Nat) (he : ws[q0]? = some (a, .inr (ci, fs))) (hc : vwCl[ci]? = some (C, T, N)) (hj : j < N) (hw : Cond.fieldLink own i ref (T j).2.1 (T j).2.2.1 ∈ zTs) (hsame : ref = (T j).1) (hv : fs[j]? = some v) (hd : decode cc pc = .ok (.getfield i, 3)) (kk : Wz E k n (pc + 3) lv (v :: st) ws) : Wz E k n pc lv (.ref a :: st) ws :=
  fun ls H locs hl hP hD hS => va_get X.1 X.2.1 X.2.2.2.2.2.2.1 hin X.2.2.2.1 X.K hP q0 he hc j hj (X.w hw) (fun x h => by rw [hsame]; exact h) hv hd (kk ls H locs hl hP hD hS)
theorem z_put (X : zX E own cc nL rm D t l) {L : List Nat} (Y : zWr E L) {C ref : String} {T : u_T} {N ci i a : Nat} {fs : List Value} {v : Value} {ty : FieldType} (hin : ∀ w ∈ u_ws C T N, w ∈ zTs) (ty0 : Nat → FieldType) (hty : ∀ k, k < N → parseFieldDescriptor (T k).2.2.1 = some (ty0 k)) (hnm : ∀ a, a < N → ∀ b, b < N → a ≠ b → (T a).2.1 ≠ (T b).2.1) (q0 j : Nat) (hL : ws.map (fun x => x.1) = L) (he : ws[q0]? = some (a, .inr (ci, fs))) (hc : vwCl[ci]? = some (C, T, N)) (hj : j < N) (hw : Cond.fieldLink own i ref (T j).2.1 (T j).2.2.1 ∈ zTs) (hsame : ref = (T j).1) (hfin : (T j).2.2.2 = false) (hdd : parseFieldDescriptor (T j).2.2.1 = some ty) (hn : narrow ty v = v) (hfit : fits ty v = true) (hlen : j < fs.length) (hd : decode cc pc = .ok (.putfield i, 3)) (kk : Wz E k n (pc + 3) lv st (ws.set q0 (a, .inr (ci, fs.set j v)))) : Wz E k n pc lv (v :: .ref a :: st) ws :=
  fun ls H locs hl hP hD hS => va_put X.1 X.2.1 X.2.2.2.2.2.2.1 hin ty0 hty hnm X.2.2.2.1 X.K hP (Y.dd hL hD) hS q0 he hc j hj (X.w hw) (fun x h => by rw [hsame]; exact h) hfin hdd hn hfit hlen hd (fun H1 locs1 hP1 hD1 hS1 => kk ls H1 locs1 hl hP1 (hD1.weaken fun _ _ _ _ => trivial) hS1)
theorem z_iald (X : zX E own cc nL rm D t l) {a m : Nat} {f : Nat → Int32} {i : Int32} (q0 : Nat) (ha : ws[q0]? = some (a, .inl (t.1, m, .inl f))) (hi : vp_in i m) (hd : decode cc pc = .ok (.iaload, 1)) (kk : Wz E k n (pc + 1) lv (.int (f i.toNatClampNeg) :: st) ws) : Wz E k n pc lv (.int i :: .ref a :: st) ws :=
  fun ls H locs hl hP hD hS => va_iald X.1 X.2.1 X.K hP q0 0 ha rfl hi hd (kk ls H locs hl hP hD hS)
theorem z_iast (X : zX E own cc nL rm D t l) {L : List Nat} (Y : zWr E L) {a m : Nat} {f : Nat → Int32} {i x : Int32} (q0 : Nat) (hL : ws.map (fun x => x.1) = L) (ha : ws[q0]? = some (a, .inl (t.1, m, .inl f))) (hi : vp_in i m) (hd : decode cc pc = .ok (.iastore, 1)) (kk : Wz E k n (pc + 1) lv st (ws.set q0 (a, .inl (t.1, m, .inl (upd f i.toNatClampNeg x))))) : Wz E k n pc lv (.int x :: .int i :: .ref a :: st) ws :=
  fun ls H locs hl hP hD hS => va_iast X.1 X.2.1 X.K hP (Y.dd hL hD) hS q0 0 ha rfl hi hd (fun H1 locs1 hP1 hD1 hS1 => kk ls H1 locs1 hl hP1 (hD1.weaken fun _ _ _ _ => trivial) hS1)
theorem z_alen (X : zX E own cc nL rm D t l) {a : Nat} {x : vp_A} {v : Int32} (q0 : Nat) (ha : ws[q0]? = some (a, .inl (t.1, x))) (hv : Int32.ofNat x.1 = v) (hd : decode cc pc = .ok (.arraylength, 1)) (kk : Wz E k n (pc + 1) lv (.int v :: st) ws) : Wz E k n pc lv (.ref a :: st) ws :=
  fun ls H locs hl hP hD hS => va_alen X.1 X.2.1 X.K hP q0 0 ha rfl hv hd (kk ls H locs hl hP hD hS)
end ZR
/-! ends -/
def zEnd (E : zE) (ret : Option FieldType) (Qc : Array Value → State → Outcome → State → Prop) (mc ms : Nat) : Prop := (zh E).sig.returnType = ret ∧ (zh E).locks = false ∧ zQ E = MQ (zb E) Qc (zargs E) (zs E) mc ms (zA E)
section ZE
variable {E : zE} {k n pc : Nat} {lv : List (Option Value)} {ws : va_W} {own : String} {cc : ByteArray} {nL : Nat} {rm : Room} {D : va_G} {t : ClassId × ClassId × ClassId} {l : Launch} {S : Type}
theorem z_iret {post : Int32 → S → Prop} {B : S → State → Prop} {ty : FieldType} {v : Int32} (X : zX E own cc nL rm D t l) (Z : zEnd E (some ty) (va_Qi post B (zA E)) k n) (hn : narrow ty (.int v) = .int v) (hd : decode cc pc = .ok (.ireturn, 1)) (h : ∃ u, post v u ∧ ∀ q : State, va_P D vwCl ws q.heap → B u q) : Wz E k n pc lv [.int v] ws := by
  intro ls H locs hl hP hD hS
  obtain ⟨hr, hlocks, hQ⟩ := Z
  obtain ⟨u, h1, h2⟩ := h
  rw [hQ]
  have hDD : zD E = D := X.2.2.2.2.2.2.2.1
  exact W.zret X.1 X.2.1 hr hn (fun q hq hW => ⟨⟨v, u, rfl, h1, h2 q (by rw [hq, ← hDD]; exact hP)⟩, hS.F hq⟩) hS.2.2 hd hlocks
theorem z_vret {post : S → Prop} {B : S → State → Prop} (X : zX E own cc nL rm D t l) (Z : zEnd E none (va_Qv post B (zA E)) k n) (hd : decode cc pc = .ok (.return_, 1)) (h : ∃ u, post u ∧ ∀ q : State, va_P D vwCl ws q.heap → B u q) : Wz E k n pc lv [] ws := by
  intro ls H locs hl hP hD hS
  obtain ⟨hr, hlocks, hQ⟩ := Z
  obtain ⟨u, h1, h2⟩ := h
  rw [hQ]
  have hDD : zD E = D := X.2.2.2.2.2.2.2.1
  exact W.vret X.1 X.2.1 hr (fun q hq hW => ⟨⟨u, rfl, h1, h2 q (by rw [hq, ← hDD]; exact hP)⟩, hS.F hq⟩) hS.2.2 hd hlocks
end ZE
/-! contracts: what a method's start has -/
def zPc (D : va_G) (t : ClassId × ClassId × ClassId) (As : List Value) (w : va_W) : Array Value → State → Prop := va_Pc As (fun U => va_P D vwCl w U.heap ∧ zKp D t U ∧ va_D (fun _ => True) w)
/-- the words of a method: its code, and the table -/
abbrev zWs (y : MethodName) (c : ByteArray) (n : Nat) (ret : Option FieldType) : List Cond := .code y c n ret :: zTs
/-- a method that only reads: its answer satisfies φ -/
def zM1 (l : Launch) (y : MethodName) (c : ByteArray) (n : Nat) (ret : Option FieldType) (h : Nat) (D : va_G) (t : ClassId × ClassId × ClassId) (As : List Value) (w : va_W) (φ : Int32 → Prop) : Prop :=
  Met l y (zWs y c n ret) (zR h) (zPc D t As w) (va_Qi (fun r (_ : Unit) => φ r) (fun _ _ => True) (fun _ => False)) 0 0 (fun _ => False)
/-- a method that answers r and leaves the cells w' u, where φ r u -/
def zM2 {S : Type} (l : Launch) (y : MethodName) (c : ByteArray) (n : Nat) (ret : Option FieldType) (h : Nat) (D : va_G) (t : ClassId × ClassId × ClassId) (As : List Value) (w : va_W) (φ : Int32 → S → Prop) (w' : S → va_W) : Prop :=
  Met l y (zWs y c n ret) (zR h) (zPc D t As w) (va_Qi φ (fun u q => va_P D vwCl (w' u) q.heap) (zin w)) 0 0 (zin w)
/-- a method that answers nothing -/
def zM3 {S : Type} (l : Launch) (y : MethodName) (c : ByteArray) (n : Nat) (h : Nat) (D : va_G) (t : ClassId × ClassId × ClassId) (As : List Value) (w : va_W) (φ : S → Prop) (w' : S → va_W) : Prop :=
  Met l y (zWs y c n none) (zR h) (zPc D t As w) (va_Qv φ (fun u q => va_P D vwCl (w' u) q.heap) (zin w)) 0 0 (zin w)
theorem z_entry {As : List Value} {n : Nat} (hc : ∀ v ∈ As, v.category = 1) (hn : As.length ≤ n) : zHas ((As.map Slot.val ++ List.replicate (n - As.length) Slot.unset).toArray) (As.map some ++ List.replicate (n - As.length) none) := by
  have hsl : lg_sl As = As.map Slot.val := by
    clear hn
    induction As with
    | nil => rfl
    | cons a l ih =>
      have ha : a.category = 1 := hc a List.mem_cons_self
      have hl := ih (fun v hv => hc v (List.mem_cons_of_mem _ hv))
      simp only [lg_sl, List.flatMap_cons, List.map_cons] at hl ⊢
      rw [hl, if_neg (by omega)]
      rfl
  have h0 := lv_entry As (n := n) (by rw [hsl]; simpa using hn)
  rw [hsl, List.length_map] at h0
  have hargs : ∀ (As : List Value) (b i : Nat) (v : Value), (∀ v ∈ As, v.category = 1) → b ≤ i → As[i - b]? = some v → (i, v) ∈ lv_args b As := by
    intro As
    induction As with
    | nil => intro b i v _ _ h; simp at h
    | cons a l ih =>
      intro b i v hc hb h
      have ha : a.category = 1 := hc a List.mem_cons_self
      rcases Nat.eq_or_lt_of_le hb with e | e
      · subst e
        simp at h
        subst h
        simp [lv_args]
      · rw [show i - b = (i - (b + 1)) + 1 by omega, List.getElem?_cons_succ] at h
        have := ih (b + 1) i v (fun v hv => hc v (List.mem_cons_of_mem _ hv)) e h
        simp only [lv_args, ha]
        exact List.mem_cons_of_mem _ this
  refine zHas.of h0 (by simp; omega) (fun v hv => ?_) (fun i v hi => ?_)
  · rcases List.mem_append.mp hv with h | h
    · obtain ⟨w, hw, e⟩ := List.mem_map.mp h
      cases e
      exact hc _ hw
    · have := List.eq_of_mem_replicate h
      cases this
  · refine hargs As 0 i v hc (Nat.zero_le _) ?_
    by_cases hl : i < As.length
    · rw [List.getElem?_append_left (by simpa using hl)] at hi
      simpa using hi
    · rw [List.getElem?_append_right (by simpa using hl)] at hi
      have := List.eq_of_mem_replicate (List.mem_of_getElem? hi)
      cases this
/-- a body's contract, also where the class has native methods beside this one -/
theorem z_metW {l : Launch} {y : MethodName} {ws ws' : List Cond} {rm : Room} {Pc : Array Value → State → Prop} {Qc : Array Value → State → Outcome → State → Prop} {mc ms : Nat} {free : Addr → Prop} {cc : ByteArray} {maxL : Nat} {ret : Option FieldType}
    (hy : plainFor y = true) (hw : ws = Cond.code y cc maxL ret :: ws')
    (body : ∀ p e s m args below meth c s₁, BodyLoose p l y (headSpec ws rm) cc maxL ret e s m args below meth c s₁ → c.maxLocals = maxL → Pc args s →
      W p l e (headSpec ws rm).room s m args below meth c s.heap [] 0 0 (MQ below Qc args s mc ms free) (entryFrame m args maxL)) : Met l y ws rm Pc Qc mc ms free := by
  refine MetFree.of_bodySF (code := cc) (maxLocals := maxL) (ret := ret) hy ?_ ?_
  · intro args s m h hn
    obtain ⟨meth, c, h1, h2, h3, h4, h5, h6, -, -⟩ := Cond.code_spec hn (atoms_spec (ws := ws) h _ (by rw [hw]; exact List.mem_cons_self))
    exact ⟨meth, c, h1, h2, h3, h4, h5, h6⟩
  · intro p e s m args below meth c s₁ B hml hP _
    have hh0 : s₁.heap = s.heap := by rw [B.state]; rfl
    obtain ⟨t, a1, o, b1, b2, b3⟩ := body p e s m args below meth c s₁ B hml hP s₁ hh0 (Stand.of_body B)
    exact ⟨t, o, a1, b1, b2, ⟨b3.1, b3.2⟩⟩
/-- a body -/
theorem z_ofW {l : Launch} {y : MethodName} {c : ByteArray} {n : Nat} {ret : Option FieldType} {h : Nat} {D : va_G} {t : ClassId × ClassId × ClassId} {As : List Value} {w : va_W} {Qc : Array Value → State → Outcome → State → Prop} {free : Addr → Prop}
    (hy : plainFor y = true) (hn : As.length ≤ n) (hc : ∀ v ∈ As, v.category = 1)
    (body : ∀ E : zE, zX E y.cls c n (zR h) D t l → zEnd E ret Qc 0 0 → zA E = free → Wz E 0 0 0 (As.map some ++ List.replicate (n - As.length) none) [] w) :
    Met l y (zWs y c n ret) (zR h) (zPc D t As w) Qc 0 0 free := by
  refine z_metW (cc := c) (maxL := n) (ret := ret) hy rfl ?_
  intro p e s m args below meth c0 s₁ B hml hv
  obtain ⟨rfl, hP, hK, hD⟩ := hv
  have hts := atoms_spec (ws := zWs y c n ret) B.pre
  rw [entry_eq m As hc n]
  exact body (p, l, e, zR h, s, m, As.toArray, below, meth, c0, D, free, MQ below Qc As.toArray s 0 0 free, t)
    ⟨B.exec, B.bytes, hml, findClass_of_methodNamed B.named, hK, rfl, fun w hw => hts w (List.mem_cons_of_mem _ hw), rfl, rfl, rfl⟩
    ⟨B.returns, B.notSynchronized, rfl⟩ rfl _ s.heap [] (z_entry hc hn) hP hD va_S.rf
theorem z_m1 {l : Launch} {y : MethodName} {c : ByteArray} {n : Nat} {ret : Option FieldType} {h : Nat} {D : va_G} {t : ClassId × ClassId × ClassId} {As : List Value} {w : va_W} {φ : Int32 → Prop}
    (hy : plainFor y = true) (hn : As.length ≤ n) (hc : ∀ v ∈ As, v.category = 1)
    (body : ∀ E : zE, zX E y.cls c n (zR h) D t l → zEnd E ret (va_Qi (fun r (_ : Unit) => φ r) (fun _ _ => True) (zA E)) 0 0 → Wz E 0 0 0 (As.map some ++ List.replicate (n - As.length) none) [] w) : zM1 l y c n ret h D t As w φ :=
  z_ofW hy hn hc (fun E X Z hA => body E X (by rw [hA]; exact Z))
theorem z_m2 {S : Type} {l : Launch} {y : MethodName} {c : ByteArray} {n : Nat} {ret : Option FieldType} {h : Nat} {D : va_G} {t : ClassId × ClassId × ClassId} {As : List Value} {w : va_W} {φ : Int32 → S → Prop} {w' : S → va_W}
    (hy : plainFor y = true) (hn : As.length ≤ n) (hc : ∀ v ∈ As, v.category = 1)
    (body : ∀ E : zE, zX E y.cls c n (zR h) D t l → zEnd E ret (va_Qi φ (fun u q => va_P D vwCl (w' u) q.heap) (zA E)) 0 0 → zWr E (w.map (fun x => x.1)) → Wz E 0 0 0 (As.map some ++ List.replicate (n - As.length) none) [] w) : zM2 l y c n ret h D t As w φ w' :=
  z_ofW hy hn hc (fun E X Z hA => body E X (by rw [hA]; exact Z) (fun q hq => by rw [hA]; exact hq))
theorem z_m3 {S : Type} {l : Launch} {y : MethodName} {c : ByteArray} {n : Nat} {h : Nat} {D : va_G} {t : ClassId × ClassId × ClassId} {As : List Value} {w : va_W} {φ : S → Prop} {w' : S → va_W}
    (hy : plainFor y = true) (hn : As.length ≤ n) (hc : ∀ v ∈ As, v.category = 1)
    (body : ∀ E : zE, zX E y.cls c n (zR h) D t l → zEnd E none (va_Qv φ (fun u q => va_P D vwCl (w' u) q.heap) (zA E)) 0 0 → zWr E (w.map (fun x => x.1)) → Wz E 0 0 0 (As.map some ++ List.replicate (n - As.length) none) [] w) : zM3 l y c n h D t As w φ w' :=
  z_ofW hy hn hc (fun E X Z hA => body E X (by rw [hA]; exact Z) (fun q hq => by rw [hA]; exact hq))
/-! calls -/
def zPkS (y : MethodName) (c : ByteArray) (n : Nat) (ret : Option FieldType) (np : Nat) : Prop := Cond.static y ∈ zTs ∧ Cond.initialized y.cls ∈ zTs ∧ Cond.code y c n ret ∈ zTs ∧ (y.cls ≠ "java/lang/invoke/MethodHandle" ∧ y.cls ≠ "java/lang/invoke/VarHandle" ∧ (parseMethodDescriptor y.desc).map (fun d => d.parameters.length) = some np) ∧ n ≤ 13
def zPkV (y : MethodName) (c : ByteArray) (n : Nat) (ret : Option FieldType) (np : Nat) : Prop := Cond.instanceMethod y ∈ zTs ∧ Cond.selects y.cls y y ∈ zTs ∧ Cond.initialized y.cls ∈ zTs ∧ Cond.code y c n ret ∈ zTs ∧ (y.cls ≠ "java/lang/invoke/MethodHandle" ∧ y.cls ≠ "java/lang/invoke/VarHandle" ∧ (parseMethodDescriptor y.desc).map (fun d => d.parameters.length) = some np) ∧ n ≤ 13
theorem zGood {ws : List Cond} (h : ∀ w ∈ ws, w ∈ zTs) : GoodIn zTs ws := fun w hw => ⟨h w hw, good_of_word (zTs_good w (h w hw))⟩
theorem zGoodW {y : MethodName} {c : ByteArray} {n : Nat} {ret : Option FieldType} (h : Cond.code y c n ret ∈ zTs) : GoodIn zTs (zWs y c n ret) := zGood (fun w hw => (List.mem_cons.mp hw).elim (fun e => by rw [e]; exact h) id)
theorem zKp.moved {D : va_G} {t : ClassId × ClassId × ClassId} {s U : State} (h : zKp D t s) (hW : s.WarmedH U.vm) : zKp D t U := ⟨va_K.moved hW.alike h.1, va_Nw.warmM hW h.2⟩
theorem zPc.blind {D : va_G} {t : ClassId × ClassId × ClassId} {As : List Value} {w : va_W} : FrameBlind (zPc D t As w) := fun a U g mk q => by
  obtain ⟨h1, h2, h3, h4⟩ := q
  exact ⟨h1, h2, ⟨va_K.moved (u := U) (U := U.calling g mk a) (Vm.Alike.refl U.vm) h3.1, va_Nw.same rfl rfl h3.2⟩, h4⟩
/-- the places of a part of the cells -/
def zPart (ws : va_W) (is : List Nat) (w : va_W) : Prop := va_nd is = true ∧ is.map (fun i => ws[i]?) = w.map some
theorem zPart.P {ws w : va_W} {is : List Nat} {D : va_G} {H : Heap} (h : zPart ws is w) (hP : va_P D vwCl ws H) : va_P D vwCl w H := by
  intro k q hq
  have h1 : (is.map (fun i => ws[i]?))[k]? = some (some q) := by rw [h.2, List.getElem?_map, hq]; rfl
  rw [List.getElem?_map] at h1
  cases hi : is[k]? with
  | none => rw [hi] at h1; cases h1
  | some i => rw [hi] at h1; exact hP i q (Option.some.inj h1)
theorem zPart.D {ws w : va_W} {is : List Nat} {A : Nat → Prop} (h : zPart ws is w) (hD : va_D A ws) : va_D A w := hD.sub is h.1 h.2
/-- a part of the cells changes, the others stay -/
def zMask (is : List Nat) (b : Nat) : va_W → List (Option (Nat × va_E))
  | [] => []
  | x :: l => (if is.contains b then none else some x) :: zMask is (b + 1) l
theorem zMask_get (is : List Nat) : ∀ (l : va_W) (b i : Nat), (zMask is b l)[i]? = (l[i]?).map (fun x => if is.contains (b + i) then none else some x)
  | [], b, i => by simp [zMask]
  | x :: l, b, i => by
    cases i with
    | zero => simp [zMask]
    | succ i =>
      rw [zMask, List.getElem?_cons_succ, zMask_get is l (b + 1) i, List.getElem?_cons_succ, show b + 1 + i = b + (i + 1) by omega]
def zSwap (ws : va_W) (is : List Nat) (w w' ws' : va_W) : Prop := zPart ws is w ∧ zPart ws' is w' ∧ ws'.map (fun x => x.1) = ws.map (fun x => x.1) ∧ zMask is 0 ws = zMask is 0 ws'
theorem zD_addr {A : Nat → Prop} {ws ws' : va_W} (h : ws'.map (fun x => x.1) = ws.map (fun x => x.1)) (hD : va_D A ws) : va_D A ws' := by
  have key : ∀ (k : Nat) (q : Nat × va_E), ws'[k]? = some q → ∃ q0, ws[k]? = some q0 ∧ q0.1 = q.1 := by
    intro k q hq
    have h1 : (ws'.map (fun x => x.1))[k]? = some q.1 := by rw [List.getElem?_map, hq]; rfl
    rw [h, List.getElem?_map] at h1
    cases hk : ws[k]? with
    | none => rw [hk] at h1; cases h1
    | some q0 => rw [hk] at h1; exact ⟨q0, rfl, Option.some.inj h1⟩
  refine ⟨fun i j p q hi hj e => ?_, fun k q hq => ?_⟩
  · obtain ⟨p0, a1, a2⟩ := key i p hi
    obtain ⟨q0, b1, b2⟩ := key j q hj
    exact hD.1 i j p0 q0 a1 b1 (a2.trans (e.trans b2.symm))
  · obtain ⟨q0, a1, a2⟩ := key k q hq
    rw [← a2]
    exact hD.2 k q0 a1
theorem zSwap.P {ws w w' ws' : va_W} {is : List Nat} {D : va_G} {H H1 : Heap} (h : zSwap ws is w w' ws') (hP : va_P D vwCl ws H) (hD : va_D (fun _ => True) ws) (hk : ∀ q : Nat, q < H.size → ¬ zin w q → H1[q]? = H[q]?) (hP1 : va_P D vwCl w' H1) : va_P D vwCl ws' H1 := by
  obtain ⟨h1, h2, h3, h4⟩ := h
  intro i q hq
  by_cases hi : i ∈ is
  · obtain ⟨k, hk1⟩ := List.getElem?_of_mem hi
    have e1 : (is.map (fun i => ws'[i]?))[k]? = some (some q) := by rw [List.getElem?_map, hk1]; show some (ws'[i]?) = _; rw [hq]
    rw [h2.2, List.getElem?_map] at e1
    cases hw : w'[k]? with
    | none => rw [hw] at e1; cases e1
    | some z =>
      rw [hw] at e1
      cases e1
      exact hP1 k q hw
  · have hc : is.contains i = false := by
      cases hcc : is.contains i with
      | false => rfl
      | true => exact absurd (by simpa using hcc) hi
    have e1 : (zMask is 0 ws)[i]? = some (some q) := by rw [h4, zMask_get, hq]; simp [hi]
    rw [zMask_get] at e1
    cases hw : ws[i]? with
    | none => rw [hw] at e1; cases e1
    | some z =>
      rw [hw] at e1
      simp [hi] at e1
      subst e1
      have hz := hP i z hw
      refine hz.kept (hk z.1 hz.lt (fun hin => ?_))
      obtain ⟨x, hx, ex⟩ := List.mem_map.mp hin
      obtain ⟨k, hk1⟩ := List.getElem?_of_mem hx
      have e2 : (is.map (fun i => ws[i]?))[k]? = some (some x) := by rw [h1.2, List.getElem?_map, hk1]; rfl
      rw [List.getElem?_map] at e2
      cases hik : is[k]? with
      | none => rw [hik] at e2; cases e2
      | some j =>
        rw [hik] at e2
        have hj : ws[j]? = some x := Option.some.inj e2
        have := hD.1 i j z x hw hj ex.symm
        subst this
        exact hi (List.mem_of_getElem? hik)
section ZC
variable {E : zE} {k n pc : Nat} {lv : List (Option Value)} {st st0 : List Value} {ws : va_W} {own : String} {cc : ByteArray} {nL : Nat} {D : va_G} {t : ClassId × ClassId × ClassId} {l : Launch}
variable {y : MethodName} {c0 : ByteArray} {n0 : Nat} {ret0 : Option FieldType} {h h0 np i : Nat} {As : List Value} {w : va_W} {φ : Int32 → Prop} {rc rs : Nat}
abbrev zRm (h rc rs : Nat) : Room := { frames := h, cells := rc, slots := rs, locals := 32 * h }
theorem z_preS (X : zX E own cc nL (zRm h rc rs) D t l) {is : List Nat} (hp : zPart ws is w) {H : Heap} (hP : va_P (zD E) vwCl ws H) (hD : va_D (fun _ => True) ws) : PreS (zs E) H (zPc D t As w) As := by
  refine ⟨zPc.blind, fun U hU hW => ⟨rfl, ?_, X.2.2.2.2.1.moved hW, hp.D hD⟩⟩
  rw [hU, ← X.2.2.2.2.2.2.2.1]
  exact hp.P hP
theorem z_runS {Qc : Array Value → State → Outcome → State → Prop} {free : Addr → Prop} (X : zX E own cc nL (zRm h rc rs) D t l) (hM : Met l y (zWs y c0 n0 ret0) (zR h0) (zPc D t As w) Qc 0 0 free) (pk : zPkS y c0 n0 ret0 np) (hml : Cond.methodLink own i y ∈ zTs) {is : List Nat} (hp : zPart ws is w) (hh : h0 < h) (hnp : As.length = np) (hnl : lv.length = nL) (hst : (st.map fun v => v.category).sum ≤ 8) (hd : decode cc pc = .ok (.invokestatic i, 3)) {ls : Array Slot} {H : Heap} {locs : List Loc} (hl : zHas ls lv) (hP : va_P (zD E) vwCl ws H) (hD : va_D (fun _ => True) ws) (hcs : k ≤ rc ∧ n ≤ rs) :
    va_Run E.1 E.2.1 E.2.2.1 E.2.2.2.1 (zs E) (zm E) (zargs E) (zb E) (zh E) (zc E) H locs k n 0 0 (F0 (zm E) pc ls (As.reverse ++ st)) st (Qc As.toArray) free := by
  obtain ⟨p1, p2, p3, p4, p5⟩ := pk
  have hl2 : E.2.1 = l := X.2.2.2.2.2.2.2.2.2
  have hR : E.2.2.2.1 = zRm h rc rs := X.2.2.2.2.2.1
  rw [hl2]
  refine va_runS (nL := nL) (n := np) (own := own) (bytes := c0) (maxL := n0) (ret := ret0) ⟨X.1, X.2.1, X.2.2.1, X.2.2.2.1, X.2.2.2.2.2.2.1⟩ hM ⟨callB_of np X.2.2.2.2.2.2.1 (zGoodW p3) rfl rfl rfl (X.w p2) (X.w hml) p4 ?_, X.w p1⟩ (z_preS X hp hP hD) rfl hnp ?_ rfl (lv_room hst) hd ?_
  · rw [hR]; exact ⟨hh, by show 8 + (n0 + 11) + 32 * h0 ≤ 32 * h; omega⟩
  · exact hl.1.1.trans hnl
  · rw [hR]; exact hcs
theorem z_runV {Qc : Array Value → State → Outcome → State → Prop} {free : Addr → Prop} {b : Nat} (X : zX E own cc nL (zRm h rc rs) D t l) (hM : Met l y (zWs y c0 n0 ret0) (zR h0) (zPc D t (.ref b :: As) w) Qc 0 0 free) (pk : zPkV y c0 n0 ret0 np) (hml : Cond.methodLink own i y ∈ zTs) {is : List Nat} (hp : zPart ws is w) {q0 ci : Nat} {fs : List Value} {T : u_T} {N : Nat} (he : ws[q0]? = some (b, .inr (ci, fs))) (hc : vwCl[ci]? = some (y.cls, T, N)) (hh : h0 < h) (hnp : As.length = np) (hnl : lv.length = nL) (hst : (st.map fun v => v.category).sum ≤ 8) (hd : decode cc pc = .ok (.invokevirtual i, 3)) {ls : Array Slot} {H : Heap} {locs : List Loc} (hl : zHas ls lv) (hP : va_P (zD E) vwCl ws H) (hD : va_D (fun _ => True) ws) (hcs : k ≤ rc ∧ n ≤ rs) :
    va_Run E.1 E.2.1 E.2.2.1 E.2.2.2.1 (zs E) (zm E) (zargs E) (zb E) (zh E) (zc E) H locs k n 0 0 (F0 (zm E) pc ls (As.reverse ++ .ref b :: st)) st (Qc (Value.ref b :: As).toArray) free := by
  obtain ⟨p1, p2, p3, p4, p5, p6⟩ := pk
  have hl2 : E.2.1 = l := X.2.2.2.2.2.2.2.2.2
  have hR : E.2.2.2.1 = zRm h rc rs := X.2.2.2.2.2.1
  rw [hl2]
  have hpre := z_preS (As := .ref b :: As) X hp hP hD
  refine va_runV (nL := nL) (n := np) (own := own) (C := y.cls) (bytes := c0) (maxL := n0) (ret := ret0) ⟨X.1, X.2.1, X.2.2.1, X.2.2.2.1, X.2.2.2.2.2.2.1⟩ hM ⟨callB_of np X.2.2.2.2.2.2.1 (zGoodW p4) rfl rfl rfl (X.w p3) (X.w hml) p5 ?_, X.w p1, X.w p2⟩ ⟨hpre.1, va_recv X.K hP hc he, hpre.2⟩ rfl hnp ?_ rfl (lv_room hst) hd ?_
  · rw [hR]; exact ⟨hh, by show 8 + (n0 + 11) + 32 * h0 ≤ 32 * h; omega⟩
  · exact hl.1.1.trans hnl
  · rw [hR]; exact hcs
/-- a static method that only reads -/
theorem z_callS1 (X : zX E own cc nL (zRm h rc rs) D t l) (hM : zM1 l y c0 n0 ret0 h0 D t As w φ) (pk : zPkS y c0 n0 ret0 np) (hml : Cond.methodLink own i y ∈ zTs) (is : List Nat) (hp : zPart ws is w) (hh : h0 < h) (hnp : As.length = np) (hnl : lv.length = nL) (hs0 : st0 = As.reverse ++ st) (hst : (st.map fun v => v.category).sum ≤ 8) (hcs : k ≤ rc ∧ n ≤ rs) (hd : decode cc pc = .ok (.invokestatic i, 3)) (kk : ∀ r, φ r → Wz E k n (pc + 3) lv (.int r :: st) ws) : Wz E k n pc lv st0 ws := by
  intro ls H locs hl hP hD hS
  subst hs0
  refine va_calli (z_runS X hM pk hml hp hh hnp hnl hst hd hl hP hD hcs) hS (fun q _ z => z.elim) (fun q z => z.elim) (fun r u T H1 locs1 hT _ hφ _ hz hk hS1 => ?_)
  exact kk r hφ ls H1 locs1 hl (hP.kept fun j q hq => hk q.1 (hP j q hq).lt id) hD hS1
/-- an instance method that only reads -/
theorem z_callV1 {b : Nat} (X : zX E own cc nL (zRm h rc rs) D t l) (hM : zM1 l y c0 n0 ret0 h0 D t (.ref b :: As) w φ) (pk : zPkV y c0 n0 ret0 np) (hml : Cond.methodLink own i y ∈ zTs) (is : List Nat) (hp : zPart ws is w) (q0 ci : Nat) {fs : List Value} {T : u_T} {N : Nat} (he : ws[q0]? = some (b, .inr (ci, fs))) (hc : vwCl[ci]? = some (y.cls, T, N)) (hh : h0 < h) (hnp : As.length = np) (hnl : lv.length = nL) (hs0 : st0 = As.reverse ++ .ref b :: st) (hst : (st.map fun v => v.category).sum ≤ 8) (hcs : k ≤ rc ∧ n ≤ rs) (hd : decode cc pc = .ok (.invokevirtual i, 3)) (kk : ∀ r, φ r → Wz E k n (pc + 3) lv (.int r :: st) ws) : Wz E k n pc lv st0 ws := by
  intro ls H locs hl hP hD hS
  subst hs0
  refine va_calli (z_runV X hM pk hml hp he hc hh hnp hnl hst hd hl hP hD hcs) hS (fun q _ z => z.elim) (fun q z => z.elim) (fun r u T H1 locs1 hT _ hφ _ hz hk hS1 => ?_)
  exact kk r hφ ls H1 locs1 hl (hP.kept fun j q hq => hk q.1 (hP j q hq).lt id) hD hS1
theorem zWr.in {L : List Nat} (Y : zWr E L) (hL : ws.map (fun x => x.1) = L) {is : List Nat} (hp : zPart ws is w) : ∀ q, zin w q → zA E q := by
  intro q hq
  obtain ⟨x, hx, rfl⟩ := List.mem_map.mp hq
  obtain ⟨j, hj⟩ := List.getElem?_of_mem hx
  have e2 : (is.map (fun i => ws[i]?))[j]? = some (some x) := by rw [hp.2, List.getElem?_map, hj]; rfl
  rw [List.getElem?_map] at e2
  cases hik : is[j]? with
  | none => rw [hik] at e2; cases e2
  | some z =>
    rw [hik] at e2
    have hx2 : ws[z]? = some x := Option.some.inj e2
    exact Y x.1 (by rw [← hL]; exact List.mem_map.mpr ⟨x, List.mem_of_getElem? hx2, rfl⟩)
section
variable {S : Type} {ψ : Int32 → S → Prop} {ξ : S → Prop} {w' : S → va_W}
theorem z_callV2 {b : Nat} {L : List Nat} (X : zX E own cc nL (zRm h rc rs) D t l) (Y : zWr E L) (hL : ws.map (fun x => x.1) = L) (hM : zM2 l y c0 n0 ret0 h0 D t (.ref b :: As) w ψ w') (pk : zPkV y c0 n0 ret0 np) (hml : Cond.methodLink own i y ∈ zTs) (is : List Nat) (ws' : S → va_W) (hp : ∀ u, zSwap ws is w (w' u) (ws' u)) (hpp : zPart ws is w) (q0 ci : Nat) {fs : List Value} {T : u_T} {N : Nat} (he : ws[q0]? = some (b, .inr (ci, fs))) (hc : vwCl[ci]? = some (y.cls, T, N)) (hh : h0 < h) (hnp : As.length = np) (hnl : lv.length = nL) (hs0 : st0 = As.reverse ++ .ref b :: st) (hst : (st.map fun v => v.category).sum ≤ 8) (hcs : k ≤ rc ∧ n ≤ rs) (hd : decode cc pc = .ok (.invokevirtual i, 3)) (kk : ∀ r u, ψ r u → Wz E k n (pc + 3) lv (.int r :: st) (ws' u)) : Wz E k n pc lv st0 ws := by
  intro ls H locs hl hP hD hS
  subst hs0
  have hDD : zD E = D := X.2.2.2.2.2.2.2.1
  refine va_calli (z_runV X hM pk hml hpp he hc hh hnp hnl hst hd hl hP hD hcs) hS (fun q _ z => Y.in hL hpp q z) (fun q z => Y.in hL hpp q z) (fun r u T H1 locs1 hT _ hφ hB hz hk hS1 => ?_)
  exact kk r u hφ ls H1 locs1 hl ((hp u).P hP hD hk (by rw [hDD, ← hT]; exact hB)) (zD_addr (hp u).2.2.1 hD) hS1
theorem z_callV3 {b : Nat} {L : List Nat} (X : zX E own cc nL (zRm h rc rs) D t l) (Y : zWr E L) (hL : ws.map (fun x => x.1) = L) (hM : zM3 l y c0 n0 h0 D t (.ref b :: As) w ξ w') (pk : zPkV y c0 n0 none np) (hml : Cond.methodLink own i y ∈ zTs) (is : List Nat) (ws' : S → va_W) (hp : ∀ u, zSwap ws is w (w' u) (ws' u)) (hpp : zPart ws is w) (q0 ci : Nat) {fs : List Value} {T : u_T} {N : Nat} (he : ws[q0]? = some (b, .inr (ci, fs))) (hc : vwCl[ci]? = some (y.cls, T, N)) (hh : h0 < h) (hnp : As.length = np) (hnl : lv.length = nL) (hs0 : st0 = As.reverse ++ .ref b :: st) (hst : (st.map fun v => v.category).sum ≤ 8) (hcs : k ≤ rc ∧ n ≤ rs) (hd : decode cc pc = .ok (.invokevirtual i, 3)) (kk : ∀ u, ξ u → Wz E k n (pc + 3) lv st (ws' u)) : Wz E k n pc lv st0 ws := by
  intro ls H locs hl hP hD hS
  subst hs0
  have hDD : zD E = D := X.2.2.2.2.2.2.2.1
  refine va_callv (z_runV X hM pk hml hpp he hc hh hnp hnl hst hd hl hP hD hcs) hS (fun q _ z => Y.in hL hpp q z) (fun q z => Y.in hL hpp q z) (fun u T H1 locs1 hT _ hφ hB hz hk hS1 => ?_)
  exact kk u hφ ls H1 locs1 hl ((hp u).P hP hD hk (by rw [hDD, ← hT]; exact hB)) (zD_addr (hp u).2.2.1 hD) hS1
theorem z_callS3 {L : List Nat} (X : zX E own cc nL (zRm h rc rs) D t l) (Y : zWr E L) (hL : ws.map (fun x => x.1) = L) (hM : zM3 l y c0 n0 h0 D t As w ξ w') (pk : zPkS y c0 n0 none np) (hml : Cond.methodLink own i y ∈ zTs) (is : List Nat) (ws' : S → va_W) (hp : ∀ u, zSwap ws is w (w' u) (ws' u)) (hpp : zPart ws is w) (hh : h0 < h) (hnp : As.length = np) (hnl : lv.length = nL) (hs0 : st0 = As.reverse ++ st) (hst : (st.map fun v => v.category).sum ≤ 8) (hcs : k ≤ rc ∧ n ≤ rs) (hd : decode cc pc = .ok (.invokestatic i, 3)) (kk : ∀ u, ξ u → Wz E k n (pc + 3) lv st (ws' u)) : Wz E k n pc lv st0 ws := by
  intro ls H locs hl hP hD hS
  subst hs0
  have hDD : zD E = D := X.2.2.2.2.2.2.2.1
  refine va_callv (z_runS X hM pk hml hpp hh hnp hnl hst hd hl hP hD hcs) hS (fun q _ z => Y.in hL hpp q z) (fun q z => Y.in hL hpp q z) (fun u T H1 locs1 hT _ hφ hB hz hk hS1 => ?_)
  exact kk u hφ ls H1 locs1 hl ((hp u).P hP hD hk (by rw [hDD, ← hT]; exact hB)) (zD_addr (hp u).2.2.1 hD) hS1
end
end ZC
