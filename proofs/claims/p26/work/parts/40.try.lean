/-! calls that may throw, and their handlers -/
theorem zc_I : Cond.castable eI eI ∈ zFace ∨ Cond.castable eI eI ∈ zTs := by first | exact Or.inr (by decide +kernel) | exact Or.inl (by decide +kernel)
theorem zc_A : Cond.castable eA eA ∈ zFace ∨ Cond.castable eA eA ∈ zTs := by first | exact Or.inr (by decide +kernel) | exact Or.inl (by decide +kernel)
theorem zc_S : Cond.castable eS eS ∈ zFace ∨ Cond.castable eS eS ∈ zTs := by first | exact Or.inr (by decide +kernel) | exact Or.inl (by decide +kernel)
abbrev zWh (y : MethodName) (c : ByteArray) (n : Nat) (ret : Option FieldType) (hh : List (Nat × Nat × Nat × Nat)) : List Cond := .codeWith y c n ret hh :: zTs
/-- what is caught -/
def zNcs : List (String × String) := [(eA, eI), (eS, eI), (eS, eA)]
def zNp (U : State) : Prop := ∀ q ∈ zNcs, va_Nc q.1 q.2 U
/-- over a thrown object -/
def Wv (E : zE) (k n : Nat) (pc : Nat) (lv : List (Option Value)) (st : List Value) (ws : va_W) (C : String) : Prop :=
  ∀ (ls : Array Slot) (H : Heap) (locs : List Loc) (q : Addr) (ce : Cell), zHas ls lv → va_P (zD E) vwCl ws H → va_D (fun _ => True) ws → va_S (zA E) (zs E).heap H locs → H[q]? = some ce → ce.vm = .none → (zs E).vm.findClass C = some ce.cls →
    vx_W E.1 E.2.1 E.2.2.1 E.2.2.2.1 (zs E) (zm E) (zargs E) (zb E) (zh E) (zc E) H locs k n (zQ E) (F0 (zm E) pc ls st) q
section ZT
variable {E : zE} {k n pc : Nat} {lv : List (Option Value)} {st : List Value} {ws w : va_W} {own : String} {cc : ByteArray} {nL h h0 : Nat} {D : va_G} {t : ClassId × ClassId × ClassId} {l : Launch} {S SX : Type} {L : List Nat} {As st0 : List Value} {y : MethodName} {c0 : ByteArray} {n0 np i b : Nat} {ret0 : Option FieldType} {wx : SX → va_W} {w' : S → va_W} {φx : String → SX → Prop}
/-- what a frame that calls throwing methods has -/
def zTry (E : zE) : Prop := zFx (zs E) ∧ zSt (zs E) ∧ zZU (zA E) (zs E) (zs E).heap ∧ zNp (zs E) ∧ ∀ q, (zs E).heap.size ≤ q → zA E q
theorem z_preX (X : zX E own cc nL (zRm h 1 6) D t l) (Y : zWr E L) (hL : ws.map (fun x => x.1) = L) (V : zTry E) {is : List Nat} (hp : zPart ws is w) {H : Heap} {locs : List Loc} (hP : va_P (zD E) vwCl ws H) (hD : va_D (fun _ => True) ws) (hS : va_S (zA E) (zs E).heap H locs) : PreS (zs E) H (zPx D t As w H.size) As := by
  obtain ⟨V1, V2, ⟨V4, V5⟩, V6, V7⟩ := V
  have hin : ∀ q, zinx w H.size q → zA E q := fun q hq => hq.elim (fun z => Y.in hL hp q z) (fun z => V7 q (Nat.le_trans hS.1 z))
  have hke : ∀ a : Nat, a < (zs E).heap.size → ¬ zA E a → H[a]? = (zs E).heap[a]? := hS.2.1
  refine ⟨fun a U g mk q => ?_, fun U hU hW => ⟨rfl, by rw [hU], ?_, X.2.2.2.2.1.moved hW, hp.D hD, V1.moved hW, V2.moved hW, ?_, ?_⟩⟩
  · obtain ⟨q0, q1, q2, q3, q4, q5, q6, q7⟩ := q
    exact ⟨q0, q1, q2, ⟨va_K.moved (u := U) (U := U.calling g mk a) (Vm.Alike.refl U.vm) q3.1, va_Nw.same rfl rfl q3.2⟩, q4, q5.same rfl, q6.same rfl, ⟨vx_Zq.moved (u := U) (Vm.Alike.refl U.vm) q7.1, vx_Zq.moved (u := U) (Vm.Alike.refl U.vm) q7.2⟩⟩
  · rw [hU, ← X.2.2.2.2.2.2.2.1]
    exact hp.P hP
  · rw [hU]; exact vx_Zq.moved hW.alike ((V4.kept hke).narrow hin)
  · rw [hU]; exact vx_Zq.moved hW.alike ((V5.kept hke).narrow hin)
theorem z_tryv {i b : Nat} (X : zX E own cc nL (zRm h 1 6) D t l) (Y : zWr E L) (hL : ws.map (fun x => x.1) = L) (V : zTry E) {ξ : S → Prop} (hM : ∀ sz, zM5 l y c0 n0 h0 D t (.ref b :: As) w sz ξ w' φx wx) (pk : zPkV y c0 n0 none np) (hml : Cond.methodLink own i y ∈ zTs) (is : List Nat) (hpp : zPart ws is w) (ws' : S → va_W) (hp : ∀ u, zSwap ws is w (w' u) (ws' u)) (wsx : SX → va_W) (hpx : ∀ u, zSwap ws is w (wx u) (wsx u)) (q0 ci : Nat) {fs : List Value} {T : u_T} {N : Nat} (he : ws[q0]? = some (b, .inr (ci, fs))) (hc : vwCl[ci]? = some (y.cls, T, N)) (hh : h0 < h) (hnp : As.length = np) (hnl : lv.length = nL) (hs0 : st0 = As.reverse ++ .ref b :: st) (hst : (st.map fun v => v.category).sum ≤ 8) (hd : decode cc pc = .ok (.invokevirtual i, 3)) (kx : ∀ C u, φx C u → Wv E 1 6 pc lv st (wsx u) C) (kk : ∀ u, ξ u → Wz E 1 6 (pc + 3) lv st (ws' u)) : Wz E 0 0 pc lv st0 ws := by
  intro ls H locs hl hP hD hS
  subst hs0
  obtain ⟨p1, p2, p3, p4, p5, p6⟩ := pk
  have hDD : zD E = D := X.2.2.2.2.2.2.2.1
  have hl2 : E.2.1 = l := X.2.2.2.2.2.2.2.2.2
  have hR : E.2.2.2.1 = zRm h 1 6 := X.2.2.2.2.2.1
  have hpre := z_preX (As := .ref b :: As) X Y hL V hpp hP hD hS
  have hin : ∀ q, zinx w H.size q → zA E q := fun q hq => hq.elim (fun z => Y.in hL hpp q z) (fun z => V.2.2.2.2 q (Nat.le_trans hS.1 z))
  have hrun : vx_Run E.1 E.2.1 E.2.2.1 E.2.2.2.1 (zs E) (zm E) (zargs E) (zb E) (zh E) (zc E) H locs 0 0 1 6 (F0 (zm E) pc ls (As.reverse ++ .ref b :: st)) st (va_Qv ξ (fun u q => va_P D vwCl (w' u) q.heap) (zinx w H.size) (Value.ref b :: As).toArray) (zXC D φx wx (zinx w H.size)) (zinx w H.size) := by
    rw [hl2]
    refine vx_runV (nL := nL) (n := np) (own := own) (C := y.cls) (bytes := c0) (maxL := n0) (ret := none) ⟨X.1, X.2.1, X.2.2.1, X.2.2.2.1, X.2.2.2.2.2.2.1⟩ (hM H.size) ⟨callB_of np X.2.2.2.2.2.2.1 (zGoodW p4) rfl rfl rfl (X.w p3) (X.w hml) p5 ?_, X.w p1, X.w p2⟩ ⟨hpre.1, va_recv X.K hP hc he, hpre.2⟩ rfl hnp (hl.1.1.trans hnl) rfl (lv_room hst) hd ?_
    · rw [hR]; exact ⟨hh, by show 8 + (n0 + 11) + 32 * h0 ≤ 32 * h; omega⟩
    · rw [hR]; exact ⟨Nat.le_of_ble_eq_true rfl, Nat.le_of_ble_eq_true rfl⟩
  have hz' : ∀ q, q < H.size → ¬ zin w q → ¬ zinx w H.size q := fun q h1 h2 h3 => h3.elim h2 (fun h4 => absurd h1 (Nat.not_lt.mpr h4))
  refine vx_callv hrun hS (fun q _ z => hin q z) hin (fun q _ z => hin q z) (fun C ce q9 u T H1 locs1 hT hvm _ hφ hz hk hS1 hce hcv hcl => ?_) (fun u T H1 locs1 hT _ hφ hB hz hk hS1 => ?_)
  · obtain ⟨hφ, hB⟩ := hφ
    exact kx C u hφ ls H1 locs1 q9 ce hl ((hpx u).P hP hD (fun q h1 h2 => hk q h1 (hz' q h1 h2)) (by rw [hDD, ← hT]; exact hB)) (zD_addr (hpx u).2.2.1 hD) hS1 hce hcv hcl
  · exact kk u hφ ls H1 locs1 hl ((hp u).P hP hD (fun q h1 h2 => hk q h1 (hz' q h1 h2)) (by rw [hDD, ← hT]; exact hB)) (zD_addr (hp u).2.2.1 hD) hS1
theorem z_tryi {i b : Nat} (X : zX E own cc nL (zRm h 1 6) D t l) (Y : zWr E L) (hL : ws.map (fun x => x.1) = L) (V : zTry E) {ξ : Int32 → S → Prop} (hM : ∀ sz, zM4 l y c0 n0 ret0 h0 D t (.ref b :: As) w sz ξ w' φx wx) (pk : zPkV y c0 n0 ret0 np) (hml : Cond.methodLink own i y ∈ zTs) (is : List Nat) (hpp : zPart ws is w) (ws' : S → va_W) (hp : ∀ u, zSwap ws is w (w' u) (ws' u)) (wsx : SX → va_W) (hpx : ∀ u, zSwap ws is w (wx u) (wsx u)) (q0 ci : Nat) {fs : List Value} {T : u_T} {N : Nat} (he : ws[q0]? = some (b, .inr (ci, fs))) (hc : vwCl[ci]? = some (y.cls, T, N)) (hh : h0 < h) (hnp : As.length = np) (hnl : lv.length = nL) (hs0 : st0 = As.reverse ++ .ref b :: st) (hst : (st.map fun v => v.category).sum ≤ 8) (hd : decode cc pc = .ok (.invokevirtual i, 3)) (kx : ∀ C u, φx C u → Wv E 1 6 pc lv st (wsx u) C) (kk : ∀ r u, ξ r u → Wz E 1 6 (pc + 3) lv (.int r :: st) (ws' u)) : Wz E 0 0 pc lv st0 ws := by
  intro ls H locs hl hP hD hS
  subst hs0
  obtain ⟨p1, p2, p3, p4, p5, p6⟩ := pk
  have hDD : zD E = D := X.2.2.2.2.2.2.2.1
  have hl2 : E.2.1 = l := X.2.2.2.2.2.2.2.2.2
  have hR : E.2.2.2.1 = zRm h 1 6 := X.2.2.2.2.2.1
  have hpre := z_preX (As := .ref b :: As) X Y hL V hpp hP hD hS
  have hin : ∀ q, zinx w H.size q → zA E q := fun q hq => hq.elim (fun z => Y.in hL hpp q z) (fun z => V.2.2.2.2 q (Nat.le_trans hS.1 z))
  have hrun : vx_Run E.1 E.2.1 E.2.2.1 E.2.2.2.1 (zs E) (zm E) (zargs E) (zb E) (zh E) (zc E) H locs 0 0 1 6 (F0 (zm E) pc ls (As.reverse ++ .ref b :: st)) st (va_Qi ξ (fun u q => va_P D vwCl (w' u) q.heap) (zinx w H.size) (Value.ref b :: As).toArray) (zXC D φx wx (zinx w H.size)) (zinx w H.size) := by
    rw [hl2]
    refine vx_runV (nL := nL) (n := np) (own := own) (C := y.cls) (bytes := c0) (maxL := n0) (ret := ret0) ⟨X.1, X.2.1, X.2.2.1, X.2.2.2.1, X.2.2.2.2.2.2.1⟩ (hM H.size) ⟨callB_of np X.2.2.2.2.2.2.1 (zGoodW p4) rfl rfl rfl (X.w p3) (X.w hml) p5 ?_, X.w p1, X.w p2⟩ ⟨hpre.1, va_recv X.K hP hc he, hpre.2⟩ rfl hnp (hl.1.1.trans hnl) rfl (lv_room hst) hd ?_
    · rw [hR]; exact ⟨hh, by show 8 + (n0 + 11) + 32 * h0 ≤ 32 * h; omega⟩
    · rw [hR]; exact ⟨Nat.le_of_ble_eq_true rfl, Nat.le_of_ble_eq_true rfl⟩
  have hz' : ∀ q, q < H.size → ¬ zin w q → ¬ zinx w H.size q := fun q h1 h2 h3 => h3.elim h2 (fun h4 => absurd h1 (Nat.not_lt.mpr h4))
  refine vx_calli hrun hS (fun q _ z => hin q z) hin (fun q _ z => hin q z) (fun C ce q9 u T H1 locs1 hT hvm _ hφ hz hk hS1 hce hcv hcl => ?_) (fun r u T H1 locs1 hT _ hφ hB hz hk hS1 => ?_)
  · obtain ⟨hφ, hB⟩ := hφ
    exact kx C u hφ ls H1 locs1 q9 ce hl ((hpx u).P hP hD (fun q h1 h2 => hk q h1 (hz' q h1 h2)) (by rw [hDD, ← hT]; exact hB)) (zD_addr (hpx u).2.2.1 hD) hS1 hce hcv hcl
  · exact kk r u hφ ls H1 locs1 hl ((hp u).P hP hD (fun q h1 h2 => hk q h1 (hz' q h1 h2)) (by rw [hDD, ← hT]; exact hB)) (zD_addr (hp u).2.2.1 hD) hS1
theorem z_catch {rm : Room} (X : zX E own cc nL rm D t l) {C name : String} (pre : List ExceptionTableEntry) (x : ExceptionTableEntry) (suf : List ExceptionTableEntry) (hsplit : (zc E).exceptionTable.toList = pre ++ x :: suf) (hpass : ∀ z ∈ pre, covers z pc = false ∨ (z.catchType ≠ 0 ∧ ∃ nm, Cond.classLink own z.catchType nm ∈ zTs ∧ va_Nc C nm (zs E))) (hx : covers x pc = true) (h0 : x.catchType ≠ 0) (hlink : Cond.classLink own x.catchType name ∈ zTs) (hcast : (Cond.castable C name).before (zargs E) (zs E) = true) (kk : ∀ q, Wz E k n x.handlerPc lv [.ref q] ws) : Wv E k n pc lv st ws C := by
  intro ls H locs q ce hl hP hD hS hce hcv hcl
  exact vx_catch X.2.2.2.1 pre x suf hsplit (fun z hz => (hpass z hz).imp id (fun ⟨h1, nm, h2, h3⟩ => ⟨h1, nm, X.w h2, h3⟩)) hx h0 (X.w hlink) hcast hce hcv hcl (kk q ls H locs hl hP hD hS)
end ZT
theorem zTry.cast {E : zE} {own : String} {cc : ByteArray} {nL : Nat} {rm : Room} {D : va_G} {t : ClassId × ClassId × ClassId} {l : Launch} (X : zX E own cc nL rm D t l) (V : zTry E) {w : Cond} (h : w ∈ zFace ∨ w ∈ zTs) : w.before (zargs E) (zs E) = true := h.elim (fun q => V.1.use q) (fun q => X.w q)
def zPy (D : va_G) (t : ClassId × ClassId × ClassId) (As : List Value) (w : va_W) (sz : Nat) : Array Value → State → Prop := va_Pc As (fun U => U.heap.size = sz ∧ va_P D vwCl w U.heap ∧ zKp D t U ∧ va_D (fun _ => True) w ∧ zFx U ∧ zSt U ∧ zZU (zinx w sz) U U.heap ∧ zNp U)
/-- a method that calls one that throws, and catches -/
def zM7 {S : Type} (l : Launch) (y : MethodName) (c : ByteArray) (n : Nat) (hh : List (Nat × Nat × Nat × Nat)) (h : Nat) (D : va_G) (t : ClassId × ClassId × ClassId) (As : List Value) (w : va_W) (sz : Nat) (φ : Int32 → S → Prop) (w' : S → va_W) : Prop :=
  Met l y (zWh y c n (some .int) hh) (zRm h 1 6) (zPy D t As w sz) (va_Qi φ (fun u q => va_P D vwCl (w' u) q.heap) (zinx w sz)) 1 6 (zinx w sz)
theorem z_m7 {S : Type} {l : Launch} {y : MethodName} {c : ByteArray} {n : Nat} {hh : List (Nat × Nat × Nat × Nat)} {h : Nat} {D : va_G} {t : ClassId × ClassId × ClassId} {As : List Value} {w : va_W} {sz : Nat} {φ : Int32 → S → Prop} {w' : S → va_W}
    (hy : plainName y.cls = true) (hn : As.length ≤ n) (hc : ∀ v ∈ As, v.category = 1)
    (body : ∀ E : zE, zX E y.cls c n (zRm h 1 6) D t l → zEnd E (some .int) (va_Qi φ (fun u q => va_P D vwCl (w' u) q.heap) (zA E)) 1 6 → zTry E → (zc E).exceptionTable.toList = tableOf hh → zWr E (w.map (fun x => x.1)) → Wz E 0 0 0 (As.map some ++ List.replicate (n - As.length) none) [] w) : zM7 l y c n hh h D t As w sz φ w' := by
  refine va_MetW (cc := c) (maxL := n) (ret := some .int) (hh := hh) hy rfl ?_
  intro p e s m args below meth c0 s₁ B hml hv
  obtain ⟨rfl, hsz, hP, hK, hD, hF, hSt, hZ, hN⟩ := hv
  have hts := atoms_spec (ws := zWh y c n (some .int) hh) B.pre
  rw [entry_eq m As hc n]
  subst hsz
  exact body (p, l, e, zRm h 1 6, s, m, As.toArray, below, meth, c0, D, zinx w s.heap.size, MQ below (va_Qi φ (fun u q => va_P D vwCl (w' u) q.heap) (zinx w s.heap.size)) As.toArray s 1 6 (zinx w s.heap.size), t)
    ⟨B.exec, B.bytes, hml, findClass_of_methodNamed B.named, hK, rfl, fun w hw => hts w (List.mem_cons_of_mem _ hw), rfl, rfl, rfl⟩
    ⟨B.returns, B.notSynchronized, rfl⟩ ⟨hF, hSt, hZ, hN, fun q hq => Or.inr hq⟩ (vx_table (x := y) B (hts _ List.mem_cons_self)) (fun q hq => Or.inl hq) _ s.heap [] (z_entry hc hn) hP hD va_S.rf
