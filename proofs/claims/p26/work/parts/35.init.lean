/-! constructors: rows that make cells -/
def zNest2 : Cond := Cond.methodLinkNest RX3 29 yX0_init "Rulesheet"
def zPn (D : va_G) (t : ClassId × ClassId × ClassId) (As : List Value) (w : va_W) (sz : Nat) : Array Value → State → Prop := va_Pc As (fun U => U.heap.size = sz ∧ va_P D vwCl w U.heap ∧ zKp D t U ∧ va_D (fun _ => True) w ∧ va_Nw zNest2 U)
def zBn {S : Type} (D : va_G) (w' : S → va_W) (A : Nat → Prop) : S → State → Prop := fun u q => va_P D vwCl (w' u) q.heap ∧ va_D A (w' u)
/-- a method that makes cells -/
def zM6 {S : Type} (l : Launch) (y : MethodName) (c : ByteArray) (n : Nat) (h mc ms : Nat) (D : va_G) (t : ClassId × ClassId × ClassId) (As : List Value) (w : va_W) (sz : Nat) (φ : S → Prop) (w' : S → va_W) : Prop :=
  Met l y (zWs y c n none) (zRm h mc ms) (zPn D t As w sz) (va_Qv φ (zBn D w' (va_A w sz)) (va_A w sz)) mc ms (va_A w sz)
theorem zPn.blind {D : va_G} {t : ClassId × ClassId × ClassId} {As : List Value} {w : va_W} {sz : Nat} : FrameBlind (zPn D t As w sz) := fun a U g mk q => by
  obtain ⟨q0, q1, qP, qK, qD, qN⟩ := q
  exact ⟨q0, q1, qP, ⟨va_K.moved (u := U) (U := U.calling g mk a) (Vm.Alike.refl U.vm) qK.1, qK.2⟩, qD, qN⟩
section ZN
variable {E : zE} {k n pc : Nat} {lv : List (Option Value)} {st : List Value} {ws : va_W} {own : String} {cc : ByteArray} {nL h rc rs : Nat} {D : va_G} {t : ClassId × ClassId × ClassId} {l : Launch} {L : List Nat}
theorem zWr.app {q : Nat} (Y : zWr E L) (hq : zA E q) : zWr E (L ++ [q]) := fun q' hq' => by
  rcases List.mem_append.mp hq' with h9 | h9
  · exact Y q' h9
  · rw [List.mem_singleton.mp h9]; exact hq
theorem z_newo (X : zX E own cc nL (zRm h rc rs) D t l) (Y : zWr E L) (hL : ws.map (fun x => x.1) = L) (hA : ∀ q, (zs E).heap.size ≤ q → zA E q) {C : String} {T : u_T} {N ci i : Nat} (hin : ∀ w ∈ u_ws C T N, w ∈ zTs) (ty : Nat → FieldType) (hty : ∀ k, k < N → parseFieldDescriptor (T k).2.2.1 = some (ty k)) (hcl : Cond.classLink own i C ∈ zTs) (hinst : Cond.instantiable C N ∈ zTs) (hini : Cond.initialized C ∈ zTs) (hc : vwCl[ci]? = some (C, T, N)) {fs : List Value} (hfs : ∀ j, j < N → defaultValue (ty j) = vp_V fs j) (hk : k + 1 ≤ rc) (hn : n + N ≤ rs) (hd : decode cc pc = .ok (.new i, 3)) (kk : ∀ q, zWr E (L ++ [q]) → Wz E (k + 1) (n + N) (pc + 3) lv (.ref q :: st) (ws ++ [(q, .inr (ci, fs))])) : Wz E k n pc lv st ws := by
  intro ls H locs hl hP hD hS
  have hR : E.2.2.2.1 = zRm h rc rs := X.2.2.2.2.2.1
  refine va_new X.1 X.2.1 X.2.2.2.2.2.2.1 hin ty hty X.2.2.2.1 (X.w hcl) (X.w hinst) (X.w hini) X.K hP (Y.dd hL hD) hS hA hc hfs (by rw [hR]; exact hk) (by rw [hR]; exact hn) hd (fun q H1 hP1 hD1 hS1 => ?_)
  exact kk q (Y.app (hD1.2 ws.length (q, .inr (ci, fs)) (by simp))) ls H1 locs hl hP1 (hD1.weaken fun _ _ _ _ => trivial) hS1
theorem z_newa (X : zX E own cc nL (zRm h rc rs) D t l) (Y : zWr E L) (hL : ws.map (fun x => x.1) = L) (hA : ∀ q, (zs E).heap.size ≤ q → zA E q) {atype : ArrayType} {ty : FieldType} {c0 : ClassId} (i0 : Nat) (htx : (zTy t)[i0]? = some (c0, ty)) (hra : ∀ U cA, va_RA U cA ty → U.vm.findClass ("[" ++ ty.toString) = some cA) (hty : newarray.typeOf atype = ty) (harr : Cond.arrayClass ty ∈ zTs) {v : Int32} {m : Nat} {a0 : vp_A} (ha : ∀ cA : ClassId, vp_cell cA a0 = arrV cA m (fun _ => defaultValue ty)) (hv : v = nI m) (hm : m < 2 ^ 31) (hbytes : m * componentBytes ty ≤ 536870912) (hk : k + 1 ≤ rc) (hn : n + m ≤ rs) (hd : decode cc pc = .ok (.newarray atype, 2)) (kk : ∀ q, zWr E (L ++ [q]) → Wz E (k + 1) (n + m) (pc + 2) lv (.ref q :: st) (ws ++ [(q, .inl (c0, a0))])) : Wz E k n pc lv (.int v :: st) ws := by
  intro ls H locs hl hP hD hS
  subst hv
  have hR : E.2.2.2.1 = zRm h rc rs := X.2.2.2.2.2.1
  refine va_newa X.1 X.2.1 (by rw [hty]; exact X.w harr) hty X.K hP (Y.dd hL hD) hS hA ha (Int32.not_lt.mpr (nI_pos' hm)) (nI_clamp hm) hbytes (by rw [hR]; exact hk) (by rw [hR]; exact hn) hd (fun q cA H1 hK1 hP1 hD1 hS1 => ?_)
  have h1 := hra _ _ (hK1.2 (zTy t).length (cA, ty) (by simp)).2
  have h2 := hra _ _ (X.K.2 i0 _ htx).2
  have e : cA = c0 := Option.some.inj (h1.symm.trans h2)
  subst e
  exact kk q (Y.app (hD1.2 ws.length (q, .inl (cA, a0)) (by simp))) ls H1 locs hl hP1 (hD1.weaken fun _ _ _ _ => trivial) hS1
theorem z_putF (X : zX E own cc nL (zRm h rc rs) D t l) (Y : zWr E L) (hnm2 : (zh E).name = "<init>") {C ref : String} {T : u_T} {N ci i a : Nat} {fs : List Value} {v : Value} {ty : FieldType} (hin : ∀ w ∈ u_ws C T N, w ∈ zTs) (ty0 : Nat → FieldType) (hty : ∀ k, k < N → parseFieldDescriptor (T k).2.2.1 = some (ty0 k)) (hnm : ∀ a, a < N → ∀ b, b < N → a ≠ b → (T a).2.1 ≠ (T b).2.1) (q0 j : Nat) (hL : ws.map (fun x => x.1) = L) (he : ws[q0]? = some (a, .inr (ci, fs))) (hc : vwCl[ci]? = some (C, T, N)) (hj : j < N) (hw : Cond.fieldLink own i ref (T j).2.1 (T j).2.2.1 ∈ zTs) (hsame : ref = (T j).1) (hfin : (T j).2.2.2 = true) (hdecl : (T j).1 = own) (hdd : parseFieldDescriptor (T j).2.2.1 = some ty) (hn : narrow ty v = v) (hfit : fits ty v = true) (hlen : j < fs.length) (hd : decode cc pc = .ok (.putfield i, 3)) (kk : Wz E k n (pc + 3) lv st (ws.set q0 (a, .inr (ci, fs.set j v)))) : Wz E k n pc lv (v :: .ref a :: st) ws :=
  fun ls H locs hl hP hD hS => va_putF X.1 X.2.1 X.2.2.2.2.2.2.1 hin ty0 hty hnm X.2.2.2.1 X.K hP (Y.dd hL hD) hS q0 he hc j hj (X.w hw) (fun x h => by rw [hsame]; exact h) hfin hnm2 hdecl hdd hn hfit hlen hd (fun H1 locs1 hP1 hD1 hS1 => kk ls H1 locs1 hl hP1 (hD1.weaken fun _ _ _ _ => trivial) hS1)
theorem z_obj {a i : Nat} (X : zX E own cc nL (zRm h rc rs) D t l) (hml : Cond.methodLink own i objectInit ∈ zTs) (hnl : lv.length = nL) (hh : 1 ≤ h) (hst : (st.map fun v => v.category).sum ≤ 8) (hd : decode cc pc = .ok (.invokespecial i, 3)) (kk : Wz E k n (pc + 3) lv st ws) : Wz E k n pc lv (.ref a :: st) ws := by
  intro ls H locs hl hP hD hS
  have hR : E.2.2.2.1 = zRm h rc rs := X.2.2.2.2.2.1
  refine W.objInit X.1 X.2.1 X.2.2.2.1 (X.w hml) (X.w q_im_objectInit) (X.w q_co_objectInit) rfl (hl.1.1.trans (hnl.trans X.2.2.1.symm)) rfl hd (by rw [hR]; exact hh) ?_ (kk ls H locs hl hP hD hS)
  rw [hR]
  show 2 * 0 + _ + 12 ≤ 32 * h
  omega
theorem z_vretN {S : Type} {post : S → Prop} {w' : S → va_W} (X : zX E own cc nL (zRm h rc rs) D t l) (Y : zWr E L) (hL : ws.map (fun x => x.1) = L) (Z : zEnd E none (va_Qv post (zBn D w' (zA E)) (zA E)) k n) (hd : decode cc pc = .ok (.return_, 1)) (hx : ∃ u, post u ∧ (∀ H, va_P D vwCl ws H → va_P D vwCl (w' u) H) ∧ (va_D (zA E) ws → va_D (zA E) (w' u))) : Wz E k n pc lv [] ws := by
  intro ls H locs hl hP hD hS
  obtain ⟨hr, hlocks, hQ⟩ := Z
  obtain ⟨u, h1, h2, h3⟩ := hx
  rw [hQ]
  have hDD : zD E = D := X.2.2.2.2.2.2.2.1
  exact W.vret X.1 X.2.1 hr (fun q hq hW => ⟨⟨u, rfl, h1, h2 _ (by rw [hq, ← hDD]; exact hP), h3 (Y.dd hL hD)⟩, hS.F hq⟩) hS.2.2 hd hlocks
/-- a call of a constructor: the cells that it has and makes go to the end of the world -/
theorem z_callI {S : Type} {y : MethodName} {c0 : ByteArray} {n0 h0 mc ms np i b : Nat} {As : List Value} {w wr : va_W} {ξ : S → Prop} {w' : S → va_W} {st0 : List Value} (X : zX E own cc nL (zRm h rc rs) D t l) (Y : zWr E L) (hL : ws.map (fun x => x.1) = L) (hA : ∀ q, (zs E).heap.size ≤ q → zA E q) (hN : va_Nw zNest2 (zs E)) (hM : ∀ sz, zM6 l y c0 n0 h0 mc ms D t (.ref b :: As) w sz ξ w') (hy : y.name = "<init>") (p1 : Cond.instanceMethod y ∈ zTs) (p2 : Cond.initialized y.cls ∈ zTs) (p3 : Cond.code y c0 n0 none ∈ zTs) (p4 : y.cls ≠ "java/lang/invoke/MethodHandle" ∧ y.cls ≠ "java/lang/invoke/VarHandle" ∧ (parseMethodDescriptor y.desc).map (fun d => d.parameters.length) = some np) (p5 : n0 ≤ 13) (hml : Cond.methodLink own i y ∈ zTs) (isC isR : List Nat) (hC : isC.map (fun i => ws[i]?) = w.map some) (hCn : va_nd isC = true) (hRr : isR.map (fun i => ws[i]?) = wr.map some) (hn : va_nd isR = true) (hdis : ∀ i ∈ isR, i ∉ isC) (hh : h0 < h) (hnp : As.length = np) (hnl : lv.length = nL) (hs0 : st0 = As.reverse ++ .ref b :: st) (hst : (st.map fun v => v.category).sum ≤ 8) (hcs : k + mc ≤ rc ∧ n + ms ≤ rs) (hd : decode cc pc = .ok (.invokespecial i, 3)) (kk : ∀ u, ξ u → zWr E ((wr ++ w' u).map (fun x => x.1)) → Wz E (k + mc) (n + ms) (pc + 3) lv st (wr ++ w' u)) : Wz E k n pc lv st0 ws := by
  intro ls H locs hl hP hD hS
  subst hs0
  have hDD : zD E = D := X.2.2.2.2.2.2.2.1
  have hl2 : E.2.1 = l := X.2.2.2.2.2.2.2.2.2
  have hR : E.2.2.2.1 = zRm h rc rs := X.2.2.2.2.2.1
  have hD' : va_D (zA E) ws := Y.dd hL hD
  have hF := va_free hD' hS hA isC hC
  have hpart : zPart ws isC w := ⟨hCn, hC⟩
  have hP0 := hpart.P hP
  have hD0 := hpart.D hD
  have hrun : va_Run E.1 E.2.1 E.2.2.1 E.2.2.2.1 (zs E) (zm E) (zargs E) (zb E) (zh E) (zc E) H locs k n mc ms (F0 (zm E) pc ls (As.reverse ++ .ref b :: st)) st (va_Qv ξ (zBn D w' (va_A w H.size)) (va_A w H.size) (Value.ref b :: As).toArray) (va_A w H.size) := by
    rw [hl2]
    refine va_runI (nL := nL) (n := np) (own := own) (bytes := c0) (maxL := n0) ⟨X.1, X.2.1, X.2.2.1, X.2.2.2.1, X.2.2.2.2.2.2.1⟩ (hM H.size) ⟨callB_of np X.2.2.2.2.2.2.1 (zGoodW p3) rfl rfl rfl (X.w p2) (X.w hml) p4 ?_, hy, X.w p1⟩ ⟨zPn.blind, fun U hU hW => ⟨rfl, by rw [hU], by rw [hU, ← hDD]; exact hP0, zKp.moved X.2.2.2.2.1 hW, hD0, va_Nw.warmM hW hN⟩⟩ rfl hnp (hl.1.1.trans hnl) rfl (lv_room hst) hd ?_
    · rw [hR]; exact ⟨hh, by show 8 + (n0 + 11) + 32 * h0 ≤ 32 * h; omega⟩
    · rw [hR]; exact hcs
  refine va_callv hrun hS (fun q _ h => hF q h) hF (fun u T H1 locs1 hT hvm hφ hB hz hk hS1 => ?_)
  obtain ⟨hP1, hD1⟩ := hB
  rw [hT] at hP1
  obtain ⟨hP2, hD2⟩ := va_join hP hD' isC isR hC hRr hn hdis hk hF (by rw [hDD]; exact hP1) hD1
  refine kk u hφ (fun q hq => ?_) ls H1 locs1 hl hP2 (hD2.weaken fun _ _ _ _ => trivial) hS1
  obtain ⟨x, hx, rfl⟩ := List.mem_map.mp hq
  obtain ⟨j, hj⟩ := List.getElem?_of_mem hx
  exact hD2.2 j x hj
end ZN
theorem z_m6 {S : Type} {l : Launch} {y : MethodName} {c : ByteArray} {n h mc ms : Nat} {D : va_G} {t : ClassId × ClassId × ClassId} {As : List Value} {w : va_W} {sz : Nat} {φ : S → Prop} {w' : S → va_W}
    (hy : plainFor y = true) (hn : As.length ≤ n) (hc : ∀ v ∈ As, v.category = 1) (hnm : y.name = "<init>")
    (body : ∀ E : zE, zX E y.cls c n (zRm h mc ms) D t l → zEnd E none (va_Qv φ (zBn D w' (zA E)) (zA E)) mc ms → (zh E).name = "<init>" → va_Nw zNest2 (zs E) → (∀ q, (zs E).heap.size ≤ q → zA E q) → zWr E (w.map (fun x => x.1)) → Wz E 0 0 0 (As.map some ++ List.replicate (n - As.length) none) [] w) : zM6 l y c n h mc ms D t As w sz φ w' := by
  refine z_metW (cc := c) (maxL := n) (ret := none) hy rfl ?_
  intro p e s m args below meth c0 s₁ B hml hv
  obtain ⟨rfl, hsz, hP, hK, hD, hN⟩ := hv
  have hts := atoms_spec (ws := zWs y c n none) B.pre
  rw [entry_eq m As hc n]
  subst hsz
  exact body (p, l, e, zRm h mc ms, s, m, As.toArray, below, meth, c0, D, va_A w s.heap.size, MQ below (va_Qv φ (zBn D w' (va_A w s.heap.size)) (va_A w s.heap.size)) As.toArray s mc ms (va_A w s.heap.size), t)
    ⟨B.exec, B.bytes, hml, findClass_of_methodNamed B.named, hK, rfl, fun w hw => hts w (List.mem_cons_of_mem _ hw), rfl, rfl, rfl⟩
    ⟨B.returns, B.notSynchronized, rfl⟩ ((name_of_methodNamed B.named B.method).1.trans hnm) hN (fun q hq => Or.inr hq) (fun q hq => by
      obtain ⟨x, hx, rfl⟩ := List.mem_map.mp hq
      obtain ⟨j, hj⟩ := List.getElem?_of_mem hx
      exact va_A.in hj) _ s.heap [] (z_entry hc hn) hP hD va_S.rf
