/-! what a method that throws needs beside its words -/
def zFace : List Cond := lw_tbl.filter (fun w => w.onTables && w.keepsFace)
def zFx (U : State) : Prop := ∀ w ∈ zFace, w.before #[] U = true
theorem zFx.moved {s U : State} (h : zFx s) (hW : s.WarmedH U.vm) : zFx U := by
  intro w hw
  obtain ⟨-, h2⟩ := List.mem_filter.mp hw
  simp only [Bool.and_eq_true] at h2
  have h3 : w.before #[] (s.setVm U.vm) = true := Cond.before_shiftedFace (State.Shifted.of_warmed hW) w h2.2 (h w hw)
  exact va_tabs (u := s.setVm U.vm) (U := U) h2.1 rfl h3
theorem zFx.same {s U : State} (h : zFx s) (hv : s.vm = U.vm) : zFx U := by
  intro w hw
  obtain ⟨-, h2⟩ := List.mem_filter.mp hw
  simp only [Bool.and_eq_true] at h2
  exact va_tabs h2.1 hv (h w hw)
theorem zFx.use {s : State} {args : Array Value} (h : zFx s) {w : Cond} (hw : w ∈ zFace) : w.before args s = true := by
  obtain ⟨-, h2⟩ := List.mem_filter.mp hw
  simp only [Bool.and_eq_true] at h2
  exact va_tabs h2.1 rfl (h w hw)
abbrev eI : String := "java/lang/IndexOutOfBoundsException"
abbrev eA : String := "java/lang/IllegalArgumentException"
abbrev eS : String := "java/lang/IllegalStateException"
abbrev eN : List String := ["java/lang/RuntimeException", "java/lang/Exception"]
set_option maxRecDepth 100000 in
theorem zat_I : ∀ w ∈ vx_atS RX3 64 eI eN, w ∈ zFace := by decide +kernel
set_option maxRecDepth 100000 in
theorem zat_A : ∀ w ∈ vx_atS RX3 75 eA eN, w ∈ zFace := by decide +kernel
set_option maxRecDepth 100000 in
theorem zat_S : ∀ w ∈ vx_atS RX3 138 eS eN, w ∈ zFace := by decide +kernel
theorem zfc {w : Cond} (i : Nat) (h : lw_tbl[i]? = some w) (g : (w.onTables && w.keepsFace) = true) : w ∈ zFace := List.mem_filter.mpr ⟨List.mem_of_getElem? h, g⟩
def zStrs : List (Nat × String) := [(62, "no such gift, ability, calling or other"), (73, "the score is out of range"), (76, "the level is out of range"), (93, "no such gift or calling"), (101, "no such gift or value"), (103, "the kind or the amount is out of range"), (114, "no such value, ability, calling or other"), (116, "the base is out of range"), (124, "no such ability"), (136, "all scores would cost too much"), (139, "no such calling"), (141, "the character has all levels"), (147, "no such gift"), (153, "the character may not take the gift"), (161, "there are no levels"), (163, "no such gift or other"), (172, "the gift can't be exchanged for the other"), (197, "no such value"), (202, "the value is in a ring"), (208, "the kind is out of range"), (215, "too many levels and gifts to try every order"), (220, "the step is below 0"), (222, "the character is not lawful")]
def zSt (U : State) : Prop := ∀ q ∈ zStrs, ∃ sa, vk_R RX3 q.1 q.2 sa U
theorem zSt.moved {s U : State} (h : zSt s) (hW : s.WarmedH U.vm) : zSt U := fun q hq => (h q hq).elim fun sa h => ⟨sa, h.warm hW⟩
theorem zSt.same {s U : State} (h : zSt s) (hv : U.vm = s.vm) : zSt U := fun q hq => (h q hq).elim fun sa h => ⟨sa, h.same hv⟩
def zinx (w : va_W) (sz : Nat) : Nat → Prop := fun q => q ∈ w.map (fun x => x.1) ∨ sz ≤ q
abbrev zZU (A : Nat → Prop) (U : State) (H : Heap) : Prop := vx_Zq Bundle.tN "UNASSIGNED_STACK" Bundle.steD A U H ∧ vx_Zq Bundle.tN "SUPPRESSED_SENTINEL" Bundle.listD A U H
def zPx (D : va_G) (t : ClassId × ClassId × ClassId) (As : List Value) (w : va_W) (sz : Nat) : Array Value → State → Prop := va_Pc As (fun U => U.heap.size = sz ∧ va_P D vwCl w U.heap ∧ zKp D t U ∧ va_D (fun _ => True) w ∧ zFx U ∧ zSt U ∧ zZU (zinx w sz) U U.heap)
/-- how a throw ends -/
abbrev zXC {SX : Type} (D : va_G) (φx : String → SX → Prop) (wx : SX → va_W) (A : Nat → Prop) : String → State → State → Prop := vx_X (fun _ : SX => True) (fun E u q => φx E u ∧ va_P D vwCl (wx u) q.heap) A
/-- a method that answers an int, or throws -/
def zM4 {S SX : Type} (l : Launch) (y : MethodName) (c : ByteArray) (n : Nat) (ret : Option FieldType) (h : Nat) (D : va_G) (t : ClassId × ClassId × ClassId) (As : List Value) (w : va_W) (sz : Nat) (φ : Int32 → S → Prop) (w' : S → va_W) (φx : String → SX → Prop) (wx : SX → va_W) : Prop :=
  vx_Met l y (zWs y c n ret) (zRx h) (zPx D t As w sz) (va_Qi φ (fun u q => va_P D vwCl (w' u) q.heap) (zinx w sz)) (zXC D φx wx (zinx w sz)) 1 6 (zinx w sz)
/-- a method that answers nothing, or throws -/
def zM5 {S SX : Type} (l : Launch) (y : MethodName) (c : ByteArray) (n : Nat) (h : Nat) (D : va_G) (t : ClassId × ClassId × ClassId) (As : List Value) (w : va_W) (sz : Nat) (φ : S → Prop) (w' : S → va_W) (φx : String → SX → Prop) (wx : SX → va_W) : Prop :=
  vx_Met l y (zWs y c n none) (zRx h) (zPx D t As w sz) (va_Qv φ (fun u q => va_P D vwCl (w' u) q.heap) (zinx w sz)) (zXC D φx wx (zinx w sz)) 1 6 (zinx w sz)
def zEndX (E : zE) (ret : Option FieldType) (Qc : Array Value → State → Outcome → State → Prop) (XC : String → State → State → Prop) : Prop := (zh E).sig.returnType = ret ∧ (zh E).locks = false ∧ zQ E = vx_MQ (zb E) Qc XC (zargs E) (zs E) 1 6 (zA E)
def zThr (E : zE) : Prop := E.2.1.stackTraces = false ∧ zFx (zs E) ∧ zSt (zs E) ∧ zZU (zA E) (zs E) (zs E).heap ∧ ∀ x ∈ (zc E).exceptionTable.toList, False
section ZX
variable {E : zE} {pc : Nat} {lv : List (Option Value)} {st : List Value} {ws : va_W} {own : String} {cc : ByteArray} {nL h : Nat} {rm : Room} {D : va_G} {t : ClassId × ClassId × ClassId} {l : Launch} {S SX : Type}
theorem z_iretX {post : Int32 → S → Prop} {B : S → State → Prop} {XC : String → State → State → Prop} {ty : FieldType} {v : Int32} (X : zX E own cc nL rm D t l) (Z : zEndX E (some ty) (va_Qi post B (zA E)) XC) (hn : narrow ty (.int v) = .int v) (hd : decode cc pc = .ok (.ireturn, 1)) (h : ∃ u, post v u ∧ ∀ q : State, va_P D vwCl ws q.heap → B u q) : Wz E 0 0 pc lv [.int v] ws := by
  intro ls H locs hl hP hD hS
  obtain ⟨hr, hlocks, hQ⟩ := Z
  obtain ⟨u, h1, h2⟩ := h
  rw [hQ]
  have hDD : zD E = D := X.2.2.2.2.2.2.2.1
  refine W.widen (k := 1) (n := 6) (by omega) (by omega) (vx_ret ?_)
  exact W.zret X.1 X.2.1 hr hn (fun q hq hW => ⟨⟨v, u, rfl, h1, h2 q (by rw [hq, ← hDD]; exact hP)⟩, hS.F hq⟩) hS.2.2 hd hlocks
theorem z_vretX {post : S → Prop} {B : S → State → Prop} {XC : String → State → State → Prop} (X : zX E own cc nL rm D t l) (Z : zEndX E none (va_Qv post B (zA E)) XC) (hd : decode cc pc = .ok (.return_, 1)) (h : ∃ u, post u ∧ ∀ q : State, va_P D vwCl ws q.heap → B u q) : Wz E 0 0 pc lv [] ws := by
  intro ls H locs hl hP hD hS
  obtain ⟨hr, hlocks, hQ⟩ := Z
  obtain ⟨u, h1, h2⟩ := h
  rw [hQ]
  have hDD : zD E = D := X.2.2.2.2.2.2.2.1
  refine W.widen (k := 1) (n := 6) (by omega) (by omega) (vx_ret ?_)
  exact W.vret X.1 X.2.1 hr (fun q hq hW => ⟨⟨u, rfl, h1, h2 q (by rw [hq, ← hDD]; exact hP)⟩, hS.F hq⟩) hS.2.2 hd hlocks
theorem z_throw {φx : String → SX → Prop} {wx : SX → va_W} {ret : Option FieldType} {Qc : Array Value → State → Outcome → State → Prop} {cls text : String} {ik is ic : Nat} (X : zX E RX3 cc nL (zRm h 1 6) D t l) (Z : zEndX E ret Qc (zXC D φx wx (zA E))) (V : zThr E) (hh : 6 ≤ h) (hnl : lv.length = nL) (hat : ∀ w ∈ vx_atS RX3 ic cls eN, w ∈ zFace) (hk : Cond.classLink RX3 ik cls ∈ zTs) (hini : Cond.initialized cls ∈ zTs) (hstr : (is, text) ∈ zStrs) (hfit : Bundle.fit cls = true) (hst : (st.map fun v => v.category).sum ≤ 8)
    (d0 : decode cc pc = .ok (.new ik, 3)) (d3 : decode cc (pc + 3) = .ok (.dup, 1)) (d4 : decode cc (pc + 4) = .ok (.ldc is, 2)) (d6 : decode cc (pc + 6) = .ok (.invokespecial ic, 3)) (d9 : decode cc (pc + 9) = .ok (.athrow, 1))
    (hx : ∃ u, φx cls u ∧ ∀ q : State, va_P D vwCl ws q.heap → va_P D vwCl (wx u) q.heap) : Wz E 0 0 pc lv st ws := by
  intro ls H locs hl hP hD hS
  obtain ⟨hr, hlocks, hQ⟩ := Z
  obtain ⟨V1, V2, V3, ⟨V4, V5⟩, V6⟩ := V
  obtain ⟨u, h1, h2⟩ := hx
  obtain ⟨sa, hsa⟩ := V3 _ hstr
  have hDD : zD E = D := X.2.2.2.2.2.2.2.1
  have hR : E.2.2.2.1 = zRm h 1 6 := X.2.2.2.2.2.1
  rw [hQ]
  refine vx_throwS (A := zA E) (names := eN) X.1 X.2.1 V1 X.2.2.2.1 hfit (by decide +kernel) (X.w hk) (X.w hini) hsa (fun w hw => V2.use (hat w hw)) ?_ V4 V5 hS (hl.1.1.trans (hnl.trans X.2.2.1.symm)) d0 d3 d4 d6 d9 (fun x hx => (V6 x hx).elim) ?_ ?_ ?_ ?_ hlocks ?_ hS.2.2 (Nat.le_of_ble_eq_true rfl) (Nat.le_of_ble_eq_true rfl)
  · intro w hw
    rcases List.mem_cons.mp hw with rfl | hw
    · rfl
    · rcases List.mem_cons.mp hw with rfl | hw
      · rfl
      · have h9 := (List.mem_filter.mp (hat w hw)).2
        simp only [Bool.and_eq_true] at h9
        unfold vx_ot
        rw [h9.1]; rfl
  · rw [hR]; show 2 + 3 < h; omega
  · rw [hR]; show _ + (13 * (2 + 1) + 43) ≤ 32 * h; omega
  · rw [hR]; exact Nat.le_of_ble_eq_true rfl
  · rw [hR]; exact Nat.le_of_ble_eq_true rfl
  · intro q hal hz hk9
    refine ⟨u, trivial, ⟨h1, h2 q ?_⟩, ⟨Nat.le_trans hS.1 hz, fun a ha1 ha2 => ?_⟩⟩
    · rw [← hDD]
      exact hP.kept fun j x hj => hk9 x.1 (hP j x hj).lt
    · rw [hk9 a (Nat.lt_of_lt_of_le ha1 hS.1)]
      exact hS.2.1 a ha1 ha2
end ZX
theorem z_ofX {l : Launch} {y : MethodName} {c : ByteArray} {n : Nat} {ret : Option FieldType} {h : Nat} {D : va_G} {t : ClassId × ClassId × ClassId} {As : List Value} {w : va_W} {sz : Nat} {Qc : Array Value → State → Outcome → State → Prop} {XC : String → State → State → Prop} (hfl : l.stackTraces = false)
    (hy : plainName y.cls = true) (hn : As.length ≤ n) (hc : ∀ v ∈ As, v.category = 1)
    (body : ∀ E : zE, zX E y.cls c n (zRx h) D t l → zEndX E ret Qc XC → zThr E → zA E = zinx w sz → Wz E 0 0 0 (As.map some ++ List.replicate (n - As.length) none) [] w) :
    vx_Met l y (zWs y c n ret) (zRx h) (zPx D t As w sz) Qc XC 1 6 (zinx w sz) := by
  refine vx_ofW (cc := c) (maxL := n) (ret := ret) hy rfl ?_
  intro p e s m args below meth c0 s₁ B hml htab hv
  obtain ⟨rfl, hsz, hP, hK, hD, hF, hSt, hZ⟩ := hv
  have hts := atoms_spec (ws := zWs y c n ret) B.pre
  rw [entry_eq m As hc n]
  exact body (p, l, e, zRx h, s, m, As.toArray, below, meth, c0, D, zinx w sz, vx_MQ below Qc XC As.toArray s 1 6 (zinx w sz), t)
    ⟨B.exec, B.bytes, hml, findClass_of_methodNamed B.named, hK, rfl, fun w hw => hts w (List.mem_cons_of_mem _ hw), rfl, rfl, rfl⟩
    ⟨B.returns, B.notSynchronized, rfl⟩ ⟨hfl, hF, hSt, hZ, htab⟩ rfl _ s.heap [] (z_entry hc hn) hP hD va_S.rf
theorem z_m4 {S SX : Type} {l : Launch} {y : MethodName} {c : ByteArray} {n : Nat} {ret : Option FieldType} {h : Nat} {D : va_G} {t : ClassId × ClassId × ClassId} {As : List Value} {w : va_W} {sz : Nat} {φ : Int32 → S → Prop} {w' : S → va_W} {φx : String → SX → Prop} {wx : SX → va_W} (hfl : l.stackTraces = false)
    (hy : plainName y.cls = true) (hn : As.length ≤ n) (hc : ∀ v ∈ As, v.category = 1)
    (body : ∀ E : zE, zX E y.cls c n (zRx h) D t l → zEndX E ret (va_Qi φ (fun u q => va_P D vwCl (w' u) q.heap) (zA E)) (zXC D φx wx (zA E)) → zThr E → zWr E (w.map (fun x => x.1)) → Wz E 0 0 0 (As.map some ++ List.replicate (n - As.length) none) [] w) : zM4 l y c n ret h D t As w sz φ w' φx wx :=
  z_ofX hfl hy hn hc (fun E X Z V hA => body E X (by rw [hA]; exact Z) V (fun q hq => by rw [hA]; exact Or.inl hq))
theorem z_m5 {S SX : Type} {l : Launch} {y : MethodName} {c : ByteArray} {n : Nat} {h : Nat} {D : va_G} {t : ClassId × ClassId × ClassId} {As : List Value} {w : va_W} {sz : Nat} {φ : S → Prop} {w' : S → va_W} {φx : String → SX → Prop} {wx : SX → va_W} (hfl : l.stackTraces = false)
    (hy : plainName y.cls = true) (hn : As.length ≤ n) (hc : ∀ v ∈ As, v.category = 1)
    (body : ∀ E : zE, zX E y.cls c n (zRx h) D t l → zEndX E none (va_Qv φ (fun u q => va_P D vwCl (w' u) q.heap) (zA E)) (zXC D φx wx (zA E)) → zThr E → zWr E (w.map (fun x => x.1)) → Wz E 0 0 0 (As.map some ++ List.replicate (n - As.length) none) [] w) : zM5 l y c n h D t As w sz φ w' φx wx :=
  z_ofX hfl hy hn hc (fun E X Z V hA => body E X (by rw [hA]; exact Z) V (fun q hq => by rw [hA]; exact Or.inl hq))
