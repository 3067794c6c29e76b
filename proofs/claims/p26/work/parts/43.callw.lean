/-! the law's calls of its wrappers -/
section ZW
variable {E : zE} {k n pc : Nat} {lv : List (Option Value)} {st : List Value} {ws w : va_W} {own : String} {cc : ByteArray} {nL h h0 rc rs : Nat} {D : va_G} {t : ClassId × ClassId × ClassId} {l : Launch} {S : Type} {L : List Nat} {As st0 : List Value} {y : MethodName} {c0 : ByteArray} {n0 np i : Nat} {w' : S → va_W} {hh : List (Nat × Nat × Nat × Nat)}
theorem z_preY {rm : Room} (X : zX E own cc nL rm D t l) (Y : zWr E L) (hL : ws.map (fun x => x.1) = L) (V : zTry E) {is : List Nat} (hp : zPart ws is w) {H : Heap} {locs : List Loc} (hP : va_P (zD E) vwCl ws H) (hD : va_D (fun _ => True) ws) (hS : va_S (zA E) (zs E).heap H locs) : PreS (zs E) H (zPy D t As w H.size) As := by
  obtain ⟨V1, V2, ⟨V4, V5⟩, V6, V7⟩ := V
  have hin : ∀ q, zinx w H.size q → zA E q := fun q hq => hq.elim (fun z => Y.in hL hp q z) (fun z => V7 q (Nat.le_trans hS.1 z))
  have hke : ∀ a : Nat, a < (zs E).heap.size → ¬ zA E a → H[a]? = (zs E).heap[a]? := hS.2.1
  refine ⟨fun a U g mk q => ?_, fun U hU hW => ⟨rfl, by rw [hU], ?_, X.2.2.2.2.1.moved hW, hp.D hD, V1.moved hW, V2.moved hW, ⟨?_, ?_⟩, fun q hq => (V6 q hq).moved hW.alike⟩⟩
  · obtain ⟨q0, q1, q2, q3, q4, q5, q6, q7, q8⟩ := q
    exact ⟨q0, q1, q2, ⟨va_K.moved (u := U) (U := U.calling g mk a) (Vm.Alike.refl U.vm) q3.1, va_Nw.same rfl rfl q3.2⟩, q4, q5.same rfl, q6.same rfl, ⟨vx_Zq.moved (u := U) (Vm.Alike.refl U.vm) q7.1, vx_Zq.moved (u := U) (Vm.Alike.refl U.vm) q7.2⟩, fun x hx => (q8 x hx).moved (u := U) (Vm.Alike.refl U.vm)⟩
  · rw [hU, ← X.2.2.2.2.2.2.2.1]
    exact hp.P hP
  · rw [hU]; exact vx_Zq.moved hW.alike ((V4.kept hke).narrow hin)
  · rw [hU]; exact vx_Zq.moved hW.alike ((V5.kept hke).narrow hin)
theorem z_callW (X : zX E own cc nL (zRm h rc rs) D t l) (Y : zWr E L) (hL : ws.map (fun x => x.1) = L) (V : zTry E) {ξ : Int32 → S → Prop} (hM : ∀ sz, zM7 l y c0 n0 hh h0 D t As w sz ξ w') (p1 : Cond.static y ∈ zTs) (p2 : Cond.initialized y.cls ∈ zTs) (p3 : Cond.codeWith y c0 n0 (some .int) hh ∈ zTs) (p4 : y.cls ≠ "java/lang/invoke/MethodHandle" ∧ y.cls ≠ "java/lang/invoke/VarHandle" ∧ (parseMethodDescriptor y.desc).map (fun d => d.parameters.length) = some np) (p5 : n0 ≤ 13) (hml : Cond.methodLink own i y ∈ zTs) (is : List Nat) (hpp : zPart ws is w) (ws' : S → va_W) (hp : ∀ u, zSwap ws is w (w' u) (ws' u)) (hh0 : h0 < h) (hnp : As.length = np) (hnl : lv.length = nL) (hs0 : st0 = As.reverse ++ st) (hst : (st.map fun v => v.category).sum ≤ 8) (hcs : k + 1 ≤ rc ∧ n + 6 ≤ rs) (hd : decode cc pc = .ok (.invokestatic i, 3)) (kk : ∀ r u, ξ r u → Wz E (k + 1) (n + 6) (pc + 3) lv (.int r :: st) (ws' u)) : Wz E k n pc lv st0 ws := by
  intro ls H locs hl hP hD hS
  subst hs0
  have hDD : zD E = D := X.2.2.2.2.2.2.2.1
  have hl2 : E.2.1 = l := X.2.2.2.2.2.2.2.2.2
  have hR : E.2.2.2.1 = zRm h rc rs := X.2.2.2.2.2.1
  have hpre := z_preY (As := As) X Y hL V hpp hP hD hS
  have hin : ∀ q, zinx w H.size q → zA E q := fun q hq => hq.elim (fun z => Y.in hL hpp q z) (fun z => V.2.2.2.2 q (Nat.le_trans hS.1 z))
  have hG : GoodIn zTs (zWh y c0 n0 (some .int) hh) := zGood (fun w hw => (List.mem_cons.mp hw).elim (fun e => by rw [e]; exact p3) id)
  have hrun : va_Run E.1 E.2.1 E.2.2.1 E.2.2.2.1 (zs E) (zm E) (zargs E) (zb E) (zh E) (zc E) H locs k n 1 6 (F0 (zm E) pc ls (As.reverse ++ st)) st (va_Qi ξ (fun u q => va_P D vwCl (w' u) q.heap) (zinx w H.size) As.toArray) (zinx w H.size) := by
    rw [hl2]
    refine vx_runSW (hh := hh) (nL := nL) (n := np) (own := own) (bytes := c0) (maxL := n0) (ret := some .int) ⟨X.1, X.2.1, X.2.2.1, X.2.2.2.1, X.2.2.2.2.2.2.1⟩ (hM H.size) ⟨⟨rfl, rfl, ?_, ?_, pay_in X.2.2.2.2.2.2.1 hG, List.mem_cons_self⟩, X.w p3, X.w p2, ⟨p4.1, p4.2.1⟩, fun sig h9 => ?_, X.w hml, X.w p1⟩ hpre rfl hnp (hl.1.1.trans hnl) rfl (lv_room hst) hd ?_
    · rw [hR]; exact hh0
    · rw [hR]; show 8 + (n0 + 11) + 32 * h0 ≤ 32 * h; omega
    · have q := p4.2.2
      rw [h9] at q
      exact (Option.some.inj q).symm
    · rw [hR]; exact hcs
  have hz' : ∀ q, q < H.size → ¬ zin w q → ¬ zinx w H.size q := fun q h1 h2 h3 => h3.elim h2 (fun h4 => absurd h1 (Nat.not_lt.mpr h4))
  refine va_calli hrun hS (fun q _ z => hin q z) hin (fun r u T H1 locs1 hT _ hφ hB hz hk hS1 => ?_)
  exact kk r u hφ ls H1 locs1 hl ((hp u).P hP hD (fun q h1 h2 => hk q h1 (hz' q h1 h2)) (by rw [hDD, ← hT]; exact hB)) (zD_addr (hp u).2.2.1 hD) hS1
end ZW
