/-! the law's own methods: they make cells (what is thrown and caught), and they may write -/
def zM8 {S : Type} (l : Launch) (y : MethodName) (c : ByteArray) (n : Nat) (ret : Option FieldType) (h mc ms : Nat) (D : va_G) (t : ClassId × ClassId × ClassId) (As : List Value) (w : va_W) (sz : Nat) (φ : Int32 → S → Prop) (w' : S → va_W) : Prop :=
  Met l y (zWs y c n ret) (zRm h mc ms) (zPy D t As w sz) (va_Qi φ (fun u q => va_P D vwCl (w' u) q.heap) (zinx w sz)) mc ms (zinx w sz)
theorem z_m8 {S : Type} {l : Launch} {y : MethodName} {c : ByteArray} {n : Nat} {ret : Option FieldType} {h mc ms : Nat} {D : va_G} {t : ClassId × ClassId × ClassId} {As : List Value} {w : va_W} {sz : Nat} {φ : Int32 → S → Prop} {w' : S → va_W}
    (hy : plainFor y = true) (hn : As.length ≤ n) (hc : ∀ v ∈ As, v.category = 1)
    (body : ∀ E : zE, zX E y.cls c n (zRm h mc ms) D t l → zEnd E ret (va_Qi φ (fun u q => va_P D vwCl (w' u) q.heap) (zA E)) mc ms → zTry E → zWr E (w.map (fun x => x.1)) → Wz E 0 0 0 (As.map some ++ List.replicate (n - As.length) none) [] w) : zM8 l y c n ret h mc ms D t As w sz φ w' := by
  refine z_metW (cc := c) (maxL := n) (ret := ret) hy rfl ?_
  intro p e s m args below meth c0 s₁ B hml hv
  obtain ⟨rfl, hsz, hP, hK, hD, hF, hSt, hZ, hN⟩ := hv
  have hts := atoms_spec (ws := zWs y c n ret) B.pre
  rw [entry_eq m As hc n]
  subst hsz
  exact body (p, l, e, zRm h mc ms, s, m, As.toArray, below, meth, c0, D, zinx w s.heap.size, MQ below (va_Qi φ (fun u q => va_P D vwCl (w' u) q.heap) (zinx w s.heap.size)) As.toArray s mc ms (zinx w s.heap.size), t)
    ⟨B.exec, B.bytes, hml, findClass_of_methodNamed B.named, hK, rfl, fun w hw => hts w (List.mem_cons_of_mem _ hw), rfl, rfl, rfl⟩
    ⟨B.returns, B.notSynchronized, rfl⟩ ⟨hF, hSt, hZ, hN, fun q hq => Or.inr hq⟩ (fun q hq => Or.inl hq) _ s.heap [] (z_entry hc hn) hP hD va_S.rf
theorem zM8.imp {S S' : Type} {l : Launch} {y : MethodName} {c : ByteArray} {n : Nat} {ret : Option FieldType} {h mc ms : Nat} {D : va_G} {t : ClassId × ClassId × ClassId} {As : List Value} {w : va_W} {sz : Nat} {φ : Int32 → S → Prop} {w' : S → va_W} {φ' : Int32 → S' → Prop} {w'' : S' → va_W} (hM : zM8 l y c n ret h mc ms D t As w sz φ w') (e : ∀ r u, φ r u → ∃ u', φ' r u' ∧ ∀ H, va_P D vwCl (w' u) H → va_P D vwCl (w'' u') H) : zM8 l y c n ret h mc ms D t As w sz φ' w'' := by
  intro p e1 ha hc hk s m args below hf happ hP hK
  obtain ⟨i, o, h1, h2, h3, ⟨⟨⟨v, u, h4, h5, h6⟩, h7⟩, h8⟩⟩ := hM p e1 ha hc hk s m args below hf happ hP hK
  obtain ⟨u', h9, h10⟩ := e v u h5
  exact ⟨i, o, h1, h2, h3, ⟨⟨⟨v, u', h4, h9, h10 _ h6⟩, h7⟩, h8⟩⟩
theorem zM7.imp {S S' : Type} {l : Launch} {y : MethodName} {c : ByteArray} {n : Nat} {hh : List (Nat × Nat × Nat × Nat)} {h : Nat} {D : va_G} {t : ClassId × ClassId × ClassId} {As : List Value} {w : va_W} {sz : Nat} {φ : Int32 → S → Prop} {w' : S → va_W} {φ' : Int32 → S' → Prop} {w'' : S' → va_W} (hM : zM7 l y c n hh h D t As w sz φ w') (e : ∀ r u, φ r u → ∃ u', φ' r u' ∧ ∀ H, va_P D vwCl (w' u) H → va_P D vwCl (w'' u') H) : zM7 l y c n hh h D t As w sz φ' w'' := by
  intro p e1 ha hc hk s m args below hf happ hP hK
  obtain ⟨i, o, h1, h2, h3, ⟨⟨⟨v, u, h4, h5, h6⟩, h7⟩, h8⟩⟩ := hM p e1 ha hc hk s m args below hf happ hP hK
  obtain ⟨u', h9, h10⟩ := e v u h5
  exact ⟨i, o, h1, h2, h3, ⟨⟨⟨v, u', h4, h9, h10 _ h6⟩, h7⟩, h8⟩⟩
theorem zM1.imp {l : Launch} {y : MethodName} {c : ByteArray} {n : Nat} {ret : Option FieldType} {h : Nat} {D : va_G} {t : ClassId × ClassId × ClassId} {As : List Value} {w : va_W} {φ φ' : Int32 → Prop} (hM : zM1 l y c n ret h D t As w φ) (e : ∀ r, φ r → φ' r) : zM1 l y c n ret h D t As w φ' := by
  intro p e1 ha hc hk s m args below hf happ hP hK
  obtain ⟨i, o, h1, h2, h3, ⟨⟨⟨v, u, h4, h5, h6⟩, h7⟩, h8⟩⟩ := hM p e1 ha hc hk s m args below hf happ hP hK
  exact ⟨i, o, h1, h2, h3, ⟨⟨⟨v, u, h4, e v h5, h6⟩, h7⟩, h8⟩⟩
theorem zM2.imp {S S' : Type} {l : Launch} {y : MethodName} {c : ByteArray} {n : Nat} {ret : Option FieldType} {h : Nat} {D : va_G} {t : ClassId × ClassId × ClassId} {As : List Value} {w : va_W} {φ : Int32 → S → Prop} {w' : S → va_W} {φ' : Int32 → S' → Prop} {w'' : S' → va_W} (hM : zM2 l y c n ret h D t As w φ w') (e : ∀ r u, φ r u → ∃ u', φ' r u' ∧ ∀ H, va_P D vwCl (w' u) H → va_P D vwCl (w'' u') H) : zM2 l y c n ret h D t As w φ' w'' := by
  intro p e1 ha hc hk s m args below hf happ hP hK
  obtain ⟨i, o, h1, h2, h3, ⟨⟨⟨v, u, h4, h5, h6⟩, h7⟩, h8⟩⟩ := hM p e1 ha hc hk s m args below hf happ hP hK
  obtain ⟨u', h9, h10⟩ := e v u h5
  exact ⟨i, o, h1, h2, h3, ⟨⟨⟨v, u', h4, h9, h10 _ h6⟩, h7⟩, h8⟩⟩
/-! calls -/
def zPk8 (y : MethodName) (c : ByteArray) (n : Nat) (ret : Option FieldType) (np : Nat) : Prop := Cond.static y ∈ zTs ∧ Cond.initialized y.cls ∈ zTs ∧ Cond.code y c n ret ∈ zTs ∧ (y.cls ≠ "java/lang/invoke/MethodHandle" ∧ y.cls ≠ "java/lang/invoke/VarHandle" ∧ (parseMethodDescriptor y.desc).map (fun d => d.parameters.length) = some np)
def zPkW (y : MethodName) (c : ByteArray) (n : Nat) (hh : List (Nat × Nat × Nat × Nat)) (np : Nat) : Prop := Cond.static y ∈ zTs ∧ Cond.initialized y.cls ∈ zTs ∧ Cond.codeWith y c n (some .int) hh ∈ zTs ∧ (y.cls ≠ "java/lang/invoke/MethodHandle" ∧ y.cls ≠ "java/lang/invoke/VarHandle" ∧ (parseMethodDescriptor y.desc).map (fun d => d.parameters.length) = some np)
section ZW8
variable {E : zE} {k n k' n' pc : Nat} {lv : List (Option Value)} {st : List Value} {ws w : va_W} {own : String} {cc : ByteArray} {nL h h0 rc rs mc ms : Nat} {D : va_G} {t : ClassId × ClassId × ClassId} {l : Launch} {S : Type} {L : List Nat} {As st0 : List Value} {y : MethodName} {c0 : ByteArray} {n0 np i : Nat} {ret0 : Option FieldType} {w' : S → va_W} {hh : List (Nat × Nat × Nat × Nat)}
/-- a call of one of the law's methods that catches -/
theorem z_w7 (X : zX E own cc nL (zRm h rc rs) D t l) (Y : zWr E L) (hL : ws.map (fun x => x.1) = L) (V : zTry E) {ξ : Int32 → S → Prop} (hM : ∀ sz, zM7 l y c0 n0 hh h0 D t As w sz ξ w') (pk : zPkW y c0 n0 hh np) (hml : Cond.methodLink own i y ∈ zTs) (is : List Nat) (hpp : zPart ws is w) (ws' : S → va_W) (hp : ∀ u, zSwap ws is w (w' u) (ws' u)) (hh0 : h0 < h) (hn0 : n0 ≤ 13) (hnp : As.length = np) (hnl : lv.length = nL) (hs0 : st0 = As.reverse ++ st) (hst : (st.map fun v => v.category).sum ≤ 8) (hk : k + 1 ≤ k' ∧ n + 6 ≤ n') (hr : k' ≤ rc ∧ n' ≤ rs) (hd : decode cc pc = .ok (.invokestatic i, 3)) (kk : ∀ r u, ξ r u → Wz E k' n' (pc + 3) lv (.int r :: st) (ws' u)) : Wz E k n pc lv st0 ws := by
  obtain ⟨p1, p2, p3, p4⟩ := pk
  exact z_callW X Y hL V hM p1 p2 p3 p4 hn0 hml is hpp ws' hp hh0 hnp hnl hs0 hst ⟨Nat.le_trans hk.1 hr.1, Nat.le_trans hk.2 hr.2⟩ hd (fun r u h9 => Wz.wide hk.1 hk.2 (kk r u h9))
/-- a call of another of the law's methods -/
theorem z_w8 (X : zX E own cc nL (zRm h rc rs) D t l) (Y : zWr E L) (hL : ws.map (fun x => x.1) = L) (V : zTry E) {ξ : Int32 → S → Prop} (hM : ∀ sz, zM8 l y c0 n0 ret0 h0 mc ms D t As w sz ξ w') (pk : zPk8 y c0 n0 ret0 np) (hml : Cond.methodLink own i y ∈ zTs) (is : List Nat) (hpp : zPart ws is w) (ws' : S → va_W) (hp : ∀ u, zSwap ws is w (w' u) (ws' u)) (hh0 : h0 < h) (hn0 : n0 + 19 + 32 * h0 ≤ 32 * h) (hnp : As.length = np) (hnl : lv.length = nL) (hs0 : st0 = As.reverse ++ st) (hst : (st.map fun v => v.category).sum ≤ 8) (hk : k + mc ≤ k' ∧ n + ms ≤ n') (hr : k' ≤ rc ∧ n' ≤ rs) (hd : decode cc pc = .ok (.invokestatic i, 3)) (kk : ∀ r u, ξ r u → Wz E k' n' (pc + 3) lv (.int r :: st) (ws' u)) : Wz E k n pc lv st0 ws := by
  intro ls H locs hl hP hD hS
  subst hs0
  obtain ⟨p1, p2, p3, p4⟩ := pk
  have hDD : zD E = D := X.2.2.2.2.2.2.2.1
  have hl2 : E.2.1 = l := X.2.2.2.2.2.2.2.2.2
  have hR : E.2.2.2.1 = zRm h rc rs := X.2.2.2.2.2.1
  have hpre := z_preY (As := As) X Y hL V hpp hP hD hS
  have hin : ∀ q, zinx w H.size q → zA E q := fun q hq => hq.elim (fun z => Y.in hL hpp q z) (fun z => V.2.2.2.2 q (Nat.le_trans hS.1 z))
  have hrun : va_Run E.1 E.2.1 E.2.2.1 E.2.2.2.1 (zs E) (zm E) (zargs E) (zb E) (zh E) (zc E) H locs k n mc ms (F0 (zm E) pc ls (As.reverse ++ st)) st (va_Qi ξ (fun u q => va_P D vwCl (w' u) q.heap) (zinx w H.size) As.toArray) (zinx w H.size) := by
    rw [hl2]
    refine va_runS (nL := nL) (n := np) (own := own) (bytes := c0) (maxL := n0) (ret := ret0) ⟨X.1, X.2.1, X.2.2.1, X.2.2.2.1, X.2.2.2.2.2.2.1⟩ (hM H.size) ⟨callB_of np X.2.2.2.2.2.2.1 (zGoodW p3) rfl rfl rfl (X.w p2) (X.w hml) p4 ?_, X.w p1⟩ hpre rfl hnp ?_ rfl (lv_room hst) hd ?_
    · rw [hR]; exact ⟨hh0, by show 8 + (n0 + 11) + 32 * h0 ≤ 32 * h; omega⟩
    · exact hl.1.1.trans hnl
    · rw [hR]; exact ⟨Nat.le_trans hk.1 hr.1, Nat.le_trans hk.2 hr.2⟩
  have hz' : ∀ q, q < H.size → ¬ zin w q → ¬ zinx w H.size q := fun q h1 h2 h3 => h3.elim h2 (fun h4 => absurd h1 (Nat.not_lt.mpr h4))
  refine va_calli hrun hS (fun q _ z => hin q z) hin (fun r u T H1 locs1 hT _ hφ hB hz hk1 hS1 => ?_)
  exact W.widen hk.1 hk.2 (kk r u hφ ls H1 locs1 hl ((hp u).P hP hD (fun q h1 h2 => hk1 q h1 (hz' q h1 h2)) (by rw [hDD, ← hT]; exact hB)) (zD_addr (hp u).2.2.1 hD) hS1)
end ZW8
