section
-- ===== PART A: goes FIRST, ahead of the names: the tables' words, and 'selects' of the private methods out of them =====
/-- a private method of a class that the tables say can be made, by its rows of tables_1 -/
def lw_okq (q : MethodName × Nat) : Prop := (q.1.cls ≠ "java/lang/invoke/MethodHandle" ∧ q.1.cls ≠ "java/lang/invoke/VarHandle") ∧ Cond.instantiable q.1.cls q.2 ∈ tables_1 ∧ Cond.privateMethod q.1 ∈ tables_1 ∧ Cond.instanceMethod q.1 ∈ tables_1
theorem lw_p0 : lw_okq (⟨"Rulesheet", "stepCount", "()I"⟩, 8) := ⟨⟨by decide +kernel, by decide +kernel⟩, List.mem_of_getElem? (i := 16) (by decide +kernel), List.mem_of_getElem? (i := 144) (by decide +kernel), List.mem_of_getElem? (i := 145) (by decide +kernel)⟩
theorem lw_p1 : lw_okq (⟨"Rulesheet", "workingAmong", "(I)I"⟩, 8) := ⟨⟨by decide +kernel, by decide +kernel⟩, List.mem_of_getElem? (i := 16) (by decide +kernel), List.mem_of_getElem? (i := 171) (by decide +kernel), List.mem_of_getElem? (i := 172) (by decide +kernel)⟩
theorem lw_p2 : lw_okq (⟨"Rulesheet", "hasScoreFor", "(I)Z"⟩, 8) := ⟨⟨by decide +kernel, by decide +kernel⟩, List.mem_of_getElem? (i := 16) (by decide +kernel), List.mem_of_getElem? (i := 175) (by decide +kernel), List.mem_of_getElem? (i := 176) (by decide +kernel)⟩
theorem lw_p3 : lw_okq (⟨"Rulesheet", "hasLevelFor", "(LRulesheet$Build;I)Z"⟩, 8) := ⟨⟨by decide +kernel, by decide +kernel⟩, List.mem_of_getElem? (i := 16) (by decide +kernel), List.mem_of_getElem? (i := 179) (by decide +kernel), List.mem_of_getElem? (i := 180) (by decide +kernel)⟩
theorem lw_p4 : lw_okq (⟨"Rulesheet", "isOtherIn", "(II)Z"⟩, 8) := ⟨⟨by decide +kernel, by decide +kernel⟩, List.mem_of_getElem? (i := 16) (by decide +kernel), List.mem_of_getElem? (i := 183) (by decide +kernel), List.mem_of_getElem? (i := 184) (by decide +kernel)⟩
theorem lw_p5 : lw_okq (⟨"Rulesheet", "mayTake", "(LRulesheet$Build;I)Z"⟩, 8) := ⟨⟨by decide +kernel, by decide +kernel⟩, List.mem_of_getElem? (i := 16) (by decide +kernel), List.mem_of_getElem? (i := 191) (by decide +kernel), List.mem_of_getElem? (i := 192) (by decide +kernel)⟩
theorem lw_p6 : lw_okq (⟨"Rulesheet", "isBarred", "(LRulesheet$Build;I)Z"⟩, 8) := ⟨⟨by decide +kernel, by decide +kernel⟩, List.mem_of_getElem? (i := 16) (by decide +kernel), List.mem_of_getElem? (i := 207) (by decide +kernel), List.mem_of_getElem? (i := 208) (by decide +kernel)⟩
theorem lw_p7 : lw_okq (⟨"Rulesheet", "pointsLeft", "()I"⟩, 8) := ⟨⟨by decide +kernel, by decide +kernel⟩, List.mem_of_getElem? (i := 16) (by decide +kernel), List.mem_of_getElem? (i := 219) (by decide +kernel), List.mem_of_getElem? (i := 220) (by decide +kernel)⟩
theorem lw_p8 : lw_okq (⟨"Rulesheet", "canReach", "(I)Z"⟩, 8) := ⟨⟨by decide +kernel, by decide +kernel⟩, List.mem_of_getElem? (i := 16) (by decide +kernel), List.mem_of_getElem? (i := 243) (by decide +kernel), List.mem_of_getElem? (i := 244) (by decide +kernel)⟩
theorem lw_p9 : lw_okq (⟨"Rulesheet", "markSets", "(I)V"⟩, 8) := ⟨⟨by decide +kernel, by decide +kernel⟩, List.mem_of_getElem? (i := 16) (by decide +kernel), List.mem_of_getElem? (i := 247) (by decide +kernel), List.mem_of_getElem? (i := 248) (by decide +kernel)⟩
theorem lw_p10 : lw_okq (⟨"Rulesheet", "firstStepTowards", "(I)I"⟩, 8) := ⟨⟨by decide +kernel, by decide +kernel⟩, List.mem_of_getElem? (i := 16) (by decide +kernel), List.mem_of_getElem? (i := 251) (by decide +kernel), List.mem_of_getElem? (i := 252) (by decide +kernel)⟩
theorem lw_p11 : lw_okq (⟨"Rulesheet", "isStepTowards", "(II)Z"⟩, 8) := ⟨⟨by decide +kernel, by decide +kernel⟩, List.mem_of_getElem? (i := 16) (by decide +kernel), List.mem_of_getElem? (i := 255) (by decide +kernel), List.mem_of_getElem? (i := 256) (by decide +kernel)⟩
theorem lw_p12 : lw_okq (⟨"Rulesheet", "isMarked", "()Z"⟩, 8) := ⟨⟨by decide +kernel, by decide +kernel⟩, List.mem_of_getElem? (i := 16) (by decide +kernel), List.mem_of_getElem? (i := 271) (by decide +kernel), List.mem_of_getElem? (i := 272) (by decide +kernel)⟩
theorem lw_p13 : lw_okq (⟨"Rulesheet", "wordOfTrial", "()I"⟩, 8) := ⟨⟨by decide +kernel, by decide +kernel⟩, List.mem_of_getElem? (i := 16) (by decide +kernel), List.mem_of_getElem? (i := 275) (by decide +kernel), List.mem_of_getElem? (i := 276) (by decide +kernel)⟩
theorem lw_p14 : lw_okq (⟨"Rulesheet", "bitOfTrial", "()I"⟩, 8) := ⟨⟨by decide +kernel, by decide +kernel⟩, List.mem_of_getElem? (i := 16) (by decide +kernel), List.mem_of_getElem? (i := 279) (by decide +kernel), List.mem_of_getElem? (i := 280) (by decide +kernel)⟩
theorem lw_p15 : lw_okq (⟨"Rulesheet", "mark", "()V"⟩, 8) := ⟨⟨by decide +kernel, by decide +kernel⟩, List.mem_of_getElem? (i := 16) (by decide +kernel), List.mem_of_getElem? (i := 287) (by decide +kernel), List.mem_of_getElem? (i := 288) (by decide +kernel)⟩
def lw_privs_1 : List (MethodName × Nat) := [(⟨"Rulesheet", "stepCount", "()I"⟩, 8), (⟨"Rulesheet", "workingAmong", "(I)I"⟩, 8), (⟨"Rulesheet", "hasScoreFor", "(I)Z"⟩, 8), (⟨"Rulesheet", "hasLevelFor", "(LRulesheet$Build;I)Z"⟩, 8), (⟨"Rulesheet", "isOtherIn", "(II)Z"⟩, 8), (⟨"Rulesheet", "mayTake", "(LRulesheet$Build;I)Z"⟩, 8), (⟨"Rulesheet", "isBarred", "(LRulesheet$Build;I)Z"⟩, 8), (⟨"Rulesheet", "pointsLeft", "()I"⟩, 8), (⟨"Rulesheet", "canReach", "(I)Z"⟩, 8), (⟨"Rulesheet", "markSets", "(I)V"⟩, 8), (⟨"Rulesheet", "firstStepTowards", "(I)I"⟩, 8), (⟨"Rulesheet", "isStepTowards", "(II)Z"⟩, 8), (⟨"Rulesheet", "isMarked", "()Z"⟩, 8), (⟨"Rulesheet", "wordOfTrial", "()I"⟩, 8), (⟨"Rulesheet", "bitOfTrial", "()I"⟩, 8), (⟨"Rulesheet", "mark", "()V"⟩, 8)]
theorem lw_r1 : ∀ q ∈ lw_privs_1, lw_okq q := List.forall_mem_cons.mpr ⟨lw_p0, List.forall_mem_cons.mpr ⟨lw_p1, List.forall_mem_cons.mpr ⟨lw_p2, List.forall_mem_cons.mpr ⟨lw_p3, List.forall_mem_cons.mpr ⟨lw_p4, List.forall_mem_cons.mpr ⟨lw_p5, List.forall_mem_cons.mpr ⟨lw_p6, List.forall_mem_cons.mpr ⟨lw_p7, List.forall_mem_cons.mpr ⟨lw_p8, List.forall_mem_cons.mpr ⟨lw_p9, List.forall_mem_cons.mpr ⟨lw_p10, List.forall_mem_cons.mpr ⟨lw_p11, List.forall_mem_cons.mpr ⟨lw_p12, List.forall_mem_cons.mpr ⟨lw_p13, List.forall_mem_cons.mpr ⟨lw_p14, List.forall_mem_cons.mpr ⟨lw_p15, fun _ h => absurd h List.not_mem_nil⟩⟩⟩⟩⟩⟩⟩⟩⟩⟩⟩⟩⟩⟩⟩⟩
theorem lw_p16 : lw_okq (⟨"java/lang/Throwable", "fillInStackTrace", "(I)Ljava/lang/Throwable;"⟩, 6) := ⟨⟨by decide +kernel, by decide +kernel⟩, List.mem_of_getElem? (i := 341) (by decide +kernel), List.mem_of_getElem? (i := 339) (by decide +kernel), List.mem_of_getElem? (i := 340) (by decide +kernel)⟩
theorem lw_p17 : lw_okq (⟨"Rulesheet", "leadsIntoRing", "(I)Z"⟩, 8) := ⟨⟨by decide +kernel, by decide +kernel⟩, List.mem_of_getElem? (i := 16) (by decide +kernel), List.mem_of_getElem? (i := 493) (by decide +kernel), List.mem_of_getElem? (i := 494) (by decide +kernel)⟩
theorem lw_p18 : lw_okq (⟨"Rulesheet", "sumOf", "(III)I"⟩, 8) := ⟨⟨by decide +kernel, by decide +kernel⟩, List.mem_of_getElem? (i := 16) (by decide +kernel), List.mem_of_getElem? (i := 498) (by decide +kernel), List.mem_of_getElem? (i := 499) (by decide +kernel)⟩
theorem lw_p19 : lw_okq (⟨"Rulesheet", "modifierOf", "(I)I"⟩, 8) := ⟨⟨by decide +kernel, by decide +kernel⟩, List.mem_of_getElem? (i := 16) (by decide +kernel), List.mem_of_getElem? (i := 502) (by decide +kernel), List.mem_of_getElem? (i := 503) (by decide +kernel)⟩
theorem lw_p20 : lw_okq (⟨"Rulesheet", "bonusFrom", "(III)I"⟩, 8) := ⟨⟨by decide +kernel, by decide +kernel⟩, List.mem_of_getElem? (i := 16) (by decide +kernel), List.mem_of_getElem? (i := 509) (by decide +kernel), List.mem_of_getElem? (i := 510) (by decide +kernel)⟩
theorem lw_p21 : lw_okq (⟨"Rulesheet", "someOrderEnds", "(I)Z"⟩, 8) := ⟨⟨by decide +kernel, by decide +kernel⟩, List.mem_of_getElem? (i := 16) (by decide +kernel), List.mem_of_getElem? (i := 536) (by decide +kernel), List.mem_of_getElem? (i := 537) (by decide +kernel)⟩
theorem lw_p22 : lw_okq (⟨"Rulesheet", "stepOfFirstOrder", "(I)I"⟩, 8) := ⟨⟨by decide +kernel, by decide +kernel⟩, List.mem_of_getElem? (i := 16) (by decide +kernel), List.mem_of_getElem? (i := 549) (by decide +kernel), List.mem_of_getElem? (i := 550) (by decide +kernel)⟩
theorem lw_p23 : lw_okq (⟨"RulesheetModel", "goes", "(ZZZ)Z"⟩, 21) := ⟨⟨by decide +kernel, by decide +kernel⟩, List.mem_of_getElem? (i := 553) (by decide +kernel), List.mem_of_getElem? (i := 638) (by decide +kernel), List.mem_of_getElem? (i := 639) (by decide +kernel)⟩
theorem lw_p24 : lw_okq (⟨"RulesheetModel", "cost", "()I"⟩, 21) := ⟨⟨by decide +kernel, by decide +kernel⟩, List.mem_of_getElem? (i := 553) (by decide +kernel), List.mem_of_getElem? (i := 661) (by decide +kernel), List.mem_of_getElem? (i := 662) (by decide +kernel)⟩
theorem lw_p25 : lw_okq (⟨"RulesheetModel", "mayTakeNow", "(I)Z"⟩, 21) := ⟨⟨by decide +kernel, by decide +kernel⟩, List.mem_of_getElem? (i := 553) (by decide +kernel), List.mem_of_getElem? (i := 679) (by decide +kernel), List.mem_of_getElem? (i := 680) (by decide +kernel)⟩
theorem lw_p26 : lw_okq (⟨"RulesheetModel", "mayTake", "(IIIII)Z"⟩, 21) := ⟨⟨by decide +kernel, by decide +kernel⟩, List.mem_of_getElem? (i := 553) (by decide +kernel), List.mem_of_getElem? (i := 683) (by decide +kernel), List.mem_of_getElem? (i := 684) (by decide +kernel)⟩
theorem lw_p27 : lw_okq (⟨"RulesheetModel", "areScores", "(I)Z"⟩, 21) := ⟨⟨by decide +kernel, by decide +kernel⟩, List.mem_of_getElem? (i := 553) (by decide +kernel), List.mem_of_getElem? (i := 693) (by decide +kernel), List.mem_of_getElem? (i := 694) (by decide +kernel)⟩
theorem lw_p28 : lw_okq (⟨"RulesheetModel", "isLawfulWith", "(I)Z"⟩, 21) := ⟨⟨by decide +kernel, by decide +kernel⟩, List.mem_of_getElem? (i := 553) (by decide +kernel), List.mem_of_getElem? (i := 708) (by decide +kernel), List.mem_of_getElem? (i := 709) (by decide +kernel)⟩
theorem lw_p29 : lw_okq (⟨"RulesheetModel", "place", "(IIII)I"⟩, 21) := ⟨⟨by decide +kernel, by decide +kernel⟩, List.mem_of_getElem? (i := 553) (by decide +kernel), List.mem_of_getElem? (i := 712) (by decide +kernel), List.mem_of_getElem? (i := 713) (by decide +kernel)⟩
theorem lw_p30 : lw_okq (⟨"RulesheetModel", "leadsOn", "(IIIII)Z"⟩, 21) := ⟨⟨by decide +kernel, by decide +kernel⟩, List.mem_of_getElem? (i := 553) (by decide +kernel), List.mem_of_getElem? (i := 716) (by decide +kernel), List.mem_of_getElem? (i := 717) (by decide +kernel)⟩
theorem lw_p31 : lw_okq (⟨"RulesheetModel", "workingOf", "(I)I"⟩, 21) := ⟨⟨by decide +kernel, by decide +kernel⟩, List.mem_of_getElem? (i := 553) (by decide +kernel), List.mem_of_getElem? (i := 720) (by decide +kernel), List.mem_of_getElem? (i := 721) (by decide +kernel)⟩
def lw_privs_2 : List (MethodName × Nat) := [(⟨"java/lang/Throwable", "fillInStackTrace", "(I)Ljava/lang/Throwable;"⟩, 6), (⟨"Rulesheet", "leadsIntoRing", "(I)Z"⟩, 8), (⟨"Rulesheet", "sumOf", "(III)I"⟩, 8), (⟨"Rulesheet", "modifierOf", "(I)I"⟩, 8), (⟨"Rulesheet", "bonusFrom", "(III)I"⟩, 8), (⟨"Rulesheet", "someOrderEnds", "(I)Z"⟩, 8), (⟨"Rulesheet", "stepOfFirstOrder", "(I)I"⟩, 8), (⟨"RulesheetModel", "goes", "(ZZZ)Z"⟩, 21), (⟨"RulesheetModel", "cost", "()I"⟩, 21), (⟨"RulesheetModel", "mayTakeNow", "(I)Z"⟩, 21), (⟨"RulesheetModel", "mayTake", "(IIIII)Z"⟩, 21), (⟨"RulesheetModel", "areScores", "(I)Z"⟩, 21), (⟨"RulesheetModel", "isLawfulWith", "(I)Z"⟩, 21), (⟨"RulesheetModel", "place", "(IIII)I"⟩, 21), (⟨"RulesheetModel", "leadsOn", "(IIIII)Z"⟩, 21), (⟨"RulesheetModel", "workingOf", "(I)I"⟩, 21)]
theorem lw_r2 : ∀ q ∈ lw_privs_2, lw_okq q := List.forall_mem_cons.mpr ⟨lw_p16, List.forall_mem_cons.mpr ⟨lw_p17, List.forall_mem_cons.mpr ⟨lw_p18, List.forall_mem_cons.mpr ⟨lw_p19, List.forall_mem_cons.mpr ⟨lw_p20, List.forall_mem_cons.mpr ⟨lw_p21, List.forall_mem_cons.mpr ⟨lw_p22, List.forall_mem_cons.mpr ⟨lw_p23, List.forall_mem_cons.mpr ⟨lw_p24, List.forall_mem_cons.mpr ⟨lw_p25, List.forall_mem_cons.mpr ⟨lw_p26, List.forall_mem_cons.mpr ⟨lw_p27, List.forall_mem_cons.mpr ⟨lw_p28, List.forall_mem_cons.mpr ⟨lw_p29, List.forall_mem_cons.mpr ⟨lw_p30, List.forall_mem_cons.mpr ⟨lw_p31, fun _ h => absurd h List.not_mem_nil⟩⟩⟩⟩⟩⟩⟩⟩⟩⟩⟩⟩⟩⟩⟩⟩
theorem lw_p32 : lw_okq (⟨"RulesheetModel", "told", "(I)I"⟩, 21) := ⟨⟨by decide +kernel, by decide +kernel⟩, List.mem_of_getElem? (i := 553) (by decide +kernel), List.mem_of_getElem? (i := 728) (by decide +kernel), List.mem_of_getElem? (i := 729) (by decide +kernel)⟩
theorem lw_p33 : lw_okq (⟨"RulesheetModel", "isEndless", "(I)Z"⟩, 21) := ⟨⟨by decide +kernel, by decide +kernel⟩, List.mem_of_getElem? (i := 553) (by decide +kernel), List.mem_of_getElem? (i := 760) (by decide +kernel), List.mem_of_getElem? (i := 761) (by decide +kernel)⟩
theorem lw_p34 : lw_okq (⟨"RulesheetModel", "alone", "(I)I"⟩, 21) := ⟨⟨by decide +kernel, by decide +kernel⟩, List.mem_of_getElem? (i := 553) (by decide +kernel), List.mem_of_getElem? (i := 764) (by decide +kernel), List.mem_of_getElem? (i := 765) (by decide +kernel)⟩
theorem lw_p35 : lw_okq (⟨"RulesheetModel", "bonusOf", "(II)I"⟩, 21) := ⟨⟨by decide +kernel, by decide +kernel⟩, List.mem_of_getElem? (i := 553) (by decide +kernel), List.mem_of_getElem? (i := 768) (by decide +kernel), List.mem_of_getElem? (i := 769) (by decide +kernel)⟩
theorem lw_p36 : lw_okq (⟨"RulesheetModel", "firstStep", "(IIII)I"⟩, 21) := ⟨⟨by decide +kernel, by decide +kernel⟩, List.mem_of_getElem? (i := 553) (by decide +kernel), List.mem_of_getElem? (i := 798) (by decide +kernel), List.mem_of_getElem? (i := 799) (by decide +kernel)⟩
def lw_privs_3 : List (MethodName × Nat) := [(⟨"RulesheetModel", "told", "(I)I"⟩, 21), (⟨"RulesheetModel", "isEndless", "(I)Z"⟩, 21), (⟨"RulesheetModel", "alone", "(I)I"⟩, 21), (⟨"RulesheetModel", "bonusOf", "(II)I"⟩, 21), (⟨"RulesheetModel", "firstStep", "(IIII)I"⟩, 21)]
theorem lw_r3 : ∀ q ∈ lw_privs_3, lw_okq q := List.forall_mem_cons.mpr ⟨lw_p32, List.forall_mem_cons.mpr ⟨lw_p33, List.forall_mem_cons.mpr ⟨lw_p34, List.forall_mem_cons.mpr ⟨lw_p35, List.forall_mem_cons.mpr ⟨lw_p36, fun _ h => absurd h List.not_mem_nil⟩⟩⟩⟩⟩
def lw_privs : List (MethodName × Nat) := lw_privs_1 ++ (lw_privs_2 ++ (lw_privs_3))
def lw_tbl : List Cond := k2_sels lw_privs ++ tables_1
theorem lw_privs_ok : ∀ q ∈ lw_privs, lw_okq q := by
  show ∀ q ∈ lw_privs_1 ++ (lw_privs_2 ++ (lw_privs_3)), lw_okq q
  exact List.forall_mem_append.mpr ⟨lw_r1, List.forall_mem_append.mpr ⟨lw_r2, lw_r3⟩⟩
/-- the streams that the claim lets the run draw from -/
abbrev lw_cs : List Choice := [Jvm.Choice.named "NaN.bits"]
theorem lw_bits : nanBits ∈ lw_cs := by first | decide | exact List.mem_cons_self | simp [lw_cs, nanBits]
/-! ===== BEGIN words of one list among another's, by their places ===== -/
theorem goodIn_r {big : List Cond} (ws : List Cond) (ps : List Nat) (hp : ws = ps.filterMap (fun i => big[i]?)) (h : ws.all goodWord = true) : GoodIn big ws := by
  intro w hw
  have h1 := List.all_eq_true.mp h w hw
  rw [hp] at hw
  obtain ⟨i, -, hi⟩ := List.mem_filterMap.mp hw
  have hm : w ∈ big := by first | exact List.mem_of_getElem? hi | exact List.getElem?_mem hi
  exact ⟨hm, good_of_word h1⟩
theorem goodIn_app {big a b : List Cond} (ha : GoodIn big a) (hb : GoodIn big b) : GoodIn big (a ++ b) := fun w h => (List.mem_append.mp h).elim (ha w) (hb w)
theorem goodIn_ca {big a b : List Cond} {c : Cond} (ha : GoodIn big (c :: a)) (hb : GoodIn big b) : GoodIn big (c :: (a ++ b)) := fun w h => (List.mem_cons.mp h).elim (fun e => ha w (List.mem_cons.mpr (Or.inl e))) (fun h => (List.mem_append.mp h).elim (fun h => ha w (List.mem_cons.mpr (Or.inr h))) (hb w))
theorem goodIn_sub {big ws : List Cond} (hm : ∀ w ∈ ws, w ∈ big) (h : ws.all goodWord = true) : GoodIn big ws := fun w hw => ⟨hm w hw, good_of_word (List.all_eq_true.mp h w hw)⟩
/-! ===== END ===== -/

/-! ===== BEGIN exceptions that leave a method, and their catching by the caller (launches without stack traces) ===== -/
section VXA
/-! The laws vx_back, vx_callV, vx_callS, vx_callSW, vx_throw0, vx_throwS follow proofs of the library, with one case more: JvmDerived/Free/Laws.lean (Back.of_free), Shelf42/LK1.lean (callV, callS), Shelf/KitTraced.lean (throwNew0V, throwNewS). -/
/-- where a method has thrown q: the class by its name, the cell, what was written, the world -/
def vx_T (XC : String → State → State → Prop) (st : State) (q : Addr) (t : State) (mc ms : Nat) (free : Addr → Prop) : Prop :=
  ∃ (E : String) (ce : Cell) (L : List Loc), XC E st t ∧ t.heap[q]? = some ce ∧ ce.vm = .none ∧ st.vm.findClass E = some ce.cls ∧ st.WarmedH t.vm ∧ st.sameButNew ({ t with vm := st.vm } : State) L mc ms ∧ ∀ z ∈ L, free z.base
def vx_Q (Qc : Array Value → State → Outcome → State → Prop) (XC : String → State → State → Prop) (mc ms : Nat) (free : Addr → Prop) : Array Value → State → Outcome → State → Prop := fun a st o t =>
  (Qc a st o t ∧ ∃ L, FrameEnd st o t L mc ms ∧ ∀ q ∈ L, free q.base) ∨ ∃ q, o = .threw q ∧ vx_T XC st q t mc ms free
/-- a callee that returns or throws -/
def vx_Met (l : Launch) (y : MethodName) (ws : List Cond) (rm : Room) (Pc : Array Value → State → Prop) (Qc : Array Value → State → Outcome → State → Prop) (XC : String → State → State → Prop) (mc ms : Nat) (free : Addr → Prop) : Prop :=
  MetFree l y (headSpec ws rm) Pc (fun _ _ _ _ _ => True) (vx_Q Qc XC mc ms free)
def vx_Post (XC : String → State → State → Prop) (mc ms : Nat) (free : Addr → Prop) : Pt → Array Value → Addr → Pt → Prop := fun A a q B =>
  ∃ (g : JFrame) (mk : MethodId) (t : State) (L : List Loc) (E : String) (ce : Cell), B.U.heap = t.heap ∧ B.U.vm = t.vm ∧ XC E (A.U.calling g mk a) t ∧ t.heap[q]? = some ce ∧ ce.vm = .none ∧ A.U.vm.findClass E = some ce.cls ∧ B.locs = A.locs ++ L ∧ (∀ z ∈ L, free z.base) ∧ B.cells = A.cells + mc ∧ B.slots = A.slots + ms
def vx_Back (l : Launch) (R : Room) (p : Program) (e : Env) (below : List Frame) (s : State) (sargs : Array Value) (y : MethodName) (len W9 : Nat)
    (Pre : Pt → Array Value → Prop) (Post : Pt → Array Value → Option Value → Pt → Prop) (PostX : Pt → Array Value → Addr → Pt → Prop) : Prop :=
  ∀ (m : MethodId) (meth : Method) (c : Code) (A : Pt) (g : JFrame) (ig : Instr) (mk : MethodId) (a : Array Value),
    Stand p l e R s m sargs below meth c A.U A.locs A.cells A.slots → g.method = m → g.locals.size = c.maxLocals → decode c.code g.pc = .ok (ig, len) →
    2 * g.monitorRoom + (g.stack.map fun v => v.category).sum ≤ W9 → A.U.methodNamed? y = some mk → Pre A a →
    (∃ (v : Option Value) (B : Pt), Stand p l e R s m sargs below meth c B.U B.locs B.cells B.slots ∧ Post A a v B ∧
      Steps p.tables e below (doInvoke e (A.U.setTop g) [] mk a).1 (B.U.setTop { g with pc := g.pc + len, stack := v.toList ++ g.stack })) ∨
    (∃ (q : Addr) (B : Pt), Stand p l e R s m sargs below meth c B.U B.locs B.cells B.slots ∧ PostX A a q B ∧
      Steps p.tables e below (doInvoke e (A.U.setTop g) [] mk a).1 ((B.U.setTop g).pushFrame (.throwing q)))
section Payer
variable {l : Launch} {R : Room} {p : Program} {e : Env} {below : List Frame} {s : State} {sargs : Array Value} {y : MethodName} {len W9 : Nat}
theorem vx_back {ws : List Cond} {rm : Room} {Pc : Array Value → State → Prop} {Qc : Array Value → State → Outcome → State → Prop} {XC : String → State → State → Prop} {mc ms : Nat} {free : Addr → Prop} {bytes : ByteArray} {maxL : Nat} {ret : Option FieldType}
    (hM : vx_Met l y ws rm Pc Qc XC mc ms free) (hblind : FrameBlind Pc) (hrc : rm.cells = mc) (hrs : rm.slots = ms)
    (hframes : rm.frames + 1 ≤ R.frames) (hlocals : W9 + (maxL + 11) + rm.locals ≤ R.locals)
    (hws : ∀ w ∈ ws, ∀ a' U, s.WarmedH U.vm → w.before a' U = true) (hcode : Cond.code y bytes maxL ret ∈ ws) (hinit : ∀ a' U, s.WarmedH U.vm → (Cond.initialized y.cls).before a' U = true) :
    vx_Back l R p e below s sargs y len W9 (PreOf R mc ms Pc) (PostOf Qc mc ms free) (vx_Post XC mc ms free) := by
  intro m meth c A g ig mk a X hg hsize hdg hW hn hp
  have h1 : (headSpec ws rm).pre.before a A.U = true := atoms_intro fun w hw => hws w hw _ _ X.warmed
  have h2 : (Cond.code y bytes maxL ret).before a A.U = true := hws _ hcode _ _ X.warmed
  have h3 : (Cond.initialized y.cls).before a A.U = true := hinit _ _ X.warmed
  have h4 : A.cells + (headSpec ws rm).room.cells ≤ R.cells := by rw [show (headSpec ws rm).room.cells = mc from hrc]; exact hp.1
  have h5 : A.slots + (headSpec ws rm).room.slots ≤ R.slots := by rw [show (headSpec ws rm).room.slots = ms from hrs]; exact hp.2.1
  have hPc : Pc a (A.U.calling g mk a) := hblind _ _ _ _ hp.2.2
  obtain ⟨U, Ls, c0, s0⟩ := A
  dsimp only [Pt.U, Pt.locs, Pt.cells, Pt.slots] at h1 h2 h3 h4 h5 X hn hPc ⊢
  obtain ⟨methY, cY, hmY, hcY, -, hlY, -, -, -, -⟩ := Cond.code_spec hn h2
  obtain ⟨kY, hkY, -⟩ := className_of_methodNamed hn
  have hinitY : kY.init = .initialized := Cond.initialized_spec (findClass_of_methodNamed hn) hkY h3
  have h : At U g.method c below := by rw [hg]; exact X.here
  have hlocals9 : W9 + (maxL + 11) + (headSpec ws rm).room.locals ≤ R.locals := hlocals
  have happ : (headSpec ws rm).appliesLoose y e.platform (U.calling g mk a) = true :=
    Spec.appliesLoose_calling (g := g) h hdg hn hkY hinitY
      (X.room_calling (g := g) (R' := (headSpec ws rm).room) hsize hmY hcY hframes (by rw [hlY]; omega) h4 h5) h1
  obtain ⟨mid, hmid⟩ := h.above
  have hfr : (U.setTop g).frames = (.java g :: mid) ++ below := by rw [State.frames_setTop' g h.top, hmid]; rfl
  obtain ⟨o, s₂, hsteps, -, hend, hq⟩ := Steps.callFree hM p X.admits X.cas X.clock (acts := []) hfr happ hPc trivial
  have hq' : vx_Q Qc XC mc ms free a (U.calling g mk a) o s₂ := hq
  rw [State.frames_setTop' g h.top] at hend
  obtain ⟨g₀, hg0⟩ := Option.isSome_iff_exists.mp h.top
  obtain ⟨r, hr⟩ := State.topJava?_eq_some.mp hg0
  have hr' : (({ U with heap := s₂.heap, slotsUsed := s₂.slotsUsed } : State).setVm s₂.vm).frames = .java g₀ :: r := hr
  rcases hq' with ⟨hqc, L, hfe, hL⟩ | ⟨q, rfl, E, ce, L, hx, hce, hcv, hcl, hW₂, hsm, hL⟩
  · obtain ⟨⟨v, rfl⟩, hW₂, e2, q2, q3, q4, q5, q6⟩ := id hfe
    have e3 : s₂ = ({ (U.calling g mk a).setFrames s₂.frames with heap := s₂.heap, slotsUsed := s₂.slotsUsed } : State).setVm s₂.vm := by
      have : s₂ = ({ s₂ with vm := (U.calling g mk a).vm } : State).setVm s₂.vm := rfl
      rw [e2] at this
      exact this
    obtain ⟨c₂, i₂, len₂, hc₂, hd₂, hf₂⟩ := hend
    have hW' : U.WarmedH s₂.vm := hW₂
    have hcc : c₂ = c := by
      have h1 : s₂.code? g.method = U.code? g.method := by
        rw [State.code?_eq, State.code?_eq, hW'.alike.method?]
      exact Option.some.inj (hc₂.symm.trans (h1.trans h.code))
    subst hcc
    have hlen : len₂ = len := by rw [hdg] at hd₂; cases hd₂; rfl
    subst hlen
    have hs₂ : s₂ = (({ U with heap := s₂.heap, slotsUsed := s₂.slotsUsed } : State).setVm s₂.vm).setTop { g with pc := g.pc + len₂, stack := v.toList ++ g.stack } := by
      refine e3.trans ?_
      rw [hf₂, State.calling_eq h.top, State.setFrames_setFrames, State.setTop_of_frames _ hr', hr]
      rfl
    have hsame : U.sameButNew ({ U with heap := s₂.heap, slotsUsed := s₂.slotsUsed } : State) L mc ms := by
      refine ⟨?_, q2, q3, q4, q5, q6⟩
      obtain ⟨t, ht, -⟩ := State.frames_cons hr
      show ({ U with heap := s₂.heap, slotsUsed := s₂.slotsUsed } : State) = { U.setFrames U.frames with heap := s₂.heap, slotsUsed := s₂.slotsUsed }
      rw [State.setFrames_self ht]
    subst hg
    refine Or.inl ⟨v, ⟨(({ U with heap := s₂.heap, slotsUsed := s₂.slotsUsed } : State).setVm s₂.vm), Ls ++ L, c0 + mc, s0 + ms⟩,
      ⟨X.admits, X.cas, X.clock, X.frames, X.room, X.hears, X.method, X.code, (X.here.setHeapUsed s₂.heap s₂.slotsUsed).setVm hW'.alike, X.tail, State.WarmedH.trans X.warmed hW', X.limits, X.bytes, X.same.trans (hsame.setVm s.vm)⟩,
      ⟨g, mk, s₂, L, rfl, rfl, hqc, rfl, hL, rfl, rfl⟩, ?_⟩
    show Steps p.tables e below _ ((({ U with heap := s₂.heap, slotsUsed := s₂.slotsUsed } : State).setVm s₂.vm).setTop { g with pc := g.pc + len₂, stack := v.toList ++ g.stack })
    rw [← hs₂]
    exact hsteps
  · obtain ⟨e2, q2, q3, q4, q5, q6⟩ := id hsm
    have e3 : s₂ = ({ (U.calling g mk a).setFrames s₂.frames with heap := s₂.heap, slotsUsed := s₂.slotsUsed } : State).setVm s₂.vm := by
      have : s₂ = ({ s₂ with vm := (U.calling g mk a).vm } : State).setVm s₂.vm := rfl
      rw [e2] at this
      exact this
    have hf₂ : s₂.frames = .throwing q :: .java g :: U.frames.tail := hend
    have hW' : U.WarmedH s₂.vm := hW₂
    have hs₂ : s₂ = ((({ U with heap := s₂.heap, slotsUsed := s₂.slotsUsed } : State).setVm s₂.vm).setTop g).pushFrame (.throwing q) := by
      refine e3.trans ?_
      rw [hf₂, State.calling_eq h.top, State.setFrames_setFrames, State.pushFrame, State.frames_setTop _ hr', State.setTop_of_frames _ hr', State.setFrames_setFrames, hr]
      rfl
    have hsame : U.sameButNew ({ U with heap := s₂.heap, slotsUsed := s₂.slotsUsed } : State) L mc ms := by
      refine ⟨?_, q2, q3, q4, q5, q6⟩
      obtain ⟨t, ht, -⟩ := State.frames_cons hr
      show ({ U with heap := s₂.heap, slotsUsed := s₂.slotsUsed } : State) = { U.setFrames U.frames with heap := s₂.heap, slotsUsed := s₂.slotsUsed }
      rw [State.setFrames_self ht]
    subst hg
    refine Or.inr ⟨q, ⟨(({ U with heap := s₂.heap, slotsUsed := s₂.slotsUsed } : State).setVm s₂.vm), Ls ++ L, c0 + mc, s0 + ms⟩,
      ⟨X.admits, X.cas, X.clock, X.frames, X.room, X.hears, X.method, X.code, (X.here.setHeapUsed s₂.heap s₂.slotsUsed).setVm hW'.alike, X.tail, State.WarmedH.trans X.warmed hW', X.limits, X.bytes, X.same.trans (hsame.setVm s.vm)⟩,
      ⟨g, mk, s₂, L, E, ce, rfl, rfl, hx, hce, hcv, hcl, rfl, hL, rfl, rfl⟩, ?_⟩
    show Steps p.tables e below _ (((({ U with heap := s₂.heap, slotsUsed := s₂.slotsUsed } : State).setVm s₂.vm).setTop g).pushFrame (.throwing q))
    rw [← hs₂]
    exact hsteps
end Payer
section Calls
variable {p : Program} {l : Launch} {e : Env} {R : Room} {s : State} {m : MethodId} {args : Array Value} {below : List Frame} {meth : Method} {c : Code} {T : State} {locs : List Loc} {cells slots : Nat}
theorem vx_callV (X : Stand p l e R s m args below meth c T locs cells slots) (hexec : p.tables.exec = Jvm.exec) {own C : String} {index : Nat} {y : MethodName} {bytes : ByteArray} {maxL : Nat} {ret : Option FieldType}
    (hown : s.vm.findClass own = some m.cls) (hlink : (Cond.methodLink own index y).before args s = true) (hinst : (Cond.instanceMethod y).before args s = true) (hsel : (Cond.selects C y y).before args s = true)
    (hcode : (Cond.code y bytes maxL ret).before args s = true) (hy : y.cls ≠ "java/lang/invoke/MethodHandle" ∧ y.cls ≠ "java/lang/invoke/VarHandle")
    {W9 : Nat} {Pre : Pt → Array Value → Prop} {Post : Pt → Array Value → Option Value → Pt → Prop} {PostX : Pt → Array Value → Addr → Pt → Prop} (hK : vx_Back l R p e below s args y 3 W9 Pre Post PostX)
    {b : Addr} {cellB : Cell} (hcell : T.heap[b]? = some cellB) (hobj : cellB.vm.isStatics = false) (hcls : s.vm.findClass C = some cellB.cls)
    {g : JFrame} (hg : g.method = m) (hsize : g.locals.size = c.maxLocals) {argsL rest : List Value} (hlen : ∀ sig, parseMethodDescriptor y.desc = some sig → argsL.length = sig.parameters.length)
    (hstack : g.stack = argsL.reverse ++ .ref b :: rest) (hW : 2 * g.monitorRoom + (rest.map fun v => v.category).sum ≤ W9) (hdg : decode c.code g.pc = .ok (.invokevirtual index, 3))
    (hpre : ∀ vm₁, s.WarmedH vm₁ → Pre ⟨T.setVm vm₁, locs, cells, slots⟩ (Value.ref b :: argsL).toArray) :
    (∃ (v : Option Value) (vm₁ : Vm) (B : Pt), s.WarmedH vm₁ ∧ Stand p l e R s m args below meth c B.U B.locs B.cells B.slots ∧ Post ⟨T.setVm vm₁, locs, cells, slots⟩ (Value.ref b :: argsL).toArray v B ∧
      ∀ target, Steps p.tables e below (B.U.setTop { g with pc := g.pc + 3, stack := v.toList ++ rest }) target → Steps p.tables e below (T.setTop g) target) ∨
    (∃ (q : Addr) (vm₁ : Vm) (B : Pt), s.WarmedH vm₁ ∧ Stand p l e R s m args below meth c B.U B.locs B.cells B.slots ∧ PostX ⟨T.setVm vm₁, locs, cells, slots⟩ (Value.ref b :: argsL).toArray q B ∧
      Steps p.tables e below (T.setTop g) ((B.U.setTop { g with stack := rest }).pushFrame (.throwing q))) := by
  obtain ⟨mk, methM, hnamed, hmethM, hstM, habM⟩ := Cond.instanceMethod_spec hinst
  obtain ⟨methM', cM, hmethM', -, -, -, -, -, -, hsigM⟩ := Cond.code_spec hnamed hcode
  cases hmethM.symm.trans hmethM'
  obtain ⟨c2, r2, m2, q1, q2, q3, q4, kP, hkP, hkPi⟩ := Cond.selects_spec hsel
  cases hcls.symm.trans q1
  cases (State.methodFound?_of_named hnamed hy).symm.trans q2
  cases hnamed.symm.trans q3
  have hselP : selectMethod e.platform s.vm cellB.cls mk = .method mk := by rw [Launch.admits_selectMethod X.admits]; exact q4
  obtain ⟨vm₁, X₁, hstep₁⟩ := X.invokevirtual hexec hown hlink hnamed hmethM hstM hkP hkPi hy (a := b) (cell := cellB) hcell
    (fun z h => by rw [h] at hobj; cases hobj) hselP hmethM habM hkP hkPi (g := g) hg (argsL := argsL) (rest := rest) (hlen _ hsigM) hstack hdg
  rcases hK m meth c ⟨T.setVm vm₁, locs, cells, slots⟩ { g with stack := rest } (.invokevirtual index) mk (Value.ref b :: argsL).toArray X₁ hg hsize hdg hW (X₁.named hnamed) (hpre vm₁ X₁.warmed) with ⟨v, B, X', hpost, hsteps⟩ | ⟨q, B, X', hpost, hsteps⟩
  · exact Or.inl ⟨v, vm₁, B, X₁.warmed, X', hpost, fun target h => hstep₁ _ fun acts => by rw [doInvoke_state]; exact hsteps.trans h⟩
  · exact Or.inr ⟨q, vm₁, B, X₁.warmed, X', hpost, hstep₁ _ fun acts => by rw [doInvoke_state]; exact hsteps⟩
theorem vx_callS (X : Stand p l e R s m args below meth c T locs cells slots) (hexec : p.tables.exec = Jvm.exec) {own : String} {index : Nat} {y : MethodName} {bytes : ByteArray} {maxL : Nat} {ret : Option FieldType}
    (hown : s.vm.findClass own = some m.cls) (hlink : (Cond.methodLink own index y).before args s = true) (hstat : (Cond.static y).before args s = true) (hinit : (Cond.initialized y.cls).before args s = true)
    (hcode : (Cond.code y bytes maxL ret).before args s = true) (hy : y.cls ≠ "java/lang/invoke/MethodHandle" ∧ y.cls ≠ "java/lang/invoke/VarHandle")
    {W9 : Nat} {Pre : Pt → Array Value → Prop} {Post : Pt → Array Value → Option Value → Pt → Prop} {PostX : Pt → Array Value → Addr → Pt → Prop} (hK : vx_Back l R p e below s args y 3 W9 Pre Post PostX)
    {g : JFrame} (hg : g.method = m) (hsize : g.locals.size = c.maxLocals) {argsL rest : List Value} (hlen : ∀ sig, parseMethodDescriptor y.desc = some sig → argsL.length = sig.parameters.length)
    (hstack : g.stack = argsL.reverse ++ rest) (hW : 2 * g.monitorRoom + (rest.map fun v => v.category).sum ≤ W9) (hdg : decode c.code g.pc = .ok (.invokestatic index, 3))
    (hpre : ∀ vm₁, s.WarmedH vm₁ → Pre ⟨T.setVm vm₁, locs, cells, slots⟩ argsL.toArray) :
    (∃ (v : Option Value) (vm₁ : Vm) (B : Pt), s.WarmedH vm₁ ∧ Stand p l e R s m args below meth c B.U B.locs B.cells B.slots ∧ Post ⟨T.setVm vm₁, locs, cells, slots⟩ argsL.toArray v B ∧
      ∀ target, Steps p.tables e below (B.U.setTop { g with pc := g.pc + 3, stack := v.toList ++ rest }) target → Steps p.tables e below (T.setTop g) target) ∨
    (∃ (q : Addr) (vm₁ : Vm) (B : Pt), s.WarmedH vm₁ ∧ Stand p l e R s m args below meth c B.U B.locs B.cells B.slots ∧ PostX ⟨T.setVm vm₁, locs, cells, slots⟩ argsL.toArray q B ∧
      Steps p.tables e below (T.setTop g) ((B.U.setTop { g with stack := rest }).pushFrame (.throwing q))) := by
  obtain ⟨mk, hnamed⟩ := Cond.code_named hcode
  obtain ⟨methM, cM, hmethM, -, -, -, -, -, -, hsigM⟩ := Cond.code_spec hnamed hcode
  have hstatic : methM.isStatic = true := Cond.static_spec hnamed hmethM hstat
  obtain ⟨kP, hkP, -⟩ := className_of_methodNamed hnamed
  have hinitP : kP.init = .initialized := Cond.initialized_spec (findClass_of_methodNamed hnamed) hkP hinit
  obtain ⟨vm₁, X₁, hstep₁⟩ := X.invokestatic hexec hown hlink hnamed hmethM hstatic hkP hinitP hy (g := g) hg (argsL := argsL) (rest := rest) (hlen _ hsigM) hstack hdg
  rcases hK m meth c ⟨T.setVm vm₁, locs, cells, slots⟩ { g with stack := rest } (.invokestatic index) mk argsL.toArray X₁ hg hsize hdg hW (X₁.named hnamed) (hpre vm₁ X₁.warmed) with ⟨v, B, X', hpost, hsteps⟩ | ⟨q, B, X', hpost, hsteps⟩
  · exact Or.inl ⟨v, vm₁, B, X₁.warmed, X', hpost, fun target h => hstep₁ _ fun acts => by rw [doInvoke_state]; exact hsteps.trans h⟩
  · exact Or.inr ⟨q, vm₁, B, X₁.warmed, X', hpost, hstep₁ _ fun acts => by rw [doInvoke_state]; exact hsteps⟩
end Calls
theorem vx_cls {s : State} {T : State} {vm₁ : Vm} {E : String} {k : ClassId} (hW : s.WarmedH vm₁) (h : (T.setVm vm₁).vm.findClass E = some k) : s.vm.findClass E = some k := by
  have h1 : vm₁.findClass E = some k := h
  rw [hW.alike.findClass] at h1
  exact h1
/-- the method's frame g, with q thrown over it -/
def vx_W (p : Program) (l : Launch) (e : Env) (R : Room) (s : State) (m : MethodId) (args : Array Value) (below : List Frame) (meth : Method) (c : Code) (H : Heap) (locs : List Loc) (cells slots : Nat) (Q : State → Prop) (g : JFrame) (q : Addr) : Prop :=
  ∀ T : State, T.heap = H → Stand p l e R s m args below meth c T locs cells slots → ∃ t, Steps p.tables e below ((T.setTop g).pushFrame (.throwing q)) t ∧ Q t
def vx_Run (p : Program) (l : Launch) (e : Env) (R : Room) (s : State) (m : MethodId) (args : Array Value) (below : List Frame) (meth : Method) (c : Code) (H : Heap) (locs : List Loc) (cells slots mc ms : Nat) (g : JFrame) (rest : List Value) (Qa : State → Outcome → State → Prop) (XC : String → State → State → Prop) (free : Addr → Prop) : Prop :=
  ∀ T : State, T.heap = H → Stand p l e R s m args below meth c T locs cells slots →
    (∃ (v : Option Value) (st₀ t T' : State) (L : List Loc), st₀.heap = H ∧ Stand p l e R s m args below meth c T' (locs ++ L) (cells + mc) (slots + ms) ∧ (∀ q ∈ L, free q.base) ∧ T'.heap = t.heap ∧ T'.vm = t.vm ∧ Qa st₀ (.returned v) t ∧
      Goes p e below T g T' { g with pc := g.pc + 3, stack := v.toList ++ rest }) ∨
    (∃ (q : Addr) (st₀ t T' : State) (L : List Loc) (E : String) (ce : Cell), st₀.heap = H ∧ Stand p l e R s m args below meth c T' (locs ++ L) (cells + mc) (slots + ms) ∧ (∀ z ∈ L, free z.base) ∧ T'.heap = t.heap ∧ T'.vm = t.vm ∧ XC E st₀ t ∧ t.heap[q]? = some ce ∧ ce.vm = .none ∧ s.vm.findClass E = some ce.cls ∧
      Steps p.tables e below (T.setTop g) ((T'.setTop { g with stack := rest }).pushFrame (.throwing q)))
def vx_X {S : Type} (px : S → Prop) (B : String → S → State → Prop) (A : Nat → Prop) : String → State → State → Prop := fun E st t => ∃ u : S, px u ∧ B E u t ∧ va_F A st t
section Runs
variable {p : Program} {l : Launch} {e : Env} {R : Room} {s : State} {m : MethodId} {args : Array Value} {below : List Frame} {meth : Method} {c : Code} {H : Heap} {locs : List Loc} {cells slots : Nat}
variable {y : MethodName} {bytes cc : ByteArray} {maxL nL mc ms n index : Nat} {ret : Option FieldType} {ws : List Cond} {rm : Room} {Pc : Array Value → State → Prop} {Qc : Array Value → State → Outcome → State → Prop} {XC : String → State → State → Prop} {free : Addr → Prop} {Ts : List Cond} {own C : String} {b : Addr} {As rest : List Value} {g : JFrame}
theorem vx_callBack (cb : CallB R s args own index y bytes maxL ret ws rm mc ms n) (hM : vx_Met l y ws rm Pc Qc XC mc ms free) (hbl : FrameBlind Pc) : vx_Back l R p e below s args y 3 8 (PreOf R mc ms Pc) (PostOf Qc mc ms free) (vx_Post XC mc ms free) := by
  obtain ⟨hrc, hrs, hfr, hlo, hws, hcw, -, hini, -⟩ := cb
  exact vx_back (bytes := bytes) (maxL := maxL) (ret := ret) hM hbl hrc hrs hfr hlo hws hcw (fun a' U hW => word_at hW (Or.inl (by first | rfl | simp [Cond.onTables, Cond.keeps, Cond.steady])) hini)
theorem vx_runV (S : CallFix p m c cc nL s args Ts own) (hM : vx_Met l y ws rm Pc Qc XC mc ms free) (cw : CallW R s args own C index y bytes maxL ret ws rm mc ms n) (hp : PreV s H C b Pc As)
    (hg : g.method = m) (hn : As.length = n) (hsize : g.locals.size = nL) (hstack : g.stack = As.reverse ++ .ref b :: rest) (hW : 2 * g.monitorRoom + (rest.map fun v => v.category).sum ≤ 8) (hdg : decode cc g.pc = .ok (.invokevirtual index, 3)) (hf : cells + mc ≤ R.cells ∧ slots + ms ≤ R.slots) :
    vx_Run p l e R s m args below meth c H locs cells slots mc ms g rest (Qc (Value.ref b :: As).toArray) XC free := by
  have hK : vx_Back l R p e below s args y 3 8 (PreOf R mc ms Pc) (PostOf Qc mc ms free) (vx_Post XC mc ms free) := vx_callBack cw.1 hM hp.1
  obtain ⟨⟨-, -, -, -, -, -, hcode, -, hy, hlen, hl⟩, hin, hse⟩ := cw
  obtain ⟨hx, hb, hml, ho, -⟩ := S
  obtain ⟨-, ⟨cellB, hcB, hoB, hclB⟩, hPc⟩ := hp
  intro T hT X
  rcases vx_callV X hx (C := C) (bytes := bytes) (maxL := maxL) (ret := ret) ho hl hin hse hcode hy hK (by rw [hT]; exact hcB) hoB hclB hg (hsize.trans hml.symm) (argsL := As) (rest := rest) (fun sig h => hn.trans (hlen sig h)) hstack hW (by rw [hb]; exact hdg)
    (fun vm₁ hW₁ => ⟨hf.1, hf.2, hPc (T.setVm vm₁) hT hW₁⟩) with ⟨v, vm₁, ⟨U', l2, c2, s2⟩, hW₁, X', ⟨g', mk, t, L, e1, e2, hq, h1, hL, h2, h3⟩, st⟩ | ⟨q, vm₁, ⟨U', l2, c2, s2⟩, hW₁, X', ⟨g', mk, t, L, E, ce, e1, e2, hq, hce, hcv, hcl, h1, hL, h2, h3⟩, st⟩
  · dsimp only [Pt.U, Pt.locs, Pt.cells, Pt.slots] at X' e1 e2 h1 h2 h3 st
    subst h1; subst h2; subst h3
    exact Or.inl ⟨v, (T.setVm vm₁).calling g' mk (Value.ref b :: As).toArray, t, U', L, hT, X', hL, e1, e2, hq, st⟩
  · dsimp only [Pt.U, Pt.locs, Pt.cells, Pt.slots] at X' e1 e2 h1 h2 h3 st hcl
    subst h1; subst h2; subst h3
    exact Or.inr ⟨q, (T.setVm vm₁).calling g' mk (Value.ref b :: As).toArray, t, U', L, E, ce, hT, X', hL, e1, e2, hq, hce, hcv, vx_cls hW₁ hcl, st⟩
theorem vx_runS (S : CallFix p m c cc nL s args Ts own) (hM : vx_Met l y ws rm Pc Qc XC mc ms free) (cw : CallB R s args own index y bytes maxL ret ws rm mc ms n ∧ (Cond.static y).before args s = true) (hp : PreS s H Pc As)
    (hg : g.method = m) (hn : As.length = n) (hsize : g.locals.size = nL) (hstack : g.stack = As.reverse ++ rest) (hW : 2 * g.monitorRoom + (rest.map fun v => v.category).sum ≤ 8) (hdg : decode cc g.pc = .ok (.invokestatic index, 3)) (hf : cells + mc ≤ R.cells ∧ slots + ms ≤ R.slots) :
    vx_Run p l e R s m args below meth c H locs cells slots mc ms g rest (Qc As.toArray) XC free := by
  have hK : vx_Back l R p e below s args y 3 8 (PreOf R mc ms Pc) (PostOf Qc mc ms free) (vx_Post XC mc ms free) := vx_callBack cw.1 hM hp.1
  obtain ⟨⟨-, -, -, -, -, -, hcode, hini, hy, hlen, hl⟩, hstt⟩ := cw
  obtain ⟨hx, hb, hml, ho, -⟩ := S
  intro T hT X
  rcases vx_callS X hx (bytes := bytes) (maxL := maxL) (ret := ret) ho hl hstt hini hcode hy hK hg (hsize.trans hml.symm) (argsL := As) (rest := rest) (fun sig h => hn.trans (hlen sig h)) hstack hW (by rw [hb]; exact hdg)
    (fun vm₁ hW₁ => ⟨hf.1, hf.2, hp.2 (T.setVm vm₁) hT hW₁⟩) with ⟨v, vm₁, ⟨U', l2, c2, s2⟩, hW₁, X', ⟨g', mk, t, L, e1, e2, hq, h1, hL, h2, h3⟩, st⟩ | ⟨q, vm₁, ⟨U', l2, c2, s2⟩, hW₁, X', ⟨g', mk, t, L, E, ce, e1, e2, hq, hce, hcv, hcl, h1, hL, h2, h3⟩, st⟩
  · dsimp only [Pt.U, Pt.locs, Pt.cells, Pt.slots] at X' e1 e2 h1 h2 h3 st
    subst h1; subst h2; subst h3
    exact Or.inl ⟨v, (T.setVm vm₁).calling g' mk As.toArray, t, U', L, hT, X', hL, e1, e2, hq, st⟩
  · dsimp only [Pt.U, Pt.locs, Pt.cells, Pt.slots] at X' e1 e2 h1 h2 h3 st hcl
    subst h1; subst h2; subst h3
    exact Or.inr ⟨q, (T.setVm vm₁).calling g' mk As.toArray, t, U', L, E, ce, hT, X', hL, e1, e2, hq, hce, hcv, vx_cls hW₁ hcl, st⟩
end Runs
section Rows
variable {p : Program} {l : Launch} {e : Env} {R : Room} {s : State} {m : MethodId} {args : Array Value} {below : List Frame} {meth : Method} {c : Code} {H : Heap} {locs : List Loc} {cells slots : Nat} {Q : State → Prop}
variable {mc ms : Nat} {free : Addr → Prop} {A0 A1 : Nat → Prop} {H0 : Heap} {a : Array Value} {pc : Nat} {ls : Array Slot} {st0 rest : List Value}
theorem vx_keep {st₀ t T' : State} {L : List Loc} (h0 : st₀.heap = H) (e1 : T'.heap = t.heap) (hS : va_S A0 H0 H locs) (hA : ∀ q, q < H.size → A1 q → A0 q) (hf : ∀ q, free q → A0 q) (hL : ∀ q ∈ L, free q.base) (hF : va_F A1 st₀ t) :
    H.size ≤ T'.heap.size ∧ (∀ q : Nat, q < H.size → ¬ A1 q → T'.heap[q]? = H[q]?) ∧ va_S A0 H0 T'.heap (locs ++ L) := by
  obtain ⟨hz, hk⟩ := hF
  rw [h0] at hz hk
  exact ⟨by rw [e1]; exact hz, fun q h1 h2 => by rw [e1]; exact hk q h1 h2,
    ⟨Nat.le_trans hS.1 (by rw [e1]; exact hz), fun q h1 h2 => by rw [e1, hk q (Nat.lt_of_lt_of_le h1 hS.1) (fun z => h2 (hA q (Nat.lt_of_lt_of_le h1 hS.1) z))]; exact hS.2.1 q h1 h2, fun q hq => by
      rcases List.mem_append.mp hq with h | h
      · exact hS.2.2 q h
      · exact hf _ (hL q h)⟩⟩
theorem vx_calli {S SX : Type} {post : Int32 → S → Prop} {px : SX → Prop} {B : S → State → Prop} {BX : String → SX → State → Prop} {AX : Nat → Prop} (hr : vx_Run p l e R s m args below meth c H locs cells slots mc ms (F0 m pc ls st0) rest (va_Qi post B A1 a) (vx_X px BX AX) free) (hS : va_S A0 H0 H locs) (hA : ∀ q, q < H.size → A1 q → A0 q) (hf : ∀ q, free q → A0 q) (hAX : ∀ q, q < H.size → AX q → A0 q)
    (kx : ∀ (E : String) (ce : Cell) (q9 : Addr) (u : SX) (t : State) (H1 : Heap) (locs1 : List Loc), t.heap = H1 → s.vm.Alike t.vm → px u → BX E u t → H.size ≤ H1.size → (∀ q : Nat, q < H.size → ¬ AX q → H1[q]? = H[q]?) → va_S A0 H0 H1 locs1 → H1[q9]? = some ce → ce.vm = .none → s.vm.findClass E = some ce.cls → vx_W p l e R s m args below meth c H1 locs1 (cells + mc) (slots + ms) Q (F0 m pc ls rest) q9)
    (kk : ∀ (r : Int32) (u : S) (t : State) (H1 : Heap) (locs1 : List Loc), t.heap = H1 → s.vm.Alike t.vm → post r u → B u t → H.size ≤ H1.size → (∀ q : Nat, q < H.size → ¬ A1 q → H1[q]? = H[q]?) → va_S A0 H0 H1 locs1 → W p l e R s m args below meth c H1 locs1 (cells + mc) (slots + ms) Q (F0 m (pc + 3) ls (.int r :: rest))) : W p l e R s m args below meth c H locs cells slots Q (F0 m pc ls st0) := by
  intro T hT X
  rcases hr T hT X with ⟨v, st₀, t, T', L, h0, X', hL, e1, e2, ⟨⟨r, u, hv, hp, hb⟩, hF⟩, st⟩ | ⟨q, st₀, t, T', L, E, ce, h0, X', hL, e1, e2, ⟨u, hp, hb, hF⟩, hce, hcv, hcl, st⟩
  · cases hv
    obtain ⟨k1, k2, k3⟩ := vx_keep h0 e1 hS hA hf hL hF
    obtain ⟨t2, a1, b1⟩ := kk r u t T'.heap (locs ++ L) e1.symm (by rw [← e2]; exact X'.warmed.alike) hp hb k1 k2 k3 T' rfl X'
    exact ⟨t2, st t2 a1, b1⟩
  · obtain ⟨k1, k2, k3⟩ := vx_keep h0 e1 hS hAX hf hL hF
    obtain ⟨t2, a1, b1⟩ := kx E ce q u t T'.heap (locs ++ L) e1.symm (by rw [← e2]; exact X'.warmed.alike) hp hb k1 k2 k3 (by rw [e1]; exact hce) hcv hcl T' rfl X'
    exact ⟨t2, st.trans a1, b1⟩
theorem vx_calll {S SX : Type} {post : Int64 → S → Prop} {px : SX → Prop} {B : S → State → Prop} {BX : String → SX → State → Prop} {AX : Nat → Prop} (hr : vx_Run p l e R s m args below meth c H locs cells slots mc ms (F0 m pc ls st0) rest (va_Ql post B A1 a) (vx_X px BX AX) free) (hS : va_S A0 H0 H locs) (hA : ∀ q, q < H.size → A1 q → A0 q) (hf : ∀ q, free q → A0 q) (hAX : ∀ q, q < H.size → AX q → A0 q)
    (kx : ∀ (E : String) (ce : Cell) (q9 : Addr) (u : SX) (t : State) (H1 : Heap) (locs1 : List Loc), t.heap = H1 → s.vm.Alike t.vm → px u → BX E u t → H.size ≤ H1.size → (∀ q : Nat, q < H.size → ¬ AX q → H1[q]? = H[q]?) → va_S A0 H0 H1 locs1 → H1[q9]? = some ce → ce.vm = .none → s.vm.findClass E = some ce.cls → vx_W p l e R s m args below meth c H1 locs1 (cells + mc) (slots + ms) Q (F0 m pc ls rest) q9)
    (kk : ∀ (r : Int64) (u : S) (t : State) (H1 : Heap) (locs1 : List Loc), t.heap = H1 → s.vm.Alike t.vm → post r u → B u t → H.size ≤ H1.size → (∀ q : Nat, q < H.size → ¬ A1 q → H1[q]? = H[q]?) → va_S A0 H0 H1 locs1 → W p l e R s m args below meth c H1 locs1 (cells + mc) (slots + ms) Q (F0 m (pc + 3) ls (.long r :: rest))) : W p l e R s m args below meth c H locs cells slots Q (F0 m pc ls st0) := by
  intro T hT X
  rcases hr T hT X with ⟨v, st₀, t, T', L, h0, X', hL, e1, e2, ⟨⟨r, u, hv, hp, hb⟩, hF⟩, st⟩ | ⟨q, st₀, t, T', L, E, ce, h0, X', hL, e1, e2, ⟨u, hp, hb, hF⟩, hce, hcv, hcl, st⟩
  · cases hv
    obtain ⟨k1, k2, k3⟩ := vx_keep h0 e1 hS hA hf hL hF
    obtain ⟨t2, a1, b1⟩ := kk r u t T'.heap (locs ++ L) e1.symm (by rw [← e2]; exact X'.warmed.alike) hp hb k1 k2 k3 T' rfl X'
    exact ⟨t2, st t2 a1, b1⟩
  · obtain ⟨k1, k2, k3⟩ := vx_keep h0 e1 hS hAX hf hL hF
    obtain ⟨t2, a1, b1⟩ := kx E ce q u t T'.heap (locs ++ L) e1.symm (by rw [← e2]; exact X'.warmed.alike) hp hb k1 k2 k3 (by rw [e1]; exact hce) hcv hcl T' rfl X'
    exact ⟨t2, st.trans a1, b1⟩
theorem vx_callf {S SX : Type} {post : UInt32 → S → Prop} {px : SX → Prop} {B : S → State → Prop} {BX : String → SX → State → Prop} {AX : Nat → Prop} (hr : vx_Run p l e R s m args below meth c H locs cells slots mc ms (F0 m pc ls st0) rest (va_Qf post B A1 a) (vx_X px BX AX) free) (hS : va_S A0 H0 H locs) (hA : ∀ q, q < H.size → A1 q → A0 q) (hf : ∀ q, free q → A0 q) (hAX : ∀ q, q < H.size → AX q → A0 q)
    (kx : ∀ (E : String) (ce : Cell) (q9 : Addr) (u : SX) (t : State) (H1 : Heap) (locs1 : List Loc), t.heap = H1 → s.vm.Alike t.vm → px u → BX E u t → H.size ≤ H1.size → (∀ q : Nat, q < H.size → ¬ AX q → H1[q]? = H[q]?) → va_S A0 H0 H1 locs1 → H1[q9]? = some ce → ce.vm = .none → s.vm.findClass E = some ce.cls → vx_W p l e R s m args below meth c H1 locs1 (cells + mc) (slots + ms) Q (F0 m pc ls rest) q9)
    (kk : ∀ (r : UInt32) (u : S) (t : State) (H1 : Heap) (locs1 : List Loc), t.heap = H1 → s.vm.Alike t.vm → post r u → B u t → H.size ≤ H1.size → (∀ q : Nat, q < H.size → ¬ A1 q → H1[q]? = H[q]?) → va_S A0 H0 H1 locs1 → W p l e R s m args below meth c H1 locs1 (cells + mc) (slots + ms) Q (F0 m (pc + 3) ls (.float r :: rest))) : W p l e R s m args below meth c H locs cells slots Q (F0 m pc ls st0) := by
  intro T hT X
  rcases hr T hT X with ⟨v, st₀, t, T', L, h0, X', hL, e1, e2, ⟨⟨r, u, hv, hp, hb⟩, hF⟩, st⟩ | ⟨q, st₀, t, T', L, E, ce, h0, X', hL, e1, e2, ⟨u, hp, hb, hF⟩, hce, hcv, hcl, st⟩
  · cases hv
    obtain ⟨k1, k2, k3⟩ := vx_keep h0 e1 hS hA hf hL hF
    obtain ⟨t2, a1, b1⟩ := kk r u t T'.heap (locs ++ L) e1.symm (by rw [← e2]; exact X'.warmed.alike) hp hb k1 k2 k3 T' rfl X'
    exact ⟨t2, st t2 a1, b1⟩
  · obtain ⟨k1, k2, k3⟩ := vx_keep h0 e1 hS hAX hf hL hF
    obtain ⟨t2, a1, b1⟩ := kx E ce q u t T'.heap (locs ++ L) e1.symm (by rw [← e2]; exact X'.warmed.alike) hp hb k1 k2 k3 (by rw [e1]; exact hce) hcv hcl T' rfl X'
    exact ⟨t2, st.trans a1, b1⟩
theorem vx_calld {S SX : Type} {post : UInt64 → S → Prop} {px : SX → Prop} {B : S → State → Prop} {BX : String → SX → State → Prop} {AX : Nat → Prop} (hr : vx_Run p l e R s m args below meth c H locs cells slots mc ms (F0 m pc ls st0) rest (va_Qd post B A1 a) (vx_X px BX AX) free) (hS : va_S A0 H0 H locs) (hA : ∀ q, q < H.size → A1 q → A0 q) (hf : ∀ q, free q → A0 q) (hAX : ∀ q, q < H.size → AX q → A0 q)
    (kx : ∀ (E : String) (ce : Cell) (q9 : Addr) (u : SX) (t : State) (H1 : Heap) (locs1 : List Loc), t.heap = H1 → s.vm.Alike t.vm → px u → BX E u t → H.size ≤ H1.size → (∀ q : Nat, q < H.size → ¬ AX q → H1[q]? = H[q]?) → va_S A0 H0 H1 locs1 → H1[q9]? = some ce → ce.vm = .none → s.vm.findClass E = some ce.cls → vx_W p l e R s m args below meth c H1 locs1 (cells + mc) (slots + ms) Q (F0 m pc ls rest) q9)
    (kk : ∀ (r : UInt64) (u : S) (t : State) (H1 : Heap) (locs1 : List Loc), t.heap = H1 → s.vm.Alike t.vm → post r u → B u t → H.size ≤ H1.size → (∀ q : Nat, q < H.size → ¬ A1 q → H1[q]? = H[q]?) → va_S A0 H0 H1 locs1 → W p l e R s m args below meth c H1 locs1 (cells + mc) (slots + ms) Q (F0 m (pc + 3) ls (.double r :: rest))) : W p l e R s m args below meth c H locs cells slots Q (F0 m pc ls st0) := by
  intro T hT X
  rcases hr T hT X with ⟨v, st₀, t, T', L, h0, X', hL, e1, e2, ⟨⟨r, u, hv, hp, hb⟩, hF⟩, st⟩ | ⟨q, st₀, t, T', L, E, ce, h0, X', hL, e1, e2, ⟨u, hp, hb, hF⟩, hce, hcv, hcl, st⟩
  · cases hv
    obtain ⟨k1, k2, k3⟩ := vx_keep h0 e1 hS hA hf hL hF
    obtain ⟨t2, a1, b1⟩ := kk r u t T'.heap (locs ++ L) e1.symm (by rw [← e2]; exact X'.warmed.alike) hp hb k1 k2 k3 T' rfl X'
    exact ⟨t2, st t2 a1, b1⟩
  · obtain ⟨k1, k2, k3⟩ := vx_keep h0 e1 hS hAX hf hL hF
    obtain ⟨t2, a1, b1⟩ := kx E ce q u t T'.heap (locs ++ L) e1.symm (by rw [← e2]; exact X'.warmed.alike) hp hb k1 k2 k3 (by rw [e1]; exact hce) hcv hcl T' rfl X'
    exact ⟨t2, st.trans a1, b1⟩
theorem vx_callv {S SX : Type} {post : S → Prop} {px : SX → Prop} {B : S → State → Prop} {BX : String → SX → State → Prop} {AX : Nat → Prop} (hr : vx_Run p l e R s m args below meth c H locs cells slots mc ms (F0 m pc ls st0) rest (va_Qv post B A1 a) (vx_X px BX AX) free) (hS : va_S A0 H0 H locs) (hA : ∀ q, q < H.size → A1 q → A0 q) (hf : ∀ q, free q → A0 q) (hAX : ∀ q, q < H.size → AX q → A0 q)
    (kx : ∀ (E : String) (ce : Cell) (q9 : Addr) (u : SX) (t : State) (H1 : Heap) (locs1 : List Loc), t.heap = H1 → s.vm.Alike t.vm → px u → BX E u t → H.size ≤ H1.size → (∀ q : Nat, q < H.size → ¬ AX q → H1[q]? = H[q]?) → va_S A0 H0 H1 locs1 → H1[q9]? = some ce → ce.vm = .none → s.vm.findClass E = some ce.cls → vx_W p l e R s m args below meth c H1 locs1 (cells + mc) (slots + ms) Q (F0 m pc ls rest) q9)
    (kk : ∀ (u : S) (t : State) (H1 : Heap) (locs1 : List Loc), t.heap = H1 → s.vm.Alike t.vm → post u → B u t → H.size ≤ H1.size → (∀ q : Nat, q < H.size → ¬ A1 q → H1[q]? = H[q]?) → va_S A0 H0 H1 locs1 → W p l e R s m args below meth c H1 locs1 (cells + mc) (slots + ms) Q (F0 m (pc + 3) ls (rest))) : W p l e R s m args below meth c H locs cells slots Q (F0 m pc ls st0) := by
  intro T hT X
  rcases hr T hT X with ⟨v, st₀, t, T', L, h0, X', hL, e1, e2, ⟨⟨u, hv, hp, hb⟩, hF⟩, st⟩ | ⟨q, st₀, t, T', L, E, ce, h0, X', hL, e1, e2, ⟨u, hp, hb, hF⟩, hce, hcv, hcl, st⟩
  · cases hv
    obtain ⟨k1, k2, k3⟩ := vx_keep h0 e1 hS hA hf hL hF
    obtain ⟨t2, a1, b1⟩ := kk u t T'.heap (locs ++ L) e1.symm (by rw [← e2]; exact X'.warmed.alike) hp hb k1 k2 k3 T' rfl X'
    exact ⟨t2, st t2 a1, b1⟩
  · obtain ⟨k1, k2, k3⟩ := vx_keep h0 e1 hS hAX hf hL hF
    obtain ⟨t2, a1, b1⟩ := kx E ce q u t T'.heap (locs ++ L) e1.symm (by rw [← e2]; exact X'.warmed.alike) hp hb k1 k2 k3 (by rw [e1]; exact hce) hcv hcl T' rfl X'
    exact ⟨t2, st.trans a1, b1⟩
/-- caught by the row x of this method's table; the rows ahead don't take it -/
theorem vx_catch {own name : String} {E : String} {ce : Cell} {q : Addr} (hown : s.vm.findClass own = some m.cls) (pre : List ExceptionTableEntry) (x : ExceptionTableEntry) (suf : List ExceptionTableEntry) (hsplit : c.exceptionTable.toList = pre ++ x :: suf)
    (hpass : ∀ z ∈ pre, covers z pc = false ∨ (z.catchType ≠ 0 ∧ ∃ nm : String, (Cond.classLink own z.catchType nm).before args s = true ∧ va_Nc E nm s)) (hx : covers x pc = true) (h0 : x.catchType ≠ 0)
    (hlink : (Cond.classLink own x.catchType name).before args s = true) (hcast : (Cond.castable E name).before args s = true) (hcell : H[q]? = some ce) (hv : ce.vm = .none) (hcl : s.vm.findClass E = some ce.cls)
    (kk : W p l e R s m args below meth c H locs cells slots Q (F0 m x.handlerPc ls [.ref q])) : vx_W p l e R s m args below meth c H locs cells slots Q (F0 m pc ls rest) q := by
  intro T hT X
  have hpl : e.platform.magicAccessors = ({} : Platform).magicAccessors := by rw [X.admits.platform]
  obtain ⟨c3, c4, hc3, hc4, hasg⟩ := Cond.castable_spec hcast
  cases Option.some.inj (hc3.symm.trans hcl)
  obtain ⟨c5, hc5, hcl5⟩ := Cond.classLink_spec hown hlink e.platform hpl
  cases Option.some.inj (hc4.symm.trans hc5)
  obtain ⟨vm', X', st⟩ := X.thenCaughtThrough q (g := F0 m pc ls rest) rfl (Steps.refl _) (by rw [hT]; exact hcell) (by rw [hv]; rfl) (by obtain ⟨k9, h9, -⟩ := Vm.findClass_spec hcl; exact ⟨k9, h9⟩) pre x suf hsplit
    (fun z hz => by
      rcases hpass z hz with h | ⟨hz0, nm, hl1, hn1⟩
      · exact Or.inl h
      · obtain ⟨c6, hc6, hcl6⟩ := Cond.classLink_spec hown hl1 e.platform hpl
        obtain ⟨a8, b8, h1, h2, h3⟩ := hn1
        cases Option.some.inj (h1.symm.trans hcl)
        cases Option.some.inj (h2.symm.trans hc6)
        exact Or.inr ⟨hz0, _, hcl6, h3⟩) hx (Or.inr ⟨h0, c4, hcl5, hasg⟩)
  obtain ⟨t, a1, b1⟩ := kk (T.setVm vm') hT X'
  exact ⟨t, st.trans a1, b1⟩
end Rows
section Ends
variable {p : Program} {l : Launch} {e : Env} {R : Room} {s : State} {m : MethodId} {args : Array Value} {below : List Frame} {meth : Method} {c : Code} {H : Heap} {locs : List Loc} {cells slots : Nat} {Q : State → Prop}
variable {mc ms : Nat} {free : Addr → Prop} {A0 A1 : Nat → Prop} {H0 : Heap} {a : Array Value} {ls : Array Slot} {st0 rest : List Value}
variable {Qc : Array Value → State → Outcome → State → Prop} {XC : String → State → State → Prop}
/-- what a body that may throw owes at its end -/
def vx_MQ (below : List Frame) (Qc : Array Value → State → Outcome → State → Prop) (XC : String → State → State → Prop) (a : Array Value) (s : State) (mc ms : Nat) (free : Addr → Prop) : State → Prop := fun t =>
  ∃ o, t.status = .running ∧ Ended t below o ∧ vx_Q Qc XC mc ms free a s o t
theorem vx_ret {g : JFrame} {mc ms : Nat} (k : W p l e R s m args below meth c H locs cells slots (MQ below Qc args s mc ms free) g) : W p l e R s m args below meth c H locs cells slots (vx_MQ below Qc XC args s mc ms free) g := by
  intro T hT X
  obtain ⟨t, a1, o, b1, b2, b3, b4⟩ := k T hT X
  exact ⟨t, a1, o, b1, b2, Or.inl ⟨b3, b4⟩⟩
/-- not caught here: it goes on to the caller -/
theorem vx_widen {g : JFrame} {q : Addr} {k n : Nat} (h1 : cells ≤ k) (h2 : slots ≤ n) (kk : vx_W p l e R s m args below meth c H locs k n Q g q) : vx_W p l e R s m args below meth c H locs cells slots Q g q := fun T hT X => kk T hT (stand_widen X h1 h2)
theorem vx_out {pc : Nat} {E : String} {ce : Cell} {q : Addr} {mc ms : Nat} (hout : ∀ x ∈ c.exceptionTable.toList, covers x pc = false) (hlocks : meth.locks = false) (hcell : H[q]? = some ce) (hv : ce.vm = .none) (hcl : s.vm.findClass E = some ce.cls)
    (hx : ∀ t : State, t.heap = H → s.vm.Alike t.vm → XC E s t) (hf : ∀ z ∈ locs, free z.base) (hc : cells ≤ mc) (hs : slots ≤ ms) :
    vx_W p l e R s m args below meth c H locs cells slots (vx_MQ below Qc XC args s mc ms free) (F0 m pc ls rest) q := by
  intro T hT X
  obtain ⟨st1, hrun, hend, hW, hsm⟩ := X.leaveThrown q (g := F0 m pc ls rest) rfl rfl rfl hout hlocks
  have hcell9 : (T.setFrames (.throwing q :: below)).heap[q]? = some ce := by
    show T.heap[q]? = some ce
    rw [hT]; exact hcell
  exact ⟨_, st1, .threw q, hrun, hend, Or.inr ⟨q, rfl, E, ce, locs, hx _ hT hW.alike, hcell9, hv, hcl, hW, hsm.mono hc hs, hf⟩⟩
theorem vx_frame {U : State} {k n : Nat} (h : s.sameButNew ({ U with vm := s.vm } : State) locs k n) : s.heap.size ≤ U.heap.size ∧ ∀ q : Nat, q < s.heap.size → (∀ z ∈ locs, z.base ≠ q) → U.heap[q]? = s.heap[q]? := by
  obtain ⟨-, h2, -, -, -, h6⟩ := h
  refine ⟨h2, fun q hq hz => ?_⟩
  obtain ⟨c9, e1, e2, e3, e4⟩ := h6 q _ (Array.getElem?_eq_getElem hq)
  have hs : c9.slots = (s.heap[q]).slots := Array.ext_getElem? fun i => e4 i fun hm => hz _ hm rfl
  have h9 : c9 = s.heap[q] := by
    rw [hs] at e2
    exact e2
  have e5 : U.heap[q]? = some c9 := e1
  rw [e5, h9, Array.getElem?_eq_getElem hq]
/-- the words of a throw but the four that speak of the heap -/
def vx_no (w : Cond) : Bool := decide (w ≠ .isRef (.static Bundle.tN "UNASSIGNED_STACK" Bundle.steD)) && decide (w ≠ .isRef (.static Bundle.tN "SUPPRESSED_SENTINEL" Bundle.listD)) && decide (w ≠ .laysStatic Bundle.tN "UNASSIGNED_STACK" Bundle.steD) && decide (w ≠ .laysStatic Bundle.tN "SUPPRESSED_SENTINEL" Bundle.listD)
def vx_at0 (own : String) (ic : Nat) (X : String) (names : List String) : List Cond := (Bundle.ownAtoms0 own ic X names).filter vx_no
def vx_atS (own : String) (ic : Nat) (X : String) (names : List String) : List Cond := (Bundle.ownAtoms own ic X names).filter vx_no
/-- a word that the tables alone decide, or a good one -/
def vx_ot (w : Cond) : Bool := w.onTables || goodWord w
theorem vx_ot_at {args a' : Array Value} {s U : State} {w : Cond} (hW : s.WarmedH U.vm) (hvm : s.vm = U.vm) (hg : vx_ot w = true) (h : w.before args s = true) : w.before a' U = true := by
  simp only [vx_ot, Bool.or_eq_true] at hg
  rcases hg with hg | hg
  · exact va_tabs hg hvm h
  · exact word_at hW (good_of_word hg) h
/-- a list's words: the good ones out of the method's own list, the others by premises of their own -/
theorem vx_hat {args : Array Value} {s : State} {L B : List Cond} (h1 : ∀ w ∈ L.filter goodWord, w.before args s = true) (h2 : ∀ w ∈ L.filter (fun w => !goodWord w), w ∈ B) (h3 : ∀ w ∈ B, w.before args s = true) : ∀ w ∈ L, w.before args s = true := by
  intro w hw
  by_cases g : goodWord w = true
  · exact h1 w (List.mem_filter.mpr ⟨hw, g⟩)
  · refine h3 w (h2 w (List.mem_filter.mpr ⟨hw, ?_⟩))
    show (!goodWord w) = true
    cases hgw : goodWord w
    · rfl
    · exact absurd hgw g
theorem vx_c {args : Array Value} {s : State} {w : Cond} {B : List Cond} (h : w.before args s = true) (t : ∀ w ∈ B, w.before args s = true) : ∀ w' ∈ w :: B, w'.before args s = true := fun w' h' => (List.mem_cons.mp h').elim (fun e => by rw [e]; exact h) (t w')
theorem vx_n {args : Array Value} {s : State} : ∀ w ∈ ([] : List Cond), w.before args s = true := fun _ h => nomatch h
theorem vx_own {args : Array Value} {s : State} {L : List Cond} (h1 : ∀ w ∈ L.filter vx_no, w.before args s = true)
    (hU : (Cond.isRef (.static Bundle.tN "UNASSIGNED_STACK" Bundle.steD)).before args s = true) (hN : (Cond.isRef (.static Bundle.tN "SUPPRESSED_SENTINEL" Bundle.listD)).before args s = true)
    (lU : (Cond.laysStatic Bundle.tN "UNASSIGNED_STACK" Bundle.steD).before args s = true) (lN : (Cond.laysStatic Bundle.tN "SUPPRESSED_SENTINEL" Bundle.listD).before args s = true) : ∀ w ∈ L, w.before args s = true := by
  intro w hw
  by_cases e1 : w = .isRef (.static Bundle.tN "UNASSIGNED_STACK" Bundle.steD)
  · rw [e1]; exact hU
  · by_cases e2 : w = .isRef (.static Bundle.tN "SUPPRESSED_SENTINEL" Bundle.listD)
    · rw [e2]; exact hN
    · by_cases e3 : w = .laysStatic Bundle.tN "UNASSIGNED_STACK" Bundle.steD
      · rw [e3]; exact lU
      · by_cases e4 : w = .laysStatic Bundle.tN "SUPPRESSED_SENTINEL" Bundle.listD
        · rw [e4]; exact lN
        · exact h1 w (List.mem_filter.mpr ⟨hw, by unfold vx_no; rw [decide_eq_true e1, decide_eq_true e2, decide_eq_true e3, decide_eq_true e4]; rfl⟩)
/-- where a static field lies, its class's statics cell in H -/
def vx_L (C n d : String) (A : Nat → Prop) (U : State) (H : Heap) : Prop := ∃ (c : ClassId) (k : Class) (i : Nat) (f : Field) (a : Nat) (cell : Cell), U.vm.findClass C = some c ∧ U.fieldFound? C n d = some (c, k, i, f) ∧ f.isStatic = true ∧ k.statics = some a ∧ H[a]? = some cell ∧ cell.vm.isStatics = true ∧ cell.cls = c ∧ f.slot < cell.slots.size ∧ k.staticTypes[f.slot]? = some f.type ∧ ¬ A a
theorem vx_L.moved {C n d : String} {A : Nat → Prop} {u U : State} {H : Heap} (hvm : u.vm.Alike U.vm) (h : vx_L C n d A u H) : vx_L C n d A U H := by
  obtain ⟨c, k, i, f, a, cell, h1, h2, h3, h4, h5, h6, h7, h8, h9, h10⟩ := h
  obtain ⟨k', hi', he⟩ := State.fieldFound?_setVm hvm h2
  exact ⟨c, k', i, f, a, cell, by rw [hvm.findClass]; exact h1, hi', h3, by rw [he]; exact h4, h5, h6, h7, h8, by rw [he]; exact h9, h10⟩
theorem vx_L.kept {C n d : String} {A : Nat → Prop} {U : State} {H H1 : Heap} (h : vx_L C n d A U H) (hq : ∀ a : Nat, a < H.size → ¬ A a → H1[a]? = H[a]?) : vx_L C n d A U H1 := by
  obtain ⟨c, k, i, f, a, cell, h1, h2, h3, h4, h5, h6, h7, h8, h9, h10⟩ := h
  exact ⟨c, k, i, f, a, cell, h1, h2, h3, h4, by rw [hq a (Array.getElem?_eq_some_iff.mp h5).1 h10]; exact h5, h6, h7, h8, h9, h10⟩
theorem vx_L.narrow {C n d : String} {A B : Nat → Prop} {U : State} {H : Heap} (h : vx_L C n d A U H) (hAB : ∀ q, B q → A q) : vx_L C n d B U H := by
  obtain ⟨c, k, i, f, a, cell, h1, h2, h3, h4, h5, h6, h7, h8, h9, h10⟩ := h
  exact ⟨c, k, i, f, a, cell, h1, h2, h3, h4, h5, h6, h7, h8, h9, fun z => h10 (hAB _ z)⟩
theorem vx_L.word {C n d : String} {A : Nat → Prop} {s : State} {args : Array Value} (h : vx_L C n d A s s.heap) : (Cond.laysStatic C n d).before args s = true := by
  obtain ⟨c, k, i, f, a, cell, h1, h2, h3, h4, h5, h6, h7, h8, h9, -⟩ := h
  show (Cond.laysStatic C n d).holds args s none s [] = true
  exact Cond.laysStatic_of h1 h2 h3 h4 h5 h6 h7 h8 h9
/-- .. and what it holds: null or some reference -/
def vx_Zq (C n d : String) (A : Nat → Prop) (U : State) (H : Heap) : Prop := va_Zq C n d A U H ∧ vx_L C n d A U H
theorem vx_Zq.moved {C n d : String} {A : Nat → Prop} {u U : State} {H : Heap} (hvm : u.vm.Alike U.vm) (h : vx_Zq C n d A u H) : vx_Zq C n d A U H := ⟨va_Zq.moved hvm h.1, vx_L.moved hvm h.2⟩
theorem vx_Zq.kept {C n d : String} {A : Nat → Prop} {U : State} {H H1 : Heap} (h : vx_Zq C n d A U H) (hq : ∀ a : Nat, a < H.size → ¬ A a → H1[a]? = H[a]?) : vx_Zq C n d A U H1 := ⟨va_Zq.kept h.1 hq, vx_L.kept h.2 hq⟩
theorem vx_Zq.narrow {C n d : String} {A B : Nat → Prop} {U : State} {H : Heap} (h : vx_Zq C n d A U H) (hAB : ∀ q, B q → A q) : vx_Zq C n d B U H := ⟨va_Zq.narrow h.1 hAB, vx_L.narrow h.2 hAB⟩
theorem vx_Zqof {args : Array Value} {s : State} {C n d : String} {A : Nat → Prop} (hl : (Cond.laysStatic C n d).before args s = true) (hini : (Cond.initialized C).before args s = true) (h : (Cond.isRef (.static C n d)).before args s = true) (hA : ∀ a : Nat, a < s.heap.size → ¬ A a) : vx_Zq C n d A s s.heap := by
  refine ⟨va_Zqof hl hini h hA, ?_⟩
  obtain ⟨c, k, i, f, a, cell, h1, h2, h3, h4, h5, h6, h7, h8, h9⟩ := Cond.laysStatic_spec hl
  exact ⟨c, k, i, f, a, cell, h1, h2, h3, h4, h5, h6, h7, h8, h9, hA a (Array.getElem?_eq_some_iff.mp h5).1⟩
theorem vx_isRef {C n d : String} {v : Value} {A : Nat → Prop} {s : State} {args : Array Value} (h : va_Z C n d v A s s.heap) (hv : v.isRef = true) : (Cond.isRef (.static C n d)).before args s = true := by
  obtain ⟨cf, kf, fi, f, a, cell, h1, h2, h3, h4, h5, h6, h7, -⟩ := h
  have he : (Term.static C n d).eval args s none [] s = some v := by
    simp [Term.eval, State.fieldNamed?, h1, h2, h4, h5, h6, h7]
  simp only [Cond.before, Cond.holds, Cond.value, he]
  cases v <;> simp_all [Value.isRef]
theorem vx_isRefq {C n d : String} {A : Nat → Prop} {s : State} {args : Array Value} (h : va_Zq C n d A s s.heap) : (Cond.isRef (.static C n d)).before args s = true := by
  rcases h with h | ⟨t, h⟩
  · exact vx_isRef h rfl
  · exact vx_isRef h rfl
/-- the same frame, seen from here: as if the method were called anew in this heap -/
theorem vx_rebase {T : State} (X : Stand p l e R s m args below meth c T locs cells slots) {R' : Room} (hf : R'.frames ≤ R.frames) (hl : R'.locals ≤ R.locals) (hc : cells + R'.cells ≤ R.cells) (hs : slots + R'.slots ≤ R.slots) :
    Stand p l e R' ((T.setVm s.vm).setFrames (.invoking m args :: below)) m args below meth c T [] 0 0 := by
  have htop : (T.setVm s.vm).topJava?.isSome := X.here.top
  have hF : ((T.setVm s.vm).setFrames (.invoking m args :: below)).frames = .invoking m args :: below := State.frames_setFrames _ (State.cur_lt_of_top htop)
  obtain ⟨g₀, hg0⟩ := Option.isSome_iff_exists.mp htop
  obtain ⟨r, hr⟩ := State.topJava?_eq_some.mp hg0
  have hl9 : e.platform.stackLimits (T.setVm s.vm).me = e.platform.stackLimits s.me := X.limits
  have hb9 : (T.setVm s.vm).me.stackBytes = s.me.stackBytes := X.bytes
  refine ⟨X.admits, X.cas, X.clock, hF, ?_, X.hears, X.method, X.code, X.here, X.tail, X.warmed, ?_, ?_, ?_⟩
  · have h := X.room
    have hU : ((T.setVm s.vm).setFrames (.invoking m args :: below)).localsInUse = s.localsInUse := by
      rw [State.localsInUse_invoking hF (meth := meth) (c := c) X.method X.code, State.localsInUse_invoking X.frames X.method X.code]
    simp only [State.hasRoom, Bool.and_eq_true, decide_eq_true_eq] at h ⊢
    obtain ⟨⟨⟨⟨h1, h2, h3, h4, h5, h6⟩, h7⟩, h8⟩, h9⟩ := h
    rw [X.frames, List.length_cons] at h2 h3
    have q1 := X.heapSize
    have q2 := X.used
    simp only [hF, hU, List.length_cons, State.stackLimits_setFrames, State.stackBytes_setFrames, hl9, hb9]
    refine ⟨⟨⟨⟨by omega, by omega, by omega, by omega, by omega, h6⟩, ?_⟩, ?_⟩, X.book⟩
    · show T.heap.size + R'.cells ≤ e.platform.maxCells
      omega
    · show T.slotsUsed + R'.slots ≤ e.platform.maxSlots
      omega
  · rw [State.stackLimits_setFrames]; rfl
  · rw [State.stackBytes_setFrames]; rfl
  · refine ⟨?_, Nat.le_refl _, Nat.le_refl _, ?_, ?_, fun a c9 h9 => ⟨c9, h9, rfl, rfl, fun _ _ => rfl⟩⟩
    · obtain ⟨t, ht, -⟩ := State.frames_cons hr
      show T.setVm s.vm = { ((T.setVm s.vm).setFrames (.invoking m args :: below)).setFrames (T.setVm s.vm).frames with heap := T.heap, slotsUsed := T.slotsUsed }
      rw [State.setFrames_setFrames, State.setFrames_self ht]
      rfl
    · show T.slotsUsed = T.slotsUsed + ((T.heap.toList.drop T.heap.size).map (·.slots.size)).sum
      rw [List.drop_eq_nil_of_le (Nat.le_of_eq Array.length_toList)]
      rfl
    · show ((T.heap.toList.drop T.heap.size).map (·.slots.size)).sum ≤ 0
      rw [List.drop_eq_nil_of_le (Nat.le_of_eq Array.length_toList)]
      exact Nat.le_refl _
/-- 'throw new E()': new; dup; invokespecial; athrow -/
theorem vx_throw0 {cc : ByteArray} {pc : Nat} (hexec : p.tables.exec = Jvm.exec) (hb : c.code = cc) (hl : l.stackTraces = false) {own cls : String} {names : List String} {ik ic mc ms : Nat} {A : Nat → Prop}
    (hown : s.vm.findClass own = some m.cls) (hcls : Bundle.fit cls = true) (hnames : ∀ n ∈ names, Bundle.fit n = true)
    (hk : (Cond.classLink own ik cls).before args s = true) (hini : (Cond.initialized cls).before args s = true) (hat : ∀ w ∈ vx_at0 own ic cls names, w.before args s = true)
    (hgood : ∀ w ∈ Cond.classLink own ik cls :: Cond.initialized cls :: vx_at0 own ic cls names, vx_ot w = true)
    (hU : vx_Zq Bundle.tN "UNASSIGNED_STACK" Bundle.steD A s s.heap) (hN : vx_Zq Bundle.tN "SUPPRESSED_SENTINEL" Bundle.listD A s s.heap) (hS : va_S A s.heap H locs) (hsize : ls.size = c.maxLocals)
    (d0 : decode cc pc = .ok (.new ik, 3)) (d3 : decode cc (pc + 3) = .ok (.dup, 1)) (d4 : decode cc (pc + 4) = .ok (.invokespecial ic, 3)) (d7 : decode cc (pc + 7) = .ok (.athrow, 1))
    (hout : ∀ x ∈ c.exceptionTable.toList, covers x (pc + 7) = false)
    (hRframes : names.length + 3 < R.frames) (hRlocals : (rest.map fun v => v.category).sum + (13 * (names.length + 1) + 42) ≤ R.locals) (hRcells : cells + 1 ≤ R.cells) (hRslots : slots + 6 ≤ R.slots) (hlocks : meth.locks = false)
    (hx : ∀ t : State, s.vm.Alike t.vm → H.size ≤ t.heap.size → (∀ q : Nat, q < H.size → t.heap[q]? = H[q]?) → XC cls s t)
    (hf : ∀ z ∈ locs, free z.base) (hc : cells + 1 ≤ mc) (hs : slots + 6 ≤ ms) :
    W p l e R s m args below meth c H locs cells slots (vx_MQ below Qc XC args s mc ms free) (F0 m pc ls rest) := by
  intro T hT X
  have htr : e.platform.stackTraces = false := (show e.platform.stackTraces = l.stackTraces by rw [X.admits.platform]).trans hl
  have Y := vx_rebase X (R' := { frames := R.frames, locals := R.locals, cells := 1, slots := 6 }) (Nat.le_refl _) (Nat.le_refl _) hRcells hRslots
  obtain ⟨s', hA⟩ : ∃ z, z = (T.setVm s.vm).setFrames (.invoking m args :: below) := ⟨_, rfl⟩
  rw [← hA] at Y
  have hvm : s'.vm = s.vm := by rw [hA]; rfl
  have hhp : s'.heap = H := by rw [hA]; exact hT
  have hW0 : s.WarmedH s'.vm := by rw [hvm]; exact State.WarmedH.refl s
  have hat' : ∀ w ∈ vx_at0 own ic cls names, w.before args s' = true := fun w hw => vx_ot_at hW0 hvm.symm (hgood w (List.mem_cons_of_mem _ (List.mem_cons_of_mem _ hw))) (hat w hw)
  have hk' : (Cond.classLink own ik cls).before args s' = true := vx_ot_at hW0 hvm.symm (hgood _ List.mem_cons_self) hk
  have hini' : (Cond.initialized cls).before args s' = true := vx_ot_at hW0 hvm.symm (hgood _ (List.mem_cons_of_mem _ List.mem_cons_self)) hini
  have hU' : vx_Zq Bundle.tN "UNASSIGNED_STACK" Bundle.steD A s' s'.heap := by rw [hhp]; exact vx_Zq.moved hW0.alike (hU.kept hS.2.1)
  have hN' : vx_Zq Bundle.tN "SUPPRESSED_SENTINEL" Bundle.listD A s' s'.heap := by rw [hhp]; exact vx_Zq.moved hW0.alike (hN.kept hS.2.1)
  have h : ∀ w ∈ Bundle.ownAtoms0 own ic cls names, w.before args s' = true := vx_own hat' (vx_isRefq hU'.1) (vx_isRefq hN'.1) hU'.2.word hN'.2.word
  have hown' : s'.vm.findClass own = some m.cls := by rw [hvm]; exact hown
  have hins : (Cond.instantiable cls 6).before args s' = true := h _ (by simp [Bundle.ownAtoms0])
  obtain ⟨vm₁, cX, kX, hfX, hkX, -, -, X₁, st1⟩ := Y.newCold hexec (own := own) (C := cls) (index := ik) (n := 6) hown' hk' hins hini'
    (g := F0 m pc ls rest) rfl (by rw [hb]; exact d0) (Nat.le_refl _) (Nat.le_refl _)
  generalize hT1 : (T.setVm vm₁).pushCell { cls := cX, slots := kX.instanceTypes.map defaultValue, vm := .none } = T1 at X₁ st1
  have hcat : (Value.ref T.heap.size).category = 1 := rfl
  have hcellA : T1.heap[T.heap.size]? = some (freshCell cX kX) := by rw [← hT1]; exact State.heap_pushCell_size _ _
  have d3' : decode c.code (pc + 3) = .ok (.dup, 1) := by rw [hb]; exact d3
  obtain ⟨U, hsteps, hrun, hend, hW, hsame, ce, hce, hO⟩ := X₁.ctorThrow0 hexec htr (own := own) (cls := cls) (names := names) (ic := ic) hown' hcls hnames h (fun x hx => nomatch hx) hfX hkX hcellA (by rw [hhp, hT]; exact Nat.le_refl _)
    (g := { method := m, pc := pc + 4, locals := ls, stack := .ref T.heap.size :: .ref T.heap.size :: rest, locked := none }) rfl hsize rfl rfl (rest := rest) rfl
    (by rw [hb]; exact d4) (by rw [hb]; exact d7) hout hRframes (by simp only [List.map_cons, List.sum_cons, hcat]; omega) hlocks
  obtain ⟨f1, f2⟩ := vx_frame hsame
  rw [hhp] at f1 f2
  have hWs : s.WarmedH U.vm := State.WarmedH.trans hW0 hW
  have hcl : s.vm.findClass cls = some ce.cls := by
    have h9 := hO.cls
    rw [hvm] at h9
    exact h9
  have hall : s.sameButNew ({ U with vm := s.vm } : State) locs mc ms := by
    subst hA
    obtain ⟨e1, e2⟩ := hsame
    rw [State.setFrames_setFrames] at e1
    have h2 : (T.setVm s.vm).sameButNew ({ U with vm := s.vm } : State) [] (0 + 1) (0 + 6) := ⟨e1, e2⟩
    have h3 := X.same.trans h2
    rw [List.append_nil] at h3
    exact h3.mono hc hs
  refine ⟨U, ?_, .threw T.heap.size, hrun, hend, Or.inr ⟨T.heap.size, rfl, cls, ce, locs, hx U hWs.alike f1 (fun q hq => f2 q hq (fun z hz => nomatch hz)), hce, hO.vm, hcl, hWs, hall, hf⟩⟩
  refine st1 _ ?_
  show Steps p.tables e below (T1.setTop { method := m, pc := pc + 3, locals := ls, stack := .ref T.heap.size :: rest, locked := none }) _
  jvm_step X₁.here [X₁.here.top, hexec, d3', Value.category]
  exact hsteps
/-- 'throw new E("text")': new; dup; ldc; invokespecial; athrow -/
theorem vx_throwS {cc : ByteArray} {pc : Nat} (hexec : p.tables.exec = Jvm.exec) (hb : c.code = cc) (hl : l.stackTraces = false) {own cls text : String} {names : List String} {ik is ic mc ms sa : Nat} {A : Nat → Prop}
    (hown : s.vm.findClass own = some m.cls) (hcls : Bundle.fit cls = true) (hnames : ∀ n ∈ names, Bundle.fit n = true)
    (hk : (Cond.classLink own ik cls).before args s = true) (hini : (Cond.initialized cls).before args s = true) (hstr : vk_R own is text sa s) (hat : ∀ w ∈ vx_atS own ic cls names, w.before args s = true)
    (hgood : ∀ w ∈ Cond.classLink own ik cls :: Cond.initialized cls :: vx_atS own ic cls names, vx_ot w = true)
    (hU : vx_Zq Bundle.tN "UNASSIGNED_STACK" Bundle.steD A s s.heap) (hN : vx_Zq Bundle.tN "SUPPRESSED_SENTINEL" Bundle.listD A s s.heap) (hS : va_S A s.heap H locs) (hsize : ls.size = c.maxLocals)
    (d0 : decode cc pc = .ok (.new ik, 3)) (d3 : decode cc (pc + 3) = .ok (.dup, 1)) (d4 : decode cc (pc + 4) = .ok (.ldc is, 2)) (d6 : decode cc (pc + 6) = .ok (.invokespecial ic, 3)) (d9 : decode cc (pc + 9) = .ok (.athrow, 1))
    (hout : ∀ x ∈ c.exceptionTable.toList, covers x (pc + 9) = false)
    (hRframes : names.length + 3 < R.frames) (hRlocals : (rest.map fun v => v.category).sum + (13 * (names.length + 1) + 43) ≤ R.locals) (hRcells : cells + 1 ≤ R.cells) (hRslots : slots + 6 ≤ R.slots) (hlocks : meth.locks = false)
    (hx : ∀ t : State, s.vm.Alike t.vm → H.size ≤ t.heap.size → (∀ q : Nat, q < H.size → t.heap[q]? = H[q]?) → XC cls s t)
    (hf : ∀ z ∈ locs, free z.base) (hc : cells + 1 ≤ mc) (hs : slots + 6 ≤ ms) :
    W p l e R s m args below meth c H locs cells slots (vx_MQ below Qc XC args s mc ms free) (F0 m pc ls rest) := by
  intro T hT X
  have htr : e.platform.stackTraces = false := (show e.platform.stackTraces = l.stackTraces by rw [X.admits.platform]).trans hl
  have Y := vx_rebase X (R' := { frames := R.frames, locals := R.locals, cells := 1, slots := 6 }) (Nat.le_refl _) (Nat.le_refl _) hRcells hRslots
  obtain ⟨s', hA⟩ : ∃ z, z = (T.setVm s.vm).setFrames (.invoking m args :: below) := ⟨_, rfl⟩
  rw [← hA] at Y
  have hvm : s'.vm = s.vm := by rw [hA]; rfl
  have hhp : s'.heap = H := by rw [hA]; exact hT
  have hW0 : s.WarmedH s'.vm := by rw [hvm]; exact State.WarmedH.refl s
  have hat' : ∀ w ∈ vx_atS own ic cls names, w.before args s' = true := fun w hw => vx_ot_at hW0 hvm.symm (hgood w (List.mem_cons_of_mem _ (List.mem_cons_of_mem _ hw))) (hat w hw)
  have hk' : (Cond.classLink own ik cls).before args s' = true := vx_ot_at hW0 hvm.symm (hgood _ List.mem_cons_self) hk
  have hini' : (Cond.initialized cls).before args s' = true := vx_ot_at hW0 hvm.symm (hgood _ (List.mem_cons_of_mem _ List.mem_cons_self)) hini
  have hU' : vx_Zq Bundle.tN "UNASSIGNED_STACK" Bundle.steD A s' s'.heap := by rw [hhp]; exact vx_Zq.moved hW0.alike (hU.kept hS.2.1)
  have hN' : vx_Zq Bundle.tN "SUPPRESSED_SENTINEL" Bundle.listD A s' s'.heap := by rw [hhp]; exact vx_Zq.moved hW0.alike (hN.kept hS.2.1)
  have h : ∀ w ∈ Bundle.ownAtoms own ic cls names, w.before args s' = true := vx_own hat' (vx_isRefq hU'.1) (vx_isRefq hN'.1) hU'.2.word hN'.2.word
  have hown' : s'.vm.findClass own = some m.cls := by rw [hvm]; exact hown
  have hins : (Cond.instantiable cls 6).before args s' = true := h _ (by simp [Bundle.ownAtoms])
  obtain ⟨vm₁, cX, kX, hfX, hkX, -, -, X₁, st1⟩ := Y.newCold hexec (own := own) (C := cls) (index := ik) (n := 6) hown' hk' hins hini'
    (g := F0 m pc ls rest) rfl (by rw [hb]; exact d0) (Nat.le_refl _) (Nat.le_refl _)
  generalize hT1 : (T.setVm vm₁).pushCell { cls := cX, slots := kX.instanceTypes.map defaultValue, vm := .none } = T1 at X₁ st1
  have hcat : (Value.ref T.heap.size).category = 1 := rfl
  have hcellA : T1.heap[T.heap.size]? = some (freshCell cX kX) := by rw [← hT1]; exact State.heap_pushCell_size _ _
  have d3' : decode c.code (pc + 3) = .ok (.dup, 1) := by rw [hb]; exact d3
  have d4' : decode c.code (pc + 4) = .ok (.ldc is, 2) := by rw [hb]; exact d4
  have hstr' : vk_R own is text sa s' := vk_R.warm hW0 hstr
  obtain ⟨U, hsteps, hrun, hend, hW, hsame, ce, hce, hO⟩ := X₁.ctorThrowS hexec htr (own := own) (cls := cls) (names := names) (ic := ic) hown' hcls hnames h (fun x hx => nomatch hx) hfX hkX hcellA (by rw [hhp, hT]; exact Nat.le_refl _) (msg := .ref sa) rfl
    (g := { method := m, pc := pc + 6, locals := ls, stack := .ref sa :: .ref T.heap.size :: .ref T.heap.size :: rest, locked := none }) rfl hsize rfl rfl (rest := rest) rfl
    (by rw [hb]; exact d6) (by rw [hb]; exact d9) hout hRframes (by simp only [List.map_cons, List.sum_cons, hcat]; omega) hlocks
  obtain ⟨f1, f2⟩ := vx_frame hsame
  rw [hhp] at f1 f2
  have hWs : s.WarmedH U.vm := State.WarmedH.trans hW0 hW
  have hcl : s.vm.findClass cls = some ce.cls := by
    have h9 := hO.cls
    rw [hvm] at h9
    exact h9
  have hall : s.sameButNew ({ U with vm := s.vm } : State) locs mc ms := by
    subst hA
    obtain ⟨e1, e2⟩ := hsame
    rw [State.setFrames_setFrames] at e1
    have h2 : (T.setVm s.vm).sameButNew ({ U with vm := s.vm } : State) [] (0 + 1) (0 + 6) := ⟨e1, e2⟩
    have h3 := X.same.trans h2
    rw [List.append_nil] at h3
    exact h3.mono hc hs
  refine ⟨U, ?_, .threw T.heap.size, hrun, hend, Or.inr ⟨T.heap.size, rfl, cls, ce, locs, hx U hWs.alike f1 (fun q hq => f2 q hq (fun z hz => nomatch hz)), hce, hO.vm, hcl, hWs, hall, hf⟩⟩
  refine st1 _ ?_
  show Steps p.tables e below (T1.setTop { method := m, pc := pc + 3, locals := ls, stack := .ref T.heap.size :: rest, locked := none }) _
  jvm_step X₁.here [X₁.here.top, hexec, d3', Value.category]
  exact X₁.ldcString hexec (own := own) (text := text) (index := is) (a := sa) hown' hstr'.1 hstr'.2
    (g := { method := m, pc := pc + 4, locals := ls, stack := .ref T.heap.size :: .ref T.heap.size :: rest, locked := none }) rfl d4' _ hsteps
/-- 'throw new E("text")', the text by a wide index -/
theorem vx_throwSW {cc : ByteArray} {pc : Nat} (hexec : p.tables.exec = Jvm.exec) (hb : c.code = cc) (hl : l.stackTraces = false) {own cls text : String} {names : List String} {ik is ic mc ms sa : Nat} {A : Nat → Prop}
    (hown : s.vm.findClass own = some m.cls) (hcls : Bundle.fit cls = true) (hnames : ∀ n ∈ names, Bundle.fit n = true)
    (hk : (Cond.classLink own ik cls).before args s = true) (hini : (Cond.initialized cls).before args s = true) (hstr : vk_R own is text sa s) (hat : ∀ w ∈ vx_atS own ic cls names, w.before args s = true)
    (hgood : ∀ w ∈ Cond.classLink own ik cls :: Cond.initialized cls :: vx_atS own ic cls names, vx_ot w = true)
    (hU : vx_Zq Bundle.tN "UNASSIGNED_STACK" Bundle.steD A s s.heap) (hN : vx_Zq Bundle.tN "SUPPRESSED_SENTINEL" Bundle.listD A s s.heap) (hS : va_S A s.heap H locs) (hsize : ls.size = c.maxLocals)
    (d0 : decode cc pc = .ok (.new ik, 3)) (d3 : decode cc (pc + 3) = .ok (.dup, 1)) (d4 : decode cc (pc + 4) = .ok (.ldc_w is, 3)) (d7 : decode cc (pc + 7) = .ok (.invokespecial ic, 3)) (d10 : decode cc (pc + 10) = .ok (.athrow, 1))
    (hout : ∀ x ∈ c.exceptionTable.toList, covers x (pc + 10) = false)
    (hRframes : names.length + 3 < R.frames) (hRlocals : (rest.map fun v => v.category).sum + (13 * (names.length + 1) + 43) ≤ R.locals) (hRcells : cells + 1 ≤ R.cells) (hRslots : slots + 6 ≤ R.slots) (hlocks : meth.locks = false)
    (hx : ∀ t : State, s.vm.Alike t.vm → H.size ≤ t.heap.size → (∀ q : Nat, q < H.size → t.heap[q]? = H[q]?) → XC cls s t)
    (hf : ∀ z ∈ locs, free z.base) (hc : cells + 1 ≤ mc) (hs : slots + 6 ≤ ms) :
    W p l e R s m args below meth c H locs cells slots (vx_MQ below Qc XC args s mc ms free) (F0 m pc ls rest) := by
  intro T hT X
  have htr : e.platform.stackTraces = false := (show e.platform.stackTraces = l.stackTraces by rw [X.admits.platform]).trans hl
  have Y := vx_rebase X (R' := { frames := R.frames, locals := R.locals, cells := 1, slots := 6 }) (Nat.le_refl _) (Nat.le_refl _) hRcells hRslots
  obtain ⟨s', hA⟩ : ∃ z, z = (T.setVm s.vm).setFrames (.invoking m args :: below) := ⟨_, rfl⟩
  rw [← hA] at Y
  have hvm : s'.vm = s.vm := by rw [hA]; rfl
  have hhp : s'.heap = H := by rw [hA]; exact hT
  have hW0 : s.WarmedH s'.vm := by rw [hvm]; exact State.WarmedH.refl s
  have hat' : ∀ w ∈ vx_atS own ic cls names, w.before args s' = true := fun w hw => vx_ot_at hW0 hvm.symm (hgood w (List.mem_cons_of_mem _ (List.mem_cons_of_mem _ hw))) (hat w hw)
  have hk' : (Cond.classLink own ik cls).before args s' = true := vx_ot_at hW0 hvm.symm (hgood _ List.mem_cons_self) hk
  have hini' : (Cond.initialized cls).before args s' = true := vx_ot_at hW0 hvm.symm (hgood _ (List.mem_cons_of_mem _ List.mem_cons_self)) hini
  have hU' : vx_Zq Bundle.tN "UNASSIGNED_STACK" Bundle.steD A s' s'.heap := by rw [hhp]; exact vx_Zq.moved hW0.alike (hU.kept hS.2.1)
  have hN' : vx_Zq Bundle.tN "SUPPRESSED_SENTINEL" Bundle.listD A s' s'.heap := by rw [hhp]; exact vx_Zq.moved hW0.alike (hN.kept hS.2.1)
  have h : ∀ w ∈ Bundle.ownAtoms own ic cls names, w.before args s' = true := vx_own hat' (vx_isRefq hU'.1) (vx_isRefq hN'.1) hU'.2.word hN'.2.word
  have hown' : s'.vm.findClass own = some m.cls := by rw [hvm]; exact hown
  have hins : (Cond.instantiable cls 6).before args s' = true := h _ (by simp [Bundle.ownAtoms])
  obtain ⟨vm₁, cX, kX, hfX, hkX, -, -, X₁, st1⟩ := Y.newCold hexec (own := own) (C := cls) (index := ik) (n := 6) hown' hk' hins hini'
    (g := F0 m pc ls rest) rfl (by rw [hb]; exact d0) (Nat.le_refl _) (Nat.le_refl _)
  generalize hT1 : (T.setVm vm₁).pushCell { cls := cX, slots := kX.instanceTypes.map defaultValue, vm := .none } = T1 at X₁ st1
  have hcat : (Value.ref T.heap.size).category = 1 := rfl
  have hcellA : T1.heap[T.heap.size]? = some (freshCell cX kX) := by rw [← hT1]; exact State.heap_pushCell_size _ _
  have d3' : decode c.code (pc + 3) = .ok (.dup, 1) := by rw [hb]; exact d3
  have d4' : decode c.code (pc + 4) = .ok (.ldc_w is, 3) := by rw [hb]; exact d4
  have hstr' : vk_R own is text sa s' := vk_R.warm hW0 hstr
  obtain ⟨U, hsteps, hrun, hend, hW, hsame, ce, hce, hO⟩ := X₁.ctorThrowS hexec htr (own := own) (cls := cls) (names := names) (ic := ic) hown' hcls hnames h (fun x hx => nomatch hx) hfX hkX hcellA (by rw [hhp, hT]; exact Nat.le_refl _) (msg := .ref sa) rfl
    (g := { method := m, pc := pc + 7, locals := ls, stack := .ref sa :: .ref T.heap.size :: .ref T.heap.size :: rest, locked := none }) rfl hsize rfl rfl (rest := rest) rfl
    (by rw [hb]; exact d7) (by rw [hb]; exact d10) hout hRframes (by simp only [List.map_cons, List.sum_cons, hcat]; omega) hlocks
  obtain ⟨f1, f2⟩ := vx_frame hsame
  rw [hhp] at f1 f2
  have hWs : s.WarmedH U.vm := State.WarmedH.trans hW0 hW
  have hcl : s.vm.findClass cls = some ce.cls := by
    have h9 := hO.cls
    rw [hvm] at h9
    exact h9
  have hall : s.sameButNew ({ U with vm := s.vm } : State) locs mc ms := by
    subst hA
    obtain ⟨e1, e2⟩ := hsame
    rw [State.setFrames_setFrames] at e1
    have h2 : (T.setVm s.vm).sameButNew ({ U with vm := s.vm } : State) [] (0 + 1) (0 + 6) := ⟨e1, e2⟩
    have h3 := X.same.trans h2
    rw [List.append_nil] at h3
    exact h3.mono hc hs
  refine ⟨U, ?_, .threw T.heap.size, hrun, hend, Or.inr ⟨T.heap.size, rfl, cls, ce, locs, hx U hWs.alike f1 (fun q hq => f2 q hq (fun z hz => nomatch hz)), hce, hO.vm, hcl, hWs, hall, hf⟩⟩
  refine st1 _ ?_
  show Steps p.tables e below (T1.setTop { method := m, pc := pc + 3, locals := ls, stack := .ref T.heap.size :: rest, locked := none }) _
  jvm_step X₁.here [X₁.here.top, hexec, d3', Value.category]
  exact X₁.ldcStringW hexec (own := own) (text := text) (index := is) (a := sa) hown' hstr'.1 hstr'.2
    (g := { method := m, pc := pc + 4, locals := ls, stack := .ref T.heap.size :: .ref T.heap.size :: rest, locked := none }) rfl d4' _ hsteps
end Ends
section Bodies
variable {l : Launch}
theorem vx_ofW {y : MethodName} {ws ws' : List Cond} {rm : Room} {Pc : Array Value → State → Prop} {Qc : Array Value → State → Outcome → State → Prop} {XC : String → State → State → Prop} {mc ms : Nat} {free : Addr → Prop} {cc : ByteArray} {maxL : Nat} {ret : Option FieldType}
    (hy : plainName y.cls = true) (hw : ws = Cond.code y cc maxL ret :: ws')
    (body : ∀ p e s m args below meth c s₁, BodyLoose p l y (headSpec ws rm) cc maxL ret e s m args below meth c s₁ → c.maxLocals = maxL → (∀ x ∈ c.exceptionTable.toList, False) → Pc args s →
      W p l e (headSpec ws rm).room s m args below meth c s.heap [] 0 0 (vx_MQ below Qc XC args s mc ms free) (entryFrame m args maxL)) : vx_Met l y ws rm Pc Qc XC mc ms free := by
  refine MetFree.of_bodyS (code := cc) (maxLocals := maxL) (ret := ret) hy ?_ ?_
  · intro args s m h hn
    obtain ⟨meth, c, h1, h2, h3, h4, h5, h6, -, -⟩ := Cond.code_spec hn (atoms_spec (ws := ws) h _ (by rw [hw]; exact List.mem_cons_self))
    exact ⟨meth, c, h1, h2, h3, h4, h5, h6⟩
  · intro p e s m args below meth c s₁ B hml hP _
    have hh0 : s₁.heap = s.heap := by rw [B.state]; rfl
    have ht : ∀ x ∈ c.exceptionTable.toList, False := by
      obtain ⟨meth9, c9, h1, h2, -, -, -, -, h7, -⟩ := Cond.code_spec B.named (atoms_spec (ws := ws) B.pre _ (by rw [hw]; exact List.mem_cons_self))
      cases Option.some.inj (h1.symm.trans B.method)
      cases Option.some.inj (h2.symm.trans (Stand.of_body B).code)
      intro x hx
      rw [Array.isEmpty_iff.mp h7] at hx
      cases hx
    obtain ⟨t, a1, o, b1, b2, b3⟩ := body p e s m args below meth c s₁ B hml ht hP s₁ hh0 (Stand.of_body B)
    exact ⟨t, o, a1, b1, b2, b3⟩
/-- the table of a body with handlers -/
theorem vx_table {p : Program} {x y : MethodName} {S : Spec} {cc bytes : ByteArray} {maxL maxL' : Nat} {ret ret' : Option FieldType} {e : Env} {s s₁ : State} {m : MethodId} {args : Array Value} {below : List Frame} {meth : Method} {c : Code} {hh : List (Nat × Nat × Nat × Nat)}
    (B : BodyLoose p l y S cc maxL ret e s m args below meth c s₁) (h : (Cond.codeWith y bytes maxL' ret' hh).before args s = true) : c.exceptionTable.toList = tableOf hh := by
  obtain ⟨m9, meth9, c9, hn9, h1, h2, -, -, h6, -⟩ := Cond.codeWith_spec h
  cases Option.some.inj (hn9.symm.trans B.named)
  cases Option.some.inj (h1.symm.trans B.method)
  cases Option.some.inj (h2.symm.trans (Stand.of_body B).code)
  rw [← h6, table_eq]
end Bodies
end VXA
/-! ===== END ===== -/
/-! ===== BEGIN a static call of a method with an exception table ===== -/
section VXS
variable {p : Program} {l : Launch} {e : Env} {R : Room} {s : State} {m : MethodId} {args : Array Value} {below : List Frame} {meth : Method} {c : Code} {T : State} {H : Heap} {locs : List Loc} {cells slots : Nat}
abbrev vx_CSW (R : Room) (s : State) (args : Array Value) (own : String) (index : Nat) (y : MethodName) (bytes : ByteArray) (maxL : Nat) (ret : Option FieldType) (hh : List (Nat × Nat × Nat × Nat)) (ws : List Cond) (rm : Room) (mc ms n : Nat) : Prop :=
  (rm.cells = mc ∧ rm.slots = ms ∧ rm.frames + 1 ≤ R.frames ∧ 8 + (maxL + 11) + rm.locals ≤ R.locals ∧ (∀ w ∈ ws, ∀ (a' : Array Value) (U : State), s.WarmedH U.vm → w.before a' U = true) ∧ Cond.codeWith y bytes maxL ret hh ∈ ws) ∧
  (Cond.codeWith y bytes maxL ret hh).before args s = true ∧ (Cond.initialized y.cls).before args s = true ∧ (y.cls ≠ "java/lang/invoke/MethodHandle" ∧ y.cls ≠ "java/lang/invoke/VarHandle") ∧
  (∀ sig, parseMethodDescriptor y.desc = some sig → n = sig.parameters.length) ∧ (Cond.methodLink own index y).before args s = true ∧ (Cond.static y).before args s = true
theorem vx_cwSW {own : String} {index maxL mc ms : Nat} {y : MethodName} {bytes : ByteArray} {ret : Option FieldType} {hh : List (Nat × Nat × Nat × Nat)} {Ts ws ws' : List Cond} {rm : Room} (n : Nat) (ht : ∀ w ∈ Ts, w.before args s = true) (hT : GoodIn Ts (va_wsS own index y ws)) (hw : ws = Cond.codeWith y bytes maxL ret hh :: ws') (hrc : rm.cells = mc) (hrs : rm.slots = ms)
    (hd : y.cls ≠ "java/lang/invoke/MethodHandle" ∧ y.cls ≠ "java/lang/invoke/VarHandle" ∧ (parseMethodDescriptor y.desc).map (fun d => d.parameters.length) = some n) (hR : rm.frames + 1 ≤ R.frames ∧ 8 + (maxL + 11) + rm.locals ≤ R.locals) :
    vx_CSW R s args own index y bytes maxL ret hh ws rm mc ms n := by
  have ok : ∀ w ∈ va_wsS own index y ws, w.before args s = true := fun w h => ht w (hT w h).1
  have hG : GoodIn Ts ws := fun w h => hT w (by unfold va_wsS; exact List.mem_append_right _ h)
  have hc : Cond.codeWith y bytes maxL ret hh ∈ ws := by rw [hw]; exact List.mem_cons_self
  refine ⟨⟨hrc, hrs, hR.1, hR.2, pay_in ht hG, hc⟩, ht _ (hG _ hc).1, ok _ (by simp [va_wsS]), ⟨hd.1, hd.2.1⟩, fun sig h => ?_, ok _ (by simp [va_wsS]), ok _ (by simp [va_wsS])⟩
  have h2 := hd.2.2
  rw [h] at h2
  exact (Option.some.inj h2).symm
theorem vx_callSW (X : Stand p l e R s m args below meth c T locs cells slots) (hexec : p.tables.exec = Jvm.exec) {own : String} {index : Nat} {y : MethodName} {bytes : ByteArray} {maxL : Nat} {ret : Option FieldType} {hh : List (Nat × Nat × Nat × Nat)}
    (hown : s.vm.findClass own = some m.cls) (hlink : (Cond.methodLink own index y).before args s = true) (hstat : (Cond.static y).before args s = true) (hinit : (Cond.initialized y.cls).before args s = true)
    (hcode : (Cond.codeWith y bytes maxL ret hh).before args s = true) (hy : y.cls ≠ "java/lang/invoke/MethodHandle" ∧ y.cls ≠ "java/lang/invoke/VarHandle")
    {W9 : Nat} {Pre : Pt → Array Value → Prop} {Post : Pt → Array Value → Option Value → Pt → Prop} (hK : Back l R p e below s args y 3 W9 Pre Post)
    {g : JFrame} (hg : g.method = m) (hsize : g.locals.size = c.maxLocals) {argsL rest : List Value} (hlen : ∀ sig, parseMethodDescriptor y.desc = some sig → argsL.length = sig.parameters.length)
    (hstack : g.stack = argsL.reverse ++ rest) (hW : 2 * g.monitorRoom + (rest.map fun v => v.category).sum ≤ W9) (hdg : decode c.code g.pc = .ok (.invokestatic index, 3))
    (hpre : ∀ vm₁, s.WarmedH vm₁ → Pre ⟨T.setVm vm₁, locs, cells, slots⟩ argsL.toArray) :
    ∃ (v : Option Value) (vm₁ : Vm) (B : Pt), s.WarmedH vm₁ ∧ Stand p l e R s m args below meth c B.U B.locs B.cells B.slots ∧ Post ⟨T.setVm vm₁, locs, cells, slots⟩ argsL.toArray v B ∧
      ∀ target, Steps p.tables e below (B.U.setTop { g with pc := g.pc + 3, stack := v.toList ++ rest }) target → Steps p.tables e below (T.setTop g) target := by
  obtain ⟨mk, methM, cM, hnamed, hmethM, -, -, -, -, -, -, hsigM⟩ := Cond.codeWith_spec hcode
  have hstatic : methM.isStatic = true := Cond.static_spec hnamed hmethM hstat
  obtain ⟨kP, hkP, -⟩ := className_of_methodNamed hnamed
  have hinitP : kP.init = .initialized := Cond.initialized_spec (findClass_of_methodNamed hnamed) hkP hinit
  obtain ⟨vm₁, X₁, hstep₁⟩ := X.invokestatic hexec hown hlink hnamed hmethM hstatic hkP hinitP hy (g := g) hg (argsL := argsL) (rest := rest) (hlen _ hsigM) hstack hdg
  obtain ⟨v, B, X', hpost, hsteps⟩ := hK m meth c ⟨T.setVm vm₁, locs, cells, slots⟩ { g with stack := rest } (.invokestatic index) mk argsL.toArray X₁ hg hsize hdg hW (X₁.named hnamed) (hpre vm₁ X₁.warmed)
  exact ⟨v, vm₁, B, X₁.warmed, X', hpost, fun target h => hstep₁ _ fun acts => by rw [doInvoke_state]; exact hsteps.trans h⟩
theorem vx_runSW {y : MethodName} {bytes cc : ByteArray} {maxL nL mc ms n index : Nat} {ret : Option FieldType} {hh : List (Nat × Nat × Nat × Nat)} {ws : List Cond} {rm : Room} {Pc : Array Value → State → Prop} {Qc : Array Value → State → Outcome → State → Prop} {free : Addr → Prop} {Ts : List Cond} {own : String} {As rest : List Value} {g : JFrame}
    (S : CallFix p m c cc nL s args Ts own) (hM : Met l y ws rm Pc Qc mc ms free) (cw : vx_CSW R s args own index y bytes maxL ret hh ws rm mc ms n) (hp : PreS s H Pc As)
    (hg : g.method = m) (hn : As.length = n) (hsize : g.locals.size = nL) (hstack : g.stack = As.reverse ++ rest) (hW : 2 * g.monitorRoom + (rest.map fun v => v.category).sum ≤ 8) (hdg : decode cc g.pc = .ok (.invokestatic index, 3)) (hf : cells + mc ≤ R.cells ∧ slots + ms ≤ R.slots) :
    va_Run p l e R s m args below meth c H locs cells slots mc ms g rest (Qc As.toArray) (free) := by
  obtain ⟨⟨hrc, hrs, hfr, hlo, hws, hcw⟩, hcode, hini, hy, hlen, hl, hstt⟩ := cw
  have hK : Back l R p e below s args y 3 8 (PreOf R mc ms Pc) (PostOf Qc mc ms free) := va_backW (hh := hh) (bytes := bytes) (maxL := maxL) (ret := ret) hM hp.1 hrc hrs hfr hlo hws hcw (fun a' U hW => word_at hW (Or.inl (by first | rfl | simp [Cond.onTables, Cond.keeps, Cond.steady])) hini)
  obtain ⟨hx, hb, hml, ho, -⟩ := S
  intro T hT X
  obtain ⟨v, vm₁, ⟨U', l2, c2, s2⟩, hW₁, X', ⟨g', mk, t, L, e1, e2, hq, h1, hL, h2, h3⟩, st⟩ := vx_callSW X hx (hh := hh) (bytes := bytes) (maxL := maxL) (ret := ret) ho hl hstt hini hcode hy hK hg (hsize.trans hml.symm) (argsL := As) (rest := rest) (fun sig h => hn.trans (hlen sig h)) hstack hW (by rw [hb]; exact hdg)
    (fun vm₁ hW₁ => ⟨hf.1, hf.2, hp.2 (T.setVm vm₁) hT hW₁⟩)
  dsimp only [Pt.U, Pt.locs, Pt.cells, Pt.slots] at X' e1 e2 h1 h2 h3 st
  subst h1; subst h2; subst h3
  exact ⟨v, (T.setVm vm₁).calling g' mk As.toArray, t, U', L, hT, X', hL, e1, e2, hq, st⟩
/-- not caught here, past rows that name other classes: it goes on to the caller -/
theorem vx_outP {p : Program} {l : Launch} {e : Env} {R : Room} {s : State} {m : MethodId} {args : Array Value} {below : List Frame} {meth : Method} {c : Code} {H : Heap} {locs : List Loc} {cells slots : Nat} {free : Addr → Prop} {ls : Array Slot} {rest : List Value} {Qc : Array Value → State → Outcome → State → Prop} {XC : String → State → State → Prop}
    {pc : Nat} {own E : String} {ce : Cell} {q : Addr} {mc ms : Nat} (hown : s.vm.findClass own = some m.cls) (hlocks : meth.locks = false)
    (hpass : ∀ z ∈ c.exceptionTable.toList, covers z pc = false ∨ (z.catchType ≠ 0 ∧ ∃ nm : String, (Cond.classLink own z.catchType nm).before args s = true ∧ va_Nc E nm s)) (hcell : H[q]? = some ce) (hv : ce.vm = .none) (hcl : s.vm.findClass E = some ce.cls)
    (hx : ∀ t : State, t.heap = H → s.vm.Alike t.vm → XC E s t) (hf : ∀ z ∈ locs, free z.base) (hc : cells ≤ mc) (hs : slots ≤ ms) :
    vx_W p l e R s m args below meth c H locs cells slots (vx_MQ below Qc XC args s mc ms free) (F0 m pc ls rest) q := by
  intro T hT X
  have hpl : e.platform.magicAccessors = ({} : Platform).magicAccessors := by rw [X.admits.platform]
  obtain ⟨vm', hW', X', st⟩ := X.outThrough hlocks q (g := F0 m pc ls rest) rfl rfl rfl (cell := ce) (by rw [hT]; exact hcell) (by rw [hv]; rfl)
    (by obtain ⟨k9, h9, -⟩ := Vm.findClass_spec hcl; exact ⟨k9, h9⟩) (fun z hz => by
      rcases hpass z hz with h | ⟨hz0, nm, hl1, hn1⟩
      · exact Or.inl h
      · obtain ⟨c6, hc6, hcl6⟩ := Cond.classLink_spec hown hl1 e.platform hpl
        obtain ⟨a8, b8, h1, h2, h3⟩ := hn1
        cases Option.some.inj (h1.symm.trans hcl)
        cases Option.some.inj (h2.symm.trans hc6)
        exact Or.inr ⟨hz0, _, hcl6, h3⟩)
  obtain ⟨g₀, hfr⟩ := X'.frames_eq
  have hcell9 : ((T.setVm vm').setFrames (.throwing q :: below)).heap[q]? = some ce := by
    show T.heap[q]? = some ce
    rw [hT]; exact hcell
  have hend : Ended ((T.setVm vm').setFrames (.throwing q :: below)) below (.threw q) := State.frames_setFrames _ (State.cur_lt_of_frames hfr)
  refine ⟨(T.setVm vm').setFrames (.throwing q :: below), ?_, .threw q, X'.here.running, hend, Or.inr ⟨q, rfl, E, ce, locs, hx _ hT (X'.ends _).1.alike, hcell9, hv, hcl, (X'.ends _).1, (X'.ends _).2.mono hc hs, hf⟩⟩
  rw [X.pushThrowing_eq]
  exact st
/-- a thing of a world lies in the heap -/
theorem vx_lt {D : va_G} {cl : List vw_C} {ws : va_W} {H1 : Heap} (h : va_P D cl ws H1) {k : Nat} {q : Nat × va_E} (hk : ws[k]? = some q) : q.1 < H1.size := (h k q hk).lt
end VXS
/-! ===== END ===== -/
/-! ===== BEGIN methods with a table of their own: called by a name, returning or throwing ===== -/
section VXH
/-! vx_backW, vx_callVX, vx_callSX, vx_callVW, vx_runVW, vx_runVX, vx_runSX, vx_ofWH follow the same proofs as their sisters above (Free/Laws.lean, Shelf42/LK1.lean); vx_outP calls Shelf42/NT130.lean (outThrough). -/
section
variable {l : Launch} {R : Room} {p : Program} {e : Env} {below : List Frame} {s : State} {sargs : Array Value} {y : MethodName} {len W9 : Nat}
theorem vx_backW {ws : List Cond} {rm : Room} {Pc : Array Value → State → Prop} {Qc : Array Value → State → Outcome → State → Prop} {XC : String → State → State → Prop} {mc ms : Nat} {free : Addr → Prop} {bytes : ByteArray} {maxL : Nat} {ret : Option FieldType} {hh : List (Nat × Nat × Nat × Nat)}
    (hM : vx_Met l y ws rm Pc Qc XC mc ms free) (hblind : FrameBlind Pc) (hrc : rm.cells = mc) (hrs : rm.slots = ms)
    (hframes : rm.frames + 1 ≤ R.frames) (hlocals : W9 + (maxL + 11) + rm.locals ≤ R.locals)
    (hws : ∀ w ∈ ws, ∀ a' U, s.WarmedH U.vm → w.before a' U = true) (hcode : Cond.codeWith y bytes maxL ret hh ∈ ws) (hinit : ∀ a' U, s.WarmedH U.vm → (Cond.initialized y.cls).before a' U = true) :
    vx_Back l R p e below s sargs y len W9 (PreOf R mc ms Pc) (PostOf Qc mc ms free) (vx_Post XC mc ms free) := by
  intro m meth c A g ig mk a X hg hsize hdg hW hn hp
  have h1 : (headSpec ws rm).pre.before a A.U = true := atoms_intro fun w hw => hws w hw _ _ X.warmed
  have h2 : (Cond.codeWith y bytes maxL ret hh).before a A.U = true := hws _ hcode _ _ X.warmed
  have h3 : (Cond.initialized y.cls).before a A.U = true := hinit _ _ X.warmed
  have h4 : A.cells + (headSpec ws rm).room.cells ≤ R.cells := by rw [show (headSpec ws rm).room.cells = mc from hrc]; exact hp.1
  have h5 : A.slots + (headSpec ws rm).room.slots ≤ R.slots := by rw [show (headSpec ws rm).room.slots = ms from hrs]; exact hp.2.1
  have hPc : Pc a (A.U.calling g mk a) := hblind _ _ _ _ hp.2.2
  obtain ⟨U, Ls, c0, s0⟩ := A
  dsimp only [Pt.U, Pt.locs, Pt.cells, Pt.slots] at h1 h2 h3 h4 h5 X hn hPc ⊢
  obtain ⟨m9, methY, cY, hn9, hmY, hcY, -, hlY, -⟩ := Cond.codeWith_spec h2
  cases Option.some.inj (hn9.symm.trans hn)
  obtain ⟨kY, hkY, -⟩ := className_of_methodNamed hn
  have hinitY : kY.init = .initialized := Cond.initialized_spec (findClass_of_methodNamed hn) hkY h3
  have h : At U g.method c below := by rw [hg]; exact X.here
  have hlocals9 : W9 + (maxL + 11) + (headSpec ws rm).room.locals ≤ R.locals := hlocals
  have happ : (headSpec ws rm).appliesLoose y e.platform (U.calling g mk a) = true :=
    Spec.appliesLoose_calling (g := g) h hdg hn hkY hinitY
      (X.room_calling (g := g) (R' := (headSpec ws rm).room) hsize hmY hcY hframes (by rw [hlY]; omega) h4 h5) h1
  obtain ⟨mid, hmid⟩ := h.above
  have hfr : (U.setTop g).frames = (.java g :: mid) ++ below := by rw [State.frames_setTop' g h.top, hmid]; rfl
  obtain ⟨o, s₂, hsteps, -, hend, hq⟩ := Steps.callFree hM p X.admits X.cas X.clock (acts := []) hfr happ hPc trivial
  have hq' : vx_Q Qc XC mc ms free a (U.calling g mk a) o s₂ := hq
  rw [State.frames_setTop' g h.top] at hend
  obtain ⟨g₀, hg0⟩ := Option.isSome_iff_exists.mp h.top
  obtain ⟨r, hr⟩ := State.topJava?_eq_some.mp hg0
  have hr' : (({ U with heap := s₂.heap, slotsUsed := s₂.slotsUsed } : State).setVm s₂.vm).frames = .java g₀ :: r := hr
  rcases hq' with ⟨hqc, L, hfe, hL⟩ | ⟨q, rfl, E, ce, L, hx, hce, hcv, hcl, hW₂, hsm, hL⟩
  · obtain ⟨⟨v, rfl⟩, hW₂, e2, q2, q3, q4, q5, q6⟩ := id hfe
    have e3 : s₂ = ({ (U.calling g mk a).setFrames s₂.frames with heap := s₂.heap, slotsUsed := s₂.slotsUsed } : State).setVm s₂.vm := by
      have : s₂ = ({ s₂ with vm := (U.calling g mk a).vm } : State).setVm s₂.vm := rfl
      rw [e2] at this
      exact this
    obtain ⟨c₂, i₂, len₂, hc₂, hd₂, hf₂⟩ := hend
    have hW' : U.WarmedH s₂.vm := hW₂
    have hcc : c₂ = c := by
      have h1 : s₂.code? g.method = U.code? g.method := by
        rw [State.code?_eq, State.code?_eq, hW'.alike.method?]
      exact Option.some.inj (hc₂.symm.trans (h1.trans h.code))
    subst hcc
    have hlen : len₂ = len := by rw [hdg] at hd₂; cases hd₂; rfl
    subst hlen
    have hs₂ : s₂ = (({ U with heap := s₂.heap, slotsUsed := s₂.slotsUsed } : State).setVm s₂.vm).setTop { g with pc := g.pc + len₂, stack := v.toList ++ g.stack } := by
      refine e3.trans ?_
      rw [hf₂, State.calling_eq h.top, State.setFrames_setFrames, State.setTop_of_frames _ hr', hr]
      rfl
    have hsame : U.sameButNew ({ U with heap := s₂.heap, slotsUsed := s₂.slotsUsed } : State) L mc ms := by
      refine ⟨?_, q2, q3, q4, q5, q6⟩
      obtain ⟨t, ht, -⟩ := State.frames_cons hr
      show ({ U with heap := s₂.heap, slotsUsed := s₂.slotsUsed } : State) = { U.setFrames U.frames with heap := s₂.heap, slotsUsed := s₂.slotsUsed }
      rw [State.setFrames_self ht]
    subst hg
    refine Or.inl ⟨v, ⟨(({ U with heap := s₂.heap, slotsUsed := s₂.slotsUsed } : State).setVm s₂.vm), Ls ++ L, c0 + mc, s0 + ms⟩,
      ⟨X.admits, X.cas, X.clock, X.frames, X.room, X.hears, X.method, X.code, (X.here.setHeapUsed s₂.heap s₂.slotsUsed).setVm hW'.alike, X.tail, State.WarmedH.trans X.warmed hW', X.limits, X.bytes, X.same.trans (hsame.setVm s.vm)⟩,
      ⟨g, mk, s₂, L, rfl, rfl, hqc, rfl, hL, rfl, rfl⟩, ?_⟩
    show Steps p.tables e below _ ((({ U with heap := s₂.heap, slotsUsed := s₂.slotsUsed } : State).setVm s₂.vm).setTop { g with pc := g.pc + len₂, stack := v.toList ++ g.stack })
    rw [← hs₂]
    exact hsteps
  · obtain ⟨e2, q2, q3, q4, q5, q6⟩ := id hsm
    have e3 : s₂ = ({ (U.calling g mk a).setFrames s₂.frames with heap := s₂.heap, slotsUsed := s₂.slotsUsed } : State).setVm s₂.vm := by
      have : s₂ = ({ s₂ with vm := (U.calling g mk a).vm } : State).setVm s₂.vm := rfl
      rw [e2] at this
      exact this
    have hf₂ : s₂.frames = .throwing q :: .java g :: U.frames.tail := hend
    have hW' : U.WarmedH s₂.vm := hW₂
    have hs₂ : s₂ = ((({ U with heap := s₂.heap, slotsUsed := s₂.slotsUsed } : State).setVm s₂.vm).setTop g).pushFrame (.throwing q) := by
      refine e3.trans ?_
      rw [hf₂, State.calling_eq h.top, State.setFrames_setFrames, State.pushFrame, State.frames_setTop _ hr', State.setTop_of_frames _ hr', State.setFrames_setFrames, hr]
      rfl
    have hsame : U.sameButNew ({ U with heap := s₂.heap, slotsUsed := s₂.slotsUsed } : State) L mc ms := by
      refine ⟨?_, q2, q3, q4, q5, q6⟩
      obtain ⟨t, ht, -⟩ := State.frames_cons hr
      show ({ U with heap := s₂.heap, slotsUsed := s₂.slotsUsed } : State) = { U.setFrames U.frames with heap := s₂.heap, slotsUsed := s₂.slotsUsed }
      rw [State.setFrames_self ht]
    subst hg
    refine Or.inr ⟨q, ⟨(({ U with heap := s₂.heap, slotsUsed := s₂.slotsUsed } : State).setVm s₂.vm), Ls ++ L, c0 + mc, s0 + ms⟩,
      ⟨X.admits, X.cas, X.clock, X.frames, X.room, X.hears, X.method, X.code, (X.here.setHeapUsed s₂.heap s₂.slotsUsed).setVm hW'.alike, X.tail, State.WarmedH.trans X.warmed hW', X.limits, X.bytes, X.same.trans (hsame.setVm s.vm)⟩,
      ⟨g, mk, s₂, L, E, ce, rfl, rfl, hx, hce, hcv, hcl, rfl, hL, rfl, rfl⟩, ?_⟩
    show Steps p.tables e below _ (((({ U with heap := s₂.heap, slotsUsed := s₂.slotsUsed } : State).setVm s₂.vm).setTop g).pushFrame (.throwing q))
    rw [← hs₂]
    exact hsteps
end
variable {p : Program} {l : Launch} {e : Env} {R : Room} {s : State} {m : MethodId} {args : Array Value} {below : List Frame} {meth : Method} {c : Code} {T : State} {H : Heap} {locs : List Loc} {cells slots : Nat}
theorem vx_callVX (X : Stand p l e R s m args below meth c T locs cells slots) (hexec : p.tables.exec = Jvm.exec) {own C : String} {index : Nat} {y : MethodName} {bytes : ByteArray} {maxL : Nat} {ret : Option FieldType} {hh : List (Nat × Nat × Nat × Nat)}
    (hown : s.vm.findClass own = some m.cls) (hlink : (Cond.methodLink own index y).before args s = true) (hinst : (Cond.instanceMethod y).before args s = true) (hsel : (Cond.selects C y y).before args s = true)
    (hcode : (Cond.codeWith y bytes maxL ret hh).before args s = true) (hy : y.cls ≠ "java/lang/invoke/MethodHandle" ∧ y.cls ≠ "java/lang/invoke/VarHandle")
    {W9 : Nat} {Pre : Pt → Array Value → Prop} {Post : Pt → Array Value → Option Value → Pt → Prop} {PostX : Pt → Array Value → Addr → Pt → Prop} (hK : vx_Back l R p e below s args y 3 W9 Pre Post PostX)
    {b : Addr} {cellB : Cell} (hcell : T.heap[b]? = some cellB) (hobj : cellB.vm.isStatics = false) (hcls : s.vm.findClass C = some cellB.cls)
    {g : JFrame} (hg : g.method = m) (hsize : g.locals.size = c.maxLocals) {argsL rest : List Value} (hlen : ∀ sig, parseMethodDescriptor y.desc = some sig → argsL.length = sig.parameters.length)
    (hstack : g.stack = argsL.reverse ++ .ref b :: rest) (hW : 2 * g.monitorRoom + (rest.map fun v => v.category).sum ≤ W9) (hdg : decode c.code g.pc = .ok (.invokevirtual index, 3))
    (hpre : ∀ vm₁, s.WarmedH vm₁ → Pre ⟨T.setVm vm₁, locs, cells, slots⟩ (Value.ref b :: argsL).toArray) :
    (∃ (v : Option Value) (vm₁ : Vm) (B : Pt), s.WarmedH vm₁ ∧ Stand p l e R s m args below meth c B.U B.locs B.cells B.slots ∧ Post ⟨T.setVm vm₁, locs, cells, slots⟩ (Value.ref b :: argsL).toArray v B ∧
      ∀ target, Steps p.tables e below (B.U.setTop { g with pc := g.pc + 3, stack := v.toList ++ rest }) target → Steps p.tables e below (T.setTop g) target) ∨
    (∃ (q : Addr) (vm₁ : Vm) (B : Pt), s.WarmedH vm₁ ∧ Stand p l e R s m args below meth c B.U B.locs B.cells B.slots ∧ PostX ⟨T.setVm vm₁, locs, cells, slots⟩ (Value.ref b :: argsL).toArray q B ∧
      Steps p.tables e below (T.setTop g) ((B.U.setTop { g with stack := rest }).pushFrame (.throwing q))) := by
  obtain ⟨mk, methM, hnamed, hmethM, hstM, habM⟩ := Cond.instanceMethod_spec hinst
  obtain ⟨m8, methM', cM, hn8, hmethM', -, -, -, -, -, -, hsigM⟩ := Cond.codeWith_spec hcode
  cases Option.some.inj (hn8.symm.trans hnamed)
  cases hmethM.symm.trans hmethM'
  obtain ⟨c2, r2, m2, q1, q2, q3, q4, kP, hkP, hkPi⟩ := Cond.selects_spec hsel
  cases hcls.symm.trans q1
  cases (State.methodFound?_of_named hnamed hy).symm.trans q2
  cases hnamed.symm.trans q3
  have hselP : selectMethod e.platform s.vm cellB.cls mk = .method mk := by rw [Launch.admits_selectMethod X.admits]; exact q4
  obtain ⟨vm₁, X₁, hstep₁⟩ := X.invokevirtual hexec hown hlink hnamed hmethM hstM hkP hkPi hy (a := b) (cell := cellB) hcell
    (fun z h => by rw [h] at hobj; cases hobj) hselP hmethM habM hkP hkPi (g := g) hg (argsL := argsL) (rest := rest) (hlen _ hsigM) hstack hdg
  rcases hK m meth c ⟨T.setVm vm₁, locs, cells, slots⟩ { g with stack := rest } (.invokevirtual index) mk (Value.ref b :: argsL).toArray X₁ hg hsize hdg hW (X₁.named hnamed) (hpre vm₁ X₁.warmed) with ⟨v, B, X', hpost, hsteps⟩ | ⟨q, B, X', hpost, hsteps⟩
  · exact Or.inl ⟨v, vm₁, B, X₁.warmed, X', hpost, fun target h => hstep₁ _ fun acts => by rw [doInvoke_state]; exact hsteps.trans h⟩
  · exact Or.inr ⟨q, vm₁, B, X₁.warmed, X', hpost, hstep₁ _ fun acts => by rw [doInvoke_state]; exact hsteps⟩
theorem vx_callSX (X : Stand p l e R s m args below meth c T locs cells slots) (hexec : p.tables.exec = Jvm.exec) {own : String} {index : Nat} {y : MethodName} {bytes : ByteArray} {maxL : Nat} {ret : Option FieldType} {hh : List (Nat × Nat × Nat × Nat)}
    (hown : s.vm.findClass own = some m.cls) (hlink : (Cond.methodLink own index y).before args s = true) (hstat : (Cond.static y).before args s = true) (hinit : (Cond.initialized y.cls).before args s = true)
    (hcode : (Cond.codeWith y bytes maxL ret hh).before args s = true) (hy : y.cls ≠ "java/lang/invoke/MethodHandle" ∧ y.cls ≠ "java/lang/invoke/VarHandle")
    {W9 : Nat} {Pre : Pt → Array Value → Prop} {Post : Pt → Array Value → Option Value → Pt → Prop} {PostX : Pt → Array Value → Addr → Pt → Prop} (hK : vx_Back l R p e below s args y 3 W9 Pre Post PostX)
    {g : JFrame} (hg : g.method = m) (hsize : g.locals.size = c.maxLocals) {argsL rest : List Value} (hlen : ∀ sig, parseMethodDescriptor y.desc = some sig → argsL.length = sig.parameters.length)
    (hstack : g.stack = argsL.reverse ++ rest) (hW : 2 * g.monitorRoom + (rest.map fun v => v.category).sum ≤ W9) (hdg : decode c.code g.pc = .ok (.invokestatic index, 3))
    (hpre : ∀ vm₁, s.WarmedH vm₁ → Pre ⟨T.setVm vm₁, locs, cells, slots⟩ argsL.toArray) :
    (∃ (v : Option Value) (vm₁ : Vm) (B : Pt), s.WarmedH vm₁ ∧ Stand p l e R s m args below meth c B.U B.locs B.cells B.slots ∧ Post ⟨T.setVm vm₁, locs, cells, slots⟩ argsL.toArray v B ∧
      ∀ target, Steps p.tables e below (B.U.setTop { g with pc := g.pc + 3, stack := v.toList ++ rest }) target → Steps p.tables e below (T.setTop g) target) ∨
    (∃ (q : Addr) (vm₁ : Vm) (B : Pt), s.WarmedH vm₁ ∧ Stand p l e R s m args below meth c B.U B.locs B.cells B.slots ∧ PostX ⟨T.setVm vm₁, locs, cells, slots⟩ argsL.toArray q B ∧
      Steps p.tables e below (T.setTop g) ((B.U.setTop { g with stack := rest }).pushFrame (.throwing q))) := by
  obtain ⟨mk, methM, cM, hnamed, hmethM, -, -, -, -, -, -, hsigM⟩ := Cond.codeWith_spec hcode
  have hstatic : methM.isStatic = true := Cond.static_spec hnamed hmethM hstat
  obtain ⟨kP, hkP, -⟩ := className_of_methodNamed hnamed
  have hinitP : kP.init = .initialized := Cond.initialized_spec (findClass_of_methodNamed hnamed) hkP hinit
  obtain ⟨vm₁, X₁, hstep₁⟩ := X.invokestatic hexec hown hlink hnamed hmethM hstatic hkP hinitP hy (g := g) hg (argsL := argsL) (rest := rest) (hlen _ hsigM) hstack hdg
  rcases hK m meth c ⟨T.setVm vm₁, locs, cells, slots⟩ { g with stack := rest } (.invokestatic index) mk argsL.toArray X₁ hg hsize hdg hW (X₁.named hnamed) (hpre vm₁ X₁.warmed) with ⟨v, B, X', hpost, hsteps⟩ | ⟨q, B, X', hpost, hsteps⟩
  · exact Or.inl ⟨v, vm₁, B, X₁.warmed, X', hpost, fun target h => hstep₁ _ fun acts => by rw [doInvoke_state]; exact hsteps.trans h⟩
  · exact Or.inr ⟨q, vm₁, B, X₁.warmed, X', hpost, hstep₁ _ fun acts => by rw [doInvoke_state]; exact hsteps⟩
theorem vx_callVW (X : Stand p l e R s m args below meth c T locs cells slots) (hexec : p.tables.exec = Jvm.exec) {own C : String} {index : Nat} {y : MethodName} {bytes : ByteArray} {maxL : Nat} {ret : Option FieldType} {hh : List (Nat × Nat × Nat × Nat)}
    (hown : s.vm.findClass own = some m.cls) (hlink : (Cond.methodLink own index y).before args s = true) (hinst : (Cond.instanceMethod y).before args s = true) (hsel : (Cond.selects C y y).before args s = true)
    (hcode : (Cond.codeWith y bytes maxL ret hh).before args s = true) (hy : y.cls ≠ "java/lang/invoke/MethodHandle" ∧ y.cls ≠ "java/lang/invoke/VarHandle")
    {W9 : Nat} {Pre : Pt → Array Value → Prop} {Post : Pt → Array Value → Option Value → Pt → Prop} (hK : Back l R p e below s args y 3 W9 Pre Post)
    {b : Addr} {cellB : Cell} (hcell : T.heap[b]? = some cellB) (hobj : cellB.vm.isStatics = false) (hcls : s.vm.findClass C = some cellB.cls)
    {g : JFrame} (hg : g.method = m) (hsize : g.locals.size = c.maxLocals) {argsL rest : List Value} (hlen : ∀ sig, parseMethodDescriptor y.desc = some sig → argsL.length = sig.parameters.length)
    (hstack : g.stack = argsL.reverse ++ .ref b :: rest) (hW : 2 * g.monitorRoom + (rest.map fun v => v.category).sum ≤ W9) (hdg : decode c.code g.pc = .ok (.invokevirtual index, 3))
    (hpre : ∀ vm₁, s.WarmedH vm₁ → Pre ⟨T.setVm vm₁, locs, cells, slots⟩ (Value.ref b :: argsL).toArray) :
    ∃ (v : Option Value) (vm₁ : Vm) (B : Pt), s.WarmedH vm₁ ∧ Stand p l e R s m args below meth c B.U B.locs B.cells B.slots ∧ Post ⟨T.setVm vm₁, locs, cells, slots⟩ (Value.ref b :: argsL).toArray v B ∧
      ∀ target, Steps p.tables e below (B.U.setTop { g with pc := g.pc + 3, stack := v.toList ++ rest }) target → Steps p.tables e below (T.setTop g) target := by
  obtain ⟨mk, methM, hnamed, hmethM, hstM, habM⟩ := Cond.instanceMethod_spec hinst
  obtain ⟨m8, methM', cM, hn8, hmethM', -, -, -, -, -, -, hsigM⟩ := Cond.codeWith_spec hcode
  cases Option.some.inj (hn8.symm.trans hnamed)
  cases hmethM.symm.trans hmethM'
  obtain ⟨c2, r2, m2, q1, q2, q3, q4, kP, hkP, hkPi⟩ := Cond.selects_spec hsel
  cases hcls.symm.trans q1
  cases (State.methodFound?_of_named hnamed hy).symm.trans q2
  cases hnamed.symm.trans q3
  have hselP : selectMethod e.platform s.vm cellB.cls mk = .method mk := by rw [Launch.admits_selectMethod X.admits]; exact q4
  obtain ⟨vm₁, X₁, hstep₁⟩ := X.invokevirtual hexec hown hlink hnamed hmethM hstM hkP hkPi hy (a := b) (cell := cellB) hcell
    (fun z h => by rw [h] at hobj; cases hobj) hselP hmethM habM hkP hkPi (g := g) hg (argsL := argsL) (rest := rest) (hlen _ hsigM) hstack hdg
  obtain ⟨v, B, X', hpost, hsteps⟩ := hK m meth c ⟨T.setVm vm₁, locs, cells, slots⟩ { g with stack := rest } (.invokevirtual index) mk (Value.ref b :: argsL).toArray X₁ hg hsize hdg hW (X₁.named hnamed) (hpre vm₁ X₁.warmed)
  exact ⟨v, vm₁, B, X₁.warmed, X', hpost, fun target h => hstep₁ _ fun acts => by rw [doInvoke_state]; exact hsteps.trans h⟩
abbrev vx_CVW (R : Room) (s : State) (args : Array Value) (own C : String) (index : Nat) (y : MethodName) (bytes : ByteArray) (maxL : Nat) (ret : Option FieldType) (hh : List (Nat × Nat × Nat × Nat)) (ws : List Cond) (rm : Room) (mc ms n : Nat) : Prop :=
  (rm.cells = mc ∧ rm.slots = ms ∧ rm.frames + 1 ≤ R.frames ∧ 8 + (maxL + 11) + rm.locals ≤ R.locals ∧ (∀ w ∈ ws, ∀ (a' : Array Value) (U : State), s.WarmedH U.vm → w.before a' U = true) ∧ Cond.codeWith y bytes maxL ret hh ∈ ws) ∧
  (Cond.codeWith y bytes maxL ret hh).before args s = true ∧ (Cond.initialized y.cls).before args s = true ∧ (y.cls ≠ "java/lang/invoke/MethodHandle" ∧ y.cls ≠ "java/lang/invoke/VarHandle") ∧
  (∀ sig, parseMethodDescriptor y.desc = some sig → n = sig.parameters.length) ∧ (Cond.methodLink own index y).before args s = true ∧ (Cond.instanceMethod y).before args s = true ∧ (Cond.selects C y y).before args s = true
theorem vx_cwVW {own C : String} {index maxL mc ms : Nat} {y : MethodName} {bytes : ByteArray} {ret : Option FieldType} {hh : List (Nat × Nat × Nat × Nat)} {Ts ws ws' : List Cond} {rm : Room} (n : Nat) (ht : ∀ w ∈ Ts, w.before args s = true) (hT : GoodIn Ts (wsV own index C y ws)) (hw : ws = Cond.codeWith y bytes maxL ret hh :: ws') (hrc : rm.cells = mc) (hrs : rm.slots = ms)
    (hd : y.cls = C ∧ y.cls ≠ "java/lang/invoke/MethodHandle" ∧ y.cls ≠ "java/lang/invoke/VarHandle" ∧ (parseMethodDescriptor y.desc).map (fun d => d.parameters.length) = some n) (hR : rm.frames + 1 ≤ R.frames ∧ 8 + (maxL + 11) + rm.locals ≤ R.locals) :
    vx_CVW R s args own C index y bytes maxL ret hh ws rm mc ms n := by
  obtain ⟨hC, hd⟩ := hd
  subst hC
  have ok : ∀ w ∈ wsV own index y.cls y ws, w.before args s = true := fun w h => ht w (hT w h).1
  have hG : GoodIn Ts ws := fun w h => hT w (by unfold wsV; exact List.mem_append_right _ h)
  have hc : Cond.codeWith y bytes maxL ret hh ∈ ws := by rw [hw]; exact List.mem_cons_self
  refine ⟨⟨hrc, hrs, hR.1, hR.2, pay_in ht hG, hc⟩, ht _ (hG _ hc).1, ok _ (by simp [wsV]), ⟨hd.1, hd.2.1⟩, fun sig h => ?_, ok _ (by simp [wsV]), ok _ (by simp [wsV]), ok _ (by simp [wsV])⟩
  have h2 := hd.2.2
  rw [h] at h2
  exact (Option.some.inj h2).symm
theorem vx_runVW {y : MethodName} {bytes cc : ByteArray} {maxL nL mc ms n index : Nat} {ret : Option FieldType} {hh : List (Nat × Nat × Nat × Nat)} {ws : List Cond} {rm : Room} {Pc : Array Value → State → Prop} {Qc : Array Value → State → Outcome → State → Prop} {free : Addr → Prop} {Ts : List Cond} {own C : String} {b : Addr} {As rest : List Value} {g : JFrame}
    (S : CallFix p m c cc nL s args Ts own) (hM : Met l y ws rm Pc Qc mc ms free) (cw : vx_CVW R s args own C index y bytes maxL ret hh ws rm mc ms n) (hp : PreV s H C b Pc As)
    (hg : g.method = m) (hn : As.length = n) (hsize : g.locals.size = nL) (hstack : g.stack = As.reverse ++ .ref b :: rest) (hW : 2 * g.monitorRoom + (rest.map fun v => v.category).sum ≤ 8) (hdg : decode cc g.pc = .ok (.invokevirtual index, 3)) (hf : cells + mc ≤ R.cells ∧ slots + ms ≤ R.slots) :
    va_Run p l e R s m args below meth c H locs cells slots mc ms g rest (Qc (Value.ref b :: As).toArray) free := by
  obtain ⟨⟨hrc, hrs, hfr, hlo, hws, hcw⟩, hcode, hini, hy, hlen, hl, hin, hse⟩ := cw
  have hK : Back l R p e below s args y 3 8 (PreOf R mc ms Pc) (PostOf Qc mc ms free) := va_backW (hh := hh) (bytes := bytes) (maxL := maxL) (ret := ret) hM hp.1 hrc hrs hfr hlo hws hcw (fun a' U hW => word_at hW (Or.inl (by first | rfl | simp [Cond.onTables, Cond.keeps, Cond.steady])) hini)
  obtain ⟨hx, hb, hml, ho, -⟩ := S
  obtain ⟨-, ⟨cellB, hcB, hoB, hclB⟩, hPc⟩ := hp
  intro T hT X
  obtain ⟨v, vm₁, ⟨U', l2, c2, s2⟩, hW₁, X', ⟨g', mk, t, L, e1, e2, hq, h1, hL, h2, h3⟩, st⟩ := vx_callVW X hx (C := C) (hh := hh) (bytes := bytes) (maxL := maxL) (ret := ret) ho hl hin hse hcode hy hK (by rw [hT]; exact hcB) hoB hclB hg (hsize.trans hml.symm) (argsL := As) (rest := rest) (fun sig h => hn.trans (hlen sig h)) hstack hW (by rw [hb]; exact hdg)
    (fun vm₁ hW₁ => ⟨hf.1, hf.2, hPc (T.setVm vm₁) hT hW₁⟩)
  dsimp only [Pt.U, Pt.locs, Pt.cells, Pt.slots] at X' e1 e2 h1 h2 h3 st
  subst h1; subst h2; subst h3
  exact ⟨v, (T.setVm vm₁).calling g' mk (Value.ref b :: As).toArray, t, U', L, hT, X', hL, e1, e2, hq, st⟩
section
variable {y : MethodName} {bytes cc : ByteArray} {maxL nL mc ms n index : Nat} {ret : Option FieldType} {ws : List Cond} {rm : Room} {Pc : Array Value → State → Prop} {Qc : Array Value → State → Outcome → State → Prop} {XC : String → State → State → Prop} {free : Addr → Prop} {Ts : List Cond} {own C : String} {b : Addr} {As rest : List Value} {g : JFrame}
theorem vx_runVX {hh : List (Nat × Nat × Nat × Nat)} (S : CallFix p m c cc nL s args Ts own) (hM : vx_Met l y ws rm Pc Qc XC mc ms free) (cw : vx_CVW R s args own C index y bytes maxL ret hh ws rm mc ms n) (hp : PreV s H C b Pc As)
    (hg : g.method = m) (hn : As.length = n) (hsize : g.locals.size = nL) (hstack : g.stack = As.reverse ++ .ref b :: rest) (hW : 2 * g.monitorRoom + (rest.map fun v => v.category).sum ≤ 8) (hdg : decode cc g.pc = .ok (.invokevirtual index, 3)) (hf : cells + mc ≤ R.cells ∧ slots + ms ≤ R.slots) :
    vx_Run p l e R s m args below meth c H locs cells slots mc ms g rest (Qc (Value.ref b :: As).toArray) XC free := by
  obtain ⟨⟨hrc, hrs, hfr, hlo, hws, hcw⟩, hcode, hini, hy, hlen, hl, hin, hse⟩ := cw
  have hK : vx_Back l R p e below s args y 3 8 (PreOf R mc ms Pc) (PostOf Qc mc ms free) (vx_Post XC mc ms free) := vx_backW (hh := hh) (bytes := bytes) (maxL := maxL) (ret := ret) hM hp.1 hrc hrs hfr hlo hws hcw (fun a' U hW => word_at hW (Or.inl (by first | rfl | simp [Cond.onTables, Cond.keeps, Cond.steady])) hini)
  obtain ⟨hx, hb, hml, ho, -⟩ := S
  obtain ⟨-, ⟨cellB, hcB, hoB, hclB⟩, hPc⟩ := hp
  intro T hT X
  rcases vx_callVX X hx (C := C) (hh := hh) (bytes := bytes) (maxL := maxL) (ret := ret) ho hl hin hse hcode hy hK (by rw [hT]; exact hcB) hoB hclB hg (hsize.trans hml.symm) (argsL := As) (rest := rest) (fun sig h => hn.trans (hlen sig h)) hstack hW (by rw [hb]; exact hdg)
    (fun vm₁ hW₁ => ⟨hf.1, hf.2, hPc (T.setVm vm₁) hT hW₁⟩) with ⟨v, vm₁, ⟨U', l2, c2, s2⟩, hW₁, X', ⟨g', mk, t, L, e1, e2, hq, h1, hL, h2, h3⟩, st⟩ | ⟨q, vm₁, ⟨U', l2, c2, s2⟩, hW₁, X', ⟨g', mk, t, L, E, ce, e1, e2, hq, hce, hcv, hcl, h1, hL, h2, h3⟩, st⟩
  · dsimp only [Pt.U, Pt.locs, Pt.cells, Pt.slots] at X' e1 e2 h1 h2 h3 st
    subst h1; subst h2; subst h3
    exact Or.inl ⟨v, (T.setVm vm₁).calling g' mk (Value.ref b :: As).toArray, t, U', L, hT, X', hL, e1, e2, hq, st⟩
  · dsimp only [Pt.U, Pt.locs, Pt.cells, Pt.slots] at X' e1 e2 h1 h2 h3 st hcl
    subst h1; subst h2; subst h3
    exact Or.inr ⟨q, (T.setVm vm₁).calling g' mk (Value.ref b :: As).toArray, t, U', L, E, ce, hT, X', hL, e1, e2, hq, hce, hcv, vx_cls hW₁ hcl, st⟩
theorem vx_runSX {hh : List (Nat × Nat × Nat × Nat)} (S : CallFix p m c cc nL s args Ts own) (hM : vx_Met l y ws rm Pc Qc XC mc ms free) (cw : vx_CSW R s args own index y bytes maxL ret hh ws rm mc ms n) (hp : PreS s H Pc As)
    (hg : g.method = m) (hn : As.length = n) (hsize : g.locals.size = nL) (hstack : g.stack = As.reverse ++ rest) (hW : 2 * g.monitorRoom + (rest.map fun v => v.category).sum ≤ 8) (hdg : decode cc g.pc = .ok (.invokestatic index, 3)) (hf : cells + mc ≤ R.cells ∧ slots + ms ≤ R.slots) :
    vx_Run p l e R s m args below meth c H locs cells slots mc ms g rest (Qc As.toArray) XC free := by
  obtain ⟨⟨hrc, hrs, hfr, hlo, hws, hcw⟩, hcode, hini, hy, hlen, hl, hstt⟩ := cw
  have hK : vx_Back l R p e below s args y 3 8 (PreOf R mc ms Pc) (PostOf Qc mc ms free) (vx_Post XC mc ms free) := vx_backW (hh := hh) (bytes := bytes) (maxL := maxL) (ret := ret) hM hp.1 hrc hrs hfr hlo hws hcw (fun a' U hW => word_at hW (Or.inl (by first | rfl | simp [Cond.onTables, Cond.keeps, Cond.steady])) hini)
  obtain ⟨hx, hb, hml, ho, -⟩ := S
  intro T hT X
  rcases vx_callSX X hx (hh := hh) (bytes := bytes) (maxL := maxL) (ret := ret) ho hl hstt hini hcode hy hK hg (hsize.trans hml.symm) (argsL := As) (rest := rest) (fun sig h => hn.trans (hlen sig h)) hstack hW (by rw [hb]; exact hdg)
    (fun vm₁ hW₁ => ⟨hf.1, hf.2, hp.2 (T.setVm vm₁) hT hW₁⟩) with ⟨v, vm₁, ⟨U', l2, c2, s2⟩, hW₁, X', ⟨g', mk, t, L, e1, e2, hq, h1, hL, h2, h3⟩, st⟩ | ⟨q, vm₁, ⟨U', l2, c2, s2⟩, hW₁, X', ⟨g', mk, t, L, E, ce, e1, e2, hq, hce, hcv, hcl, h1, hL, h2, h3⟩, st⟩
  · dsimp only [Pt.U, Pt.locs, Pt.cells, Pt.slots] at X' e1 e2 h1 h2 h3 st
    subst h1; subst h2; subst h3
    exact Or.inl ⟨v, (T.setVm vm₁).calling g' mk As.toArray, t, U', L, hT, X', hL, e1, e2, hq, st⟩
  · dsimp only [Pt.U, Pt.locs, Pt.cells, Pt.slots] at X' e1 e2 h1 h2 h3 st hcl
    subst h1; subst h2; subst h3
    exact Or.inr ⟨q, (T.setVm vm₁).calling g' mk As.toArray, t, U', L, E, ce, hT, X', hL, e1, e2, hq, hce, hcv, vx_cls hW₁ hcl, st⟩
end
end VXH
theorem vx_ofWH {l : Launch} {y : MethodName} {ws ws' : List Cond} {rm : Room} {Pc : Array Value → State → Prop} {Qc : Array Value → State → Outcome → State → Prop} {XC : String → State → State → Prop} {mc ms : Nat} {free : Addr → Prop} {cc : ByteArray} {maxL : Nat} {ret : Option FieldType} {hh : List (Nat × Nat × Nat × Nat)}
    (hy : plainName y.cls = true) (hw : ws = Cond.codeWith y cc maxL ret hh :: ws')
    (body : ∀ p e s m args below meth c s₁, BodyLoose p l y (headSpec ws rm) cc maxL ret e s m args below meth c s₁ → c.maxLocals = maxL → Pc args s →
      W p l e (headSpec ws rm).room s m args below meth c s.heap [] 0 0 (vx_MQ below Qc XC args s mc ms free) (entryFrame m args maxL)) : vx_Met l y ws rm Pc Qc XC mc ms free := by
  refine MetFree.of_bodyS (code := cc) (maxLocals := maxL) (ret := ret) hy ?_ ?_
  · intro args s m h hn
    obtain ⟨m9, meth, c, hn9, h1, h2, h3, h4, -, h5, h6, -⟩ := Cond.codeWith_spec (atoms_spec (ws := ws) h _ (by rw [hw]; exact List.mem_cons_self))
    cases hn.symm.trans hn9
    exact ⟨meth, c, h1, h2, h3, h4, h5, h6⟩
  · intro p e s m args below meth c s₁ B hml hP _
    have hh0 : s₁.heap = s.heap := by rw [B.state]; rfl
    obtain ⟨t, a1, o, b1, b2, b3⟩ := body p e s m args below meth c s₁ B hml hP s₁ hh0 (Stand.of_body B)
    exact ⟨t, o, a1, b1, b2, b3⟩
/-! ===== END ===== -/

/-! ===== BEGIN printed: names, fields, word lists, decode rows ===== -/
def RX0 : String := "Rulesheet$Build"
def TX0 : u_T := fun k => match k with
  | 0 => ("Rulesheet$Build", "levels", "[I", true)
  | _ => ("Rulesheet$Build", "held", "I", false)
def tyX0 : Nat → FieldType := fun k => match k with
  | 0 => .array .int
  | _ => .int
abbrev wsX00 : List Cond := u_ws RX0 TX0 2
theorem nmX0 : ∀ a, a < 2 → ∀ b, b < 2 → a ≠ b → (TX0 a).2.1 ≠ (TX0 b).2.1 := by decide +kernel
theorem tyX0_ok : ∀ k, k < 2 → parseFieldDescriptor (TX0 k).2.2.1 = some (tyX0 k) := by decide +kernel
abbrev cX0_init : ByteArray := prog_2_method_1_code
def yX0_init : MethodName := ⟨RX0, "<init>", "()V"⟩
abbrev cX0_empty : ByteArray := prog_2_method_2_code
def yX0_empty : MethodName := ⟨RX0, "empty", "()V"⟩
abbrev cX0_has : ByteArray := prog_2_method_3_code
def yX0_has : MethodName := ⟨RX0, "has", "(I)Z"⟩
abbrev cX0_heldCount : ByteArray := prog_2_method_4_code
def yX0_heldCount : MethodName := ⟨RX0, "heldCount", "()I"⟩
abbrev cX0_levelIn : ByteArray := prog_2_method_5_code
def yX0_levelIn : MethodName := ⟨RX0, "levelIn", "(I)I"⟩
abbrev cX0_levelInAll : ByteArray := prog_2_method_6_code
def yX0_levelInAll : MethodName := ⟨RX0, "levelInAll", "()I"⟩
abbrev cX0_changeLevel : ByteArray := prog_2_method_7_code
def yX0_changeLevel : MethodName := ⟨RX0, "changeLevel", "(II)V"⟩
abbrev cX0_goOn : ByteArray := prog_2_method_8_code
def yX0_goOn : MethodName := ⟨RX0, "goOn", "(I)V"⟩
abbrev cX0_goBack : ByteArray := prog_2_method_9_code
def yX0_goBack : MethodName := ⟨RX0, "goBack", "(I)V"⟩
def RX1 : String := "Rulesheet$GiftRules"
def TX1 : u_T := fun k => match k with
  | 0 => ("Rulesheet$GiftRules", "ability", "[I", true)
  | 1 => ("Rulesheet$GiftRules", "score", "[I", true)
  | 2 => ("Rulesheet$GiftRules", "calling", "[I", true)
  | 3 => ("Rulesheet$GiftRules", "level", "[I", true)
  | 4 => ("Rulesheet$GiftRules", "other", "[I", true)
  | 5 => ("Rulesheet$GiftRules", "barCalling", "[I", true)
  | 6 => ("Rulesheet$GiftRules", "barLevel", "[I", true)
  | 7 => ("Rulesheet$GiftRules", "bonusValue", "[I", true)
  | 8 => ("Rulesheet$GiftRules", "bonusKind", "[I", true)
  | _ => ("Rulesheet$GiftRules", "bonusAmount", "[I", true)
def tyX1 : Nat → FieldType := fun k => match k with
  | 0 => .array .int
  | 1 => .array .int
  | 2 => .array .int
  | 3 => .array .int
  | 4 => .array .int
  | 5 => .array .int
  | 6 => .array .int
  | 7 => .array .int
  | 8 => .array .int
  | _ => .array .int
abbrev wsX10 : List Cond := u_ws RX1 TX1 10
theorem nmX1 : ∀ a, a < 10 → ∀ b, b < 10 → a ≠ b → (TX1 a).2.1 ≠ (TX1 b).2.1 := by decide +kernel
theorem tyX1_ok : ∀ k, k < 10 → parseFieldDescriptor (TX1 k).2.2.1 = some (tyX1 k) := by decide +kernel
abbrev cX1_init : ByteArray := prog_3_method_1_code
def yX1_init : MethodName := ⟨RX1, "<init>", "()V"⟩
def RX2 : String := "Rulesheet$ValueRules"
def TX2 : u_T := fun k => match k with
  | 0 => ("Rulesheet$ValueRules", "base", "[I", true)
  | 1 => ("Rulesheet$ValueRules", "ability", "[I", true)
  | 2 => ("Rulesheet$ValueRules", "calling", "[I", true)
  | _ => ("Rulesheet$ValueRules", "other", "[I", true)
def tyX2 : Nat → FieldType := fun k => match k with
  | 0 => .array .int
  | 1 => .array .int
  | 2 => .array .int
  | _ => .array .int
abbrev wsX20 : List Cond := u_ws RX2 TX2 4
theorem nmX2 : ∀ a, a < 4 → ∀ b, b < 4 → a ≠ b → (TX2 a).2.1 ≠ (TX2 b).2.1 := by decide +kernel
theorem tyX2_ok : ∀ k, k < 4 → parseFieldDescriptor (TX2 k).2.2.1 = some (tyX2 k) := by decide +kernel
abbrev cX2_init : ByteArray := prog_4_method_1_code
def yX2_init : MethodName := ⟨RX2, "<init>", "()V"⟩
def RX3 : String := "Rulesheet"
def TX3 : u_T := fun k => match k with
  | 0 => ("Rulesheet", "giftRules", "LRulesheet$GiftRules;", true)
  | 1 => ("Rulesheet", "valueRules", "LRulesheet$ValueRules;", true)
  | 2 => ("Rulesheet", "scores", "[I", true)
  | 3 => ("Rulesheet", "character", "LRulesheet$Build;", true)
  | 4 => ("Rulesheet", "taken", "[I", true)
  | 5 => ("Rulesheet", "takenCount", "I", false)
  | 6 => ("Rulesheet", "trial", "LRulesheet$Build;", true)
  | _ => ("Rulesheet", "endings", "[I", true)
def tyX3 : Nat → FieldType := fun k => match k with
  | 0 => .object "Rulesheet$GiftRules"
  | 1 => .object "Rulesheet$ValueRules"
  | 2 => .array .int
  | 3 => .object "Rulesheet$Build"
  | 4 => .array .int
  | 5 => .int
  | 6 => .object "Rulesheet$Build"
  | _ => .array .int
abbrev wsX30 : List Cond := u_ws RX3 TX3 8
theorem nmX3 : ∀ a, a < 8 → ∀ b, b < 8 → a ≠ b → (TX3 a).2.1 ≠ (TX3 b).2.1 := by decide +kernel
theorem tyX3_ok : ∀ k, k < 8 → parseFieldDescriptor (TX3 k).2.2.1 = some (tyX3 k) := by decide +kernel
abbrev cX3_init : ByteArray := prog_1_method_1_code
def yX3_init : MethodName := ⟨RX3, "<init>", "()V"⟩
abbrev cX3_setNeeds : ByteArray := prog_1_method_2_code
def yX3_setNeeds : MethodName := ⟨RX3, "setNeeds", "(IIIIII)V"⟩
abbrev cX3_bar : ByteArray := prog_1_method_3_code
def yX3_bar : MethodName := ⟨RX3, "bar", "(III)V"⟩
abbrev cX3_setBonus : ByteArray := prog_1_method_4_code
def yX3_setBonus : MethodName := ⟨RX3, "setBonus", "(IIII)V"⟩
abbrev cX3_setValue : ByteArray := prog_1_method_5_code
def yX3_setValue : MethodName := ⟨RX3, "setValue", "(IIIII)V"⟩
abbrev cX3_setScore : ByteArray := prog_1_method_6_code
def yX3_setScore : MethodName := ⟨RX3, "setScore", "(II)I"⟩
abbrev cX3_takeLevel : ByteArray := prog_1_method_7_code
def yX3_takeLevel : MethodName := ⟨RX3, "takeLevel", "(I)I"⟩
abbrev cX3_takeGift : ByteArray := prog_1_method_8_code
def yX3_takeGift : MethodName := ⟨RX3, "takeGift", "(I)I"⟩
abbrev cX3_loseLevel : ByteArray := prog_1_method_9_code
def yX3_loseLevel : MethodName := ⟨RX3, "loseLevel", "()I"⟩
abbrev cX3_exchange : ByteArray := prog_1_method_10_code
def yX3_exchange : MethodName := ⟨RX3, "exchange", "(II)I"⟩
abbrev cX3_clear : ByteArray := prog_1_method_11_code
def yX3_clear : MethodName := ⟨RX3, "clear", "()I"⟩
abbrev cX3_level : ByteArray := prog_1_method_12_code
def yX3_level : MethodName := ⟨RX3, "level", "(I)I"⟩
abbrev cX3_gifts : ByteArray := prog_1_method_13_code
def yX3_gifts : MethodName := ⟨RX3, "gifts", "()I"⟩
abbrev cX3_working : ByteArray := prog_1_method_14_code
def yX3_working : MethodName := ⟨RX3, "working", "()I"⟩
abbrev cX3_open : ByteArray := prog_1_method_15_code
def yX3_open : MethodName := ⟨RX3, "open", "()I"⟩
abbrev cX3_places : ByteArray := prog_1_method_16_code
def yX3_places : MethodName := ⟨RX3, "places", "()I"⟩
abbrev cX3_points : ByteArray := prog_1_method_17_code
def yX3_points : MethodName := ⟨RX3, "points", "()I"⟩
abbrev cX3_value : ByteArray := prog_1_method_18_code
def yX3_value : MethodName := ⟨RX3, "value", "(I)I"⟩
abbrev cX3_bonus : ByteArray := prog_1_method_19_code
def yX3_bonus : MethodName := ⟨RX3, "bonus", "(II)I"⟩
abbrev cX3_isRing : ByteArray := prog_1_method_20_code
def yX3_isRing : MethodName := ⟨RX3, "isRing", "(I)Z"⟩
abbrev cX3_attack : ByteArray := prog_1_method_21_code
def yX3_attack : MethodName := ⟨RX3, "attack", "()I"⟩
abbrev cX3_isLawful : ByteArray := prog_1_method_22_code
def yX3_isLawful : MethodName := ⟨RX3, "isLawful", "()Z"⟩
abbrev cX3_isLawfulByOrders : ByteArray := prog_1_method_23_code
def yX3_isLawfulByOrders : MethodName := ⟨RX3, "isLawfulByOrders", "()Z"⟩
abbrev cX3_stepAt : ByteArray := prog_1_method_24_code
def yX3_stepAt : MethodName := ⟨RX3, "stepAt", "(I)I"⟩
abbrev cX3_isAmong : ByteArray := prog_1_method_25_code
def yX3_isAmong : MethodName := ⟨RX3, "isAmong", "(II)Z"⟩
abbrev cX3_isAmongOrNone : ByteArray := prog_1_method_26_code
def yX3_isAmongOrNone : MethodName := ⟨RX3, "isAmongOrNone", "(II)Z"⟩
abbrev cX3_isFromTo : ByteArray := prog_1_method_27_code
def yX3_isFromTo : MethodName := ⟨RX3, "isFromTo", "(III)Z"⟩
abbrev cX3_costOf : ByteArray := prog_1_method_28_code
def yX3_costOf : MethodName := ⟨RX3, "costOf", "(I)I"⟩
abbrev cX3_pointsLeft : ByteArray := prog_1_method_29_code
def yX3_pointsLeft : MethodName := ⟨RX3, "pointsLeft", "()I"⟩
abbrev cX3_modifierOf : ByteArray := prog_1_method_30_code
def yX3_modifierOf : MethodName := ⟨RX3, "modifierOf", "(I)I"⟩
abbrev cX3_placesAt : ByteArray := prog_1_method_31_code
def yX3_placesAt : MethodName := ⟨RX3, "placesAt", "(I)I"⟩
abbrev cX3_hasScoreFor : ByteArray := prog_1_method_32_code
def yX3_hasScoreFor : MethodName := ⟨RX3, "hasScoreFor", "(I)Z"⟩
abbrev cX3_hasLevelFor : ByteArray := prog_1_method_33_code
def yX3_hasLevelFor : MethodName := ⟨RX3, "hasLevelFor", "(LRulesheet$Build;I)Z"⟩
abbrev cX3_isOtherIn : ByteArray := prog_1_method_34_code
def yX3_isOtherIn : MethodName := ⟨RX3, "isOtherIn", "(II)Z"⟩
abbrev cX3_isBarred : ByteArray := prog_1_method_35_code
def yX3_isBarred : MethodName := ⟨RX3, "isBarred", "(LRulesheet$Build;I)Z"⟩
abbrev cX3_mayTake : ByteArray := prog_1_method_36_code
def yX3_mayTake : MethodName := ⟨RX3, "mayTake", "(LRulesheet$Build;I)Z"⟩
abbrev cX3_workingAmong : ByteArray := prog_1_method_37_code
def yX3_workingAmong : MethodName := ⟨RX3, "workingAmong", "(I)I"⟩
abbrev cX3_bonusFrom : ByteArray := prog_1_method_38_code
def yX3_bonusFrom : MethodName := ⟨RX3, "bonusFrom", "(III)I"⟩
abbrev cX3_sumOf : ByteArray := prog_1_method_39_code
def yX3_sumOf : MethodName := ⟨RX3, "sumOf", "(III)I"⟩
abbrev cX3_leadsIntoRing : ByteArray := prog_1_method_40_code
def yX3_leadsIntoRing : MethodName := ⟨RX3, "leadsIntoRing", "(I)Z"⟩
abbrev cX3_stepCount : ByteArray := prog_1_method_41_code
def yX3_stepCount : MethodName := ⟨RX3, "stepCount", "()I"⟩
abbrev cX3_isStepTowards : ByteArray := prog_1_method_42_code
def yX3_isStepTowards : MethodName := ⟨RX3, "isStepTowards", "(II)Z"⟩
abbrev cX3_canReach : ByteArray := prog_1_method_43_code
def yX3_canReach : MethodName := ⟨RX3, "canReach", "(I)Z"⟩
abbrev cX3_markSets : ByteArray := prog_1_method_44_code
def yX3_markSets : MethodName := ⟨RX3, "markSets", "(I)V"⟩
abbrev cX3_firstStepTowards : ByteArray := prog_1_method_45_code
def yX3_firstStepTowards : MethodName := ⟨RX3, "firstStepTowards", "(I)I"⟩
abbrev cX3_stepOfFirstOrder : ByteArray := prog_1_method_46_code
def yX3_stepOfFirstOrder : MethodName := ⟨RX3, "stepOfFirstOrder", "(I)I"⟩
abbrev cX3_wordOfTrial : ByteArray := prog_1_method_47_code
def yX3_wordOfTrial : MethodName := ⟨RX3, "wordOfTrial", "()I"⟩
abbrev cX3_bitOfTrial : ByteArray := prog_1_method_48_code
def yX3_bitOfTrial : MethodName := ⟨RX3, "bitOfTrial", "()I"⟩
abbrev cX3_mark : ByteArray := prog_1_method_49_code
def yX3_mark : MethodName := ⟨RX3, "mark", "()V"⟩
abbrev cX3_isMarked : ByteArray := prog_1_method_50_code
def yX3_isMarked : MethodName := ⟨RX3, "isMarked", "()Z"⟩
abbrev cX3_someOrderEnds : ByteArray := prog_1_method_51_code
def yX3_someOrderEnds : MethodName := ⟨RX3, "someOrderEnds", "(I)Z"⟩
def RX4 : String := "RulesheetModel"
def TX4 : u_T := fun k => match k with
  | 0 => ("RulesheetModel", "score", "[I", true)
  | 1 => ("RulesheetModel", "taken", "[I", true)
  | 2 => ("RulesheetModel", "level", "[I", true)
  | 3 => ("RulesheetModel", "levels", "I", false)
  | 4 => ("RulesheetModel", "gifts", "I", false)
  | 5 => ("RulesheetModel", "needAbility", "[I", true)
  | 6 => ("RulesheetModel", "needScore", "[I", true)
  | 7 => ("RulesheetModel", "needCalling", "[I", true)
  | 8 => ("RulesheetModel", "needLevel", "[I", true)
  | 9 => ("RulesheetModel", "needGift", "[I", true)
  | 10 => ("RulesheetModel", "barCalling", "[I", true)
  | 11 => ("RulesheetModel", "barLevel", "[I", true)
  | 12 => ("RulesheetModel", "bonusValue", "[I", true)
  | 13 => ("RulesheetModel", "bonusKind", "[I", true)
  | 14 => ("RulesheetModel", "amount", "[I", true)
  | 15 => ("RulesheetModel", "base", "[I", true)
  | 16 => ("RulesheetModel", "ofAbility", "[I", true)
  | 17 => ("RulesheetModel", "ofCalling", "[I", true)
  | 18 => ("RulesheetModel", "ofValue", "[I", true)
  | 19 => ("RulesheetModel", "leads", "[Z", true)
  | _ => ("RulesheetModel", "thrown", "I", false)
def tyX4 : Nat → FieldType := fun k => match k with
  | 0 => .array .int
  | 1 => .array .int
  | 2 => .array .int
  | 3 => .int
  | 4 => .int
  | 5 => .array .int
  | 6 => .array .int
  | 7 => .array .int
  | 8 => .array .int
  | 9 => .array .int
  | 10 => .array .int
  | 11 => .array .int
  | 12 => .array .int
  | 13 => .array .int
  | 14 => .array .int
  | 15 => .array .int
  | 16 => .array .int
  | 17 => .array .int
  | 18 => .array .int
  | 19 => .array .boolean
  | _ => .int
abbrev wsX40 : List Cond := u_ws RX4 TX4 21
theorem nmX4 : ∀ a, a < 21 → ∀ b, b < 21 → a ≠ b → (TX4 a).2.1 ≠ (TX4 b).2.1 := by decide +kernel
theorem tyX4_ok : ∀ k, k < 21 → parseFieldDescriptor (TX4 k).2.2.1 = some (tyX4 k) := by decide +kernel
abbrev cX4_init : ByteArray := prog_6_method_1_code
def yX4_init : MethodName := ⟨RX4, "<init>", "()V"⟩
abbrev cX4_thrown : ByteArray := prog_6_method_2_code
def yX4_thrown : MethodName := ⟨RX4, "thrown", "()I"⟩
abbrev cX4_in : ByteArray := prog_6_method_3_code
def yX4_in : MethodName := ⟨RX4, "in", "(III)Z"⟩
abbrev cX4_goes : ByteArray := prog_6_method_4_code
def yX4_goes : MethodName := ⟨RX4, "goes", "(ZZZ)Z"⟩
abbrev cX4_told : ByteArray := prog_6_method_5_code
def yX4_told : MethodName := ⟨RX4, "told", "(I)I"⟩
abbrev cX4_isGift : ByteArray := prog_6_method_6_code
def yX4_isGift : MethodName := ⟨RX4, "isGift", "(I)Z"⟩
abbrev cX4_isCalling : ByteArray := prog_6_method_7_code
def yX4_isCalling : MethodName := ⟨RX4, "isCalling", "(I)Z"⟩
abbrev cX4_isValue : ByteArray := prog_6_method_8_code
def yX4_isValue : MethodName := ⟨RX4, "isValue", "(I)Z"⟩
abbrev cX4_has : ByteArray := prog_6_method_9_code
def yX4_has : MethodName := ⟨RX4, "has", "(II)Z"⟩
abbrev cX4_many : ByteArray := prog_6_method_10_code
def yX4_many : MethodName := ⟨RX4, "many", "(I)I"⟩
abbrev cX4_half : ByteArray := prog_6_method_11_code
def yX4_half : MethodName := ⟨RX4, "half", "(I)I"⟩
abbrev cX4_setNeeds : ByteArray := prog_6_method_12_code
def yX4_setNeeds : MethodName := ⟨RX4, "setNeeds", "(IIIIII)V"⟩
abbrev cX4_bar : ByteArray := prog_6_method_13_code
def yX4_bar : MethodName := ⟨RX4, "bar", "(III)V"⟩
abbrev cX4_setBonus : ByteArray := prog_6_method_14_code
def yX4_setBonus : MethodName := ⟨RX4, "setBonus", "(IIII)V"⟩
abbrev cX4_setValue : ByteArray := prog_6_method_15_code
def yX4_setValue : MethodName := ⟨RX4, "setValue", "(IIIII)V"⟩
abbrev cX4_costOf : ByteArray := prog_6_method_16_code
def yX4_costOf : MethodName := ⟨RX4, "costOf", "(I)I"⟩
abbrev cX4_cost : ByteArray := prog_6_method_17_code
def yX4_cost : MethodName := ⟨RX4, "cost", "()I"⟩
abbrev cX4_setScore : ByteArray := prog_6_method_18_code
def yX4_setScore : MethodName := ⟨RX4, "setScore", "(II)I"⟩
abbrev cX4_takeLevel : ByteArray := prog_6_method_19_code
def yX4_takeLevel : MethodName := ⟨RX4, "takeLevel", "(I)I"⟩
abbrev cX4_areScores : ByteArray := prog_6_method_20_code
def yX4_areScores : MethodName := ⟨RX4, "areScores", "(I)Z"⟩
abbrev cX4_mayTake : ByteArray := prog_6_method_21_code
def yX4_mayTake : MethodName := ⟨RX4, "mayTake", "(IIIII)Z"⟩
abbrev cX4_mayTakeNow : ByteArray := prog_6_method_22_code
def yX4_mayTakeNow : MethodName := ⟨RX4, "mayTakeNow", "(I)Z"⟩
abbrev cX4_takeGift : ByteArray := prog_6_method_23_code
def yX4_takeGift : MethodName := ⟨RX4, "takeGift", "(I)I"⟩
abbrev cX4_loseLevel : ByteArray := prog_6_method_24_code
def yX4_loseLevel : MethodName := ⟨RX4, "loseLevel", "()I"⟩
abbrev cX4_workingOf : ByteArray := prog_6_method_25_code
def yX4_workingOf : MethodName := ⟨RX4, "workingOf", "(I)I"⟩
abbrev cX4_exchange : ByteArray := prog_6_method_26_code
def yX4_exchange : MethodName := ⟨RX4, "exchange", "(II)I"⟩
abbrev cX4_clear : ByteArray := prog_6_method_27_code
def yX4_clear : MethodName := ⟨RX4, "clear", "()I"⟩
abbrev cX4_level : ByteArray := prog_6_method_28_code
def yX4_level : MethodName := ⟨RX4, "level", "(I)I"⟩
abbrev cX4_gifts : ByteArray := prog_6_method_29_code
def yX4_gifts : MethodName := ⟨RX4, "gifts", "()I"⟩
abbrev cX4_working : ByteArray := prog_6_method_30_code
def yX4_working : MethodName := ⟨RX4, "working", "()I"⟩
abbrev cX4_open : ByteArray := prog_6_method_31_code
def yX4_open : MethodName := ⟨RX4, "open", "()I"⟩
abbrev cX4_places : ByteArray := prog_6_method_32_code
def yX4_places : MethodName := ⟨RX4, "places", "()I"⟩
abbrev cX4_points : ByteArray := prog_6_method_33_code
def yX4_points : MethodName := ⟨RX4, "points", "()I"⟩
abbrev cX4_bonusOf : ByteArray := prog_6_method_34_code
def yX4_bonusOf : MethodName := ⟨RX4, "bonusOf", "(II)I"⟩
abbrev cX4_isEndless : ByteArray := prog_6_method_35_code
def yX4_isEndless : MethodName := ⟨RX4, "isEndless", "(I)Z"⟩
abbrev cX4_alone : ByteArray := prog_6_method_36_code
def yX4_alone : MethodName := ⟨RX4, "alone", "(I)I"⟩
abbrev cX4_value : ByteArray := prog_6_method_37_code
def yX4_value : MethodName := ⟨RX4, "value", "(I)I"⟩
abbrev cX4_bonus : ByteArray := prog_6_method_38_code
def yX4_bonus : MethodName := ⟨RX4, "bonus", "(II)I"⟩
abbrev cX4_isRing : ByteArray := prog_6_method_39_code
def yX4_isRing : MethodName := ⟨RX4, "isRing", "(I)Z"⟩
abbrev cX4_attack : ByteArray := prog_6_method_40_code
def yX4_attack : MethodName := ⟨RX4, "attack", "()I"⟩
abbrev cX4_place : ByteArray := prog_6_method_41_code
def yX4_place : MethodName := ⟨RX4, "place", "(IIII)I"⟩
abbrev cX4_leadsOn : ByteArray := prog_6_method_42_code
def yX4_leadsOn : MethodName := ⟨RX4, "leadsOn", "(IIIII)Z"⟩
abbrev cX4_isLawfulWith : ByteArray := prog_6_method_43_code
def yX4_isLawfulWith : MethodName := ⟨RX4, "isLawfulWith", "(I)Z"⟩
abbrev cX4_isLawful : ByteArray := prog_6_method_44_code
def yX4_isLawful : MethodName := ⟨RX4, "isLawful", "()Z"⟩
abbrev cX4_isLawfulByOrders : ByteArray := prog_6_method_45_code
def yX4_isLawfulByOrders : MethodName := ⟨RX4, "isLawfulByOrders", "()Z"⟩
abbrev cX4_firstStep : ByteArray := prog_6_method_46_code
def yX4_firstStep : MethodName := ⟨RX4, "firstStep", "(IIII)I"⟩
abbrev cX4_stepAt : ByteArray := prog_6_method_47_code
def yX4_stepAt : MethodName := ⟨RX4, "stepAt", "(I)I"⟩
def RJx145de : String := "java/io/Serializable"
def TJx145de : u_T := fun k => match k with
  | _ => ("", "", "", false)
def tyJx145de : Nat → FieldType := fun k => match k with
  | _ => .int
theorem nmJx145de : ∀ a, a < 0 → ∀ b, b < 0 → a ≠ b → (TJx145de a).2.1 ≠ (TJx145de b).2.1 := by decide +kernel
theorem tyJx145de_ok : ∀ k, k < 0 → parseFieldDescriptor (TJx145de k).2.2.1 = some (tyJx145de k) := by decide +kernel
def RJ6 : String := "java/lang/Integer"
def TJ6 : u_T := fun k => match k with
  | _ => ("", "", "", false)
def tyJ6 : Nat → FieldType := fun k => match k with
  | _ => .int
theorem nmJ6 : ∀ a, a < 0 → ∀ b, b < 0 → a ≠ b → (TJ6 a).2.1 ≠ (TJ6 b).2.1 := by decide +kernel
theorem tyJ6_ok : ∀ k, k < 0 → parseFieldDescriptor (TJ6 k).2.2.1 = some (tyJ6 k) := by decide +kernel
abbrev cJ6_bitCount_0f7a4 : ByteArray := prog_11_method_49_code
def yJ6_bitCount_0f7a4 : MethodName := ⟨RJ6, "bitCount", "(I)I"⟩
def RJ9 : String := "java/lang/Math"
def TJ9 : u_T := fun k => match k with
  | _ => ("", "", "", false)
def tyJ9 : Nat → FieldType := fun k => match k with
  | _ => .int
theorem nmJ9 : ∀ a, a < 0 → ∀ b, b < 0 → a ≠ b → (TJ9 a).2.1 ≠ (TJ9 b).2.1 := by decide +kernel
theorem tyJ9_ok : ∀ k, k < 0 → parseFieldDescriptor (TJ9 k).2.2.1 = some (tyJ9 k) := by decide +kernel
abbrev cJ9_floorDiv_7cf53 : ByteArray := prog_12_method_47_code
def yJ9_floorDiv_7cf53 : MethodName := ⟨RJ9, "floorDiv", "(II)I"⟩
abbrev cJ9_max_7cf53 : ByteArray := prog_12_method_65_code
def yJ9_max_7cf53 : MethodName := ⟨RJ9, "max", "(II)I"⟩
def RJ0 : String := "java/lang/String"
def TJ0 : u_T := fun k => match k with
  | _ => ("", "", "", false)
def tyJ0 : Nat → FieldType := fun k => match k with
  | _ => .int
theorem nmJ0 : ∀ a, a < 0 → ∀ b, b < 0 → a ≠ b → (TJ0 a).2.1 ≠ (TJ0 b).2.1 := by decide +kernel
theorem tyJ0_ok : ∀ k, k < 0 → parseFieldDescriptor (TJ0 k).2.2.1 = some (tyJ0 k) := by decide +kernel
def RJ7 : String := "java/util/Arrays"
def TJ7 : u_T := fun k => match k with
  | _ => ("", "", "", false)
def tyJ7 : Nat → FieldType := fun k => match k with
  | _ => .int
theorem nmJ7 : ∀ a, a < 0 → ∀ b, b < 0 → a ≠ b → (TJ7 a).2.1 ≠ (TJ7 b).2.1 := by decide +kernel
theorem tyJ7_ok : ∀ k, k < 0 → parseFieldDescriptor (TJ7 k).2.2.1 = some (tyJ7 k) := by decide +kernel
abbrev cJ7_fill_53178 : ByteArray := prog_16_method_103_code
def yJ7_fill_53178 : MethodName := ⟨RJ7, "fill", "([II)V"⟩
def RL : String := "RulesheetLaw"
abbrev cL_setNeeds : ByteArray := method_3_code
def yL_setNeeds : MethodName := ⟨RL, "setNeeds", "(LRulesheet;IIIIII)I"⟩
abbrev cL_bar : ByteArray := method_4_code
def yL_bar : MethodName := ⟨RL, "bar", "(LRulesheet;III)I"⟩
abbrev cL_setBonus : ByteArray := method_5_code
def yL_setBonus : MethodName := ⟨RL, "setBonus", "(LRulesheet;IIII)I"⟩
abbrev cL_setValue : ByteArray := method_6_code
def yL_setValue : MethodName := ⟨RL, "setValue", "(LRulesheet;IIIII)I"⟩
abbrev cL_setScore : ByteArray := method_7_code
def yL_setScore : MethodName := ⟨RL, "setScore", "(LRulesheet;II[J)I"⟩
abbrev cL_takeLevel : ByteArray := method_8_code
def yL_takeLevel : MethodName := ⟨RL, "takeLevel", "(LRulesheet;I[J)I"⟩
abbrev cL_takeGift : ByteArray := method_9_code
def yL_takeGift : MethodName := ⟨RL, "takeGift", "(LRulesheet;I[J)I"⟩
abbrev cL_loseLevel : ByteArray := method_10_code
def yL_loseLevel : MethodName := ⟨RL, "loseLevel", "(LRulesheet;[J)I"⟩
abbrev cL_exchange : ByteArray := method_11_code
def yL_exchange : MethodName := ⟨RL, "exchange", "(LRulesheet;II[J)I"⟩
abbrev cL_level : ByteArray := method_12_code
def yL_level : MethodName := ⟨RL, "level", "(LRulesheet;I[J)I"⟩
abbrev cL_value : ByteArray := method_13_code
def yL_value : MethodName := ⟨RL, "value", "(LRulesheet;I[J)I"⟩
abbrev cL_bonus : ByteArray := method_14_code
def yL_bonus : MethodName := ⟨RL, "bonus", "(LRulesheet;II[J)I"⟩
abbrev cL_isRing : ByteArray := method_15_code
def yL_isRing : MethodName := ⟨RL, "isRing", "(LRulesheet;I[J)I"⟩
abbrev cL_isLawfulByOrders : ByteArray := method_16_code
def yL_isLawfulByOrders : MethodName := ⟨RL, "isLawfulByOrders", "(LRulesheet;[J)I"⟩
abbrev cL_stepAt : ByteArray := method_17_code
def yL_stepAt : MethodName := ⟨RL, "stepAt", "(LRulesheet;I[J)I"⟩
abbrev cL_law : ByteArray := code
def yL_law : MethodName := ⟨RL, "law", "([I)Z"⟩
abbrev vwCl : List vw_C := [(RX0, TX0, 2), (RX1, TX1, 10), (RX2, TX2, 4), (RX3, TX3, 8), (RX4, TX4, 21)]
end
section
theorem dX0_init_0 : decode cX0_init 0 = .ok (.aload_n 0, 1) := by decide +kernel
theorem dX0_init_1 : decode cX0_init 1 = .ok (.invokespecial 3, 3) := by decide +kernel
theorem dX0_init_4 : decode cX0_init 4 = .ok (.aload_n 0, 1) := by decide +kernel
theorem dX0_init_5 : decode cX0_init 5 = .ok (.iconst 3, 1) := by decide +kernel
theorem dX0_init_6 : decode cX0_init 6 = .ok (.newarray .int, 2) := by decide +kernel
theorem dX0_init_8 : decode cX0_init 8 = .ok (.putfield 9, 3) := by decide +kernel
theorem dX0_init_11 : decode cX0_init 11 = .ok (.aload_n 0, 1) := by decide +kernel
theorem dX0_init_12 : decode cX0_init 12 = .ok (.iconst 0, 1) := by decide +kernel
theorem dX0_init_13 : decode cX0_init 13 = .ok (.putfield 15, 3) := by decide +kernel
theorem dX0_init_16 : decode cX0_init 16 = .ok (.return_, 1) := by decide +kernel
theorem dX0_empty_0 : decode cX0_empty 0 = .ok (.aload_n 0, 1) := by decide +kernel
theorem dX0_empty_1 : decode cX0_empty 1 = .ok (.getfield 9, 3) := by decide +kernel
theorem dX0_empty_4 : decode cX0_empty 4 = .ok (.iconst 0, 1) := by decide +kernel
theorem dX0_empty_5 : decode cX0_empty 5 = .ok (.invokestatic 19, 3) := by decide +kernel
theorem dX0_empty_8 : decode cX0_empty 8 = .ok (.aload_n 0, 1) := by decide +kernel
theorem dX0_empty_9 : decode cX0_empty 9 = .ok (.iconst 0, 1) := by decide +kernel
theorem dX0_empty_10 : decode cX0_empty 10 = .ok (.putfield 15, 3) := by decide +kernel
theorem dX0_empty_13 : decode cX0_empty 13 = .ok (.return_, 1) := by decide +kernel
theorem dX0_has_0 : decode cX0_has 0 = .ok (.aload_n 0, 1) := by decide +kernel
theorem dX0_has_1 : decode cX0_has 1 = .ok (.getfield 15, 3) := by decide +kernel
theorem dX0_has_4 : decode cX0_has 4 = .ok (.iload_n 1, 1) := by decide +kernel
theorem dX0_has_5 : decode cX0_has 5 = .ok (.ishr, 1) := by decide +kernel
theorem dX0_has_6 : decode cX0_has 6 = .ok (.iconst 1, 1) := by decide +kernel
theorem dX0_has_7 : decode cX0_has 7 = .ok (.iand, 1) := by decide +kernel
theorem dX0_has_8 : decode cX0_has 8 = .ok (.ifCond .eq 7, 3) := by decide +kernel
theorem dX0_has_11 : decode cX0_has 11 = .ok (.iconst 1, 1) := by decide +kernel
theorem dX0_has_12 : decode cX0_has 12 = .ok (.goto 4, 3) := by decide +kernel
theorem dX0_has_15 : decode cX0_has 15 = .ok (.iconst 0, 1) := by decide +kernel
theorem dX0_has_16 : decode cX0_has 16 = .ok (.ireturn, 1) := by decide +kernel
theorem dX0_heldCount_0 : decode cX0_heldCount 0 = .ok (.aload_n 0, 1) := by decide +kernel
theorem dX0_heldCount_1 : decode cX0_heldCount 1 = .ok (.getfield 15, 3) := by decide +kernel
theorem dX0_heldCount_4 : decode cX0_heldCount 4 = .ok (.invokestatic 25, 3) := by decide +kernel
theorem dX0_heldCount_7 : decode cX0_heldCount 7 = .ok (.ireturn, 1) := by decide +kernel
theorem dX0_levelIn_0 : decode cX0_levelIn 0 = .ok (.iload_n 1, 1) := by decide +kernel
theorem dX0_levelIn_1 : decode cX0_levelIn 1 = .ok (.ifCond .lt 17, 3) := by decide +kernel
theorem dX0_levelIn_4 : decode cX0_levelIn 4 = .ok (.iload_n 1, 1) := by decide +kernel
theorem dX0_levelIn_5 : decode cX0_levelIn 5 = .ok (.iconst 3, 1) := by decide +kernel
theorem dX0_levelIn_6 : decode cX0_levelIn 6 = .ok (.if_icmp .ge 12, 3) := by decide +kernel
theorem dX0_levelIn_9 : decode cX0_levelIn 9 = .ok (.aload_n 0, 1) := by decide +kernel
theorem dX0_levelIn_10 : decode cX0_levelIn 10 = .ok (.getfield 9, 3) := by decide +kernel
theorem dX0_levelIn_13 : decode cX0_levelIn 13 = .ok (.iload_n 1, 1) := by decide +kernel
theorem dX0_levelIn_14 : decode cX0_levelIn 14 = .ok (.iaload, 1) := by decide +kernel
theorem dX0_levelIn_15 : decode cX0_levelIn 15 = .ok (.goto 4, 3) := by decide +kernel
theorem dX0_levelIn_18 : decode cX0_levelIn 18 = .ok (.iconst 0, 1) := by decide +kernel
theorem dX0_levelIn_19 : decode cX0_levelIn 19 = .ok (.ireturn, 1) := by decide +kernel
theorem dX0_levelInAll_0 : decode cX0_levelInAll 0 = .ok (.iconst 0, 1) := by decide +kernel
theorem dX0_levelInAll_1 : decode cX0_levelInAll 1 = .ok (.istore_n 1, 1) := by decide +kernel
theorem dX0_levelInAll_2 : decode cX0_levelInAll 2 = .ok (.iconst 0, 1) := by decide +kernel
theorem dX0_levelInAll_3 : decode cX0_levelInAll 3 = .ok (.istore_n 2, 1) := by decide +kernel
theorem dX0_levelInAll_4 : decode cX0_levelInAll 4 = .ok (.iload_n 2, 1) := by decide +kernel
theorem dX0_levelInAll_5 : decode cX0_levelInAll 5 = .ok (.iconst 3, 1) := by decide +kernel
theorem dX0_levelInAll_6 : decode cX0_levelInAll 6 = .ok (.if_icmp .ge 18, 3) := by decide +kernel
theorem dX0_levelInAll_9 : decode cX0_levelInAll 9 = .ok (.iload_n 1, 1) := by decide +kernel
theorem dX0_levelInAll_10 : decode cX0_levelInAll 10 = .ok (.aload_n 0, 1) := by decide +kernel
theorem dX0_levelInAll_11 : decode cX0_levelInAll 11 = .ok (.getfield 9, 3) := by decide +kernel
theorem dX0_levelInAll_14 : decode cX0_levelInAll 14 = .ok (.iload_n 2, 1) := by decide +kernel
theorem dX0_levelInAll_15 : decode cX0_levelInAll 15 = .ok (.iaload, 1) := by decide +kernel
theorem dX0_levelInAll_16 : decode cX0_levelInAll 16 = .ok (.iadd, 1) := by decide +kernel
theorem dX0_levelInAll_17 : decode cX0_levelInAll 17 = .ok (.istore_n 1, 1) := by decide +kernel
theorem dX0_levelInAll_18 : decode cX0_levelInAll 18 = .ok (.iinc 2 1, 3) := by decide +kernel
theorem dX0_levelInAll_21 : decode cX0_levelInAll 21 = .ok (.goto (-17), 3) := by decide +kernel
theorem dX0_levelInAll_24 : decode cX0_levelInAll 24 = .ok (.iload_n 1, 1) := by decide +kernel
theorem dX0_levelInAll_25 : decode cX0_levelInAll 25 = .ok (.ireturn, 1) := by decide +kernel
theorem dX0_changeLevel_0 : decode cX0_changeLevel 0 = .ok (.iload_n 1, 1) := by decide +kernel
theorem dX0_changeLevel_1 : decode cX0_changeLevel 1 = .ok (.iconst 3, 1) := by decide +kernel
theorem dX0_changeLevel_2 : decode cX0_changeLevel 2 = .ok (.invokestatic 31, 3) := by decide +kernel
theorem dX0_changeLevel_5 : decode cX0_changeLevel 5 = .ok (.ifCond .eq 13, 3) := by decide +kernel
theorem dX0_changeLevel_8 : decode cX0_changeLevel 8 = .ok (.aload_n 0, 1) := by decide +kernel
theorem dX0_changeLevel_9 : decode cX0_changeLevel 9 = .ok (.getfield 9, 3) := by decide +kernel
theorem dX0_changeLevel_12 : decode cX0_changeLevel 12 = .ok (.iload_n 1, 1) := by decide +kernel
theorem dX0_changeLevel_13 : decode cX0_changeLevel 13 = .ok (.dup2, 1) := by decide +kernel
theorem dX0_changeLevel_14 : decode cX0_changeLevel 14 = .ok (.iaload, 1) := by decide +kernel
theorem dX0_changeLevel_15 : decode cX0_changeLevel 15 = .ok (.iload_n 2, 1) := by decide +kernel
theorem dX0_changeLevel_16 : decode cX0_changeLevel 16 = .ok (.iadd, 1) := by decide +kernel
theorem dX0_changeLevel_17 : decode cX0_changeLevel 17 = .ok (.iastore, 1) := by decide +kernel
theorem dX0_changeLevel_18 : decode cX0_changeLevel 18 = .ok (.return_, 1) := by decide +kernel
theorem dX0_goOn_0 : decode cX0_goOn 0 = .ok (.iload_n 1, 1) := by decide +kernel
theorem dX0_goOn_1 : decode cX0_goOn 1 = .ok (.iconst 3, 1) := by decide +kernel
theorem dX0_goOn_2 : decode cX0_goOn 2 = .ok (.if_icmp .lt 20, 3) := by decide +kernel
theorem dX0_goOn_5 : decode cX0_goOn 5 = .ok (.aload_n 0, 1) := by decide +kernel
theorem dX0_goOn_6 : decode cX0_goOn 6 = .ok (.dup, 1) := by decide +kernel
theorem dX0_goOn_7 : decode cX0_goOn 7 = .ok (.getfield 15, 3) := by decide +kernel
theorem dX0_goOn_10 : decode cX0_goOn 10 = .ok (.iconst 1, 1) := by decide +kernel
theorem dX0_goOn_11 : decode cX0_goOn 11 = .ok (.iload_n 1, 1) := by decide +kernel
theorem dX0_goOn_12 : decode cX0_goOn 12 = .ok (.iconst 3, 1) := by decide +kernel
theorem dX0_goOn_13 : decode cX0_goOn 13 = .ok (.isub, 1) := by decide +kernel
theorem dX0_goOn_14 : decode cX0_goOn 14 = .ok (.ishl, 1) := by decide +kernel
theorem dX0_goOn_15 : decode cX0_goOn 15 = .ok (.ior, 1) := by decide +kernel
theorem dX0_goOn_16 : decode cX0_goOn 16 = .ok (.putfield 15, 3) := by decide +kernel
theorem dX0_goOn_19 : decode cX0_goOn 19 = .ok (.goto 9, 3) := by decide +kernel
theorem dX0_goOn_22 : decode cX0_goOn 22 = .ok (.aload_n 0, 1) := by decide +kernel
theorem dX0_goOn_23 : decode cX0_goOn 23 = .ok (.iload_n 1, 1) := by decide +kernel
theorem dX0_goOn_24 : decode cX0_goOn 24 = .ok (.iconst 1, 1) := by decide +kernel
theorem dX0_goOn_25 : decode cX0_goOn 25 = .ok (.invokevirtual 35, 3) := by decide +kernel
theorem dX0_goOn_28 : decode cX0_goOn 28 = .ok (.return_, 1) := by decide +kernel
theorem dX0_goBack_0 : decode cX0_goBack 0 = .ok (.iload_n 1, 1) := by decide +kernel
theorem dX0_goBack_1 : decode cX0_goBack 1 = .ok (.iconst 3, 1) := by decide +kernel
theorem dX0_goBack_2 : decode cX0_goBack 2 = .ok (.if_icmp .lt 22, 3) := by decide +kernel
theorem dX0_goBack_5 : decode cX0_goBack 5 = .ok (.aload_n 0, 1) := by decide +kernel
theorem dX0_goBack_6 : decode cX0_goBack 6 = .ok (.dup, 1) := by decide +kernel
theorem dX0_goBack_7 : decode cX0_goBack 7 = .ok (.getfield 15, 3) := by decide +kernel
theorem dX0_goBack_10 : decode cX0_goBack 10 = .ok (.iconst 1, 1) := by decide +kernel
theorem dX0_goBack_11 : decode cX0_goBack 11 = .ok (.iload_n 1, 1) := by decide +kernel
theorem dX0_goBack_12 : decode cX0_goBack 12 = .ok (.iconst 3, 1) := by decide +kernel
theorem dX0_goBack_13 : decode cX0_goBack 13 = .ok (.isub, 1) := by decide +kernel
theorem dX0_goBack_14 : decode cX0_goBack 14 = .ok (.ishl, 1) := by decide +kernel
theorem dX0_goBack_15 : decode cX0_goBack 15 = .ok (.iconst (-1), 1) := by decide +kernel
theorem dX0_goBack_16 : decode cX0_goBack 16 = .ok (.ixor, 1) := by decide +kernel
theorem dX0_goBack_17 : decode cX0_goBack 17 = .ok (.iand, 1) := by decide +kernel
theorem dX0_goBack_18 : decode cX0_goBack 18 = .ok (.putfield 15, 3) := by decide +kernel
theorem dX0_goBack_21 : decode cX0_goBack 21 = .ok (.goto 9, 3) := by decide +kernel
theorem dX0_goBack_24 : decode cX0_goBack 24 = .ok (.aload_n 0, 1) := by decide +kernel
theorem dX0_goBack_25 : decode cX0_goBack 25 = .ok (.iload_n 1, 1) := by decide +kernel
theorem dX0_goBack_26 : decode cX0_goBack 26 = .ok (.iconst (-1), 1) := by decide +kernel
theorem dX0_goBack_27 : decode cX0_goBack 27 = .ok (.invokevirtual 35, 3) := by decide +kernel
theorem dX0_goBack_30 : decode cX0_goBack 30 = .ok (.return_, 1) := by decide +kernel
theorem dX1_init_0 : decode cX1_init 0 = .ok (.aload_n 0, 1) := by decide +kernel
theorem dX1_init_1 : decode cX1_init 1 = .ok (.invokespecial 3, 3) := by decide +kernel
theorem dX1_init_4 : decode cX1_init 4 = .ok (.aload_n 0, 1) := by decide +kernel
theorem dX1_init_5 : decode cX1_init 5 = .ok (.bipush 8, 2) := by decide +kernel
theorem dX1_init_7 : decode cX1_init 7 = .ok (.newarray .int, 2) := by decide +kernel
theorem dX1_init_9 : decode cX1_init 9 = .ok (.putfield 9, 3) := by decide +kernel
theorem dX1_init_12 : decode cX1_init 12 = .ok (.aload_n 0, 1) := by decide +kernel
theorem dX1_init_13 : decode cX1_init 13 = .ok (.bipush 8, 2) := by decide +kernel
theorem dX1_init_15 : decode cX1_init 15 = .ok (.newarray .int, 2) := by decide +kernel
theorem dX1_init_17 : decode cX1_init 17 = .ok (.putfield 15, 3) := by decide +kernel
theorem dX1_init_20 : decode cX1_init 20 = .ok (.aload_n 0, 1) := by decide +kernel
theorem dX1_init_21 : decode cX1_init 21 = .ok (.bipush 8, 2) := by decide +kernel
theorem dX1_init_23 : decode cX1_init 23 = .ok (.newarray .int, 2) := by decide +kernel
theorem dX1_init_25 : decode cX1_init 25 = .ok (.putfield 18, 3) := by decide +kernel
theorem dX1_init_28 : decode cX1_init 28 = .ok (.aload_n 0, 1) := by decide +kernel
theorem dX1_init_29 : decode cX1_init 29 = .ok (.bipush 8, 2) := by decide +kernel
theorem dX1_init_31 : decode cX1_init 31 = .ok (.newarray .int, 2) := by decide +kernel
theorem dX1_init_33 : decode cX1_init 33 = .ok (.putfield 21, 3) := by decide +kernel
theorem dX1_init_36 : decode cX1_init 36 = .ok (.aload_n 0, 1) := by decide +kernel
theorem dX1_init_37 : decode cX1_init 37 = .ok (.bipush 8, 2) := by decide +kernel
theorem dX1_init_39 : decode cX1_init 39 = .ok (.newarray .int, 2) := by decide +kernel
theorem dX1_init_41 : decode cX1_init 41 = .ok (.putfield 24, 3) := by decide +kernel
theorem dX1_init_44 : decode cX1_init 44 = .ok (.aload_n 0, 1) := by decide +kernel
theorem dX1_init_45 : decode cX1_init 45 = .ok (.bipush 8, 2) := by decide +kernel
theorem dX1_init_47 : decode cX1_init 47 = .ok (.newarray .int, 2) := by decide +kernel
theorem dX1_init_49 : decode cX1_init 49 = .ok (.putfield 27, 3) := by decide +kernel
theorem dX1_init_52 : decode cX1_init 52 = .ok (.aload_n 0, 1) := by decide +kernel
theorem dX1_init_53 : decode cX1_init 53 = .ok (.bipush 8, 2) := by decide +kernel
theorem dX1_init_55 : decode cX1_init 55 = .ok (.newarray .int, 2) := by decide +kernel
theorem dX1_init_57 : decode cX1_init 57 = .ok (.putfield 30, 3) := by decide +kernel
theorem dX1_init_60 : decode cX1_init 60 = .ok (.aload_n 0, 1) := by decide +kernel
theorem dX1_init_61 : decode cX1_init 61 = .ok (.bipush 8, 2) := by decide +kernel
theorem dX1_init_63 : decode cX1_init 63 = .ok (.newarray .int, 2) := by decide +kernel
theorem dX1_init_65 : decode cX1_init 65 = .ok (.putfield 33, 3) := by decide +kernel
theorem dX1_init_68 : decode cX1_init 68 = .ok (.aload_n 0, 1) := by decide +kernel
theorem dX1_init_69 : decode cX1_init 69 = .ok (.bipush 8, 2) := by decide +kernel
theorem dX1_init_71 : decode cX1_init 71 = .ok (.newarray .int, 2) := by decide +kernel
theorem dX1_init_73 : decode cX1_init 73 = .ok (.putfield 36, 3) := by decide +kernel
theorem dX1_init_76 : decode cX1_init 76 = .ok (.aload_n 0, 1) := by decide +kernel
theorem dX1_init_77 : decode cX1_init 77 = .ok (.bipush 8, 2) := by decide +kernel
theorem dX1_init_79 : decode cX1_init 79 = .ok (.newarray .int, 2) := by decide +kernel
theorem dX1_init_81 : decode cX1_init 81 = .ok (.putfield 39, 3) := by decide +kernel
theorem dX1_init_84 : decode cX1_init 84 = .ok (.aload_n 0, 1) := by decide +kernel
theorem dX1_init_85 : decode cX1_init 85 = .ok (.getfield 9, 3) := by decide +kernel
theorem dX1_init_88 : decode cX1_init 88 = .ok (.iconst (-1), 1) := by decide +kernel
theorem dX1_init_89 : decode cX1_init 89 = .ok (.invokestatic 42, 3) := by decide +kernel
theorem dX1_init_92 : decode cX1_init 92 = .ok (.aload_n 0, 1) := by decide +kernel
theorem dX1_init_93 : decode cX1_init 93 = .ok (.getfield 18, 3) := by decide +kernel
theorem dX1_init_96 : decode cX1_init 96 = .ok (.iconst (-1), 1) := by decide +kernel
theorem dX1_init_97 : decode cX1_init 97 = .ok (.invokestatic 42, 3) := by decide +kernel
theorem dX1_init_100 : decode cX1_init 100 = .ok (.aload_n 0, 1) := by decide +kernel
theorem dX1_init_101 : decode cX1_init 101 = .ok (.getfield 24, 3) := by decide +kernel
theorem dX1_init_104 : decode cX1_init 104 = .ok (.iconst (-1), 1) := by decide +kernel
theorem dX1_init_105 : decode cX1_init 105 = .ok (.invokestatic 42, 3) := by decide +kernel
theorem dX1_init_108 : decode cX1_init 108 = .ok (.aload_n 0, 1) := by decide +kernel
theorem dX1_init_109 : decode cX1_init 109 = .ok (.getfield 27, 3) := by decide +kernel
theorem dX1_init_112 : decode cX1_init 112 = .ok (.iconst (-1), 1) := by decide +kernel
theorem dX1_init_113 : decode cX1_init 113 = .ok (.invokestatic 42, 3) := by decide +kernel
theorem dX1_init_116 : decode cX1_init 116 = .ok (.aload_n 0, 1) := by decide +kernel
theorem dX1_init_117 : decode cX1_init 117 = .ok (.getfield 33, 3) := by decide +kernel
theorem dX1_init_120 : decode cX1_init 120 = .ok (.iconst (-1), 1) := by decide +kernel
theorem dX1_init_121 : decode cX1_init 121 = .ok (.invokestatic 42, 3) := by decide +kernel
theorem dX1_init_124 : decode cX1_init 124 = .ok (.return_, 1) := by decide +kernel
theorem dX2_init_0 : decode cX2_init 0 = .ok (.aload_n 0, 1) := by decide +kernel
theorem dX2_init_1 : decode cX2_init 1 = .ok (.invokespecial 3, 3) := by decide +kernel
theorem dX2_init_4 : decode cX2_init 4 = .ok (.aload_n 0, 1) := by decide +kernel
theorem dX2_init_5 : decode cX2_init 5 = .ok (.bipush 6, 2) := by decide +kernel
theorem dX2_init_7 : decode cX2_init 7 = .ok (.newarray .int, 2) := by decide +kernel
theorem dX2_init_9 : decode cX2_init 9 = .ok (.putfield 9, 3) := by decide +kernel
theorem dX2_init_12 : decode cX2_init 12 = .ok (.aload_n 0, 1) := by decide +kernel
theorem dX2_init_13 : decode cX2_init 13 = .ok (.bipush 6, 2) := by decide +kernel
theorem dX2_init_15 : decode cX2_init 15 = .ok (.newarray .int, 2) := by decide +kernel
theorem dX2_init_17 : decode cX2_init 17 = .ok (.putfield 15, 3) := by decide +kernel
theorem dX2_init_20 : decode cX2_init 20 = .ok (.aload_n 0, 1) := by decide +kernel
theorem dX2_init_21 : decode cX2_init 21 = .ok (.bipush 6, 2) := by decide +kernel
theorem dX2_init_23 : decode cX2_init 23 = .ok (.newarray .int, 2) := by decide +kernel
theorem dX2_init_25 : decode cX2_init 25 = .ok (.putfield 18, 3) := by decide +kernel
theorem dX2_init_28 : decode cX2_init 28 = .ok (.aload_n 0, 1) := by decide +kernel
theorem dX2_init_29 : decode cX2_init 29 = .ok (.bipush 6, 2) := by decide +kernel
theorem dX2_init_31 : decode cX2_init 31 = .ok (.newarray .int, 2) := by decide +kernel
theorem dX2_init_33 : decode cX2_init 33 = .ok (.putfield 21, 3) := by decide +kernel
theorem dX2_init_36 : decode cX2_init 36 = .ok (.aload_n 0, 1) := by decide +kernel
theorem dX2_init_37 : decode cX2_init 37 = .ok (.getfield 15, 3) := by decide +kernel
theorem dX2_init_40 : decode cX2_init 40 = .ok (.iconst (-1), 1) := by decide +kernel
theorem dX2_init_41 : decode cX2_init 41 = .ok (.invokestatic 24, 3) := by decide +kernel
theorem dX2_init_44 : decode cX2_init 44 = .ok (.aload_n 0, 1) := by decide +kernel
theorem dX2_init_45 : decode cX2_init 45 = .ok (.getfield 18, 3) := by decide +kernel
theorem dX2_init_48 : decode cX2_init 48 = .ok (.iconst (-1), 1) := by decide +kernel
theorem dX2_init_49 : decode cX2_init 49 = .ok (.invokestatic 24, 3) := by decide +kernel
theorem dX2_init_52 : decode cX2_init 52 = .ok (.aload_n 0, 1) := by decide +kernel
theorem dX2_init_53 : decode cX2_init 53 = .ok (.getfield 21, 3) := by decide +kernel
theorem dX2_init_56 : decode cX2_init 56 = .ok (.iconst (-1), 1) := by decide +kernel
theorem dX2_init_57 : decode cX2_init 57 = .ok (.invokestatic 24, 3) := by decide +kernel
theorem dX2_init_60 : decode cX2_init 60 = .ok (.return_, 1) := by decide +kernel
theorem dX3_init_0 : decode cX3_init 0 = .ok (.aload_n 0, 1) := by decide +kernel
theorem dX3_init_1 : decode cX3_init 1 = .ok (.invokespecial 3, 3) := by decide +kernel
theorem dX3_init_4 : decode cX3_init 4 = .ok (.aload_n 0, 1) := by decide +kernel
theorem dX3_init_5 : decode cX3_init 5 = .ok (.new 9, 3) := by decide +kernel
theorem dX3_init_8 : decode cX3_init 8 = .ok (.dup, 1) := by decide +kernel
theorem dX3_init_9 : decode cX3_init 9 = .ok (.invokespecial 11, 3) := by decide +kernel
theorem dX3_init_12 : decode cX3_init 12 = .ok (.putfield 12, 3) := by decide +kernel
theorem dX3_init_15 : decode cX3_init 15 = .ok (.aload_n 0, 1) := by decide +kernel
theorem dX3_init_16 : decode cX3_init 16 = .ok (.new 16, 3) := by decide +kernel
theorem dX3_init_19 : decode cX3_init 19 = .ok (.dup, 1) := by decide +kernel
theorem dX3_init_20 : decode cX3_init 20 = .ok (.invokespecial 18, 3) := by decide +kernel
theorem dX3_init_23 : decode cX3_init 23 = .ok (.putfield 19, 3) := by decide +kernel
theorem dX3_init_26 : decode cX3_init 26 = .ok (.aload_n 0, 1) := by decide +kernel
theorem dX3_init_27 : decode cX3_init 27 = .ok (.iconst 4, 1) := by decide +kernel
theorem dX3_init_28 : decode cX3_init 28 = .ok (.newarray .int, 2) := by decide +kernel
theorem dX3_init_30 : decode cX3_init 30 = .ok (.putfield 23, 3) := by decide +kernel
theorem dX3_init_33 : decode cX3_init 33 = .ok (.aload_n 0, 1) := by decide +kernel
theorem dX3_init_34 : decode cX3_init 34 = .ok (.new 27, 3) := by decide +kernel
theorem dX3_init_37 : decode cX3_init 37 = .ok (.dup, 1) := by decide +kernel
theorem dX3_init_38 : decode cX3_init 38 = .ok (.invokespecial 29, 3) := by decide +kernel
theorem dX3_init_41 : decode cX3_init 41 = .ok (.putfield 30, 3) := by decide +kernel
theorem dX3_init_44 : decode cX3_init 44 = .ok (.aload_n 0, 1) := by decide +kernel
theorem dX3_init_45 : decode cX3_init 45 = .ok (.bipush 8, 2) := by decide +kernel
theorem dX3_init_47 : decode cX3_init 47 = .ok (.newarray .int, 2) := by decide +kernel
theorem dX3_init_49 : decode cX3_init 49 = .ok (.putfield 34, 3) := by decide +kernel
theorem dX3_init_52 : decode cX3_init 52 = .ok (.aload_n 0, 1) := by decide +kernel
theorem dX3_init_53 : decode cX3_init 53 = .ok (.iconst 0, 1) := by decide +kernel
theorem dX3_init_54 : decode cX3_init 54 = .ok (.putfield 37, 3) := by decide +kernel
theorem dX3_init_57 : decode cX3_init 57 = .ok (.aload_n 0, 1) := by decide +kernel
theorem dX3_init_58 : decode cX3_init 58 = .ok (.new 27, 3) := by decide +kernel
theorem dX3_init_61 : decode cX3_init 61 = .ok (.dup, 1) := by decide +kernel
theorem dX3_init_62 : decode cX3_init 62 = .ok (.invokespecial 29, 3) := by decide +kernel
theorem dX3_init_65 : decode cX3_init 65 = .ok (.putfield 41, 3) := by decide +kernel
theorem dX3_init_68 : decode cX3_init 68 = .ok (.aload_n 0, 1) := by decide +kernel
theorem dX3_init_69 : decode cX3_init 69 = .ok (.sipush 384, 3) := by decide +kernel
theorem dX3_init_72 : decode cX3_init 72 = .ok (.newarray .int, 2) := by decide +kernel
theorem dX3_init_74 : decode cX3_init 74 = .ok (.putfield 44, 3) := by decide +kernel
theorem dX3_init_77 : decode cX3_init 77 = .ok (.aload_n 0, 1) := by decide +kernel
theorem dX3_init_78 : decode cX3_init 78 = .ok (.getfield 23, 3) := by decide +kernel
theorem dX3_init_81 : decode cX3_init 81 = .ok (.bipush 8, 2) := by decide +kernel
theorem dX3_init_83 : decode cX3_init 83 = .ok (.invokestatic 47, 3) := by decide +kernel
theorem dX3_init_86 : decode cX3_init 86 = .ok (.return_, 1) := by decide +kernel
theorem dX3_setNeeds_0 : decode cX3_setNeeds 0 = .ok (.iload_n 1, 1) := by decide +kernel
theorem dX3_setNeeds_1 : decode cX3_setNeeds 1 = .ok (.bipush 8, 2) := by decide +kernel
theorem dX3_setNeeds_3 : decode cX3_setNeeds 3 = .ok (.invokestatic 53, 3) := by decide +kernel
theorem dX3_setNeeds_6 : decode cX3_setNeeds 6 = .ok (.ifCond .eq 30, 3) := by decide +kernel
theorem dX3_setNeeds_9 : decode cX3_setNeeds 9 = .ok (.iload_n 2, 1) := by decide +kernel
theorem dX3_setNeeds_10 : decode cX3_setNeeds 10 = .ok (.iconst 4, 1) := by decide +kernel
theorem dX3_setNeeds_11 : decode cX3_setNeeds 11 = .ok (.invokestatic 57, 3) := by decide +kernel
theorem dX3_setNeeds_14 : decode cX3_setNeeds 14 = .ok (.ifCond .eq 22, 3) := by decide +kernel
theorem dX3_setNeeds_17 : decode cX3_setNeeds 17 = .ok (.iload 4, 2) := by decide +kernel
theorem dX3_setNeeds_19 : decode cX3_setNeeds 19 = .ok (.iconst 3, 1) := by decide +kernel
theorem dX3_setNeeds_20 : decode cX3_setNeeds 20 = .ok (.invokestatic 57, 3) := by decide +kernel
theorem dX3_setNeeds_23 : decode cX3_setNeeds 23 = .ok (.ifCond .eq 13, 3) := by decide +kernel
theorem dX3_setNeeds_26 : decode cX3_setNeeds 26 = .ok (.iload 6, 2) := by decide +kernel
theorem dX3_setNeeds_28 : decode cX3_setNeeds 28 = .ok (.bipush 8, 2) := by decide +kernel
theorem dX3_setNeeds_30 : decode cX3_setNeeds 30 = .ok (.invokestatic 57, 3) := by decide +kernel
theorem dX3_setNeeds_33 : decode cX3_setNeeds 33 = .ok (.ifCond .ne 13, 3) := by decide +kernel
theorem dX3_setNeeds_36 : decode cX3_setNeeds 36 = .ok (.new 60, 3) := by decide +kernel
theorem dX3_setNeeds_39 : decode cX3_setNeeds 39 = .ok (.dup, 1) := by decide +kernel
theorem dX3_setNeeds_40 : decode cX3_setNeeds 40 = .ok (.ldc 62, 2) := by decide +kernel
theorem dX3_setNeeds_42 : decode cX3_setNeeds 42 = .ok (.invokespecial 64, 3) := by decide +kernel
theorem dX3_setNeeds_45 : decode cX3_setNeeds 45 = .ok (.athrow, 1) := by decide +kernel
theorem dX3_setNeeds_46 : decode cX3_setNeeds 46 = .ok (.iload_n 2, 1) := by decide +kernel
theorem dX3_setNeeds_47 : decode cX3_setNeeds 47 = .ok (.iconst (-1), 1) := by decide +kernel
theorem dX3_setNeeds_48 : decode cX3_setNeeds 48 = .ok (.if_icmp .eq 24, 3) := by decide +kernel
theorem dX3_setNeeds_51 : decode cX3_setNeeds 51 = .ok (.iload_n 3, 1) := by decide +kernel
theorem dX3_setNeeds_52 : decode cX3_setNeeds 52 = .ok (.bipush 8, 2) := by decide +kernel
theorem dX3_setNeeds_54 : decode cX3_setNeeds 54 = .ok (.bipush 16, 2) := by decide +kernel
theorem dX3_setNeeds_56 : decode cX3_setNeeds 56 = .ok (.invokestatic 67, 3) := by decide +kernel
theorem dX3_setNeeds_59 : decode cX3_setNeeds 59 = .ok (.ifCond .ne 13, 3) := by decide +kernel
theorem dX3_setNeeds_62 : decode cX3_setNeeds 62 = .ok (.new 71, 3) := by decide +kernel
theorem dX3_setNeeds_65 : decode cX3_setNeeds 65 = .ok (.dup, 1) := by decide +kernel
theorem dX3_setNeeds_66 : decode cX3_setNeeds 66 = .ok (.ldc 73, 2) := by decide +kernel
theorem dX3_setNeeds_68 : decode cX3_setNeeds 68 = .ok (.invokespecial 75, 3) := by decide +kernel
theorem dX3_setNeeds_71 : decode cX3_setNeeds 71 = .ok (.athrow, 1) := by decide +kernel
theorem dX3_setNeeds_72 : decode cX3_setNeeds 72 = .ok (.iload 4, 2) := by decide +kernel
theorem dX3_setNeeds_74 : decode cX3_setNeeds 74 = .ok (.iconst (-1), 1) := by decide +kernel
theorem dX3_setNeeds_75 : decode cX3_setNeeds 75 = .ok (.if_icmp .eq 24, 3) := by decide +kernel
theorem dX3_setNeeds_78 : decode cX3_setNeeds 78 = .ok (.iload 5, 2) := by decide +kernel
theorem dX3_setNeeds_80 : decode cX3_setNeeds 80 = .ok (.iconst 1, 1) := by decide +kernel
theorem dX3_setNeeds_81 : decode cX3_setNeeds 81 = .ok (.bipush 8, 2) := by decide +kernel
theorem dX3_setNeeds_83 : decode cX3_setNeeds 83 = .ok (.invokestatic 67, 3) := by decide +kernel
theorem dX3_setNeeds_86 : decode cX3_setNeeds 86 = .ok (.ifCond .ne 13, 3) := by decide +kernel
theorem dX3_setNeeds_89 : decode cX3_setNeeds 89 = .ok (.new 71, 3) := by decide +kernel
theorem dX3_setNeeds_92 : decode cX3_setNeeds 92 = .ok (.dup, 1) := by decide +kernel
theorem dX3_setNeeds_93 : decode cX3_setNeeds 93 = .ok (.ldc 76, 2) := by decide +kernel
theorem dX3_setNeeds_95 : decode cX3_setNeeds 95 = .ok (.invokespecial 75, 3) := by decide +kernel
theorem dX3_setNeeds_98 : decode cX3_setNeeds 98 = .ok (.athrow, 1) := by decide +kernel
theorem dX3_setNeeds_99 : decode cX3_setNeeds 99 = .ok (.aload_n 0, 1) := by decide +kernel
theorem dX3_setNeeds_100 : decode cX3_setNeeds 100 = .ok (.getfield 12, 3) := by decide +kernel
theorem dX3_setNeeds_103 : decode cX3_setNeeds 103 = .ok (.getfield 78, 3) := by decide +kernel
theorem dX3_setNeeds_106 : decode cX3_setNeeds 106 = .ok (.iload_n 1, 1) := by decide +kernel
theorem dX3_setNeeds_107 : decode cX3_setNeeds 107 = .ok (.iload_n 2, 1) := by decide +kernel
theorem dX3_setNeeds_108 : decode cX3_setNeeds 108 = .ok (.iastore, 1) := by decide +kernel
theorem dX3_setNeeds_109 : decode cX3_setNeeds 109 = .ok (.aload_n 0, 1) := by decide +kernel
theorem dX3_setNeeds_110 : decode cX3_setNeeds 110 = .ok (.getfield 12, 3) := by decide +kernel
theorem dX3_setNeeds_113 : decode cX3_setNeeds 113 = .ok (.getfield 81, 3) := by decide +kernel
theorem dX3_setNeeds_116 : decode cX3_setNeeds 116 = .ok (.iload_n 1, 1) := by decide +kernel
theorem dX3_setNeeds_117 : decode cX3_setNeeds 117 = .ok (.iload_n 3, 1) := by decide +kernel
theorem dX3_setNeeds_118 : decode cX3_setNeeds 118 = .ok (.iastore, 1) := by decide +kernel
theorem dX3_setNeeds_119 : decode cX3_setNeeds 119 = .ok (.aload_n 0, 1) := by decide +kernel
theorem dX3_setNeeds_120 : decode cX3_setNeeds 120 = .ok (.getfield 12, 3) := by decide +kernel
theorem dX3_setNeeds_123 : decode cX3_setNeeds 123 = .ok (.getfield 84, 3) := by decide +kernel
theorem dX3_setNeeds_126 : decode cX3_setNeeds 126 = .ok (.iload_n 1, 1) := by decide +kernel
theorem dX3_setNeeds_127 : decode cX3_setNeeds 127 = .ok (.iload 4, 2) := by decide +kernel
theorem dX3_setNeeds_129 : decode cX3_setNeeds 129 = .ok (.iastore, 1) := by decide +kernel
theorem dX3_setNeeds_130 : decode cX3_setNeeds 130 = .ok (.aload_n 0, 1) := by decide +kernel
theorem dX3_setNeeds_131 : decode cX3_setNeeds 131 = .ok (.getfield 12, 3) := by decide +kernel
theorem dX3_setNeeds_134 : decode cX3_setNeeds 134 = .ok (.getfield 87, 3) := by decide +kernel
theorem dX3_setNeeds_137 : decode cX3_setNeeds 137 = .ok (.iload_n 1, 1) := by decide +kernel
theorem dX3_setNeeds_138 : decode cX3_setNeeds 138 = .ok (.iload 5, 2) := by decide +kernel
theorem dX3_setNeeds_140 : decode cX3_setNeeds 140 = .ok (.iastore, 1) := by decide +kernel
theorem dX3_setNeeds_141 : decode cX3_setNeeds 141 = .ok (.aload_n 0, 1) := by decide +kernel
theorem dX3_setNeeds_142 : decode cX3_setNeeds 142 = .ok (.getfield 12, 3) := by decide +kernel
theorem dX3_setNeeds_145 : decode cX3_setNeeds 145 = .ok (.getfield 90, 3) := by decide +kernel
theorem dX3_setNeeds_148 : decode cX3_setNeeds 148 = .ok (.iload_n 1, 1) := by decide +kernel
theorem dX3_setNeeds_149 : decode cX3_setNeeds 149 = .ok (.iload 6, 2) := by decide +kernel
theorem dX3_setNeeds_151 : decode cX3_setNeeds 151 = .ok (.iastore, 1) := by decide +kernel
theorem dX3_setNeeds_152 : decode cX3_setNeeds 152 = .ok (.return_, 1) := by decide +kernel
theorem dX3_bar_0 : decode cX3_bar 0 = .ok (.iload_n 1, 1) := by decide +kernel
theorem dX3_bar_1 : decode cX3_bar 1 = .ok (.bipush 8, 2) := by decide +kernel
theorem dX3_bar_3 : decode cX3_bar 3 = .ok (.invokestatic 53, 3) := by decide +kernel
theorem dX3_bar_6 : decode cX3_bar 6 = .ok (.ifCond .eq 11, 3) := by decide +kernel
theorem dX3_bar_9 : decode cX3_bar 9 = .ok (.iload_n 2, 1) := by decide +kernel
theorem dX3_bar_10 : decode cX3_bar 10 = .ok (.iconst 3, 1) := by decide +kernel
theorem dX3_bar_11 : decode cX3_bar 11 = .ok (.invokestatic 57, 3) := by decide +kernel
theorem dX3_bar_14 : decode cX3_bar 14 = .ok (.ifCond .ne 13, 3) := by decide +kernel
theorem dX3_bar_17 : decode cX3_bar 17 = .ok (.new 60, 3) := by decide +kernel
theorem dX3_bar_20 : decode cX3_bar 20 = .ok (.dup, 1) := by decide +kernel
theorem dX3_bar_21 : decode cX3_bar 21 = .ok (.ldc 93, 2) := by decide +kernel
theorem dX3_bar_23 : decode cX3_bar 23 = .ok (.invokespecial 64, 3) := by decide +kernel
theorem dX3_bar_26 : decode cX3_bar 26 = .ok (.athrow, 1) := by decide +kernel
theorem dX3_bar_27 : decode cX3_bar 27 = .ok (.iload_n 2, 1) := by decide +kernel
theorem dX3_bar_28 : decode cX3_bar 28 = .ok (.iconst (-1), 1) := by decide +kernel
theorem dX3_bar_29 : decode cX3_bar 29 = .ok (.if_icmp .eq 23, 3) := by decide +kernel
theorem dX3_bar_32 : decode cX3_bar 32 = .ok (.iload_n 3, 1) := by decide +kernel
theorem dX3_bar_33 : decode cX3_bar 33 = .ok (.iconst 0, 1) := by decide +kernel
theorem dX3_bar_34 : decode cX3_bar 34 = .ok (.bipush 7, 2) := by decide +kernel
theorem dX3_bar_36 : decode cX3_bar 36 = .ok (.invokestatic 67, 3) := by decide +kernel
theorem dX3_bar_39 : decode cX3_bar 39 = .ok (.ifCond .ne 13, 3) := by decide +kernel
theorem dX3_bar_42 : decode cX3_bar 42 = .ok (.new 71, 3) := by decide +kernel
theorem dX3_bar_45 : decode cX3_bar 45 = .ok (.dup, 1) := by decide +kernel
theorem dX3_bar_46 : decode cX3_bar 46 = .ok (.ldc 76, 2) := by decide +kernel
theorem dX3_bar_48 : decode cX3_bar 48 = .ok (.invokespecial 75, 3) := by decide +kernel
theorem dX3_bar_51 : decode cX3_bar 51 = .ok (.athrow, 1) := by decide +kernel
theorem dX3_bar_52 : decode cX3_bar 52 = .ok (.aload_n 0, 1) := by decide +kernel
theorem dX3_bar_53 : decode cX3_bar 53 = .ok (.getfield 12, 3) := by decide +kernel
theorem dX3_bar_56 : decode cX3_bar 56 = .ok (.getfield 95, 3) := by decide +kernel
theorem dX3_bar_59 : decode cX3_bar 59 = .ok (.iload_n 1, 1) := by decide +kernel
theorem dX3_bar_60 : decode cX3_bar 60 = .ok (.iload_n 2, 1) := by decide +kernel
theorem dX3_bar_61 : decode cX3_bar 61 = .ok (.iastore, 1) := by decide +kernel
theorem dX3_bar_62 : decode cX3_bar 62 = .ok (.aload_n 0, 1) := by decide +kernel
theorem dX3_bar_63 : decode cX3_bar 63 = .ok (.getfield 12, 3) := by decide +kernel
theorem dX3_bar_66 : decode cX3_bar 66 = .ok (.getfield 98, 3) := by decide +kernel
theorem dX3_bar_69 : decode cX3_bar 69 = .ok (.iload_n 1, 1) := by decide +kernel
theorem dX3_bar_70 : decode cX3_bar 70 = .ok (.iload_n 3, 1) := by decide +kernel
theorem dX3_bar_71 : decode cX3_bar 71 = .ok (.iastore, 1) := by decide +kernel
theorem dX3_bar_72 : decode cX3_bar 72 = .ok (.return_, 1) := by decide +kernel
theorem dX3_setBonus_0 : decode cX3_setBonus 0 = .ok (.iload_n 1, 1) := by decide +kernel
theorem dX3_setBonus_1 : decode cX3_setBonus 1 = .ok (.bipush 8, 2) := by decide +kernel
theorem dX3_setBonus_3 : decode cX3_setBonus 3 = .ok (.invokestatic 53, 3) := by decide +kernel
theorem dX3_setBonus_6 : decode cX3_setBonus 6 = .ok (.ifCond .eq 12, 3) := by decide +kernel
theorem dX3_setBonus_9 : decode cX3_setBonus 9 = .ok (.iload_n 2, 1) := by decide +kernel
theorem dX3_setBonus_10 : decode cX3_setBonus 10 = .ok (.bipush 6, 2) := by decide +kernel
theorem dX3_setBonus_12 : decode cX3_setBonus 12 = .ok (.invokestatic 57, 3) := by decide +kernel
theorem dX3_setBonus_15 : decode cX3_setBonus 15 = .ok (.ifCond .ne 13, 3) := by decide +kernel
theorem dX3_setBonus_18 : decode cX3_setBonus 18 = .ok (.new 60, 3) := by decide +kernel
theorem dX3_setBonus_21 : decode cX3_setBonus 21 = .ok (.dup, 1) := by decide +kernel
theorem dX3_setBonus_22 : decode cX3_setBonus 22 = .ok (.ldc 101, 2) := by decide +kernel
theorem dX3_setBonus_24 : decode cX3_setBonus 24 = .ok (.invokespecial 64, 3) := by decide +kernel
theorem dX3_setBonus_27 : decode cX3_setBonus 27 = .ok (.athrow, 1) := by decide +kernel
theorem dX3_setBonus_28 : decode cX3_setBonus 28 = .ok (.iload_n 3, 1) := by decide +kernel
theorem dX3_setBonus_29 : decode cX3_setBonus 29 = .ok (.iconst 4, 1) := by decide +kernel
theorem dX3_setBonus_30 : decode cX3_setBonus 30 = .ok (.invokestatic 53, 3) := by decide +kernel
theorem dX3_setBonus_33 : decode cX3_setBonus 33 = .ok (.ifCond .eq 15, 3) := by decide +kernel
theorem dX3_setBonus_36 : decode cX3_setBonus 36 = .ok (.iload 4, 2) := by decide +kernel
theorem dX3_setBonus_38 : decode cX3_setBonus 38 = .ok (.bipush (-9), 2) := by decide +kernel
theorem dX3_setBonus_40 : decode cX3_setBonus 40 = .ok (.bipush 9, 2) := by decide +kernel
theorem dX3_setBonus_42 : decode cX3_setBonus 42 = .ok (.invokestatic 67, 3) := by decide +kernel
theorem dX3_setBonus_45 : decode cX3_setBonus 45 = .ok (.ifCond .ne 13, 3) := by decide +kernel
theorem dX3_setBonus_48 : decode cX3_setBonus 48 = .ok (.new 71, 3) := by decide +kernel
theorem dX3_setBonus_51 : decode cX3_setBonus 51 = .ok (.dup, 1) := by decide +kernel
theorem dX3_setBonus_52 : decode cX3_setBonus 52 = .ok (.ldc 103, 2) := by decide +kernel
theorem dX3_setBonus_54 : decode cX3_setBonus 54 = .ok (.invokespecial 75, 3) := by decide +kernel
theorem dX3_setBonus_57 : decode cX3_setBonus 57 = .ok (.athrow, 1) := by decide +kernel
theorem dX3_setBonus_58 : decode cX3_setBonus 58 = .ok (.aload_n 0, 1) := by decide +kernel
theorem dX3_setBonus_59 : decode cX3_setBonus 59 = .ok (.getfield 12, 3) := by decide +kernel
theorem dX3_setBonus_62 : decode cX3_setBonus 62 = .ok (.getfield 105, 3) := by decide +kernel
theorem dX3_setBonus_65 : decode cX3_setBonus 65 = .ok (.iload_n 1, 1) := by decide +kernel
theorem dX3_setBonus_66 : decode cX3_setBonus 66 = .ok (.iload_n 2, 1) := by decide +kernel
theorem dX3_setBonus_67 : decode cX3_setBonus 67 = .ok (.iastore, 1) := by decide +kernel
theorem dX3_setBonus_68 : decode cX3_setBonus 68 = .ok (.aload_n 0, 1) := by decide +kernel
theorem dX3_setBonus_69 : decode cX3_setBonus 69 = .ok (.getfield 12, 3) := by decide +kernel
theorem dX3_setBonus_72 : decode cX3_setBonus 72 = .ok (.getfield 108, 3) := by decide +kernel
theorem dX3_setBonus_75 : decode cX3_setBonus 75 = .ok (.iload_n 1, 1) := by decide +kernel
theorem dX3_setBonus_76 : decode cX3_setBonus 76 = .ok (.iload_n 3, 1) := by decide +kernel
theorem dX3_setBonus_77 : decode cX3_setBonus 77 = .ok (.iastore, 1) := by decide +kernel
theorem dX3_setBonus_78 : decode cX3_setBonus 78 = .ok (.aload_n 0, 1) := by decide +kernel
theorem dX3_setBonus_79 : decode cX3_setBonus 79 = .ok (.getfield 12, 3) := by decide +kernel
theorem dX3_setBonus_82 : decode cX3_setBonus 82 = .ok (.getfield 111, 3) := by decide +kernel
theorem dX3_setBonus_85 : decode cX3_setBonus 85 = .ok (.iload_n 1, 1) := by decide +kernel
theorem dX3_setBonus_86 : decode cX3_setBonus 86 = .ok (.iload 4, 2) := by decide +kernel
theorem dX3_setBonus_88 : decode cX3_setBonus 88 = .ok (.iastore, 1) := by decide +kernel
theorem dX3_setBonus_89 : decode cX3_setBonus 89 = .ok (.return_, 1) := by decide +kernel
theorem dX3_setValue_0 : decode cX3_setValue 0 = .ok (.iload_n 1, 1) := by decide +kernel
theorem dX3_setValue_1 : decode cX3_setValue 1 = .ok (.bipush 6, 2) := by decide +kernel
theorem dX3_setValue_3 : decode cX3_setValue 3 = .ok (.invokestatic 53, 3) := by decide +kernel
theorem dX3_setValue_6 : decode cX3_setValue 6 = .ok (.ifCond .eq 30, 3) := by decide +kernel
theorem dX3_setValue_9 : decode cX3_setValue 9 = .ok (.iload_n 3, 1) := by decide +kernel
theorem dX3_setValue_10 : decode cX3_setValue 10 = .ok (.iconst 4, 1) := by decide +kernel
theorem dX3_setValue_11 : decode cX3_setValue 11 = .ok (.invokestatic 57, 3) := by decide +kernel
theorem dX3_setValue_14 : decode cX3_setValue 14 = .ok (.ifCond .eq 22, 3) := by decide +kernel
theorem dX3_setValue_17 : decode cX3_setValue 17 = .ok (.iload 4, 2) := by decide +kernel
theorem dX3_setValue_19 : decode cX3_setValue 19 = .ok (.iconst 3, 1) := by decide +kernel
theorem dX3_setValue_20 : decode cX3_setValue 20 = .ok (.invokestatic 57, 3) := by decide +kernel
theorem dX3_setValue_23 : decode cX3_setValue 23 = .ok (.ifCond .eq 13, 3) := by decide +kernel
theorem dX3_setValue_26 : decode cX3_setValue 26 = .ok (.iload 5, 2) := by decide +kernel
theorem dX3_setValue_28 : decode cX3_setValue 28 = .ok (.bipush 6, 2) := by decide +kernel
theorem dX3_setValue_30 : decode cX3_setValue 30 = .ok (.invokestatic 57, 3) := by decide +kernel
theorem dX3_setValue_33 : decode cX3_setValue 33 = .ok (.ifCond .ne 13, 3) := by decide +kernel
theorem dX3_setValue_36 : decode cX3_setValue 36 = .ok (.new 60, 3) := by decide +kernel
theorem dX3_setValue_39 : decode cX3_setValue 39 = .ok (.dup, 1) := by decide +kernel
theorem dX3_setValue_40 : decode cX3_setValue 40 = .ok (.ldc 114, 2) := by decide +kernel
theorem dX3_setValue_42 : decode cX3_setValue 42 = .ok (.invokespecial 64, 3) := by decide +kernel
theorem dX3_setValue_45 : decode cX3_setValue 45 = .ok (.athrow, 1) := by decide +kernel
theorem dX3_setValue_46 : decode cX3_setValue 46 = .ok (.iload_n 2, 1) := by decide +kernel
theorem dX3_setValue_47 : decode cX3_setValue 47 = .ok (.bipush (-50), 2) := by decide +kernel
theorem dX3_setValue_49 : decode cX3_setValue 49 = .ok (.bipush 50, 2) := by decide +kernel
theorem dX3_setValue_51 : decode cX3_setValue 51 = .ok (.invokestatic 67, 3) := by decide +kernel
theorem dX3_setValue_54 : decode cX3_setValue 54 = .ok (.ifCond .ne 13, 3) := by decide +kernel
theorem dX3_setValue_57 : decode cX3_setValue 57 = .ok (.new 71, 3) := by decide +kernel
theorem dX3_setValue_60 : decode cX3_setValue 60 = .ok (.dup, 1) := by decide +kernel
theorem dX3_setValue_61 : decode cX3_setValue 61 = .ok (.ldc 116, 2) := by decide +kernel
theorem dX3_setValue_63 : decode cX3_setValue 63 = .ok (.invokespecial 75, 3) := by decide +kernel
theorem dX3_setValue_66 : decode cX3_setValue 66 = .ok (.athrow, 1) := by decide +kernel
theorem dX3_setValue_67 : decode cX3_setValue 67 = .ok (.aload_n 0, 1) := by decide +kernel
theorem dX3_setValue_68 : decode cX3_setValue 68 = .ok (.getfield 19, 3) := by decide +kernel
theorem dX3_setValue_71 : decode cX3_setValue 71 = .ok (.getfield 118, 3) := by decide +kernel
theorem dX3_setValue_74 : decode cX3_setValue 74 = .ok (.iload_n 1, 1) := by decide +kernel
theorem dX3_setValue_75 : decode cX3_setValue 75 = .ok (.iload_n 2, 1) := by decide +kernel
theorem dX3_setValue_76 : decode cX3_setValue 76 = .ok (.iastore, 1) := by decide +kernel
theorem dX3_setValue_77 : decode cX3_setValue 77 = .ok (.aload_n 0, 1) := by decide +kernel
theorem dX3_setValue_78 : decode cX3_setValue 78 = .ok (.getfield 19, 3) := by decide +kernel
theorem dX3_setValue_81 : decode cX3_setValue 81 = .ok (.getfield 121, 3) := by decide +kernel
theorem dX3_setValue_84 : decode cX3_setValue 84 = .ok (.iload_n 1, 1) := by decide +kernel
theorem dX3_setValue_85 : decode cX3_setValue 85 = .ok (.iload_n 3, 1) := by decide +kernel
theorem dX3_setValue_86 : decode cX3_setValue 86 = .ok (.iastore, 1) := by decide +kernel
theorem dX3_setValue_87 : decode cX3_setValue 87 = .ok (.aload_n 0, 1) := by decide +kernel
theorem dX3_setValue_88 : decode cX3_setValue 88 = .ok (.getfield 19, 3) := by decide +kernel
theorem dX3_setValue_91 : decode cX3_setValue 91 = .ok (.getfield 122, 3) := by decide +kernel
theorem dX3_setValue_94 : decode cX3_setValue 94 = .ok (.iload_n 1, 1) := by decide +kernel
theorem dX3_setValue_95 : decode cX3_setValue 95 = .ok (.iload 4, 2) := by decide +kernel
theorem dX3_setValue_97 : decode cX3_setValue 97 = .ok (.iastore, 1) := by decide +kernel
theorem dX3_setValue_98 : decode cX3_setValue 98 = .ok (.aload_n 0, 1) := by decide +kernel
theorem dX3_setValue_99 : decode cX3_setValue 99 = .ok (.getfield 19, 3) := by decide +kernel
theorem dX3_setValue_102 : decode cX3_setValue 102 = .ok (.getfield 123, 3) := by decide +kernel
theorem dX3_setValue_105 : decode cX3_setValue 105 = .ok (.iload_n 1, 1) := by decide +kernel
theorem dX3_setValue_106 : decode cX3_setValue 106 = .ok (.iload 5, 2) := by decide +kernel
theorem dX3_setValue_108 : decode cX3_setValue 108 = .ok (.iastore, 1) := by decide +kernel
theorem dX3_setValue_109 : decode cX3_setValue 109 = .ok (.return_, 1) := by decide +kernel
theorem dX3_setScore_0 : decode cX3_setScore 0 = .ok (.iload_n 1, 1) := by decide +kernel
theorem dX3_setScore_1 : decode cX3_setScore 1 = .ok (.iconst 4, 1) := by decide +kernel
theorem dX3_setScore_2 : decode cX3_setScore 2 = .ok (.invokestatic 53, 3) := by decide +kernel
theorem dX3_setScore_5 : decode cX3_setScore 5 = .ok (.ifCond .ne 13, 3) := by decide +kernel
theorem dX3_setScore_8 : decode cX3_setScore 8 = .ok (.new 60, 3) := by decide +kernel
theorem dX3_setScore_11 : decode cX3_setScore 11 = .ok (.dup, 1) := by decide +kernel
theorem dX3_setScore_12 : decode cX3_setScore 12 = .ok (.ldc 124, 2) := by decide +kernel
theorem dX3_setScore_14 : decode cX3_setScore 14 = .ok (.invokespecial 64, 3) := by decide +kernel
theorem dX3_setScore_17 : decode cX3_setScore 17 = .ok (.athrow, 1) := by decide +kernel
theorem dX3_setScore_18 : decode cX3_setScore 18 = .ok (.iload_n 2, 1) := by decide +kernel
theorem dX3_setScore_19 : decode cX3_setScore 19 = .ok (.bipush 8, 2) := by decide +kernel
theorem dX3_setScore_21 : decode cX3_setScore 21 = .ok (.bipush 16, 2) := by decide +kernel
theorem dX3_setScore_23 : decode cX3_setScore 23 = .ok (.invokestatic 67, 3) := by decide +kernel
theorem dX3_setScore_26 : decode cX3_setScore 26 = .ok (.ifCond .ne 13, 3) := by decide +kernel
theorem dX3_setScore_29 : decode cX3_setScore 29 = .ok (.new 71, 3) := by decide +kernel
theorem dX3_setScore_32 : decode cX3_setScore 32 = .ok (.dup, 1) := by decide +kernel
theorem dX3_setScore_33 : decode cX3_setScore 33 = .ok (.ldc 73, 2) := by decide +kernel
theorem dX3_setScore_35 : decode cX3_setScore 35 = .ok (.invokespecial 75, 3) := by decide +kernel
theorem dX3_setScore_38 : decode cX3_setScore 38 = .ok (.athrow, 1) := by decide +kernel
theorem dX3_setScore_39 : decode cX3_setScore 39 = .ok (.aload_n 0, 1) := by decide +kernel
theorem dX3_setScore_40 : decode cX3_setScore 40 = .ok (.invokevirtual 126, 3) := by decide +kernel
theorem dX3_setScore_43 : decode cX3_setScore 43 = .ok (.aload_n 0, 1) := by decide +kernel
theorem dX3_setScore_44 : decode cX3_setScore 44 = .ok (.getfield 23, 3) := by decide +kernel
theorem dX3_setScore_47 : decode cX3_setScore 47 = .ok (.iload_n 1, 1) := by decide +kernel
theorem dX3_setScore_48 : decode cX3_setScore 48 = .ok (.iaload, 1) := by decide +kernel
theorem dX3_setScore_49 : decode cX3_setScore 49 = .ok (.invokestatic 130, 3) := by decide +kernel
theorem dX3_setScore_52 : decode cX3_setScore 52 = .ok (.iadd, 1) := by decide +kernel
theorem dX3_setScore_53 : decode cX3_setScore 53 = .ok (.iload_n 2, 1) := by decide +kernel
theorem dX3_setScore_54 : decode cX3_setScore 54 = .ok (.invokestatic 130, 3) := by decide +kernel
theorem dX3_setScore_57 : decode cX3_setScore 57 = .ok (.isub, 1) := by decide +kernel
theorem dX3_setScore_58 : decode cX3_setScore 58 = .ok (.istore_n 3, 1) := by decide +kernel
theorem dX3_setScore_59 : decode cX3_setScore 59 = .ok (.iload_n 3, 1) := by decide +kernel
theorem dX3_setScore_60 : decode cX3_setScore 60 = .ok (.ifCond .ge 13, 3) := by decide +kernel
theorem dX3_setScore_63 : decode cX3_setScore 63 = .ok (.new 134, 3) := by decide +kernel
theorem dX3_setScore_66 : decode cX3_setScore 66 = .ok (.dup, 1) := by decide +kernel
theorem dX3_setScore_67 : decode cX3_setScore 67 = .ok (.ldc 136, 2) := by decide +kernel
theorem dX3_setScore_69 : decode cX3_setScore 69 = .ok (.invokespecial 138, 3) := by decide +kernel
theorem dX3_setScore_72 : decode cX3_setScore 72 = .ok (.athrow, 1) := by decide +kernel
theorem dX3_setScore_73 : decode cX3_setScore 73 = .ok (.aload_n 0, 1) := by decide +kernel
theorem dX3_setScore_74 : decode cX3_setScore 74 = .ok (.getfield 23, 3) := by decide +kernel
theorem dX3_setScore_77 : decode cX3_setScore 77 = .ok (.iload_n 1, 1) := by decide +kernel
theorem dX3_setScore_78 : decode cX3_setScore 78 = .ok (.iload_n 2, 1) := by decide +kernel
theorem dX3_setScore_79 : decode cX3_setScore 79 = .ok (.iastore, 1) := by decide +kernel
theorem dX3_setScore_80 : decode cX3_setScore 80 = .ok (.iload_n 3, 1) := by decide +kernel
theorem dX3_setScore_81 : decode cX3_setScore 81 = .ok (.ireturn, 1) := by decide +kernel
theorem dX3_takeLevel_0 : decode cX3_takeLevel 0 = .ok (.iload_n 1, 1) := by decide +kernel
theorem dX3_takeLevel_1 : decode cX3_takeLevel 1 = .ok (.iconst 3, 1) := by decide +kernel
theorem dX3_takeLevel_2 : decode cX3_takeLevel 2 = .ok (.invokestatic 53, 3) := by decide +kernel
theorem dX3_takeLevel_5 : decode cX3_takeLevel 5 = .ok (.ifCond .ne 13, 3) := by decide +kernel
theorem dX3_takeLevel_8 : decode cX3_takeLevel 8 = .ok (.new 60, 3) := by decide +kernel
theorem dX3_takeLevel_11 : decode cX3_takeLevel 11 = .ok (.dup, 1) := by decide +kernel
theorem dX3_takeLevel_12 : decode cX3_takeLevel 12 = .ok (.ldc 139, 2) := by decide +kernel
theorem dX3_takeLevel_14 : decode cX3_takeLevel 14 = .ok (.invokespecial 64, 3) := by decide +kernel
theorem dX3_takeLevel_17 : decode cX3_takeLevel 17 = .ok (.athrow, 1) := by decide +kernel
theorem dX3_takeLevel_18 : decode cX3_takeLevel 18 = .ok (.aload_n 0, 1) := by decide +kernel
theorem dX3_takeLevel_19 : decode cX3_takeLevel 19 = .ok (.getfield 37, 3) := by decide +kernel
theorem dX3_takeLevel_22 : decode cX3_takeLevel 22 = .ok (.bipush 8, 2) := by decide +kernel
theorem dX3_takeLevel_24 : decode cX3_takeLevel 24 = .ok (.invokestatic 53, 3) := by decide +kernel
theorem dX3_takeLevel_27 : decode cX3_takeLevel 27 = .ok (.ifCond .ne 13, 3) := by decide +kernel
theorem dX3_takeLevel_30 : decode cX3_takeLevel 30 = .ok (.new 134, 3) := by decide +kernel
theorem dX3_takeLevel_33 : decode cX3_takeLevel 33 = .ok (.dup, 1) := by decide +kernel
theorem dX3_takeLevel_34 : decode cX3_takeLevel 34 = .ok (.ldc 141, 2) := by decide +kernel
theorem dX3_takeLevel_36 : decode cX3_takeLevel 36 = .ok (.invokespecial 138, 3) := by decide +kernel
theorem dX3_takeLevel_39 : decode cX3_takeLevel 39 = .ok (.athrow, 1) := by decide +kernel
theorem dX3_takeLevel_40 : decode cX3_takeLevel 40 = .ok (.aload_n 0, 1) := by decide +kernel
theorem dX3_takeLevel_41 : decode cX3_takeLevel 41 = .ok (.getfield 34, 3) := by decide +kernel
theorem dX3_takeLevel_44 : decode cX3_takeLevel 44 = .ok (.aload_n 0, 1) := by decide +kernel
theorem dX3_takeLevel_45 : decode cX3_takeLevel 45 = .ok (.getfield 37, 3) := by decide +kernel
theorem dX3_takeLevel_48 : decode cX3_takeLevel 48 = .ok (.iload_n 1, 1) := by decide +kernel
theorem dX3_takeLevel_49 : decode cX3_takeLevel 49 = .ok (.iastore, 1) := by decide +kernel
theorem dX3_takeLevel_50 : decode cX3_takeLevel 50 = .ok (.aload_n 0, 1) := by decide +kernel
theorem dX3_takeLevel_51 : decode cX3_takeLevel 51 = .ok (.dup, 1) := by decide +kernel
theorem dX3_takeLevel_52 : decode cX3_takeLevel 52 = .ok (.getfield 37, 3) := by decide +kernel
theorem dX3_takeLevel_55 : decode cX3_takeLevel 55 = .ok (.iconst 1, 1) := by decide +kernel
theorem dX3_takeLevel_56 : decode cX3_takeLevel 56 = .ok (.iadd, 1) := by decide +kernel
theorem dX3_takeLevel_57 : decode cX3_takeLevel 57 = .ok (.putfield 37, 3) := by decide +kernel
theorem dX3_takeLevel_60 : decode cX3_takeLevel 60 = .ok (.aload_n 0, 1) := by decide +kernel
theorem dX3_takeLevel_61 : decode cX3_takeLevel 61 = .ok (.getfield 30, 3) := by decide +kernel
theorem dX3_takeLevel_64 : decode cX3_takeLevel 64 = .ok (.iload_n 1, 1) := by decide +kernel
theorem dX3_takeLevel_65 : decode cX3_takeLevel 65 = .ok (.iconst 1, 1) := by decide +kernel
theorem dX3_takeLevel_66 : decode cX3_takeLevel 66 = .ok (.invokevirtual 143, 3) := by decide +kernel
theorem dX3_takeLevel_69 : decode cX3_takeLevel 69 = .ok (.aload_n 0, 1) := by decide +kernel
theorem dX3_takeLevel_70 : decode cX3_takeLevel 70 = .ok (.getfield 37, 3) := by decide +kernel
theorem dX3_takeLevel_73 : decode cX3_takeLevel 73 = .ok (.ireturn, 1) := by decide +kernel
theorem dX3_takeGift_0 : decode cX3_takeGift 0 = .ok (.iload_n 1, 1) := by decide +kernel
theorem dX3_takeGift_1 : decode cX3_takeGift 1 = .ok (.bipush 8, 2) := by decide +kernel
theorem dX3_takeGift_3 : decode cX3_takeGift 3 = .ok (.invokestatic 53, 3) := by decide +kernel
theorem dX3_takeGift_6 : decode cX3_takeGift 6 = .ok (.ifCond .ne 13, 3) := by decide +kernel
theorem dX3_takeGift_9 : decode cX3_takeGift 9 = .ok (.new 60, 3) := by decide +kernel
theorem dX3_takeGift_12 : decode cX3_takeGift 12 = .ok (.dup, 1) := by decide +kernel
theorem dX3_takeGift_13 : decode cX3_takeGift 13 = .ok (.ldc 147, 2) := by decide +kernel
theorem dX3_takeGift_15 : decode cX3_takeGift 15 = .ok (.invokespecial 64, 3) := by decide +kernel
theorem dX3_takeGift_18 : decode cX3_takeGift 18 = .ok (.athrow, 1) := by decide +kernel
theorem dX3_takeGift_19 : decode cX3_takeGift 19 = .ok (.aload_n 0, 1) := by decide +kernel
theorem dX3_takeGift_20 : decode cX3_takeGift 20 = .ok (.aload_n 0, 1) := by decide +kernel
theorem dX3_takeGift_21 : decode cX3_takeGift 21 = .ok (.getfield 30, 3) := by decide +kernel
theorem dX3_takeGift_24 : decode cX3_takeGift 24 = .ok (.iload_n 1, 1) := by decide +kernel
theorem dX3_takeGift_25 : decode cX3_takeGift 25 = .ok (.invokevirtual 149, 3) := by decide +kernel
theorem dX3_takeGift_28 : decode cX3_takeGift 28 = .ok (.ifCond .ne 13, 3) := by decide +kernel
theorem dX3_takeGift_31 : decode cX3_takeGift 31 = .ok (.new 134, 3) := by decide +kernel
theorem dX3_takeGift_34 : decode cX3_takeGift 34 = .ok (.dup, 1) := by decide +kernel
theorem dX3_takeGift_35 : decode cX3_takeGift 35 = .ok (.ldc 153, 2) := by decide +kernel
theorem dX3_takeGift_37 : decode cX3_takeGift 37 = .ok (.invokespecial 138, 3) := by decide +kernel
theorem dX3_takeGift_40 : decode cX3_takeGift 40 = .ok (.athrow, 1) := by decide +kernel
theorem dX3_takeGift_41 : decode cX3_takeGift 41 = .ok (.aload_n 0, 1) := by decide +kernel
theorem dX3_takeGift_42 : decode cX3_takeGift 42 = .ok (.getfield 30, 3) := by decide +kernel
theorem dX3_takeGift_45 : decode cX3_takeGift 45 = .ok (.dup, 1) := by decide +kernel
theorem dX3_takeGift_46 : decode cX3_takeGift 46 = .ok (.getfield 155, 3) := by decide +kernel
theorem dX3_takeGift_49 : decode cX3_takeGift 49 = .ok (.iconst 1, 1) := by decide +kernel
theorem dX3_takeGift_50 : decode cX3_takeGift 50 = .ok (.iload_n 1, 1) := by decide +kernel
theorem dX3_takeGift_51 : decode cX3_takeGift 51 = .ok (.ishl, 1) := by decide +kernel
theorem dX3_takeGift_52 : decode cX3_takeGift 52 = .ok (.ior, 1) := by decide +kernel
theorem dX3_takeGift_53 : decode cX3_takeGift 53 = .ok (.putfield 155, 3) := by decide +kernel
theorem dX3_takeGift_56 : decode cX3_takeGift 56 = .ok (.aload_n 0, 1) := by decide +kernel
theorem dX3_takeGift_57 : decode cX3_takeGift 57 = .ok (.getfield 30, 3) := by decide +kernel
theorem dX3_takeGift_60 : decode cX3_takeGift 60 = .ok (.invokevirtual 158, 3) := by decide +kernel
theorem dX3_takeGift_63 : decode cX3_takeGift 63 = .ok (.ireturn, 1) := by decide +kernel
theorem dX3_loseLevel_0 : decode cX3_loseLevel 0 = .ok (.aload_n 0, 1) := by decide +kernel
theorem dX3_loseLevel_1 : decode cX3_loseLevel 1 = .ok (.getfield 37, 3) := by decide +kernel
theorem dX3_loseLevel_4 : decode cX3_loseLevel 4 = .ok (.iconst 1, 1) := by decide +kernel
theorem dX3_loseLevel_5 : decode cX3_loseLevel 5 = .ok (.isub, 1) := by decide +kernel
theorem dX3_loseLevel_6 : decode cX3_loseLevel 6 = .ok (.istore_n 1, 1) := by decide +kernel
theorem dX3_loseLevel_7 : decode cX3_loseLevel 7 = .ok (.iload_n 1, 1) := by decide +kernel
theorem dX3_loseLevel_8 : decode cX3_loseLevel 8 = .ok (.bipush 8, 2) := by decide +kernel
theorem dX3_loseLevel_10 : decode cX3_loseLevel 10 = .ok (.invokestatic 53, 3) := by decide +kernel
theorem dX3_loseLevel_13 : decode cX3_loseLevel 13 = .ok (.ifCond .ne 13, 3) := by decide +kernel
theorem dX3_loseLevel_16 : decode cX3_loseLevel 16 = .ok (.new 134, 3) := by decide +kernel
theorem dX3_loseLevel_19 : decode cX3_loseLevel 19 = .ok (.dup, 1) := by decide +kernel
theorem dX3_loseLevel_20 : decode cX3_loseLevel 20 = .ok (.ldc 161, 2) := by decide +kernel
theorem dX3_loseLevel_22 : decode cX3_loseLevel 22 = .ok (.invokespecial 138, 3) := by decide +kernel
theorem dX3_loseLevel_25 : decode cX3_loseLevel 25 = .ok (.athrow, 1) := by decide +kernel
theorem dX3_loseLevel_26 : decode cX3_loseLevel 26 = .ok (.aload_n 0, 1) := by decide +kernel
theorem dX3_loseLevel_27 : decode cX3_loseLevel 27 = .ok (.iload_n 1, 1) := by decide +kernel
theorem dX3_loseLevel_28 : decode cX3_loseLevel 28 = .ok (.putfield 37, 3) := by decide +kernel
theorem dX3_loseLevel_31 : decode cX3_loseLevel 31 = .ok (.aload_n 0, 1) := by decide +kernel
theorem dX3_loseLevel_32 : decode cX3_loseLevel 32 = .ok (.getfield 30, 3) := by decide +kernel
theorem dX3_loseLevel_35 : decode cX3_loseLevel 35 = .ok (.aload_n 0, 1) := by decide +kernel
theorem dX3_loseLevel_36 : decode cX3_loseLevel 36 = .ok (.getfield 34, 3) := by decide +kernel
theorem dX3_loseLevel_39 : decode cX3_loseLevel 39 = .ok (.iload_n 1, 1) := by decide +kernel
theorem dX3_loseLevel_40 : decode cX3_loseLevel 40 = .ok (.iaload, 1) := by decide +kernel
theorem dX3_loseLevel_41 : decode cX3_loseLevel 41 = .ok (.iconst (-1), 1) := by decide +kernel
theorem dX3_loseLevel_42 : decode cX3_loseLevel 42 = .ok (.invokevirtual 143, 3) := by decide +kernel
theorem dX3_loseLevel_45 : decode cX3_loseLevel 45 = .ok (.aload_n 0, 1) := by decide +kernel
theorem dX3_loseLevel_46 : decode cX3_loseLevel 46 = .ok (.getfield 34, 3) := by decide +kernel
theorem dX3_loseLevel_49 : decode cX3_loseLevel 49 = .ok (.iload_n 1, 1) := by decide +kernel
theorem dX3_loseLevel_50 : decode cX3_loseLevel 50 = .ok (.iaload, 1) := by decide +kernel
theorem dX3_loseLevel_51 : decode cX3_loseLevel 51 = .ok (.ireturn, 1) := by decide +kernel
theorem dX3_exchange_0 : decode cX3_exchange 0 = .ok (.iload_n 1, 1) := by decide +kernel
theorem dX3_exchange_1 : decode cX3_exchange 1 = .ok (.bipush 8, 2) := by decide +kernel
theorem dX3_exchange_3 : decode cX3_exchange 3 = .ok (.invokestatic 53, 3) := by decide +kernel
theorem dX3_exchange_6 : decode cX3_exchange 6 = .ok (.ifCond .eq 12, 3) := by decide +kernel
theorem dX3_exchange_9 : decode cX3_exchange 9 = .ok (.iload_n 2, 1) := by decide +kernel
theorem dX3_exchange_10 : decode cX3_exchange 10 = .ok (.bipush 8, 2) := by decide +kernel
theorem dX3_exchange_12 : decode cX3_exchange 12 = .ok (.invokestatic 53, 3) := by decide +kernel
theorem dX3_exchange_15 : decode cX3_exchange 15 = .ok (.ifCond .ne 13, 3) := by decide +kernel
theorem dX3_exchange_18 : decode cX3_exchange 18 = .ok (.new 60, 3) := by decide +kernel
theorem dX3_exchange_21 : decode cX3_exchange 21 = .ok (.dup, 1) := by decide +kernel
theorem dX3_exchange_22 : decode cX3_exchange 22 = .ok (.ldc 163, 2) := by decide +kernel
theorem dX3_exchange_24 : decode cX3_exchange 24 = .ok (.invokespecial 64, 3) := by decide +kernel
theorem dX3_exchange_27 : decode cX3_exchange 27 = .ok (.athrow, 1) := by decide +kernel
theorem dX3_exchange_28 : decode cX3_exchange 28 = .ok (.aload_n 0, 1) := by decide +kernel
theorem dX3_exchange_29 : decode cX3_exchange 29 = .ok (.getfield 30, 3) := by decide +kernel
theorem dX3_exchange_32 : decode cX3_exchange 32 = .ok (.getfield 155, 3) := by decide +kernel
theorem dX3_exchange_35 : decode cX3_exchange 35 = .ok (.iconst 1, 1) := by decide +kernel
theorem dX3_exchange_36 : decode cX3_exchange 36 = .ok (.iload_n 1, 1) := by decide +kernel
theorem dX3_exchange_37 : decode cX3_exchange 37 = .ok (.ishl, 1) := by decide +kernel
theorem dX3_exchange_38 : decode cX3_exchange 38 = .ok (.iconst (-1), 1) := by decide +kernel
theorem dX3_exchange_39 : decode cX3_exchange 39 = .ok (.ixor, 1) := by decide +kernel
theorem dX3_exchange_40 : decode cX3_exchange 40 = .ok (.iand, 1) := by decide +kernel
theorem dX3_exchange_41 : decode cX3_exchange 41 = .ok (.iconst 1, 1) := by decide +kernel
theorem dX3_exchange_42 : decode cX3_exchange 42 = .ok (.iload_n 2, 1) := by decide +kernel
theorem dX3_exchange_43 : decode cX3_exchange 43 = .ok (.ishl, 1) := by decide +kernel
theorem dX3_exchange_44 : decode cX3_exchange 44 = .ok (.ior, 1) := by decide +kernel
theorem dX3_exchange_45 : decode cX3_exchange 45 = .ok (.istore_n 3, 1) := by decide +kernel
theorem dX3_exchange_46 : decode cX3_exchange 46 = .ok (.aload_n 0, 1) := by decide +kernel
theorem dX3_exchange_47 : decode cX3_exchange 47 = .ok (.getfield 30, 3) := by decide +kernel
theorem dX3_exchange_50 : decode cX3_exchange 50 = .ok (.iload_n 1, 1) := by decide +kernel
theorem dX3_exchange_51 : decode cX3_exchange 51 = .ok (.invokevirtual 165, 3) := by decide +kernel
theorem dX3_exchange_54 : decode cX3_exchange 54 = .ok (.ifCond .eq 22, 3) := by decide +kernel
theorem dX3_exchange_57 : decode cX3_exchange 57 = .ok (.aload_n 0, 1) := by decide +kernel
theorem dX3_exchange_58 : decode cX3_exchange 58 = .ok (.getfield 30, 3) := by decide +kernel
theorem dX3_exchange_61 : decode cX3_exchange 61 = .ok (.iload_n 2, 1) := by decide +kernel
theorem dX3_exchange_62 : decode cX3_exchange 62 = .ok (.invokevirtual 165, 3) := by decide +kernel
theorem dX3_exchange_65 : decode cX3_exchange 65 = .ok (.ifCond .ne 11, 3) := by decide +kernel
theorem dX3_exchange_68 : decode cX3_exchange 68 = .ok (.aload_n 0, 1) := by decide +kernel
theorem dX3_exchange_69 : decode cX3_exchange 69 = .ok (.iload_n 3, 1) := by decide +kernel
theorem dX3_exchange_70 : decode cX3_exchange 70 = .ok (.invokevirtual 169, 3) := by decide +kernel
theorem dX3_exchange_73 : decode cX3_exchange 73 = .ok (.ifCond .ne 13, 3) := by decide +kernel
theorem dX3_exchange_76 : decode cX3_exchange 76 = .ok (.new 134, 3) := by decide +kernel
theorem dX3_exchange_79 : decode cX3_exchange 79 = .ok (.dup, 1) := by decide +kernel
theorem dX3_exchange_80 : decode cX3_exchange 80 = .ok (.ldc 172, 2) := by decide +kernel
theorem dX3_exchange_82 : decode cX3_exchange 82 = .ok (.invokespecial 138, 3) := by decide +kernel
theorem dX3_exchange_85 : decode cX3_exchange 85 = .ok (.athrow, 1) := by decide +kernel
theorem dX3_exchange_86 : decode cX3_exchange 86 = .ok (.aload_n 0, 1) := by decide +kernel
theorem dX3_exchange_87 : decode cX3_exchange 87 = .ok (.aload_n 0, 1) := by decide +kernel
theorem dX3_exchange_88 : decode cX3_exchange 88 = .ok (.getfield 30, 3) := by decide +kernel
theorem dX3_exchange_91 : decode cX3_exchange 91 = .ok (.getfield 155, 3) := by decide +kernel
theorem dX3_exchange_94 : decode cX3_exchange 94 = .ok (.invokevirtual 174, 3) := by decide +kernel
theorem dX3_exchange_97 : decode cX3_exchange 97 = .ok (.aload_n 0, 1) := by decide +kernel
theorem dX3_exchange_98 : decode cX3_exchange 98 = .ok (.iload_n 3, 1) := by decide +kernel
theorem dX3_exchange_99 : decode cX3_exchange 99 = .ok (.invokevirtual 174, 3) := by decide +kernel
theorem dX3_exchange_102 : decode cX3_exchange 102 = .ok (.iconst (-1), 1) := by decide +kernel
theorem dX3_exchange_103 : decode cX3_exchange 103 = .ok (.ixor, 1) := by decide +kernel
theorem dX3_exchange_104 : decode cX3_exchange 104 = .ok (.iand, 1) := by decide +kernel
theorem dX3_exchange_105 : decode cX3_exchange 105 = .ok (.iconst 1, 1) := by decide +kernel
theorem dX3_exchange_106 : decode cX3_exchange 106 = .ok (.iload_n 1, 1) := by decide +kernel
theorem dX3_exchange_107 : decode cX3_exchange 107 = .ok (.ishl, 1) := by decide +kernel
theorem dX3_exchange_108 : decode cX3_exchange 108 = .ok (.iconst (-1), 1) := by decide +kernel
theorem dX3_exchange_109 : decode cX3_exchange 109 = .ok (.ixor, 1) := by decide +kernel
theorem dX3_exchange_110 : decode cX3_exchange 110 = .ok (.iand, 1) := by decide +kernel
theorem dX3_exchange_111 : decode cX3_exchange 111 = .ok (.istore 4, 2) := by decide +kernel
theorem dX3_exchange_113 : decode cX3_exchange 113 = .ok (.aload_n 0, 1) := by decide +kernel
theorem dX3_exchange_114 : decode cX3_exchange 114 = .ok (.getfield 30, 3) := by decide +kernel
theorem dX3_exchange_117 : decode cX3_exchange 117 = .ok (.iload_n 3, 1) := by decide +kernel
theorem dX3_exchange_118 : decode cX3_exchange 118 = .ok (.putfield 155, 3) := by decide +kernel
theorem dX3_exchange_121 : decode cX3_exchange 121 = .ok (.iload 4, 2) := by decide +kernel
theorem dX3_exchange_123 : decode cX3_exchange 123 = .ok (.invokestatic 177, 3) := by decide +kernel
theorem dX3_exchange_126 : decode cX3_exchange 126 = .ok (.ireturn, 1) := by decide +kernel
theorem dX3_clear_0 : decode cX3_clear 0 = .ok (.aload_n 0, 1) := by decide +kernel
theorem dX3_clear_1 : decode cX3_clear 1 = .ok (.invokevirtual 182, 3) := by decide +kernel
theorem dX3_clear_4 : decode cX3_clear 4 = .ok (.istore_n 1, 1) := by decide +kernel
theorem dX3_clear_5 : decode cX3_clear 5 = .ok (.aload_n 0, 1) := by decide +kernel
theorem dX3_clear_6 : decode cX3_clear 6 = .ok (.getfield 30, 3) := by decide +kernel
theorem dX3_clear_9 : decode cX3_clear 9 = .ok (.invokevirtual 185, 3) := by decide +kernel
theorem dX3_clear_12 : decode cX3_clear 12 = .ok (.aload_n 0, 1) := by decide +kernel
theorem dX3_clear_13 : decode cX3_clear 13 = .ok (.iconst 0, 1) := by decide +kernel
theorem dX3_clear_14 : decode cX3_clear 14 = .ok (.putfield 37, 3) := by decide +kernel
theorem dX3_clear_17 : decode cX3_clear 17 = .ok (.iload_n 1, 1) := by decide +kernel
theorem dX3_clear_18 : decode cX3_clear 18 = .ok (.ireturn, 1) := by decide +kernel
theorem dX3_level_0 : decode cX3_level 0 = .ok (.iload_n 1, 1) := by decide +kernel
theorem dX3_level_1 : decode cX3_level 1 = .ok (.iconst 3, 1) := by decide +kernel
theorem dX3_level_2 : decode cX3_level 2 = .ok (.invokestatic 53, 3) := by decide +kernel
theorem dX3_level_5 : decode cX3_level 5 = .ok (.ifCond .ne 13, 3) := by decide +kernel
theorem dX3_level_8 : decode cX3_level 8 = .ok (.new 60, 3) := by decide +kernel
theorem dX3_level_11 : decode cX3_level 11 = .ok (.dup, 1) := by decide +kernel
theorem dX3_level_12 : decode cX3_level 12 = .ok (.ldc 139, 2) := by decide +kernel
theorem dX3_level_14 : decode cX3_level 14 = .ok (.invokespecial 64, 3) := by decide +kernel
theorem dX3_level_17 : decode cX3_level 17 = .ok (.athrow, 1) := by decide +kernel
theorem dX3_level_18 : decode cX3_level 18 = .ok (.aload_n 0, 1) := by decide +kernel
theorem dX3_level_19 : decode cX3_level 19 = .ok (.getfield 30, 3) := by decide +kernel
theorem dX3_level_22 : decode cX3_level 22 = .ok (.iload_n 1, 1) := by decide +kernel
theorem dX3_level_23 : decode cX3_level 23 = .ok (.invokevirtual 188, 3) := by decide +kernel
theorem dX3_level_26 : decode cX3_level 26 = .ok (.ireturn, 1) := by decide +kernel
theorem dX3_gifts_0 : decode cX3_gifts 0 = .ok (.aload_n 0, 1) := by decide +kernel
theorem dX3_gifts_1 : decode cX3_gifts 1 = .ok (.getfield 30, 3) := by decide +kernel
theorem dX3_gifts_4 : decode cX3_gifts 4 = .ok (.getfield 155, 3) := by decide +kernel
theorem dX3_gifts_7 : decode cX3_gifts 7 = .ok (.ireturn, 1) := by decide +kernel
theorem dX3_working_0 : decode cX3_working 0 = .ok (.aload_n 0, 1) := by decide +kernel
theorem dX3_working_1 : decode cX3_working 1 = .ok (.aload_n 0, 1) := by decide +kernel
theorem dX3_working_2 : decode cX3_working 2 = .ok (.getfield 30, 3) := by decide +kernel
theorem dX3_working_5 : decode cX3_working 5 = .ok (.getfield 155, 3) := by decide +kernel
theorem dX3_working_8 : decode cX3_working 8 = .ok (.invokevirtual 174, 3) := by decide +kernel
theorem dX3_working_11 : decode cX3_working 11 = .ok (.ireturn, 1) := by decide +kernel
theorem dX3_open_0 : decode cX3_open 0 = .ok (.iconst 0, 1) := by decide +kernel
theorem dX3_open_1 : decode cX3_open 1 = .ok (.istore_n 1, 1) := by decide +kernel
theorem dX3_open_2 : decode cX3_open 2 = .ok (.iconst 0, 1) := by decide +kernel
theorem dX3_open_3 : decode cX3_open 3 = .ok (.istore_n 2, 1) := by decide +kernel
theorem dX3_open_4 : decode cX3_open 4 = .ok (.iload_n 2, 1) := by decide +kernel
theorem dX3_open_5 : decode cX3_open 5 = .ok (.bipush 8, 2) := by decide +kernel
theorem dX3_open_7 : decode cX3_open 7 = .ok (.if_icmp .ge 27, 3) := by decide +kernel
theorem dX3_open_10 : decode cX3_open 10 = .ok (.aload_n 0, 1) := by decide +kernel
theorem dX3_open_11 : decode cX3_open 11 = .ok (.aload_n 0, 1) := by decide +kernel
theorem dX3_open_12 : decode cX3_open 12 = .ok (.getfield 30, 3) := by decide +kernel
theorem dX3_open_15 : decode cX3_open 15 = .ok (.iload_n 2, 1) := by decide +kernel
theorem dX3_open_16 : decode cX3_open 16 = .ok (.invokevirtual 149, 3) := by decide +kernel
theorem dX3_open_19 : decode cX3_open 19 = .ok (.ifCond .eq 9, 3) := by decide +kernel
theorem dX3_open_22 : decode cX3_open 22 = .ok (.iload_n 1, 1) := by decide +kernel
theorem dX3_open_23 : decode cX3_open 23 = .ok (.iconst 1, 1) := by decide +kernel
theorem dX3_open_24 : decode cX3_open 24 = .ok (.iload_n 2, 1) := by decide +kernel
theorem dX3_open_25 : decode cX3_open 25 = .ok (.ishl, 1) := by decide +kernel
theorem dX3_open_26 : decode cX3_open 26 = .ok (.ior, 1) := by decide +kernel
theorem dX3_open_27 : decode cX3_open 27 = .ok (.istore_n 1, 1) := by decide +kernel
theorem dX3_open_28 : decode cX3_open 28 = .ok (.iinc 2 1, 3) := by decide +kernel
theorem dX3_open_31 : decode cX3_open 31 = .ok (.goto (-27), 3) := by decide +kernel
theorem dX3_open_34 : decode cX3_open 34 = .ok (.iload_n 1, 1) := by decide +kernel
theorem dX3_open_35 : decode cX3_open 35 = .ok (.ireturn, 1) := by decide +kernel
theorem dX3_places_0 : decode cX3_places 0 = .ok (.aload_n 0, 1) := by decide +kernel
theorem dX3_places_1 : decode cX3_places 1 = .ok (.getfield 30, 3) := by decide +kernel
theorem dX3_places_4 : decode cX3_places 4 = .ok (.invokevirtual 191, 3) := by decide +kernel
theorem dX3_places_7 : decode cX3_places 7 = .ok (.invokestatic 194, 3) := by decide +kernel
theorem dX3_places_10 : decode cX3_places 10 = .ok (.ireturn, 1) := by decide +kernel
theorem dX3_points_0 : decode cX3_points 0 = .ok (.aload_n 0, 1) := by decide +kernel
theorem dX3_points_1 : decode cX3_points 1 = .ok (.invokevirtual 126, 3) := by decide +kernel
theorem dX3_points_4 : decode cX3_points 4 = .ok (.ireturn, 1) := by decide +kernel
theorem dX3_value_0 : decode cX3_value 0 = .ok (.iload_n 1, 1) := by decide +kernel
theorem dX3_value_1 : decode cX3_value 1 = .ok (.bipush 6, 2) := by decide +kernel
theorem dX3_value_3 : decode cX3_value 3 = .ok (.invokestatic 53, 3) := by decide +kernel
theorem dX3_value_6 : decode cX3_value 6 = .ok (.ifCond .ne 13, 3) := by decide +kernel
theorem dX3_value_9 : decode cX3_value 9 = .ok (.new 60, 3) := by decide +kernel
theorem dX3_value_12 : decode cX3_value 12 = .ok (.dup, 1) := by decide +kernel
theorem dX3_value_13 : decode cX3_value 13 = .ok (.ldc 197, 2) := by decide +kernel
theorem dX3_value_15 : decode cX3_value 15 = .ok (.invokespecial 64, 3) := by decide +kernel
theorem dX3_value_18 : decode cX3_value 18 = .ok (.athrow, 1) := by decide +kernel
theorem dX3_value_19 : decode cX3_value 19 = .ok (.aload_n 0, 1) := by decide +kernel
theorem dX3_value_20 : decode cX3_value 20 = .ok (.iload_n 1, 1) := by decide +kernel
theorem dX3_value_21 : decode cX3_value 21 = .ok (.invokevirtual 199, 3) := by decide +kernel
theorem dX3_value_24 : decode cX3_value 24 = .ok (.ifCond .eq 13, 3) := by decide +kernel
theorem dX3_value_27 : decode cX3_value 27 = .ok (.new 134, 3) := by decide +kernel
theorem dX3_value_30 : decode cX3_value 30 = .ok (.dup, 1) := by decide +kernel
theorem dX3_value_31 : decode cX3_value 31 = .ok (.ldc 202, 2) := by decide +kernel
theorem dX3_value_33 : decode cX3_value 33 = .ok (.invokespecial 138, 3) := by decide +kernel
theorem dX3_value_36 : decode cX3_value 36 = .ok (.athrow, 1) := by decide +kernel
theorem dX3_value_37 : decode cX3_value 37 = .ok (.aload_n 0, 1) := by decide +kernel
theorem dX3_value_38 : decode cX3_value 38 = .ok (.iload_n 1, 1) := by decide +kernel
theorem dX3_value_39 : decode cX3_value 39 = .ok (.aload_n 0, 1) := by decide +kernel
theorem dX3_value_40 : decode cX3_value 40 = .ok (.aload_n 0, 1) := by decide +kernel
theorem dX3_value_41 : decode cX3_value 41 = .ok (.getfield 30, 3) := by decide +kernel
theorem dX3_value_44 : decode cX3_value 44 = .ok (.getfield 155, 3) := by decide +kernel
theorem dX3_value_47 : decode cX3_value 47 = .ok (.invokevirtual 174, 3) := by decide +kernel
theorem dX3_value_50 : decode cX3_value 50 = .ok (.iconst 0, 1) := by decide +kernel
theorem dX3_value_51 : decode cX3_value 51 = .ok (.invokevirtual 204, 3) := by decide +kernel
theorem dX3_value_54 : decode cX3_value 54 = .ok (.ireturn, 1) := by decide +kernel
theorem dX3_bonus_0 : decode cX3_bonus 0 = .ok (.iload_n 1, 1) := by decide +kernel
theorem dX3_bonus_1 : decode cX3_bonus 1 = .ok (.bipush 6, 2) := by decide +kernel
theorem dX3_bonus_3 : decode cX3_bonus 3 = .ok (.invokestatic 53, 3) := by decide +kernel
theorem dX3_bonus_6 : decode cX3_bonus 6 = .ok (.ifCond .ne 13, 3) := by decide +kernel
theorem dX3_bonus_9 : decode cX3_bonus 9 = .ok (.new 60, 3) := by decide +kernel
theorem dX3_bonus_12 : decode cX3_bonus 12 = .ok (.dup, 1) := by decide +kernel
theorem dX3_bonus_13 : decode cX3_bonus 13 = .ok (.ldc 197, 2) := by decide +kernel
theorem dX3_bonus_15 : decode cX3_bonus 15 = .ok (.invokespecial 64, 3) := by decide +kernel
theorem dX3_bonus_18 : decode cX3_bonus 18 = .ok (.athrow, 1) := by decide +kernel
theorem dX3_bonus_19 : decode cX3_bonus 19 = .ok (.iload_n 2, 1) := by decide +kernel
theorem dX3_bonus_20 : decode cX3_bonus 20 = .ok (.iconst 4, 1) := by decide +kernel
theorem dX3_bonus_21 : decode cX3_bonus 21 = .ok (.invokestatic 53, 3) := by decide +kernel
theorem dX3_bonus_24 : decode cX3_bonus 24 = .ok (.ifCond .ne 13, 3) := by decide +kernel
theorem dX3_bonus_27 : decode cX3_bonus 27 = .ok (.new 71, 3) := by decide +kernel
theorem dX3_bonus_30 : decode cX3_bonus 30 = .ok (.dup, 1) := by decide +kernel
theorem dX3_bonus_31 : decode cX3_bonus 31 = .ok (.ldc 208, 2) := by decide +kernel
theorem dX3_bonus_33 : decode cX3_bonus 33 = .ok (.invokespecial 75, 3) := by decide +kernel
theorem dX3_bonus_36 : decode cX3_bonus 36 = .ok (.athrow, 1) := by decide +kernel
theorem dX3_bonus_37 : decode cX3_bonus 37 = .ok (.aload_n 0, 1) := by decide +kernel
theorem dX3_bonus_38 : decode cX3_bonus 38 = .ok (.aload_n 0, 1) := by decide +kernel
theorem dX3_bonus_39 : decode cX3_bonus 39 = .ok (.aload_n 0, 1) := by decide +kernel
theorem dX3_bonus_40 : decode cX3_bonus 40 = .ok (.getfield 30, 3) := by decide +kernel
theorem dX3_bonus_43 : decode cX3_bonus 43 = .ok (.getfield 155, 3) := by decide +kernel
theorem dX3_bonus_46 : decode cX3_bonus 46 = .ok (.invokevirtual 174, 3) := by decide +kernel
theorem dX3_bonus_49 : decode cX3_bonus 49 = .ok (.iload_n 1, 1) := by decide +kernel
theorem dX3_bonus_50 : decode cX3_bonus 50 = .ok (.iload_n 2, 1) := by decide +kernel
theorem dX3_bonus_51 : decode cX3_bonus 51 = .ok (.invokevirtual 210, 3) := by decide +kernel
theorem dX3_bonus_54 : decode cX3_bonus 54 = .ok (.ireturn, 1) := by decide +kernel
theorem dX3_isRing_0 : decode cX3_isRing 0 = .ok (.iload_n 1, 1) := by decide +kernel
theorem dX3_isRing_1 : decode cX3_isRing 1 = .ok (.bipush 6, 2) := by decide +kernel
theorem dX3_isRing_3 : decode cX3_isRing 3 = .ok (.invokestatic 53, 3) := by decide +kernel
theorem dX3_isRing_6 : decode cX3_isRing 6 = .ok (.ifCond .ne 13, 3) := by decide +kernel
theorem dX3_isRing_9 : decode cX3_isRing 9 = .ok (.new 60, 3) := by decide +kernel
theorem dX3_isRing_12 : decode cX3_isRing 12 = .ok (.dup, 1) := by decide +kernel
theorem dX3_isRing_13 : decode cX3_isRing 13 = .ok (.ldc 197, 2) := by decide +kernel
theorem dX3_isRing_15 : decode cX3_isRing 15 = .ok (.invokespecial 64, 3) := by decide +kernel
theorem dX3_isRing_18 : decode cX3_isRing 18 = .ok (.athrow, 1) := by decide +kernel
theorem dX3_isRing_19 : decode cX3_isRing 19 = .ok (.aload_n 0, 1) := by decide +kernel
theorem dX3_isRing_20 : decode cX3_isRing 20 = .ok (.iload_n 1, 1) := by decide +kernel
theorem dX3_isRing_21 : decode cX3_isRing 21 = .ok (.invokevirtual 199, 3) := by decide +kernel
theorem dX3_isRing_24 : decode cX3_isRing 24 = .ok (.ireturn, 1) := by decide +kernel
theorem dX3_attack_0 : decode cX3_attack 0 = .ok (.fconst 0, 1) := by decide +kernel
theorem dX3_attack_1 : decode cX3_attack 1 = .ok (.fstore_n 1, 1) := by decide +kernel
theorem dX3_attack_2 : decode cX3_attack 2 = .ok (.iconst 0, 1) := by decide +kernel
theorem dX3_attack_3 : decode cX3_attack 3 = .ok (.istore_n 2, 1) := by decide +kernel
theorem dX3_attack_4 : decode cX3_attack 4 = .ok (.iconst 0, 1) := by decide +kernel
theorem dX3_attack_5 : decode cX3_attack 5 = .ok (.istore_n 3, 1) := by decide +kernel
theorem dX3_attack_6 : decode cX3_attack 6 = .ok (.iload_n 3, 1) := by decide +kernel
theorem dX3_attack_7 : decode cX3_attack 7 = .ok (.iconst 3, 1) := by decide +kernel
theorem dX3_attack_8 : decode cX3_attack 8 = .ok (.if_icmp .ge 61, 3) := by decide +kernel
theorem dX3_attack_11 : decode cX3_attack 11 = .ok (.aload_n 0, 1) := by decide +kernel
theorem dX3_attack_12 : decode cX3_attack 12 = .ok (.getfield 30, 3) := by decide +kernel
theorem dX3_attack_15 : decode cX3_attack 15 = .ok (.iload_n 3, 1) := by decide +kernel
theorem dX3_attack_16 : decode cX3_attack 16 = .ok (.invokevirtual 188, 3) := by decide +kernel
theorem dX3_attack_19 : decode cX3_attack 19 = .ok (.istore 4, 2) := by decide +kernel
theorem dX3_attack_21 : decode cX3_attack 21 = .ok (.fload_n 1, 1) := by decide +kernel
theorem dX3_attack_22 : decode cX3_attack 22 = .ok (.iload 4, 2) := by decide +kernel
theorem dX3_attack_24 : decode cX3_attack 24 = .ok (.i2f, 1) := by decide +kernel
theorem dX3_attack_25 : decode cX3_attack 25 = .ok (.iload_n 3, 1) := by decide +kernel
theorem dX3_attack_26 : decode cX3_attack 26 = .ok (.iconst 2, 1) := by decide +kernel
theorem dX3_attack_27 : decode cX3_attack 27 = .ok (.iadd, 1) := by decide +kernel
theorem dX3_attack_28 : decode cX3_attack 28 = .ok (.i2f, 1) := by decide +kernel
theorem dX3_attack_29 : decode cX3_attack 29 = .ok (.ldc 213, 2) := by decide +kernel
theorem dX3_attack_31 : decode cX3_attack 31 = .ok (.fdiv, 1) := by decide +kernel
theorem dX3_attack_32 : decode cX3_attack 32 = .ok (.fmul, 1) := by decide +kernel
theorem dX3_attack_33 : decode cX3_attack 33 = .ok (.fadd, 1) := by decide +kernel
theorem dX3_attack_34 : decode cX3_attack 34 = .ok (.fstore_n 1, 1) := by decide +kernel
theorem dX3_attack_35 : decode cX3_attack 35 = .ok (.iload_n 2, 1) := by decide +kernel
theorem dX3_attack_36 : decode cX3_attack 36 = .ok (.ifCond .eq 12, 3) := by decide +kernel
theorem dX3_attack_39 : decode cX3_attack 39 = .ok (.fload_n 1, 1) := by decide +kernel
theorem dX3_attack_40 : decode cX3_attack 40 = .ok (.ldc 214, 2) := by decide +kernel
theorem dX3_attack_42 : decode cX3_attack 42 = .ok (.iload 4, 2) := by decide +kernel
theorem dX3_attack_44 : decode cX3_attack 44 = .ok (.i2f, 1) := by decide +kernel
theorem dX3_attack_45 : decode cX3_attack 45 = .ok (.fmul, 1) := by decide +kernel
theorem dX3_attack_46 : decode cX3_attack 46 = .ok (.fsub, 1) := by decide +kernel
theorem dX3_attack_47 : decode cX3_attack 47 = .ok (.fstore_n 1, 1) := by decide +kernel
theorem dX3_attack_48 : decode cX3_attack 48 = .ok (.iload_n 2, 1) := by decide +kernel
theorem dX3_attack_49 : decode cX3_attack 49 = .ok (.ifCond .ne 8, 3) := by decide +kernel
theorem dX3_attack_52 : decode cX3_attack 52 = .ok (.iload 4, 2) := by decide +kernel
theorem dX3_attack_54 : decode cX3_attack 54 = .ok (.ifCond .le 7, 3) := by decide +kernel
theorem dX3_attack_57 : decode cX3_attack 57 = .ok (.iconst 1, 1) := by decide +kernel
theorem dX3_attack_58 : decode cX3_attack 58 = .ok (.goto 4, 3) := by decide +kernel
theorem dX3_attack_61 : decode cX3_attack 61 = .ok (.iconst 0, 1) := by decide +kernel
theorem dX3_attack_62 : decode cX3_attack 62 = .ok (.istore_n 2, 1) := by decide +kernel
theorem dX3_attack_63 : decode cX3_attack 63 = .ok (.iinc 3 1, 3) := by decide +kernel
theorem dX3_attack_66 : decode cX3_attack 66 = .ok (.goto (-60), 3) := by decide +kernel
theorem dX3_attack_69 : decode cX3_attack 69 = .ok (.fload_n 1, 1) := by decide +kernel
theorem dX3_attack_70 : decode cX3_attack 70 = .ok (.f2i, 1) := by decide +kernel
theorem dX3_attack_71 : decode cX3_attack 71 = .ok (.ireturn, 1) := by decide +kernel
theorem dX3_isLawful_0 : decode cX3_isLawful 0 = .ok (.aload_n 0, 1) := by decide +kernel
theorem dX3_isLawful_1 : decode cX3_isLawful 1 = .ok (.aload_n 0, 1) := by decide +kernel
theorem dX3_isLawful_2 : decode cX3_isLawful 2 = .ok (.getfield 30, 3) := by decide +kernel
theorem dX3_isLawful_5 : decode cX3_isLawful 5 = .ok (.getfield 155, 3) := by decide +kernel
theorem dX3_isLawful_8 : decode cX3_isLawful 8 = .ok (.invokevirtual 169, 3) := by decide +kernel
theorem dX3_isLawful_11 : decode cX3_isLawful 11 = .ok (.ireturn, 1) := by decide +kernel
theorem dX3_isLawfulByOrders_0 : decode cX3_isLawfulByOrders 0 = .ok (.aload_n 0, 1) := by decide +kernel
theorem dX3_isLawfulByOrders_1 : decode cX3_isLawfulByOrders 1 = .ok (.invokevirtual 182, 3) := by decide +kernel
theorem dX3_isLawfulByOrders_4 : decode cX3_isLawfulByOrders 4 = .ok (.istore_n 1, 1) := by decide +kernel
theorem dX3_isLawfulByOrders_5 : decode cX3_isLawfulByOrders 5 = .ok (.iload_n 1, 1) := by decide +kernel
theorem dX3_isLawfulByOrders_6 : decode cX3_isLawfulByOrders 6 = .ok (.bipush 8, 2) := by decide +kernel
theorem dX3_isLawfulByOrders_8 : decode cX3_isLawfulByOrders 8 = .ok (.if_icmp .le 13, 3) := by decide +kernel
theorem dX3_isLawfulByOrders_11 : decode cX3_isLawfulByOrders 11 = .ok (.new 134, 3) := by decide +kernel
theorem dX3_isLawfulByOrders_14 : decode cX3_isLawfulByOrders 14 = .ok (.dup, 1) := by decide +kernel
theorem dX3_isLawfulByOrders_15 : decode cX3_isLawfulByOrders 15 = .ok (.ldc 215, 2) := by decide +kernel
theorem dX3_isLawfulByOrders_17 : decode cX3_isLawfulByOrders 17 = .ok (.invokespecial 138, 3) := by decide +kernel
theorem dX3_isLawfulByOrders_20 : decode cX3_isLawfulByOrders 20 = .ok (.athrow, 1) := by decide +kernel
theorem dX3_isLawfulByOrders_21 : decode cX3_isLawfulByOrders 21 = .ok (.aload_n 0, 1) := by decide +kernel
theorem dX3_isLawfulByOrders_22 : decode cX3_isLawfulByOrders 22 = .ok (.getfield 41, 3) := by decide +kernel
theorem dX3_isLawfulByOrders_25 : decode cX3_isLawfulByOrders 25 = .ok (.invokevirtual 185, 3) := by decide +kernel
theorem dX3_isLawfulByOrders_28 : decode cX3_isLawfulByOrders 28 = .ok (.aload_n 0, 1) := by decide +kernel
theorem dX3_isLawfulByOrders_29 : decode cX3_isLawfulByOrders 29 = .ok (.iload_n 1, 1) := by decide +kernel
theorem dX3_isLawfulByOrders_30 : decode cX3_isLawfulByOrders 30 = .ok (.invokevirtual 217, 3) := by decide +kernel
theorem dX3_isLawfulByOrders_33 : decode cX3_isLawfulByOrders 33 = .ok (.ireturn, 1) := by decide +kernel
theorem dX3_stepAt_0 : decode cX3_stepAt 0 = .ok (.iload_n 1, 1) := by decide +kernel
theorem dX3_stepAt_1 : decode cX3_stepAt 1 = .ok (.ifCond .ge 13, 3) := by decide +kernel
theorem dX3_stepAt_4 : decode cX3_stepAt 4 = .ok (.new 60, 3) := by decide +kernel
theorem dX3_stepAt_7 : decode cX3_stepAt 7 = .ok (.dup, 1) := by decide +kernel
theorem dX3_stepAt_8 : decode cX3_stepAt 8 = .ok (.ldc 220, 2) := by decide +kernel
theorem dX3_stepAt_10 : decode cX3_stepAt 10 = .ok (.invokespecial 64, 3) := by decide +kernel
theorem dX3_stepAt_13 : decode cX3_stepAt 13 = .ok (.athrow, 1) := by decide +kernel
theorem dX3_stepAt_14 : decode cX3_stepAt 14 = .ok (.aload_n 0, 1) := by decide +kernel
theorem dX3_stepAt_15 : decode cX3_stepAt 15 = .ok (.aload_n 0, 1) := by decide +kernel
theorem dX3_stepAt_16 : decode cX3_stepAt 16 = .ok (.getfield 30, 3) := by decide +kernel
theorem dX3_stepAt_19 : decode cX3_stepAt 19 = .ok (.getfield 155, 3) := by decide +kernel
theorem dX3_stepAt_22 : decode cX3_stepAt 22 = .ok (.invokevirtual 169, 3) := by decide +kernel
theorem dX3_stepAt_25 : decode cX3_stepAt 25 = .ok (.ifCond .ne 13, 3) := by decide +kernel
theorem dX3_stepAt_28 : decode cX3_stepAt 28 = .ok (.new 134, 3) := by decide +kernel
theorem dX3_stepAt_31 : decode cX3_stepAt 31 = .ok (.dup, 1) := by decide +kernel
theorem dX3_stepAt_32 : decode cX3_stepAt 32 = .ok (.ldc 222, 2) := by decide +kernel
theorem dX3_stepAt_34 : decode cX3_stepAt 34 = .ok (.invokespecial 138, 3) := by decide +kernel
theorem dX3_stepAt_37 : decode cX3_stepAt 37 = .ok (.athrow, 1) := by decide +kernel
theorem dX3_stepAt_38 : decode cX3_stepAt 38 = .ok (.iload_n 1, 1) := by decide +kernel
theorem dX3_stepAt_39 : decode cX3_stepAt 39 = .ok (.aload_n 0, 1) := by decide +kernel
theorem dX3_stepAt_40 : decode cX3_stepAt 40 = .ok (.invokevirtual 182, 3) := by decide +kernel
theorem dX3_stepAt_43 : decode cX3_stepAt 43 = .ok (.if_icmp .ge 11, 3) := by decide +kernel
theorem dX3_stepAt_46 : decode cX3_stepAt 46 = .ok (.aload_n 0, 1) := by decide +kernel
theorem dX3_stepAt_47 : decode cX3_stepAt 47 = .ok (.iload_n 1, 1) := by decide +kernel
theorem dX3_stepAt_48 : decode cX3_stepAt 48 = .ok (.invokevirtual 224, 3) := by decide +kernel
theorem dX3_stepAt_51 : decode cX3_stepAt 51 = .ok (.goto 4, 3) := by decide +kernel
theorem dX3_stepAt_54 : decode cX3_stepAt 54 = .ok (.iconst (-1), 1) := by decide +kernel
theorem dX3_stepAt_55 : decode cX3_stepAt 55 = .ok (.ireturn, 1) := by decide +kernel
theorem dX3_isAmong_0 : decode cX3_isAmong 0 = .ok (.iload_n 0, 1) := by decide +kernel
theorem dX3_isAmong_1 : decode cX3_isAmong 1 = .ok (.ifCond .lt 12, 3) := by decide +kernel
theorem dX3_isAmong_4 : decode cX3_isAmong 4 = .ok (.iload_n 0, 1) := by decide +kernel
theorem dX3_isAmong_5 : decode cX3_isAmong 5 = .ok (.iload_n 1, 1) := by decide +kernel
theorem dX3_isAmong_6 : decode cX3_isAmong 6 = .ok (.if_icmp .ge 7, 3) := by decide +kernel
theorem dX3_isAmong_9 : decode cX3_isAmong 9 = .ok (.iconst 1, 1) := by decide +kernel
theorem dX3_isAmong_10 : decode cX3_isAmong 10 = .ok (.goto 4, 3) := by decide +kernel
theorem dX3_isAmong_13 : decode cX3_isAmong 13 = .ok (.iconst 0, 1) := by decide +kernel
theorem dX3_isAmong_14 : decode cX3_isAmong 14 = .ok (.ireturn, 1) := by decide +kernel
theorem dX3_isAmongOrNone_0 : decode cX3_isAmongOrNone 0 = .ok (.iload_n 0, 1) := by decide +kernel
theorem dX3_isAmongOrNone_1 : decode cX3_isAmongOrNone 1 = .ok (.iconst (-1), 1) := by decide +kernel
theorem dX3_isAmongOrNone_2 : decode cX3_isAmongOrNone 2 = .ok (.if_icmp .eq 11, 3) := by decide +kernel
theorem dX3_isAmongOrNone_5 : decode cX3_isAmongOrNone 5 = .ok (.iload_n 0, 1) := by decide +kernel
theorem dX3_isAmongOrNone_6 : decode cX3_isAmongOrNone 6 = .ok (.iload_n 1, 1) := by decide +kernel
theorem dX3_isAmongOrNone_7 : decode cX3_isAmongOrNone 7 = .ok (.invokestatic 53, 3) := by decide +kernel
theorem dX3_isAmongOrNone_10 : decode cX3_isAmongOrNone 10 = .ok (.ifCond .eq 7, 3) := by decide +kernel
theorem dX3_isAmongOrNone_13 : decode cX3_isAmongOrNone 13 = .ok (.iconst 1, 1) := by decide +kernel
theorem dX3_isAmongOrNone_14 : decode cX3_isAmongOrNone 14 = .ok (.goto 4, 3) := by decide +kernel
theorem dX3_isAmongOrNone_17 : decode cX3_isAmongOrNone 17 = .ok (.iconst 0, 1) := by decide +kernel
theorem dX3_isAmongOrNone_18 : decode cX3_isAmongOrNone 18 = .ok (.ireturn, 1) := by decide +kernel
theorem dX3_isFromTo_0 : decode cX3_isFromTo 0 = .ok (.iload_n 0, 1) := by decide +kernel
theorem dX3_isFromTo_1 : decode cX3_isFromTo 1 = .ok (.iload_n 1, 1) := by decide +kernel
theorem dX3_isFromTo_2 : decode cX3_isFromTo 2 = .ok (.if_icmp .lt 12, 3) := by decide +kernel
theorem dX3_isFromTo_5 : decode cX3_isFromTo 5 = .ok (.iload_n 0, 1) := by decide +kernel
theorem dX3_isFromTo_6 : decode cX3_isFromTo 6 = .ok (.iload_n 2, 1) := by decide +kernel
theorem dX3_isFromTo_7 : decode cX3_isFromTo 7 = .ok (.if_icmp .gt 7, 3) := by decide +kernel
theorem dX3_isFromTo_10 : decode cX3_isFromTo 10 = .ok (.iconst 1, 1) := by decide +kernel
theorem dX3_isFromTo_11 : decode cX3_isFromTo 11 = .ok (.goto 4, 3) := by decide +kernel
theorem dX3_isFromTo_14 : decode cX3_isFromTo 14 = .ok (.iconst 0, 1) := by decide +kernel
theorem dX3_isFromTo_15 : decode cX3_isFromTo 15 = .ok (.ireturn, 1) := by decide +kernel
theorem dX3_costOf_0 : decode cX3_costOf 0 = .ok (.iload_n 0, 1) := by decide +kernel
theorem dX3_costOf_1 : decode cX3_costOf 1 = .ok (.bipush 8, 2) := by decide +kernel
theorem dX3_costOf_3 : decode cX3_costOf 3 = .ok (.isub, 1) := by decide +kernel
theorem dX3_costOf_4 : decode cX3_costOf 4 = .ok (.iconst 0, 1) := by decide +kernel
theorem dX3_costOf_5 : decode cX3_costOf 5 = .ok (.iload_n 0, 1) := by decide +kernel
theorem dX3_costOf_6 : decode cX3_costOf 6 = .ok (.bipush 12, 2) := by decide +kernel
theorem dX3_costOf_8 : decode cX3_costOf 8 = .ok (.isub, 1) := by decide +kernel
theorem dX3_costOf_9 : decode cX3_costOf 9 = .ok (.invokestatic 227, 3) := by decide +kernel
theorem dX3_costOf_12 : decode cX3_costOf 12 = .ok (.iadd, 1) := by decide +kernel
theorem dX3_costOf_13 : decode cX3_costOf 13 = .ok (.ireturn, 1) := by decide +kernel
theorem dX3_pointsLeft_0 : decode cX3_pointsLeft 0 = .ok (.bipush 20, 2) := by decide +kernel
theorem dX3_pointsLeft_2 : decode cX3_pointsLeft 2 = .ok (.istore_n 1, 1) := by decide +kernel
theorem dX3_pointsLeft_3 : decode cX3_pointsLeft 3 = .ok (.iconst 0, 1) := by decide +kernel
theorem dX3_pointsLeft_4 : decode cX3_pointsLeft 4 = .ok (.istore_n 2, 1) := by decide +kernel
theorem dX3_pointsLeft_5 : decode cX3_pointsLeft 5 = .ok (.iload_n 2, 1) := by decide +kernel
theorem dX3_pointsLeft_6 : decode cX3_pointsLeft 6 = .ok (.iconst 4, 1) := by decide +kernel
theorem dX3_pointsLeft_7 : decode cX3_pointsLeft 7 = .ok (.if_icmp .ge 21, 3) := by decide +kernel
theorem dX3_pointsLeft_10 : decode cX3_pointsLeft 10 = .ok (.iload_n 1, 1) := by decide +kernel
theorem dX3_pointsLeft_11 : decode cX3_pointsLeft 11 = .ok (.aload_n 0, 1) := by decide +kernel
theorem dX3_pointsLeft_12 : decode cX3_pointsLeft 12 = .ok (.getfield 23, 3) := by decide +kernel
theorem dX3_pointsLeft_15 : decode cX3_pointsLeft 15 = .ok (.iload_n 2, 1) := by decide +kernel
theorem dX3_pointsLeft_16 : decode cX3_pointsLeft 16 = .ok (.iaload, 1) := by decide +kernel
theorem dX3_pointsLeft_17 : decode cX3_pointsLeft 17 = .ok (.invokestatic 130, 3) := by decide +kernel
theorem dX3_pointsLeft_20 : decode cX3_pointsLeft 20 = .ok (.isub, 1) := by decide +kernel
theorem dX3_pointsLeft_21 : decode cX3_pointsLeft 21 = .ok (.istore_n 1, 1) := by decide +kernel
theorem dX3_pointsLeft_22 : decode cX3_pointsLeft 22 = .ok (.iinc 2 1, 3) := by decide +kernel
theorem dX3_pointsLeft_25 : decode cX3_pointsLeft 25 = .ok (.goto (-20), 3) := by decide +kernel
theorem dX3_pointsLeft_28 : decode cX3_pointsLeft 28 = .ok (.iload_n 1, 1) := by decide +kernel
theorem dX3_pointsLeft_29 : decode cX3_pointsLeft 29 = .ok (.ireturn, 1) := by decide +kernel
theorem dX3_modifierOf_0 : decode cX3_modifierOf 0 = .ok (.iload_n 1, 1) := by decide +kernel
theorem dX3_modifierOf_1 : decode cX3_modifierOf 1 = .ok (.iconst 4, 1) := by decide +kernel
theorem dX3_modifierOf_2 : decode cX3_modifierOf 2 = .ok (.invokestatic 53, 3) := by decide +kernel
theorem dX3_modifierOf_5 : decode cX3_modifierOf 5 = .ok (.ifCond .eq 19, 3) := by decide +kernel
theorem dX3_modifierOf_8 : decode cX3_modifierOf 8 = .ok (.aload_n 0, 1) := by decide +kernel
theorem dX3_modifierOf_9 : decode cX3_modifierOf 9 = .ok (.getfield 23, 3) := by decide +kernel
theorem dX3_modifierOf_12 : decode cX3_modifierOf 12 = .ok (.iload_n 1, 1) := by decide +kernel
theorem dX3_modifierOf_13 : decode cX3_modifierOf 13 = .ok (.iaload, 1) := by decide +kernel
theorem dX3_modifierOf_14 : decode cX3_modifierOf 14 = .ok (.bipush 10, 2) := by decide +kernel
theorem dX3_modifierOf_16 : decode cX3_modifierOf 16 = .ok (.isub, 1) := by decide +kernel
theorem dX3_modifierOf_17 : decode cX3_modifierOf 17 = .ok (.iconst 2, 1) := by decide +kernel
theorem dX3_modifierOf_18 : decode cX3_modifierOf 18 = .ok (.invokestatic 233, 3) := by decide +kernel
theorem dX3_modifierOf_21 : decode cX3_modifierOf 21 = .ok (.goto 4, 3) := by decide +kernel
theorem dX3_modifierOf_24 : decode cX3_modifierOf 24 = .ok (.iconst 0, 1) := by decide +kernel
theorem dX3_modifierOf_25 : decode cX3_modifierOf 25 = .ok (.ireturn, 1) := by decide +kernel
theorem dX3_placesAt_0 : decode cX3_placesAt 0 = .ok (.iconst 1, 1) := by decide +kernel
theorem dX3_placesAt_1 : decode cX3_placesAt 1 = .ok (.iload_n 0, 1) := by decide +kernel
theorem dX3_placesAt_2 : decode cX3_placesAt 2 = .ok (.iconst 2, 1) := by decide +kernel
theorem dX3_placesAt_3 : decode cX3_placesAt 3 = .ok (.idiv, 1) := by decide +kernel
theorem dX3_placesAt_4 : decode cX3_placesAt 4 = .ok (.iadd, 1) := by decide +kernel
theorem dX3_placesAt_5 : decode cX3_placesAt 5 = .ok (.ireturn, 1) := by decide +kernel
theorem dX3_hasScoreFor_0 : decode cX3_hasScoreFor 0 = .ok (.aload_n 0, 1) := by decide +kernel
theorem dX3_hasScoreFor_1 : decode cX3_hasScoreFor 1 = .ok (.getfield 12, 3) := by decide +kernel
theorem dX3_hasScoreFor_4 : decode cX3_hasScoreFor 4 = .ok (.getfield 78, 3) := by decide +kernel
theorem dX3_hasScoreFor_7 : decode cX3_hasScoreFor 7 = .ok (.iload_n 1, 1) := by decide +kernel
theorem dX3_hasScoreFor_8 : decode cX3_hasScoreFor 8 = .ok (.iaload, 1) := by decide +kernel
theorem dX3_hasScoreFor_9 : decode cX3_hasScoreFor 9 = .ok (.istore_n 2, 1) := by decide +kernel
theorem dX3_hasScoreFor_10 : decode cX3_hasScoreFor 10 = .ok (.iload_n 2, 1) := by decide +kernel
theorem dX3_hasScoreFor_11 : decode cX3_hasScoreFor 11 = .ok (.ifCond .lt 26, 3) := by decide +kernel
theorem dX3_hasScoreFor_14 : decode cX3_hasScoreFor 14 = .ok (.iload_n 2, 1) := by decide +kernel
theorem dX3_hasScoreFor_15 : decode cX3_hasScoreFor 15 = .ok (.iconst 4, 1) := by decide +kernel
theorem dX3_hasScoreFor_16 : decode cX3_hasScoreFor 16 = .ok (.if_icmp .ge 21, 3) := by decide +kernel
theorem dX3_hasScoreFor_19 : decode cX3_hasScoreFor 19 = .ok (.aload_n 0, 1) := by decide +kernel
theorem dX3_hasScoreFor_20 : decode cX3_hasScoreFor 20 = .ok (.getfield 23, 3) := by decide +kernel
theorem dX3_hasScoreFor_23 : decode cX3_hasScoreFor 23 = .ok (.iload_n 2, 1) := by decide +kernel
theorem dX3_hasScoreFor_24 : decode cX3_hasScoreFor 24 = .ok (.iaload, 1) := by decide +kernel
theorem dX3_hasScoreFor_25 : decode cX3_hasScoreFor 25 = .ok (.aload_n 0, 1) := by decide +kernel
theorem dX3_hasScoreFor_26 : decode cX3_hasScoreFor 26 = .ok (.getfield 12, 3) := by decide +kernel
theorem dX3_hasScoreFor_29 : decode cX3_hasScoreFor 29 = .ok (.getfield 81, 3) := by decide +kernel
theorem dX3_hasScoreFor_32 : decode cX3_hasScoreFor 32 = .ok (.iload_n 1, 1) := by decide +kernel
theorem dX3_hasScoreFor_33 : decode cX3_hasScoreFor 33 = .ok (.iaload, 1) := by decide +kernel
theorem dX3_hasScoreFor_34 : decode cX3_hasScoreFor 34 = .ok (.if_icmp .lt 7, 3) := by decide +kernel
theorem dX3_hasScoreFor_37 : decode cX3_hasScoreFor 37 = .ok (.iconst 1, 1) := by decide +kernel
theorem dX3_hasScoreFor_38 : decode cX3_hasScoreFor 38 = .ok (.goto 4, 3) := by decide +kernel
theorem dX3_hasScoreFor_41 : decode cX3_hasScoreFor 41 = .ok (.iconst 0, 1) := by decide +kernel
theorem dX3_hasScoreFor_42 : decode cX3_hasScoreFor 42 = .ok (.ireturn, 1) := by decide +kernel
theorem dX3_hasLevelFor_0 : decode cX3_hasLevelFor 0 = .ok (.aload_n 0, 1) := by decide +kernel
theorem dX3_hasLevelFor_1 : decode cX3_hasLevelFor 1 = .ok (.getfield 12, 3) := by decide +kernel
theorem dX3_hasLevelFor_4 : decode cX3_hasLevelFor 4 = .ok (.getfield 84, 3) := by decide +kernel
theorem dX3_hasLevelFor_7 : decode cX3_hasLevelFor 7 = .ok (.iload_n 2, 1) := by decide +kernel
theorem dX3_hasLevelFor_8 : decode cX3_hasLevelFor 8 = .ok (.iaload, 1) := by decide +kernel
theorem dX3_hasLevelFor_9 : decode cX3_hasLevelFor 9 = .ok (.istore_n 3, 1) := by decide +kernel
theorem dX3_hasLevelFor_10 : decode cX3_hasLevelFor 10 = .ok (.iload_n 3, 1) := by decide +kernel
theorem dX3_hasLevelFor_11 : decode cX3_hasLevelFor 11 = .ok (.ifCond .lt 26, 3) := by decide +kernel
theorem dX3_hasLevelFor_14 : decode cX3_hasLevelFor 14 = .ok (.iload_n 3, 1) := by decide +kernel
theorem dX3_hasLevelFor_15 : decode cX3_hasLevelFor 15 = .ok (.iconst 3, 1) := by decide +kernel
theorem dX3_hasLevelFor_16 : decode cX3_hasLevelFor 16 = .ok (.if_icmp .ge 21, 3) := by decide +kernel
theorem dX3_hasLevelFor_19 : decode cX3_hasLevelFor 19 = .ok (.aload_n 1, 1) := by decide +kernel
theorem dX3_hasLevelFor_20 : decode cX3_hasLevelFor 20 = .ok (.getfield 236, 3) := by decide +kernel
theorem dX3_hasLevelFor_23 : decode cX3_hasLevelFor 23 = .ok (.iload_n 3, 1) := by decide +kernel
theorem dX3_hasLevelFor_24 : decode cX3_hasLevelFor 24 = .ok (.iaload, 1) := by decide +kernel
theorem dX3_hasLevelFor_25 : decode cX3_hasLevelFor 25 = .ok (.aload_n 0, 1) := by decide +kernel
theorem dX3_hasLevelFor_26 : decode cX3_hasLevelFor 26 = .ok (.getfield 12, 3) := by decide +kernel
theorem dX3_hasLevelFor_29 : decode cX3_hasLevelFor 29 = .ok (.getfield 87, 3) := by decide +kernel
theorem dX3_hasLevelFor_32 : decode cX3_hasLevelFor 32 = .ok (.iload_n 2, 1) := by decide +kernel
theorem dX3_hasLevelFor_33 : decode cX3_hasLevelFor 33 = .ok (.iaload, 1) := by decide +kernel
theorem dX3_hasLevelFor_34 : decode cX3_hasLevelFor 34 = .ok (.if_icmp .lt 7, 3) := by decide +kernel
theorem dX3_hasLevelFor_37 : decode cX3_hasLevelFor 37 = .ok (.iconst 1, 1) := by decide +kernel
theorem dX3_hasLevelFor_38 : decode cX3_hasLevelFor 38 = .ok (.goto 4, 3) := by decide +kernel
theorem dX3_hasLevelFor_41 : decode cX3_hasLevelFor 41 = .ok (.iconst 0, 1) := by decide +kernel
theorem dX3_hasLevelFor_42 : decode cX3_hasLevelFor 42 = .ok (.ireturn, 1) := by decide +kernel
theorem dX3_isOtherIn_0 : decode cX3_isOtherIn 0 = .ok (.aload_n 0, 1) := by decide +kernel
theorem dX3_isOtherIn_1 : decode cX3_isOtherIn 1 = .ok (.getfield 12, 3) := by decide +kernel
theorem dX3_isOtherIn_4 : decode cX3_isOtherIn 4 = .ok (.getfield 90, 3) := by decide +kernel
theorem dX3_isOtherIn_7 : decode cX3_isOtherIn 7 = .ok (.iload_n 2, 1) := by decide +kernel
theorem dX3_isOtherIn_8 : decode cX3_isOtherIn 8 = .ok (.iaload, 1) := by decide +kernel
theorem dX3_isOtherIn_9 : decode cX3_isOtherIn 9 = .ok (.istore_n 3, 1) := by decide +kernel
theorem dX3_isOtherIn_10 : decode cX3_isOtherIn 10 = .ok (.iload_n 3, 1) := by decide +kernel
theorem dX3_isOtherIn_11 : decode cX3_isOtherIn 11 = .ok (.iconst (-1), 1) := by decide +kernel
theorem dX3_isOtherIn_12 : decode cX3_isOtherIn 12 = .ok (.if_icmp .eq 11, 3) := by decide +kernel
theorem dX3_isOtherIn_15 : decode cX3_isOtherIn 15 = .ok (.iload_n 1, 1) := by decide +kernel
theorem dX3_isOtherIn_16 : decode cX3_isOtherIn 16 = .ok (.iload_n 3, 1) := by decide +kernel
theorem dX3_isOtherIn_17 : decode cX3_isOtherIn 17 = .ok (.ishr, 1) := by decide +kernel
theorem dX3_isOtherIn_18 : decode cX3_isOtherIn 18 = .ok (.iconst 1, 1) := by decide +kernel
theorem dX3_isOtherIn_19 : decode cX3_isOtherIn 19 = .ok (.iand, 1) := by decide +kernel
theorem dX3_isOtherIn_20 : decode cX3_isOtherIn 20 = .ok (.ifCond .eq 7, 3) := by decide +kernel
theorem dX3_isOtherIn_23 : decode cX3_isOtherIn 23 = .ok (.iconst 1, 1) := by decide +kernel
theorem dX3_isOtherIn_24 : decode cX3_isOtherIn 24 = .ok (.goto 4, 3) := by decide +kernel
theorem dX3_isOtherIn_27 : decode cX3_isOtherIn 27 = .ok (.iconst 0, 1) := by decide +kernel
theorem dX3_isOtherIn_28 : decode cX3_isOtherIn 28 = .ok (.ireturn, 1) := by decide +kernel
theorem dX3_isBarred_0 : decode cX3_isBarred 0 = .ok (.aload_n 0, 1) := by decide +kernel
theorem dX3_isBarred_1 : decode cX3_isBarred 1 = .ok (.getfield 12, 3) := by decide +kernel
theorem dX3_isBarred_4 : decode cX3_isBarred 4 = .ok (.getfield 95, 3) := by decide +kernel
theorem dX3_isBarred_7 : decode cX3_isBarred 7 = .ok (.iload_n 2, 1) := by decide +kernel
theorem dX3_isBarred_8 : decode cX3_isBarred 8 = .ok (.iaload, 1) := by decide +kernel
theorem dX3_isBarred_9 : decode cX3_isBarred 9 = .ok (.istore_n 3, 1) := by decide +kernel
theorem dX3_isBarred_10 : decode cX3_isBarred 10 = .ok (.iload_n 3, 1) := by decide +kernel
theorem dX3_isBarred_11 : decode cX3_isBarred 11 = .ok (.ifCond .lt 30, 3) := by decide +kernel
theorem dX3_isBarred_14 : decode cX3_isBarred 14 = .ok (.iload_n 3, 1) := by decide +kernel
theorem dX3_isBarred_15 : decode cX3_isBarred 15 = .ok (.iconst 3, 1) := by decide +kernel
theorem dX3_isBarred_16 : decode cX3_isBarred 16 = .ok (.if_icmp .ge 25, 3) := by decide +kernel
theorem dX3_isBarred_19 : decode cX3_isBarred 19 = .ok (.aload_n 1, 1) := by decide +kernel
theorem dX3_isBarred_20 : decode cX3_isBarred 20 = .ok (.getfield 236, 3) := by decide +kernel
theorem dX3_isBarred_23 : decode cX3_isBarred 23 = .ok (.iload_n 3, 1) := by decide +kernel
theorem dX3_isBarred_24 : decode cX3_isBarred 24 = .ok (.iaload, 1) := by decide +kernel
theorem dX3_isBarred_25 : decode cX3_isBarred 25 = .ok (.aload_n 0, 1) := by decide +kernel
theorem dX3_isBarred_26 : decode cX3_isBarred 26 = .ok (.getfield 12, 3) := by decide +kernel
theorem dX3_isBarred_29 : decode cX3_isBarred 29 = .ok (.getfield 98, 3) := by decide +kernel
theorem dX3_isBarred_32 : decode cX3_isBarred 32 = .ok (.iload_n 2, 1) := by decide +kernel
theorem dX3_isBarred_33 : decode cX3_isBarred 33 = .ok (.iaload, 1) := by decide +kernel
theorem dX3_isBarred_34 : decode cX3_isBarred 34 = .ok (.if_icmp .le 7, 3) := by decide +kernel
theorem dX3_isBarred_37 : decode cX3_isBarred 37 = .ok (.iconst 1, 1) := by decide +kernel
theorem dX3_isBarred_38 : decode cX3_isBarred 38 = .ok (.goto 4, 3) := by decide +kernel
theorem dX3_isBarred_41 : decode cX3_isBarred 41 = .ok (.iconst 0, 1) := by decide +kernel
theorem dX3_isBarred_42 : decode cX3_isBarred 42 = .ok (.ireturn, 1) := by decide +kernel
theorem dX3_mayTake_0 : decode cX3_mayTake 0 = .ok (.aload_n 1, 1) := by decide +kernel
theorem dX3_mayTake_1 : decode cX3_mayTake 1 = .ok (.iload_n 2, 1) := by decide +kernel
theorem dX3_mayTake_2 : decode cX3_mayTake 2 = .ok (.invokevirtual 165, 3) := by decide +kernel
theorem dX3_mayTake_5 : decode cX3_mayTake 5 = .ok (.ifCond .ne 62, 3) := by decide +kernel
theorem dX3_mayTake_8 : decode cX3_mayTake 8 = .ok (.aload_n 1, 1) := by decide +kernel
theorem dX3_mayTake_9 : decode cX3_mayTake 9 = .ok (.getfield 155, 3) := by decide +kernel
theorem dX3_mayTake_12 : decode cX3_mayTake 12 = .ok (.invokestatic 177, 3) := by decide +kernel
theorem dX3_mayTake_15 : decode cX3_mayTake 15 = .ok (.aload_n 1, 1) := by decide +kernel
theorem dX3_mayTake_16 : decode cX3_mayTake 16 = .ok (.invokevirtual 191, 3) := by decide +kernel
theorem dX3_mayTake_19 : decode cX3_mayTake 19 = .ok (.invokestatic 194, 3) := by decide +kernel
theorem dX3_mayTake_22 : decode cX3_mayTake 22 = .ok (.if_icmp .ge 45, 3) := by decide +kernel
theorem dX3_mayTake_25 : decode cX3_mayTake 25 = .ok (.aload_n 0, 1) := by decide +kernel
theorem dX3_mayTake_26 : decode cX3_mayTake 26 = .ok (.iload_n 2, 1) := by decide +kernel
theorem dX3_mayTake_27 : decode cX3_mayTake 27 = .ok (.invokevirtual 239, 3) := by decide +kernel
theorem dX3_mayTake_30 : decode cX3_mayTake 30 = .ok (.ifCond .eq 37, 3) := by decide +kernel
theorem dX3_mayTake_33 : decode cX3_mayTake 33 = .ok (.aload_n 0, 1) := by decide +kernel
theorem dX3_mayTake_34 : decode cX3_mayTake 34 = .ok (.aload_n 1, 1) := by decide +kernel
theorem dX3_mayTake_35 : decode cX3_mayTake 35 = .ok (.iload_n 2, 1) := by decide +kernel
theorem dX3_mayTake_36 : decode cX3_mayTake 36 = .ok (.invokevirtual 242, 3) := by decide +kernel
theorem dX3_mayTake_39 : decode cX3_mayTake 39 = .ok (.ifCond .eq 28, 3) := by decide +kernel
theorem dX3_mayTake_42 : decode cX3_mayTake 42 = .ok (.aload_n 0, 1) := by decide +kernel
theorem dX3_mayTake_43 : decode cX3_mayTake 43 = .ok (.aload_n 1, 1) := by decide +kernel
theorem dX3_mayTake_44 : decode cX3_mayTake 44 = .ok (.getfield 155, 3) := by decide +kernel
theorem dX3_mayTake_47 : decode cX3_mayTake 47 = .ok (.iload_n 2, 1) := by decide +kernel
theorem dX3_mayTake_48 : decode cX3_mayTake 48 = .ok (.invokevirtual 245, 3) := by decide +kernel
theorem dX3_mayTake_51 : decode cX3_mayTake 51 = .ok (.ifCond .eq 16, 3) := by decide +kernel
theorem dX3_mayTake_54 : decode cX3_mayTake 54 = .ok (.aload_n 0, 1) := by decide +kernel
theorem dX3_mayTake_55 : decode cX3_mayTake 55 = .ok (.aload_n 1, 1) := by decide +kernel
theorem dX3_mayTake_56 : decode cX3_mayTake 56 = .ok (.iload_n 2, 1) := by decide +kernel
theorem dX3_mayTake_57 : decode cX3_mayTake 57 = .ok (.invokevirtual 248, 3) := by decide +kernel
theorem dX3_mayTake_60 : decode cX3_mayTake 60 = .ok (.ifCond .ne 7, 3) := by decide +kernel
theorem dX3_mayTake_63 : decode cX3_mayTake 63 = .ok (.iconst 1, 1) := by decide +kernel
theorem dX3_mayTake_64 : decode cX3_mayTake 64 = .ok (.goto 4, 3) := by decide +kernel
theorem dX3_mayTake_67 : decode cX3_mayTake 67 = .ok (.iconst 0, 1) := by decide +kernel
theorem dX3_mayTake_68 : decode cX3_mayTake 68 = .ok (.ireturn, 1) := by decide +kernel
theorem dX3_workingAmong_0 : decode cX3_workingAmong 0 = .ok (.iconst 0, 1) := by decide +kernel
theorem dX3_workingAmong_1 : decode cX3_workingAmong 1 = .ok (.istore_n 2, 1) := by decide +kernel
theorem dX3_workingAmong_2 : decode cX3_workingAmong 2 = .ok (.iconst 0, 1) := by decide +kernel
theorem dX3_workingAmong_3 : decode cX3_workingAmong 3 = .ok (.istore_n 3, 1) := by decide +kernel
theorem dX3_workingAmong_4 : decode cX3_workingAmong 4 = .ok (.iload_n 3, 1) := by decide +kernel
theorem dX3_workingAmong_5 : decode cX3_workingAmong 5 = .ok (.bipush 8, 2) := by decide +kernel
theorem dX3_workingAmong_7 : decode cX3_workingAmong 7 = .ok (.if_icmp .ge 73, 3) := by decide +kernel
theorem dX3_workingAmong_10 : decode cX3_workingAmong 10 = .ok (.iconst 0, 1) := by decide +kernel
theorem dX3_workingAmong_11 : decode cX3_workingAmong 11 = .ok (.istore 4, 2) := by decide +kernel
theorem dX3_workingAmong_13 : decode cX3_workingAmong 13 = .ok (.iload 4, 2) := by decide +kernel
theorem dX3_workingAmong_15 : decode cX3_workingAmong 15 = .ok (.bipush 8, 2) := by decide +kernel
theorem dX3_workingAmong_17 : decode cX3_workingAmong 17 = .ok (.if_icmp .ge 57, 3) := by decide +kernel
theorem dX3_workingAmong_20 : decode cX3_workingAmong 20 = .ok (.iload_n 1, 1) := by decide +kernel
theorem dX3_workingAmong_21 : decode cX3_workingAmong 21 = .ok (.iload 4, 2) := by decide +kernel
theorem dX3_workingAmong_23 : decode cX3_workingAmong 23 = .ok (.ishr, 1) := by decide +kernel
theorem dX3_workingAmong_24 : decode cX3_workingAmong 24 = .ok (.iconst 1, 1) := by decide +kernel
theorem dX3_workingAmong_25 : decode cX3_workingAmong 25 = .ok (.iand, 1) := by decide +kernel
theorem dX3_workingAmong_26 : decode cX3_workingAmong 26 = .ok (.ifCond .eq 42, 3) := by decide +kernel
theorem dX3_workingAmong_29 : decode cX3_workingAmong 29 = .ok (.aload_n 0, 1) := by decide +kernel
theorem dX3_workingAmong_30 : decode cX3_workingAmong 30 = .ok (.iload 4, 2) := by decide +kernel
theorem dX3_workingAmong_32 : decode cX3_workingAmong 32 = .ok (.invokevirtual 239, 3) := by decide +kernel
theorem dX3_workingAmong_35 : decode cX3_workingAmong 35 = .ok (.ifCond .eq 33, 3) := by decide +kernel
theorem dX3_workingAmong_38 : decode cX3_workingAmong 38 = .ok (.aload_n 0, 1) := by decide +kernel
theorem dX3_workingAmong_39 : decode cX3_workingAmong 39 = .ok (.aload_n 0, 1) := by decide +kernel
theorem dX3_workingAmong_40 : decode cX3_workingAmong 40 = .ok (.getfield 30, 3) := by decide +kernel
theorem dX3_workingAmong_43 : decode cX3_workingAmong 43 = .ok (.iload 4, 2) := by decide +kernel
theorem dX3_workingAmong_45 : decode cX3_workingAmong 45 = .ok (.invokevirtual 242, 3) := by decide +kernel
theorem dX3_workingAmong_48 : decode cX3_workingAmong 48 = .ok (.ifCond .eq 20, 3) := by decide +kernel
theorem dX3_workingAmong_51 : decode cX3_workingAmong 51 = .ok (.aload_n 0, 1) := by decide +kernel
theorem dX3_workingAmong_52 : decode cX3_workingAmong 52 = .ok (.iload_n 2, 1) := by decide +kernel
theorem dX3_workingAmong_53 : decode cX3_workingAmong 53 = .ok (.iload 4, 2) := by decide +kernel
theorem dX3_workingAmong_55 : decode cX3_workingAmong 55 = .ok (.invokevirtual 245, 3) := by decide +kernel
theorem dX3_workingAmong_58 : decode cX3_workingAmong 58 = .ok (.ifCond .eq 10, 3) := by decide +kernel
theorem dX3_workingAmong_61 : decode cX3_workingAmong 61 = .ok (.iload_n 2, 1) := by decide +kernel
theorem dX3_workingAmong_62 : decode cX3_workingAmong 62 = .ok (.iconst 1, 1) := by decide +kernel
theorem dX3_workingAmong_63 : decode cX3_workingAmong 63 = .ok (.iload 4, 2) := by decide +kernel
theorem dX3_workingAmong_65 : decode cX3_workingAmong 65 = .ok (.ishl, 1) := by decide +kernel
theorem dX3_workingAmong_66 : decode cX3_workingAmong 66 = .ok (.ior, 1) := by decide +kernel
theorem dX3_workingAmong_67 : decode cX3_workingAmong 67 = .ok (.istore_n 2, 1) := by decide +kernel
theorem dX3_workingAmong_68 : decode cX3_workingAmong 68 = .ok (.iinc 4 1, 3) := by decide +kernel
theorem dX3_workingAmong_71 : decode cX3_workingAmong 71 = .ok (.goto (-58), 3) := by decide +kernel
theorem dX3_workingAmong_74 : decode cX3_workingAmong 74 = .ok (.iinc 3 1, 3) := by decide +kernel
theorem dX3_workingAmong_77 : decode cX3_workingAmong 77 = .ok (.goto (-73), 3) := by decide +kernel
theorem dX3_workingAmong_80 : decode cX3_workingAmong 80 = .ok (.iload_n 2, 1) := by decide +kernel
theorem dX3_workingAmong_81 : decode cX3_workingAmong 81 = .ok (.ireturn, 1) := by decide +kernel
theorem dX3_bonusFrom_0 : decode cX3_bonusFrom 0 = .ok (.iconst 0, 1) := by decide +kernel
theorem dX3_bonusFrom_1 : decode cX3_bonusFrom 1 = .ok (.istore 4, 2) := by decide +kernel
theorem dX3_bonusFrom_3 : decode cX3_bonusFrom 3 = .ok (.iconst 0, 1) := by decide +kernel
theorem dX3_bonusFrom_4 : decode cX3_bonusFrom 4 = .ok (.istore 5, 2) := by decide +kernel
theorem dX3_bonusFrom_6 : decode cX3_bonusFrom 6 = .ok (.iconst 0, 1) := by decide +kernel
theorem dX3_bonusFrom_7 : decode cX3_bonusFrom 7 = .ok (.istore 6, 2) := by decide +kernel
theorem dX3_bonusFrom_9 : decode cX3_bonusFrom 9 = .ok (.iload 6, 2) := by decide +kernel
theorem dX3_bonusFrom_11 : decode cX3_bonusFrom 11 = .ok (.bipush 8, 2) := by decide +kernel
theorem dX3_bonusFrom_13 : decode cX3_bonusFrom 13 = .ok (.if_icmp .ge 86, 3) := by decide +kernel
theorem dX3_bonusFrom_16 : decode cX3_bonusFrom 16 = .ok (.iload_n 1, 1) := by decide +kernel
theorem dX3_bonusFrom_17 : decode cX3_bonusFrom 17 = .ok (.iload 6, 2) := by decide +kernel
theorem dX3_bonusFrom_19 : decode cX3_bonusFrom 19 = .ok (.ishr, 1) := by decide +kernel
theorem dX3_bonusFrom_20 : decode cX3_bonusFrom 20 = .ok (.iconst 1, 1) := by decide +kernel
theorem dX3_bonusFrom_21 : decode cX3_bonusFrom 21 = .ok (.iand, 1) := by decide +kernel
theorem dX3_bonusFrom_22 : decode cX3_bonusFrom 22 = .ok (.ifCond .eq 71, 3) := by decide +kernel
theorem dX3_bonusFrom_25 : decode cX3_bonusFrom 25 = .ok (.aload_n 0, 1) := by decide +kernel
theorem dX3_bonusFrom_26 : decode cX3_bonusFrom 26 = .ok (.getfield 12, 3) := by decide +kernel
theorem dX3_bonusFrom_29 : decode cX3_bonusFrom 29 = .ok (.getfield 105, 3) := by decide +kernel
theorem dX3_bonusFrom_32 : decode cX3_bonusFrom 32 = .ok (.iload 6, 2) := by decide +kernel
theorem dX3_bonusFrom_34 : decode cX3_bonusFrom 34 = .ok (.iaload, 1) := by decide +kernel
theorem dX3_bonusFrom_35 : decode cX3_bonusFrom 35 = .ok (.iload_n 2, 1) := by decide +kernel
theorem dX3_bonusFrom_36 : decode cX3_bonusFrom 36 = .ok (.if_icmp .ne 57, 3) := by decide +kernel
theorem dX3_bonusFrom_39 : decode cX3_bonusFrom 39 = .ok (.aload_n 0, 1) := by decide +kernel
theorem dX3_bonusFrom_40 : decode cX3_bonusFrom 40 = .ok (.getfield 12, 3) := by decide +kernel
theorem dX3_bonusFrom_43 : decode cX3_bonusFrom 43 = .ok (.getfield 108, 3) := by decide +kernel
theorem dX3_bonusFrom_46 : decode cX3_bonusFrom 46 = .ok (.iload 6, 2) := by decide +kernel
theorem dX3_bonusFrom_48 : decode cX3_bonusFrom 48 = .ok (.iaload, 1) := by decide +kernel
theorem dX3_bonusFrom_49 : decode cX3_bonusFrom 49 = .ok (.iload_n 3, 1) := by decide +kernel
theorem dX3_bonusFrom_50 : decode cX3_bonusFrom 50 = .ok (.if_icmp .ne 43, 3) := by decide +kernel
theorem dX3_bonusFrom_53 : decode cX3_bonusFrom 53 = .ok (.aload_n 0, 1) := by decide +kernel
theorem dX3_bonusFrom_54 : decode cX3_bonusFrom 54 = .ok (.getfield 12, 3) := by decide +kernel
theorem dX3_bonusFrom_57 : decode cX3_bonusFrom 57 = .ok (.getfield 111, 3) := by decide +kernel
theorem dX3_bonusFrom_60 : decode cX3_bonusFrom 60 = .ok (.iload 6, 2) := by decide +kernel
theorem dX3_bonusFrom_62 : decode cX3_bonusFrom 62 = .ok (.iaload, 1) := by decide +kernel
theorem dX3_bonusFrom_63 : decode cX3_bonusFrom 63 = .ok (.istore 7, 2) := by decide +kernel
theorem dX3_bonusFrom_65 : decode cX3_bonusFrom 65 = .ok (.iload_n 3, 1) := by decide +kernel
theorem dX3_bonusFrom_66 : decode cX3_bonusFrom 66 = .ok (.ifCond .eq 8, 3) := by decide +kernel
theorem dX3_bonusFrom_69 : decode cX3_bonusFrom 69 = .ok (.iload 7, 2) := by decide +kernel
theorem dX3_bonusFrom_71 : decode cX3_bonusFrom 71 = .ok (.ifCond .ge 13, 3) := by decide +kernel
theorem dX3_bonusFrom_74 : decode cX3_bonusFrom 74 = .ok (.iload 4, 2) := by decide +kernel
theorem dX3_bonusFrom_76 : decode cX3_bonusFrom 76 = .ok (.iload 7, 2) := by decide +kernel
theorem dX3_bonusFrom_78 : decode cX3_bonusFrom 78 = .ok (.iadd, 1) := by decide +kernel
theorem dX3_bonusFrom_79 : decode cX3_bonusFrom 79 = .ok (.istore 4, 2) := by decide +kernel
theorem dX3_bonusFrom_81 : decode cX3_bonusFrom 81 = .ok (.goto 12, 3) := by decide +kernel
theorem dX3_bonusFrom_84 : decode cX3_bonusFrom 84 = .ok (.iload 5, 2) := by decide +kernel
theorem dX3_bonusFrom_86 : decode cX3_bonusFrom 86 = .ok (.iload 7, 2) := by decide +kernel
theorem dX3_bonusFrom_88 : decode cX3_bonusFrom 88 = .ok (.invokestatic 227, 3) := by decide +kernel
theorem dX3_bonusFrom_91 : decode cX3_bonusFrom 91 = .ok (.istore 5, 2) := by decide +kernel
theorem dX3_bonusFrom_93 : decode cX3_bonusFrom 93 = .ok (.iinc 6 1, 3) := by decide +kernel
theorem dX3_bonusFrom_96 : decode cX3_bonusFrom 96 = .ok (.goto (-87), 3) := by decide +kernel
theorem dX3_bonusFrom_99 : decode cX3_bonusFrom 99 = .ok (.iload 4, 2) := by decide +kernel
theorem dX3_bonusFrom_101 : decode cX3_bonusFrom 101 = .ok (.iload 5, 2) := by decide +kernel
theorem dX3_bonusFrom_103 : decode cX3_bonusFrom 103 = .ok (.iadd, 1) := by decide +kernel
theorem dX3_bonusFrom_104 : decode cX3_bonusFrom 104 = .ok (.ireturn, 1) := by decide +kernel
theorem dX3_sumOf_0 : decode cX3_sumOf 0 = .ok (.iload_n 1, 1) := by decide +kernel
theorem dX3_sumOf_1 : decode cX3_sumOf 1 = .ok (.bipush 6, 2) := by decide +kernel
theorem dX3_sumOf_3 : decode cX3_sumOf 3 = .ok (.invokestatic 53, 3) := by decide +kernel
theorem dX3_sumOf_6 : decode cX3_sumOf 6 = .ok (.ifCond .eq 9, 3) := by decide +kernel
theorem dX3_sumOf_9 : decode cX3_sumOf 9 = .ok (.iload_n 3, 1) := by decide +kernel
theorem dX3_sumOf_10 : decode cX3_sumOf 10 = .ok (.bipush 6, 2) := by decide +kernel
theorem dX3_sumOf_12 : decode cX3_sumOf 12 = .ok (.if_icmp .lt 5, 3) := by decide +kernel
theorem dX3_sumOf_15 : decode cX3_sumOf 15 = .ok (.iconst 0, 1) := by decide +kernel
theorem dX3_sumOf_16 : decode cX3_sumOf 16 = .ok (.ireturn, 1) := by decide +kernel
theorem dX3_sumOf_17 : decode cX3_sumOf 17 = .ok (.aload_n 0, 1) := by decide +kernel
theorem dX3_sumOf_18 : decode cX3_sumOf 18 = .ok (.getfield 19, 3) := by decide +kernel
theorem dX3_sumOf_21 : decode cX3_sumOf 21 = .ok (.getfield 118, 3) := by decide +kernel
theorem dX3_sumOf_24 : decode cX3_sumOf 24 = .ok (.iload_n 1, 1) := by decide +kernel
theorem dX3_sumOf_25 : decode cX3_sumOf 25 = .ok (.iaload, 1) := by decide +kernel
theorem dX3_sumOf_26 : decode cX3_sumOf 26 = .ok (.aload_n 0, 1) := by decide +kernel
theorem dX3_sumOf_27 : decode cX3_sumOf 27 = .ok (.aload_n 0, 1) := by decide +kernel
theorem dX3_sumOf_28 : decode cX3_sumOf 28 = .ok (.getfield 19, 3) := by decide +kernel
theorem dX3_sumOf_31 : decode cX3_sumOf 31 = .ok (.getfield 121, 3) := by decide +kernel
theorem dX3_sumOf_34 : decode cX3_sumOf 34 = .ok (.iload_n 1, 1) := by decide +kernel
theorem dX3_sumOf_35 : decode cX3_sumOf 35 = .ok (.iaload, 1) := by decide +kernel
theorem dX3_sumOf_36 : decode cX3_sumOf 36 = .ok (.invokevirtual 251, 3) := by decide +kernel
theorem dX3_sumOf_39 : decode cX3_sumOf 39 = .ok (.iadd, 1) := by decide +kernel
theorem dX3_sumOf_40 : decode cX3_sumOf 40 = .ok (.aload_n 0, 1) := by decide +kernel
theorem dX3_sumOf_41 : decode cX3_sumOf 41 = .ok (.getfield 30, 3) := by decide +kernel
theorem dX3_sumOf_44 : decode cX3_sumOf 44 = .ok (.aload_n 0, 1) := by decide +kernel
theorem dX3_sumOf_45 : decode cX3_sumOf 45 = .ok (.getfield 19, 3) := by decide +kernel
theorem dX3_sumOf_48 : decode cX3_sumOf 48 = .ok (.getfield 122, 3) := by decide +kernel
theorem dX3_sumOf_51 : decode cX3_sumOf 51 = .ok (.iload_n 1, 1) := by decide +kernel
theorem dX3_sumOf_52 : decode cX3_sumOf 52 = .ok (.iaload, 1) := by decide +kernel
theorem dX3_sumOf_53 : decode cX3_sumOf 53 = .ok (.invokevirtual 188, 3) := by decide +kernel
theorem dX3_sumOf_56 : decode cX3_sumOf 56 = .ok (.iadd, 1) := by decide +kernel
theorem dX3_sumOf_57 : decode cX3_sumOf 57 = .ok (.aload_n 0, 1) := by decide +kernel
theorem dX3_sumOf_58 : decode cX3_sumOf 58 = .ok (.aload_n 0, 1) := by decide +kernel
theorem dX3_sumOf_59 : decode cX3_sumOf 59 = .ok (.getfield 19, 3) := by decide +kernel
theorem dX3_sumOf_62 : decode cX3_sumOf 62 = .ok (.getfield 123, 3) := by decide +kernel
theorem dX3_sumOf_65 : decode cX3_sumOf 65 = .ok (.iload_n 1, 1) := by decide +kernel
theorem dX3_sumOf_66 : decode cX3_sumOf 66 = .ok (.iaload, 1) := by decide +kernel
theorem dX3_sumOf_67 : decode cX3_sumOf 67 = .ok (.iload_n 2, 1) := by decide +kernel
theorem dX3_sumOf_68 : decode cX3_sumOf 68 = .ok (.iload_n 3, 1) := by decide +kernel
theorem dX3_sumOf_69 : decode cX3_sumOf 69 = .ok (.iconst 1, 1) := by decide +kernel
theorem dX3_sumOf_70 : decode cX3_sumOf 70 = .ok (.iadd, 1) := by decide +kernel
theorem dX3_sumOf_71 : decode cX3_sumOf 71 = .ok (.invokevirtual 204, 3) := by decide +kernel
theorem dX3_sumOf_74 : decode cX3_sumOf 74 = .ok (.iconst 2, 1) := by decide +kernel
theorem dX3_sumOf_75 : decode cX3_sumOf 75 = .ok (.invokestatic 233, 3) := by decide +kernel
theorem dX3_sumOf_78 : decode cX3_sumOf 78 = .ok (.iadd, 1) := by decide +kernel
theorem dX3_sumOf_79 : decode cX3_sumOf 79 = .ok (.istore 4, 2) := by decide +kernel
theorem dX3_sumOf_81 : decode cX3_sumOf 81 = .ok (.iconst 0, 1) := by decide +kernel
theorem dX3_sumOf_82 : decode cX3_sumOf 82 = .ok (.istore 5, 2) := by decide +kernel
theorem dX3_sumOf_84 : decode cX3_sumOf 84 = .ok (.iload 5, 2) := by decide +kernel
theorem dX3_sumOf_86 : decode cX3_sumOf 86 = .ok (.iconst 4, 1) := by decide +kernel
theorem dX3_sumOf_87 : decode cX3_sumOf 87 = .ok (.if_icmp .ge 22, 3) := by decide +kernel
theorem dX3_sumOf_90 : decode cX3_sumOf 90 = .ok (.iload 4, 2) := by decide +kernel
theorem dX3_sumOf_92 : decode cX3_sumOf 92 = .ok (.aload_n 0, 1) := by decide +kernel
theorem dX3_sumOf_93 : decode cX3_sumOf 93 = .ok (.iload_n 2, 1) := by decide +kernel
theorem dX3_sumOf_94 : decode cX3_sumOf 94 = .ok (.iload_n 1, 1) := by decide +kernel
theorem dX3_sumOf_95 : decode cX3_sumOf 95 = .ok (.iload 5, 2) := by decide +kernel
theorem dX3_sumOf_97 : decode cX3_sumOf 97 = .ok (.invokevirtual 210, 3) := by decide +kernel
theorem dX3_sumOf_100 : decode cX3_sumOf 100 = .ok (.iadd, 1) := by decide +kernel
theorem dX3_sumOf_101 : decode cX3_sumOf 101 = .ok (.istore 4, 2) := by decide +kernel
theorem dX3_sumOf_103 : decode cX3_sumOf 103 = .ok (.iinc 5 1, 3) := by decide +kernel
theorem dX3_sumOf_106 : decode cX3_sumOf 106 = .ok (.goto (-22), 3) := by decide +kernel
theorem dX3_sumOf_109 : decode cX3_sumOf 109 = .ok (.iload 4, 2) := by decide +kernel
theorem dX3_sumOf_111 : decode cX3_sumOf 111 = .ok (.ireturn, 1) := by decide +kernel
theorem dX3_leadsIntoRing_0 : decode cX3_leadsIntoRing 0 = .ok (.iload_n 1, 1) := by decide +kernel
theorem dX3_leadsIntoRing_1 : decode cX3_leadsIntoRing 1 = .ok (.istore_n 2, 1) := by decide +kernel
theorem dX3_leadsIntoRing_2 : decode cX3_leadsIntoRing 2 = .ok (.iconst 0, 1) := by decide +kernel
theorem dX3_leadsIntoRing_3 : decode cX3_leadsIntoRing 3 = .ok (.istore_n 3, 1) := by decide +kernel
theorem dX3_leadsIntoRing_4 : decode cX3_leadsIntoRing 4 = .ok (.iload_n 3, 1) := by decide +kernel
theorem dX3_leadsIntoRing_5 : decode cX3_leadsIntoRing 5 = .ok (.bipush 6, 2) := by decide +kernel
theorem dX3_leadsIntoRing_7 : decode cX3_leadsIntoRing 7 = .ok (.if_icmp .ge 28, 3) := by decide +kernel
theorem dX3_leadsIntoRing_10 : decode cX3_leadsIntoRing 10 = .ok (.iload_n 2, 1) := by decide +kernel
theorem dX3_leadsIntoRing_11 : decode cX3_leadsIntoRing 11 = .ok (.bipush 6, 2) := by decide +kernel
theorem dX3_leadsIntoRing_13 : decode cX3_leadsIntoRing 13 = .ok (.invokestatic 53, 3) := by decide +kernel
theorem dX3_leadsIntoRing_16 : decode cX3_leadsIntoRing 16 = .ok (.ifCond .eq 19, 3) := by decide +kernel
theorem dX3_leadsIntoRing_19 : decode cX3_leadsIntoRing 19 = .ok (.aload_n 0, 1) := by decide +kernel
theorem dX3_leadsIntoRing_20 : decode cX3_leadsIntoRing 20 = .ok (.getfield 19, 3) := by decide +kernel
theorem dX3_leadsIntoRing_23 : decode cX3_leadsIntoRing 23 = .ok (.getfield 123, 3) := by decide +kernel
theorem dX3_leadsIntoRing_26 : decode cX3_leadsIntoRing 26 = .ok (.iload_n 2, 1) := by decide +kernel
theorem dX3_leadsIntoRing_27 : decode cX3_leadsIntoRing 27 = .ok (.iaload, 1) := by decide +kernel
theorem dX3_leadsIntoRing_28 : decode cX3_leadsIntoRing 28 = .ok (.istore_n 2, 1) := by decide +kernel
theorem dX3_leadsIntoRing_29 : decode cX3_leadsIntoRing 29 = .ok (.iinc 3 1, 3) := by decide +kernel
theorem dX3_leadsIntoRing_32 : decode cX3_leadsIntoRing 32 = .ok (.goto (-28), 3) := by decide +kernel
theorem dX3_leadsIntoRing_35 : decode cX3_leadsIntoRing 35 = .ok (.iload_n 2, 1) := by decide +kernel
theorem dX3_leadsIntoRing_36 : decode cX3_leadsIntoRing 36 = .ok (.bipush 6, 2) := by decide +kernel
theorem dX3_leadsIntoRing_38 : decode cX3_leadsIntoRing 38 = .ok (.invokestatic 53, 3) := by decide +kernel
theorem dX3_leadsIntoRing_41 : decode cX3_leadsIntoRing 41 = .ok (.ireturn, 1) := by decide +kernel
theorem dX3_stepCount_0 : decode cX3_stepCount 0 = .ok (.aload_n 0, 1) := by decide +kernel
theorem dX3_stepCount_1 : decode cX3_stepCount 1 = .ok (.getfield 37, 3) := by decide +kernel
theorem dX3_stepCount_4 : decode cX3_stepCount 4 = .ok (.aload_n 0, 1) := by decide +kernel
theorem dX3_stepCount_5 : decode cX3_stepCount 5 = .ok (.getfield 30, 3) := by decide +kernel
theorem dX3_stepCount_8 : decode cX3_stepCount 8 = .ok (.invokevirtual 158, 3) := by decide +kernel
theorem dX3_stepCount_11 : decode cX3_stepCount 11 = .ok (.iadd, 1) := by decide +kernel
theorem dX3_stepCount_12 : decode cX3_stepCount 12 = .ok (.ireturn, 1) := by decide +kernel
theorem dX3_isStepTowards_0 : decode cX3_isStepTowards 0 = .ok (.iload_n 2, 1) := by decide +kernel
theorem dX3_isStepTowards_1 : decode cX3_isStepTowards 1 = .ok (.iconst 3, 1) := by decide +kernel
theorem dX3_isStepTowards_2 : decode cX3_isStepTowards 2 = .ok (.invokestatic 53, 3) := by decide +kernel
theorem dX3_isStepTowards_5 : decode cX3_isStepTowards 5 = .ok (.ifCond .eq 30, 3) := by decide +kernel
theorem dX3_isStepTowards_8 : decode cX3_isStepTowards 8 = .ok (.aload_n 0, 1) := by decide +kernel
theorem dX3_isStepTowards_9 : decode cX3_isStepTowards 9 = .ok (.getfield 41, 3) := by decide +kernel
theorem dX3_isStepTowards_12 : decode cX3_isStepTowards 12 = .ok (.getfield 236, 3) := by decide +kernel
theorem dX3_isStepTowards_15 : decode cX3_isStepTowards 15 = .ok (.iload_n 2, 1) := by decide +kernel
theorem dX3_isStepTowards_16 : decode cX3_isStepTowards 16 = .ok (.iaload, 1) := by decide +kernel
theorem dX3_isStepTowards_17 : decode cX3_isStepTowards 17 = .ok (.aload_n 0, 1) := by decide +kernel
theorem dX3_isStepTowards_18 : decode cX3_isStepTowards 18 = .ok (.getfield 30, 3) := by decide +kernel
theorem dX3_isStepTowards_21 : decode cX3_isStepTowards 21 = .ok (.getfield 236, 3) := by decide +kernel
theorem dX3_isStepTowards_24 : decode cX3_isStepTowards 24 = .ok (.iload_n 2, 1) := by decide +kernel
theorem dX3_isStepTowards_25 : decode cX3_isStepTowards 25 = .ok (.iaload, 1) := by decide +kernel
theorem dX3_isStepTowards_26 : decode cX3_isStepTowards 26 = .ok (.if_icmp .ge 7, 3) := by decide +kernel
theorem dX3_isStepTowards_29 : decode cX3_isStepTowards 29 = .ok (.iconst 1, 1) := by decide +kernel
theorem dX3_isStepTowards_30 : decode cX3_isStepTowards 30 = .ok (.goto 4, 3) := by decide +kernel
theorem dX3_isStepTowards_33 : decode cX3_isStepTowards 33 = .ok (.iconst 0, 1) := by decide +kernel
theorem dX3_isStepTowards_34 : decode cX3_isStepTowards 34 = .ok (.ireturn, 1) := by decide +kernel
theorem dX3_isStepTowards_35 : decode cX3_isStepTowards 35 = .ok (.iload_n 2, 1) := by decide +kernel
theorem dX3_isStepTowards_36 : decode cX3_isStepTowards 36 = .ok (.iconst 3, 1) := by decide +kernel
theorem dX3_isStepTowards_37 : decode cX3_isStepTowards 37 = .ok (.isub, 1) := by decide +kernel
theorem dX3_isStepTowards_38 : decode cX3_isStepTowards 38 = .ok (.istore_n 3, 1) := by decide +kernel
theorem dX3_isStepTowards_39 : decode cX3_isStepTowards 39 = .ok (.iload_n 3, 1) := by decide +kernel
theorem dX3_isStepTowards_40 : decode cX3_isStepTowards 40 = .ok (.bipush 8, 2) := by decide +kernel
theorem dX3_isStepTowards_42 : decode cX3_isStepTowards 42 = .ok (.invokestatic 53, 3) := by decide +kernel
theorem dX3_isStepTowards_45 : decode cX3_isStepTowards 45 = .ok (.ifCond .eq 27, 3) := by decide +kernel
theorem dX3_isStepTowards_48 : decode cX3_isStepTowards 48 = .ok (.iload_n 1, 1) := by decide +kernel
theorem dX3_isStepTowards_49 : decode cX3_isStepTowards 49 = .ok (.iload_n 3, 1) := by decide +kernel
theorem dX3_isStepTowards_50 : decode cX3_isStepTowards 50 = .ok (.ishr, 1) := by decide +kernel
theorem dX3_isStepTowards_51 : decode cX3_isStepTowards 51 = .ok (.iconst 1, 1) := by decide +kernel
theorem dX3_isStepTowards_52 : decode cX3_isStepTowards 52 = .ok (.iand, 1) := by decide +kernel
theorem dX3_isStepTowards_53 : decode cX3_isStepTowards 53 = .ok (.ifCond .eq 19, 3) := by decide +kernel
theorem dX3_isStepTowards_56 : decode cX3_isStepTowards 56 = .ok (.aload_n 0, 1) := by decide +kernel
theorem dX3_isStepTowards_57 : decode cX3_isStepTowards 57 = .ok (.aload_n 0, 1) := by decide +kernel
theorem dX3_isStepTowards_58 : decode cX3_isStepTowards 58 = .ok (.getfield 41, 3) := by decide +kernel
theorem dX3_isStepTowards_61 : decode cX3_isStepTowards 61 = .ok (.iload_n 3, 1) := by decide +kernel
theorem dX3_isStepTowards_62 : decode cX3_isStepTowards 62 = .ok (.invokevirtual 149, 3) := by decide +kernel
theorem dX3_isStepTowards_65 : decode cX3_isStepTowards 65 = .ok (.ifCond .eq 7, 3) := by decide +kernel
theorem dX3_isStepTowards_68 : decode cX3_isStepTowards 68 = .ok (.iconst 1, 1) := by decide +kernel
theorem dX3_isStepTowards_69 : decode cX3_isStepTowards 69 = .ok (.goto 4, 3) := by decide +kernel
theorem dX3_isStepTowards_72 : decode cX3_isStepTowards 72 = .ok (.iconst 0, 1) := by decide +kernel
theorem dX3_isStepTowards_73 : decode cX3_isStepTowards 73 = .ok (.ireturn, 1) := by decide +kernel
theorem dX3_canReach_0 : decode cX3_canReach 0 = .ok (.aload_n 0, 1) := by decide +kernel
theorem dX3_canReach_1 : decode cX3_canReach 1 = .ok (.getfield 44, 3) := by decide +kernel
theorem dX3_canReach_4 : decode cX3_canReach 4 = .ok (.iconst 0, 1) := by decide +kernel
theorem dX3_canReach_5 : decode cX3_canReach 5 = .ok (.invokestatic 47, 3) := by decide +kernel
theorem dX3_canReach_8 : decode cX3_canReach 8 = .ok (.aload_n 0, 1) := by decide +kernel
theorem dX3_canReach_9 : decode cX3_canReach 9 = .ok (.getfield 30, 3) := by decide +kernel
theorem dX3_canReach_12 : decode cX3_canReach 12 = .ok (.getfield 236, 3) := by decide +kernel
theorem dX3_canReach_15 : decode cX3_canReach 15 = .ok (.iconst 0, 1) := by decide +kernel
theorem dX3_canReach_16 : decode cX3_canReach 16 = .ok (.iaload, 1) := by decide +kernel
theorem dX3_canReach_17 : decode cX3_canReach 17 = .ok (.istore_n 2, 1) := by decide +kernel
theorem dX3_canReach_18 : decode cX3_canReach 18 = .ok (.iload_n 2, 1) := by decide +kernel
theorem dX3_canReach_19 : decode cX3_canReach 19 = .ok (.ifCond .lt 87, 3) := by decide +kernel
theorem dX3_canReach_22 : decode cX3_canReach 22 = .ok (.aload_n 0, 1) := by decide +kernel
theorem dX3_canReach_23 : decode cX3_canReach 23 = .ok (.getfield 30, 3) := by decide +kernel
theorem dX3_canReach_26 : decode cX3_canReach 26 = .ok (.getfield 236, 3) := by decide +kernel
theorem dX3_canReach_29 : decode cX3_canReach 29 = .ok (.iconst 1, 1) := by decide +kernel
theorem dX3_canReach_30 : decode cX3_canReach 30 = .ok (.iaload, 1) := by decide +kernel
theorem dX3_canReach_31 : decode cX3_canReach 31 = .ok (.istore_n 3, 1) := by decide +kernel
theorem dX3_canReach_32 : decode cX3_canReach 32 = .ok (.iload_n 3, 1) := by decide +kernel
theorem dX3_canReach_33 : decode cX3_canReach 33 = .ok (.ifCond .lt 67, 3) := by decide +kernel
theorem dX3_canReach_36 : decode cX3_canReach 36 = .ok (.aload_n 0, 1) := by decide +kernel
theorem dX3_canReach_37 : decode cX3_canReach 37 = .ok (.getfield 30, 3) := by decide +kernel
theorem dX3_canReach_40 : decode cX3_canReach 40 = .ok (.getfield 236, 3) := by decide +kernel
theorem dX3_canReach_43 : decode cX3_canReach 43 = .ok (.iconst 2, 1) := by decide +kernel
theorem dX3_canReach_44 : decode cX3_canReach 44 = .ok (.iaload, 1) := by decide +kernel
theorem dX3_canReach_45 : decode cX3_canReach 45 = .ok (.istore 4, 2) := by decide +kernel
theorem dX3_canReach_47 : decode cX3_canReach 47 = .ok (.iload 4, 2) := by decide +kernel
theorem dX3_canReach_49 : decode cX3_canReach 49 = .ok (.ifCond .lt 45, 3) := by decide +kernel
theorem dX3_canReach_52 : decode cX3_canReach 52 = .ok (.aload_n 0, 1) := by decide +kernel
theorem dX3_canReach_53 : decode cX3_canReach 53 = .ok (.getfield 41, 3) := by decide +kernel
theorem dX3_canReach_56 : decode cX3_canReach 56 = .ok (.getfield 236, 3) := by decide +kernel
theorem dX3_canReach_59 : decode cX3_canReach 59 = .ok (.iconst 0, 1) := by decide +kernel
theorem dX3_canReach_60 : decode cX3_canReach 60 = .ok (.iload_n 2, 1) := by decide +kernel
theorem dX3_canReach_61 : decode cX3_canReach 61 = .ok (.iastore, 1) := by decide +kernel
theorem dX3_canReach_62 : decode cX3_canReach 62 = .ok (.aload_n 0, 1) := by decide +kernel
theorem dX3_canReach_63 : decode cX3_canReach 63 = .ok (.getfield 41, 3) := by decide +kernel
theorem dX3_canReach_66 : decode cX3_canReach 66 = .ok (.getfield 236, 3) := by decide +kernel
theorem dX3_canReach_69 : decode cX3_canReach 69 = .ok (.iconst 1, 1) := by decide +kernel
theorem dX3_canReach_70 : decode cX3_canReach 70 = .ok (.iload_n 3, 1) := by decide +kernel
theorem dX3_canReach_71 : decode cX3_canReach 71 = .ok (.iastore, 1) := by decide +kernel
theorem dX3_canReach_72 : decode cX3_canReach 72 = .ok (.aload_n 0, 1) := by decide +kernel
theorem dX3_canReach_73 : decode cX3_canReach 73 = .ok (.getfield 41, 3) := by decide +kernel
theorem dX3_canReach_76 : decode cX3_canReach 76 = .ok (.getfield 236, 3) := by decide +kernel
theorem dX3_canReach_79 : decode cX3_canReach 79 = .ok (.iconst 2, 1) := by decide +kernel
theorem dX3_canReach_80 : decode cX3_canReach 80 = .ok (.iload 4, 2) := by decide +kernel
theorem dX3_canReach_82 : decode cX3_canReach 82 = .ok (.iastore, 1) := by decide +kernel
theorem dX3_canReach_83 : decode cX3_canReach 83 = .ok (.aload_n 0, 1) := by decide +kernel
theorem dX3_canReach_84 : decode cX3_canReach 84 = .ok (.iload_n 1, 1) := by decide +kernel
theorem dX3_canReach_85 : decode cX3_canReach 85 = .ok (.invokevirtual 254, 3) := by decide +kernel
theorem dX3_canReach_88 : decode cX3_canReach 88 = .ok (.iinc 4 (-1), 3) := by decide +kernel
theorem dX3_canReach_91 : decode cX3_canReach 91 = .ok (.goto (-44), 3) := by decide +kernel
theorem dX3_canReach_94 : decode cX3_canReach 94 = .ok (.iinc 3 (-1), 3) := by decide +kernel
theorem dX3_canReach_97 : decode cX3_canReach 97 = .ok (.goto (-65), 3) := by decide +kernel
theorem dX3_canReach_100 : decode cX3_canReach 100 = .ok (.iinc 2 (-1), 3) := by decide +kernel
theorem dX3_canReach_103 : decode cX3_canReach 103 = .ok (.goto (-85), 3) := by decide +kernel
theorem dX3_canReach_106 : decode cX3_canReach 106 = .ok (.aload_n 0, 1) := by decide +kernel
theorem dX3_canReach_107 : decode cX3_canReach 107 = .ok (.getfield 41, 3) := by decide +kernel
theorem dX3_canReach_110 : decode cX3_canReach 110 = .ok (.invokevirtual 185, 3) := by decide +kernel
theorem dX3_canReach_113 : decode cX3_canReach 113 = .ok (.aload_n 0, 1) := by decide +kernel
theorem dX3_canReach_114 : decode cX3_canReach 114 = .ok (.invokevirtual 258, 3) := by decide +kernel
theorem dX3_canReach_117 : decode cX3_canReach 117 = .ok (.ireturn, 1) := by decide +kernel
theorem dX3_markSets_0 : decode cX3_markSets 0 = .ok (.aload_n 0, 1) := by decide +kernel
theorem dX3_markSets_1 : decode cX3_markSets 1 = .ok (.getfield 41, 3) := by decide +kernel
theorem dX3_markSets_4 : decode cX3_markSets 4 = .ok (.invokevirtual 191, 3) := by decide +kernel
theorem dX3_markSets_7 : decode cX3_markSets 7 = .ok (.aload_n 0, 1) := by decide +kernel
theorem dX3_markSets_8 : decode cX3_markSets 8 = .ok (.getfield 37, 3) := by decide +kernel
theorem dX3_markSets_11 : decode cX3_markSets 11 = .ok (.if_icmp .ne 7, 3) := by decide +kernel
theorem dX3_markSets_14 : decode cX3_markSets 14 = .ok (.iconst 1, 1) := by decide +kernel
theorem dX3_markSets_15 : decode cX3_markSets 15 = .ok (.goto 4, 3) := by decide +kernel
theorem dX3_markSets_18 : decode cX3_markSets 18 = .ok (.iconst 0, 1) := by decide +kernel
theorem dX3_markSets_19 : decode cX3_markSets 19 = .ok (.istore_n 2, 1) := by decide +kernel
theorem dX3_markSets_20 : decode cX3_markSets 20 = .ok (.iload_n 1, 1) := by decide +kernel
theorem dX3_markSets_21 : decode cX3_markSets 21 = .ok (.istore_n 3, 1) := by decide +kernel
theorem dX3_markSets_22 : decode cX3_markSets 22 = .ok (.iload_n 3, 1) := by decide +kernel
theorem dX3_markSets_23 : decode cX3_markSets 23 = .ok (.ifCond .lt 47, 3) := by decide +kernel
theorem dX3_markSets_26 : decode cX3_markSets 26 = .ok (.aload_n 0, 1) := by decide +kernel
theorem dX3_markSets_27 : decode cX3_markSets 27 = .ok (.getfield 41, 3) := by decide +kernel
theorem dX3_markSets_30 : decode cX3_markSets 30 = .ok (.iload_n 3, 1) := by decide +kernel
theorem dX3_markSets_31 : decode cX3_markSets 31 = .ok (.putfield 155, 3) := by decide +kernel
theorem dX3_markSets_34 : decode cX3_markSets 34 = .ok (.iload_n 3, 1) := by decide +kernel
theorem dX3_markSets_35 : decode cX3_markSets 35 = .ok (.iload_n 1, 1) := by decide +kernel
theorem dX3_markSets_36 : decode cX3_markSets 36 = .ok (.iconst (-1), 1) := by decide +kernel
theorem dX3_markSets_37 : decode cX3_markSets 37 = .ok (.ixor, 1) := by decide +kernel
theorem dX3_markSets_38 : decode cX3_markSets 38 = .ok (.iand, 1) := by decide +kernel
theorem dX3_markSets_39 : decode cX3_markSets 39 = .ok (.ifCond .ne 25, 3) := by decide +kernel
theorem dX3_markSets_42 : decode cX3_markSets 42 = .ok (.iload_n 2, 1) := by decide +kernel
theorem dX3_markSets_43 : decode cX3_markSets 43 = .ok (.ifCond .eq 8, 3) := by decide +kernel
theorem dX3_markSets_46 : decode cX3_markSets 46 = .ok (.iload_n 3, 1) := by decide +kernel
theorem dX3_markSets_47 : decode cX3_markSets 47 = .ok (.iload_n 1, 1) := by decide +kernel
theorem dX3_markSets_48 : decode cX3_markSets 48 = .ok (.if_icmp .eq 12, 3) := by decide +kernel
theorem dX3_markSets_51 : decode cX3_markSets 51 = .ok (.aload_n 0, 1) := by decide +kernel
theorem dX3_markSets_52 : decode cX3_markSets 52 = .ok (.iload_n 1, 1) := by decide +kernel
theorem dX3_markSets_53 : decode cX3_markSets 53 = .ok (.invokevirtual 262, 3) := by decide +kernel
theorem dX3_markSets_56 : decode cX3_markSets 56 = .ok (.iconst (-1), 1) := by decide +kernel
theorem dX3_markSets_57 : decode cX3_markSets 57 = .ok (.if_icmp .eq 7, 3) := by decide +kernel
theorem dX3_markSets_60 : decode cX3_markSets 60 = .ok (.aload_n 0, 1) := by decide +kernel
theorem dX3_markSets_61 : decode cX3_markSets 61 = .ok (.invokevirtual 265, 3) := by decide +kernel
theorem dX3_markSets_64 : decode cX3_markSets 64 = .ok (.iinc 3 (-1), 3) := by decide +kernel
theorem dX3_markSets_67 : decode cX3_markSets 67 = .ok (.goto (-45), 3) := by decide +kernel
theorem dX3_markSets_70 : decode cX3_markSets 70 = .ok (.return_, 1) := by decide +kernel
theorem dX3_firstStepTowards_0 : decode cX3_firstStepTowards 0 = .ok (.iconst 0, 1) := by decide +kernel
theorem dX3_firstStepTowards_1 : decode cX3_firstStepTowards 1 = .ok (.istore_n 2, 1) := by decide +kernel
theorem dX3_firstStepTowards_2 : decode cX3_firstStepTowards 2 = .ok (.iload_n 2, 1) := by decide +kernel
theorem dX3_firstStepTowards_3 : decode cX3_firstStepTowards 3 = .ok (.bipush 11, 2) := by decide +kernel
theorem dX3_firstStepTowards_5 : decode cX3_firstStepTowards 5 = .ok (.if_icmp .ge 45, 3) := by decide +kernel
theorem dX3_firstStepTowards_8 : decode cX3_firstStepTowards 8 = .ok (.aload_n 0, 1) := by decide +kernel
theorem dX3_firstStepTowards_9 : decode cX3_firstStepTowards 9 = .ok (.iload_n 1, 1) := by decide +kernel
theorem dX3_firstStepTowards_10 : decode cX3_firstStepTowards 10 = .ok (.iload_n 2, 1) := by decide +kernel
theorem dX3_firstStepTowards_11 : decode cX3_firstStepTowards 11 = .ok (.invokevirtual 268, 3) := by decide +kernel
theorem dX3_firstStepTowards_14 : decode cX3_firstStepTowards 14 = .ok (.ifCond .eq 30, 3) := by decide +kernel
theorem dX3_firstStepTowards_17 : decode cX3_firstStepTowards 17 = .ok (.aload_n 0, 1) := by decide +kernel
theorem dX3_firstStepTowards_18 : decode cX3_firstStepTowards 18 = .ok (.getfield 41, 3) := by decide +kernel
theorem dX3_firstStepTowards_21 : decode cX3_firstStepTowards 21 = .ok (.iload_n 2, 1) := by decide +kernel
theorem dX3_firstStepTowards_22 : decode cX3_firstStepTowards 22 = .ok (.invokevirtual 271, 3) := by decide +kernel
theorem dX3_firstStepTowards_25 : decode cX3_firstStepTowards 25 = .ok (.aload_n 0, 1) := by decide +kernel
theorem dX3_firstStepTowards_26 : decode cX3_firstStepTowards 26 = .ok (.invokevirtual 258, 3) := by decide +kernel
theorem dX3_firstStepTowards_29 : decode cX3_firstStepTowards 29 = .ok (.istore_n 3, 1) := by decide +kernel
theorem dX3_firstStepTowards_30 : decode cX3_firstStepTowards 30 = .ok (.aload_n 0, 1) := by decide +kernel
theorem dX3_firstStepTowards_31 : decode cX3_firstStepTowards 31 = .ok (.getfield 41, 3) := by decide +kernel
theorem dX3_firstStepTowards_34 : decode cX3_firstStepTowards 34 = .ok (.iload_n 2, 1) := by decide +kernel
theorem dX3_firstStepTowards_35 : decode cX3_firstStepTowards 35 = .ok (.invokevirtual 274, 3) := by decide +kernel
theorem dX3_firstStepTowards_38 : decode cX3_firstStepTowards 38 = .ok (.iload_n 3, 1) := by decide +kernel
theorem dX3_firstStepTowards_39 : decode cX3_firstStepTowards 39 = .ok (.ifCond .eq 5, 3) := by decide +kernel
theorem dX3_firstStepTowards_42 : decode cX3_firstStepTowards 42 = .ok (.iload_n 2, 1) := by decide +kernel
theorem dX3_firstStepTowards_43 : decode cX3_firstStepTowards 43 = .ok (.ireturn, 1) := by decide +kernel
theorem dX3_firstStepTowards_44 : decode cX3_firstStepTowards 44 = .ok (.iinc 2 1, 3) := by decide +kernel
theorem dX3_firstStepTowards_47 : decode cX3_firstStepTowards 47 = .ok (.goto (-45), 3) := by decide +kernel
theorem dX3_firstStepTowards_50 : decode cX3_firstStepTowards 50 = .ok (.iconst (-1), 1) := by decide +kernel
theorem dX3_firstStepTowards_51 : decode cX3_firstStepTowards 51 = .ok (.ireturn, 1) := by decide +kernel
theorem dX3_stepOfFirstOrder_0 : decode cX3_stepOfFirstOrder 0 = .ok (.iconst (-1), 1) := by decide +kernel
theorem dX3_stepOfFirstOrder_1 : decode cX3_stepOfFirstOrder 1 = .ok (.istore_n 2, 1) := by decide +kernel
theorem dX3_stepOfFirstOrder_2 : decode cX3_stepOfFirstOrder 2 = .ok (.iconst 0, 1) := by decide +kernel
theorem dX3_stepOfFirstOrder_3 : decode cX3_stepOfFirstOrder 3 = .ok (.istore_n 3, 1) := by decide +kernel
theorem dX3_stepOfFirstOrder_4 : decode cX3_stepOfFirstOrder 4 = .ok (.iload_n 3, 1) := by decide +kernel
theorem dX3_stepOfFirstOrder_5 : decode cX3_stepOfFirstOrder 5 = .ok (.iload_n 1, 1) := by decide +kernel
theorem dX3_stepOfFirstOrder_6 : decode cX3_stepOfFirstOrder 6 = .ok (.if_icmp .gt 29, 3) := by decide +kernel
theorem dX3_stepOfFirstOrder_9 : decode cX3_stepOfFirstOrder 9 = .ok (.aload_n 0, 1) := by decide +kernel
theorem dX3_stepOfFirstOrder_10 : decode cX3_stepOfFirstOrder 10 = .ok (.aload_n 0, 1) := by decide +kernel
theorem dX3_stepOfFirstOrder_11 : decode cX3_stepOfFirstOrder 11 = .ok (.getfield 30, 3) := by decide +kernel
theorem dX3_stepOfFirstOrder_14 : decode cX3_stepOfFirstOrder 14 = .ok (.getfield 155, 3) := by decide +kernel
theorem dX3_stepOfFirstOrder_17 : decode cX3_stepOfFirstOrder 17 = .ok (.invokevirtual 262, 3) := by decide +kernel
theorem dX3_stepOfFirstOrder_20 : decode cX3_stepOfFirstOrder 20 = .ok (.istore_n 2, 1) := by decide +kernel
theorem dX3_stepOfFirstOrder_21 : decode cX3_stepOfFirstOrder 21 = .ok (.aload_n 0, 1) := by decide +kernel
theorem dX3_stepOfFirstOrder_22 : decode cX3_stepOfFirstOrder 22 = .ok (.getfield 41, 3) := by decide +kernel
theorem dX3_stepOfFirstOrder_25 : decode cX3_stepOfFirstOrder 25 = .ok (.iload_n 2, 1) := by decide +kernel
theorem dX3_stepOfFirstOrder_26 : decode cX3_stepOfFirstOrder 26 = .ok (.invokevirtual 271, 3) := by decide +kernel
theorem dX3_stepOfFirstOrder_29 : decode cX3_stepOfFirstOrder 29 = .ok (.iinc 3 1, 3) := by decide +kernel
theorem dX3_stepOfFirstOrder_32 : decode cX3_stepOfFirstOrder 32 = .ok (.goto (-28), 3) := by decide +kernel
theorem dX3_stepOfFirstOrder_35 : decode cX3_stepOfFirstOrder 35 = .ok (.iload_n 2, 1) := by decide +kernel
theorem dX3_stepOfFirstOrder_36 : decode cX3_stepOfFirstOrder 36 = .ok (.iconst 3, 1) := by decide +kernel
theorem dX3_stepOfFirstOrder_37 : decode cX3_stepOfFirstOrder 37 = .ok (.if_icmp .ge 7, 3) := by decide +kernel
theorem dX3_stepOfFirstOrder_40 : decode cX3_stepOfFirstOrder 40 = .ok (.iload_n 2, 1) := by decide +kernel
theorem dX3_stepOfFirstOrder_41 : decode cX3_stepOfFirstOrder 41 = .ok (.goto 9, 3) := by decide +kernel
theorem dX3_stepOfFirstOrder_44 : decode cX3_stepOfFirstOrder 44 = .ok (.bipush 10, 2) := by decide +kernel
theorem dX3_stepOfFirstOrder_46 : decode cX3_stepOfFirstOrder 46 = .ok (.iload_n 2, 1) := by decide +kernel
theorem dX3_stepOfFirstOrder_47 : decode cX3_stepOfFirstOrder 47 = .ok (.iadd, 1) := by decide +kernel
theorem dX3_stepOfFirstOrder_48 : decode cX3_stepOfFirstOrder 48 = .ok (.iconst 3, 1) := by decide +kernel
theorem dX3_stepOfFirstOrder_49 : decode cX3_stepOfFirstOrder 49 = .ok (.isub, 1) := by decide +kernel
theorem dX3_stepOfFirstOrder_50 : decode cX3_stepOfFirstOrder 50 = .ok (.ireturn, 1) := by decide +kernel
theorem dX3_wordOfTrial_0 : decode cX3_wordOfTrial 0 = .ok (.aload_n 0, 1) := by decide +kernel
theorem dX3_wordOfTrial_1 : decode cX3_wordOfTrial 1 = .ok (.getfield 41, 3) := by decide +kernel
theorem dX3_wordOfTrial_4 : decode cX3_wordOfTrial 4 = .ok (.getfield 236, 3) := by decide +kernel
theorem dX3_wordOfTrial_7 : decode cX3_wordOfTrial 7 = .ok (.iconst 0, 1) := by decide +kernel
theorem dX3_wordOfTrial_8 : decode cX3_wordOfTrial 8 = .ok (.iaload, 1) := by decide +kernel
theorem dX3_wordOfTrial_9 : decode cX3_wordOfTrial 9 = .ok (.istore_n 1, 1) := by decide +kernel
theorem dX3_wordOfTrial_10 : decode cX3_wordOfTrial 10 = .ok (.iconst 1, 1) := by decide +kernel
theorem dX3_wordOfTrial_11 : decode cX3_wordOfTrial 11 = .ok (.istore_n 2, 1) := by decide +kernel
theorem dX3_wordOfTrial_12 : decode cX3_wordOfTrial 12 = .ok (.iload_n 2, 1) := by decide +kernel
theorem dX3_wordOfTrial_13 : decode cX3_wordOfTrial 13 = .ok (.iconst 3, 1) := by decide +kernel
theorem dX3_wordOfTrial_14 : decode cX3_wordOfTrial 14 = .ok (.if_icmp .ge 33, 3) := by decide +kernel
theorem dX3_wordOfTrial_17 : decode cX3_wordOfTrial 17 = .ok (.iload_n 1, 1) := by decide +kernel
theorem dX3_wordOfTrial_18 : decode cX3_wordOfTrial 18 = .ok (.aload_n 0, 1) := by decide +kernel
theorem dX3_wordOfTrial_19 : decode cX3_wordOfTrial 19 = .ok (.getfield 30, 3) := by decide +kernel
theorem dX3_wordOfTrial_22 : decode cX3_wordOfTrial 22 = .ok (.getfield 236, 3) := by decide +kernel
theorem dX3_wordOfTrial_25 : decode cX3_wordOfTrial 25 = .ok (.iload_n 2, 1) := by decide +kernel
theorem dX3_wordOfTrial_26 : decode cX3_wordOfTrial 26 = .ok (.iaload, 1) := by decide +kernel
theorem dX3_wordOfTrial_27 : decode cX3_wordOfTrial 27 = .ok (.iconst 1, 1) := by decide +kernel
theorem dX3_wordOfTrial_28 : decode cX3_wordOfTrial 28 = .ok (.iadd, 1) := by decide +kernel
theorem dX3_wordOfTrial_29 : decode cX3_wordOfTrial 29 = .ok (.imul, 1) := by decide +kernel
theorem dX3_wordOfTrial_30 : decode cX3_wordOfTrial 30 = .ok (.aload_n 0, 1) := by decide +kernel
theorem dX3_wordOfTrial_31 : decode cX3_wordOfTrial 31 = .ok (.getfield 41, 3) := by decide +kernel
theorem dX3_wordOfTrial_34 : decode cX3_wordOfTrial 34 = .ok (.getfield 236, 3) := by decide +kernel
theorem dX3_wordOfTrial_37 : decode cX3_wordOfTrial 37 = .ok (.iload_n 2, 1) := by decide +kernel
theorem dX3_wordOfTrial_38 : decode cX3_wordOfTrial 38 = .ok (.iaload, 1) := by decide +kernel
theorem dX3_wordOfTrial_39 : decode cX3_wordOfTrial 39 = .ok (.iadd, 1) := by decide +kernel
theorem dX3_wordOfTrial_40 : decode cX3_wordOfTrial 40 = .ok (.istore_n 1, 1) := by decide +kernel
theorem dX3_wordOfTrial_41 : decode cX3_wordOfTrial 41 = .ok (.iinc 2 1, 3) := by decide +kernel
theorem dX3_wordOfTrial_44 : decode cX3_wordOfTrial 44 = .ok (.goto (-32), 3) := by decide +kernel
theorem dX3_wordOfTrial_47 : decode cX3_wordOfTrial 47 = .ok (.iload_n 1, 1) := by decide +kernel
theorem dX3_wordOfTrial_48 : decode cX3_wordOfTrial 48 = .ok (.bipush 8, 2) := by decide +kernel
theorem dX3_wordOfTrial_50 : decode cX3_wordOfTrial 50 = .ok (.imul, 1) := by decide +kernel
theorem dX3_wordOfTrial_51 : decode cX3_wordOfTrial 51 = .ok (.aload_n 0, 1) := by decide +kernel
theorem dX3_wordOfTrial_52 : decode cX3_wordOfTrial 52 = .ok (.getfield 41, 3) := by decide +kernel
theorem dX3_wordOfTrial_55 : decode cX3_wordOfTrial 55 = .ok (.getfield 155, 3) := by decide +kernel
theorem dX3_wordOfTrial_58 : decode cX3_wordOfTrial 58 = .ok (.bipush 32, 2) := by decide +kernel
theorem dX3_wordOfTrial_60 : decode cX3_wordOfTrial 60 = .ok (.idiv, 1) := by decide +kernel
theorem dX3_wordOfTrial_61 : decode cX3_wordOfTrial 61 = .ok (.iadd, 1) := by decide +kernel
theorem dX3_wordOfTrial_62 : decode cX3_wordOfTrial 62 = .ok (.ireturn, 1) := by decide +kernel
theorem dX3_bitOfTrial_0 : decode cX3_bitOfTrial 0 = .ok (.iconst 1, 1) := by decide +kernel
theorem dX3_bitOfTrial_1 : decode cX3_bitOfTrial 1 = .ok (.aload_n 0, 1) := by decide +kernel
theorem dX3_bitOfTrial_2 : decode cX3_bitOfTrial 2 = .ok (.getfield 41, 3) := by decide +kernel
theorem dX3_bitOfTrial_5 : decode cX3_bitOfTrial 5 = .ok (.getfield 155, 3) := by decide +kernel
theorem dX3_bitOfTrial_8 : decode cX3_bitOfTrial 8 = .ok (.bipush 32, 2) := by decide +kernel
theorem dX3_bitOfTrial_10 : decode cX3_bitOfTrial 10 = .ok (.irem, 1) := by decide +kernel
theorem dX3_bitOfTrial_11 : decode cX3_bitOfTrial 11 = .ok (.ishl, 1) := by decide +kernel
theorem dX3_bitOfTrial_12 : decode cX3_bitOfTrial 12 = .ok (.ireturn, 1) := by decide +kernel
theorem dX3_mark_0 : decode cX3_mark 0 = .ok (.aload_n 0, 1) := by decide +kernel
theorem dX3_mark_1 : decode cX3_mark 1 = .ok (.invokevirtual 277, 3) := by decide +kernel
theorem dX3_mark_4 : decode cX3_mark 4 = .ok (.istore_n 1, 1) := by decide +kernel
theorem dX3_mark_5 : decode cX3_mark 5 = .ok (.iload_n 1, 1) := by decide +kernel
theorem dX3_mark_6 : decode cX3_mark 6 = .ok (.aload_n 0, 1) := by decide +kernel
theorem dX3_mark_7 : decode cX3_mark 7 = .ok (.getfield 44, 3) := by decide +kernel
theorem dX3_mark_10 : decode cX3_mark 10 = .ok (.arraylength, 1) := by decide +kernel
theorem dX3_mark_11 : decode cX3_mark 11 = .ok (.invokestatic 53, 3) := by decide +kernel
theorem dX3_mark_14 : decode cX3_mark 14 = .ok (.ifCond .eq 16, 3) := by decide +kernel
theorem dX3_mark_17 : decode cX3_mark 17 = .ok (.aload_n 0, 1) := by decide +kernel
theorem dX3_mark_18 : decode cX3_mark 18 = .ok (.getfield 44, 3) := by decide +kernel
theorem dX3_mark_21 : decode cX3_mark 21 = .ok (.iload_n 1, 1) := by decide +kernel
theorem dX3_mark_22 : decode cX3_mark 22 = .ok (.dup2, 1) := by decide +kernel
theorem dX3_mark_23 : decode cX3_mark 23 = .ok (.iaload, 1) := by decide +kernel
theorem dX3_mark_24 : decode cX3_mark 24 = .ok (.aload_n 0, 1) := by decide +kernel
theorem dX3_mark_25 : decode cX3_mark 25 = .ok (.invokevirtual 280, 3) := by decide +kernel
theorem dX3_mark_28 : decode cX3_mark 28 = .ok (.ior, 1) := by decide +kernel
theorem dX3_mark_29 : decode cX3_mark 29 = .ok (.iastore, 1) := by decide +kernel
theorem dX3_mark_30 : decode cX3_mark 30 = .ok (.return_, 1) := by decide +kernel
theorem dX3_isMarked_0 : decode cX3_isMarked 0 = .ok (.aload_n 0, 1) := by decide +kernel
theorem dX3_isMarked_1 : decode cX3_isMarked 1 = .ok (.invokevirtual 277, 3) := by decide +kernel
theorem dX3_isMarked_4 : decode cX3_isMarked 4 = .ok (.istore_n 1, 1) := by decide +kernel
theorem dX3_isMarked_5 : decode cX3_isMarked 5 = .ok (.iload_n 1, 1) := by decide +kernel
theorem dX3_isMarked_6 : decode cX3_isMarked 6 = .ok (.aload_n 0, 1) := by decide +kernel
theorem dX3_isMarked_7 : decode cX3_isMarked 7 = .ok (.getfield 44, 3) := by decide +kernel
theorem dX3_isMarked_10 : decode cX3_isMarked 10 = .ok (.arraylength, 1) := by decide +kernel
theorem dX3_isMarked_11 : decode cX3_isMarked 11 = .ok (.invokestatic 53, 3) := by decide +kernel
theorem dX3_isMarked_14 : decode cX3_isMarked 14 = .ok (.ifCond .eq 21, 3) := by decide +kernel
theorem dX3_isMarked_17 : decode cX3_isMarked 17 = .ok (.aload_n 0, 1) := by decide +kernel
theorem dX3_isMarked_18 : decode cX3_isMarked 18 = .ok (.getfield 44, 3) := by decide +kernel
theorem dX3_isMarked_21 : decode cX3_isMarked 21 = .ok (.iload_n 1, 1) := by decide +kernel
theorem dX3_isMarked_22 : decode cX3_isMarked 22 = .ok (.iaload, 1) := by decide +kernel
theorem dX3_isMarked_23 : decode cX3_isMarked 23 = .ok (.aload_n 0, 1) := by decide +kernel
theorem dX3_isMarked_24 : decode cX3_isMarked 24 = .ok (.invokevirtual 280, 3) := by decide +kernel
theorem dX3_isMarked_27 : decode cX3_isMarked 27 = .ok (.iand, 1) := by decide +kernel
theorem dX3_isMarked_28 : decode cX3_isMarked 28 = .ok (.ifCond .eq 7, 3) := by decide +kernel
theorem dX3_isMarked_31 : decode cX3_isMarked 31 = .ok (.iconst 1, 1) := by decide +kernel
theorem dX3_isMarked_32 : decode cX3_isMarked 32 = .ok (.goto 4, 3) := by decide +kernel
theorem dX3_isMarked_35 : decode cX3_isMarked 35 = .ok (.iconst 0, 1) := by decide +kernel
theorem dX3_isMarked_36 : decode cX3_isMarked 36 = .ok (.ireturn, 1) := by decide +kernel
theorem dX3_someOrderEnds_0 : decode cX3_someOrderEnds 0 = .ok (.iload_n 1, 1) := by decide +kernel
theorem dX3_someOrderEnds_1 : decode cX3_someOrderEnds 1 = .ok (.ifCond .gt 5, 3) := by decide +kernel
theorem dX3_someOrderEnds_4 : decode cX3_someOrderEnds 4 = .ok (.iconst 1, 1) := by decide +kernel
theorem dX3_someOrderEnds_5 : decode cX3_someOrderEnds 5 = .ok (.ireturn, 1) := by decide +kernel
theorem dX3_someOrderEnds_6 : decode cX3_someOrderEnds 6 = .ok (.iconst 0, 1) := by decide +kernel
theorem dX3_someOrderEnds_7 : decode cX3_someOrderEnds 7 = .ok (.istore_n 2, 1) := by decide +kernel
theorem dX3_someOrderEnds_8 : decode cX3_someOrderEnds 8 = .ok (.iload_n 2, 1) := by decide +kernel
theorem dX3_someOrderEnds_9 : decode cX3_someOrderEnds 9 = .ok (.bipush 11, 2) := by decide +kernel
theorem dX3_someOrderEnds_11 : decode cX3_someOrderEnds 11 = .ok (.if_icmp .ge 54, 3) := by decide +kernel
theorem dX3_someOrderEnds_14 : decode cX3_someOrderEnds 14 = .ok (.aload_n 0, 1) := by decide +kernel
theorem dX3_someOrderEnds_15 : decode cX3_someOrderEnds 15 = .ok (.aload_n 0, 1) := by decide +kernel
theorem dX3_someOrderEnds_16 : decode cX3_someOrderEnds 16 = .ok (.getfield 30, 3) := by decide +kernel
theorem dX3_someOrderEnds_19 : decode cX3_someOrderEnds 19 = .ok (.getfield 155, 3) := by decide +kernel
theorem dX3_someOrderEnds_22 : decode cX3_someOrderEnds 22 = .ok (.iload_n 2, 1) := by decide +kernel
theorem dX3_someOrderEnds_23 : decode cX3_someOrderEnds 23 = .ok (.invokevirtual 268, 3) := by decide +kernel
theorem dX3_someOrderEnds_26 : decode cX3_someOrderEnds 26 = .ok (.ifCond .eq 33, 3) := by decide +kernel
theorem dX3_someOrderEnds_29 : decode cX3_someOrderEnds 29 = .ok (.aload_n 0, 1) := by decide +kernel
theorem dX3_someOrderEnds_30 : decode cX3_someOrderEnds 30 = .ok (.getfield 41, 3) := by decide +kernel
theorem dX3_someOrderEnds_33 : decode cX3_someOrderEnds 33 = .ok (.iload_n 2, 1) := by decide +kernel
theorem dX3_someOrderEnds_34 : decode cX3_someOrderEnds 34 = .ok (.invokevirtual 271, 3) := by decide +kernel
theorem dX3_someOrderEnds_37 : decode cX3_someOrderEnds 37 = .ok (.aload_n 0, 1) := by decide +kernel
theorem dX3_someOrderEnds_38 : decode cX3_someOrderEnds 38 = .ok (.iload_n 1, 1) := by decide +kernel
theorem dX3_someOrderEnds_39 : decode cX3_someOrderEnds 39 = .ok (.iconst 1, 1) := by decide +kernel
theorem dX3_someOrderEnds_40 : decode cX3_someOrderEnds 40 = .ok (.isub, 1) := by decide +kernel
theorem dX3_someOrderEnds_41 : decode cX3_someOrderEnds 41 = .ok (.invokevirtual 217, 3) := by decide +kernel
theorem dX3_someOrderEnds_44 : decode cX3_someOrderEnds 44 = .ok (.istore_n 3, 1) := by decide +kernel
theorem dX3_someOrderEnds_45 : decode cX3_someOrderEnds 45 = .ok (.aload_n 0, 1) := by decide +kernel
theorem dX3_someOrderEnds_46 : decode cX3_someOrderEnds 46 = .ok (.getfield 41, 3) := by decide +kernel
theorem dX3_someOrderEnds_49 : decode cX3_someOrderEnds 49 = .ok (.iload_n 2, 1) := by decide +kernel
theorem dX3_someOrderEnds_50 : decode cX3_someOrderEnds 50 = .ok (.invokevirtual 274, 3) := by decide +kernel
theorem dX3_someOrderEnds_53 : decode cX3_someOrderEnds 53 = .ok (.iload_n 3, 1) := by decide +kernel
theorem dX3_someOrderEnds_54 : decode cX3_someOrderEnds 54 = .ok (.ifCond .eq 5, 3) := by decide +kernel
theorem dX3_someOrderEnds_57 : decode cX3_someOrderEnds 57 = .ok (.iconst 1, 1) := by decide +kernel
theorem dX3_someOrderEnds_58 : decode cX3_someOrderEnds 58 = .ok (.ireturn, 1) := by decide +kernel
theorem dX3_someOrderEnds_59 : decode cX3_someOrderEnds 59 = .ok (.iinc 2 1, 3) := by decide +kernel
theorem dX3_someOrderEnds_62 : decode cX3_someOrderEnds 62 = .ok (.goto (-54), 3) := by decide +kernel
theorem dX3_someOrderEnds_65 : decode cX3_someOrderEnds 65 = .ok (.iconst 0, 1) := by decide +kernel
theorem dX3_someOrderEnds_66 : decode cX3_someOrderEnds 66 = .ok (.ireturn, 1) := by decide +kernel
theorem dJ6_bitCount_0f7a4_0 : decode cJ6_bitCount_0f7a4 0 = .ok (.iload_n 0, 1) := by decide +kernel
theorem dJ6_bitCount_0f7a4_1 : decode cJ6_bitCount_0f7a4 1 = .ok (.iload_n 0, 1) := by decide +kernel
theorem dJ6_bitCount_0f7a4_2 : decode cJ6_bitCount_0f7a4 2 = .ok (.iconst 1, 1) := by decide +kernel
theorem dJ6_bitCount_0f7a4_3 : decode cJ6_bitCount_0f7a4 3 = .ok (.iushr, 1) := by decide +kernel
theorem dJ6_bitCount_0f7a4_4 : decode cJ6_bitCount_0f7a4 4 = .ok (.ldc_w 265, 3) := by decide +kernel
theorem dJ6_bitCount_0f7a4_7 : decode cJ6_bitCount_0f7a4 7 = .ok (.iand, 1) := by decide +kernel
theorem dJ6_bitCount_0f7a4_8 : decode cJ6_bitCount_0f7a4 8 = .ok (.isub, 1) := by decide +kernel
theorem dJ6_bitCount_0f7a4_9 : decode cJ6_bitCount_0f7a4 9 = .ok (.istore_n 0, 1) := by decide +kernel
theorem dJ6_bitCount_0f7a4_10 : decode cJ6_bitCount_0f7a4 10 = .ok (.iload_n 0, 1) := by decide +kernel
theorem dJ6_bitCount_0f7a4_11 : decode cJ6_bitCount_0f7a4 11 = .ok (.ldc_w 266, 3) := by decide +kernel
theorem dJ6_bitCount_0f7a4_14 : decode cJ6_bitCount_0f7a4 14 = .ok (.iand, 1) := by decide +kernel
theorem dJ6_bitCount_0f7a4_15 : decode cJ6_bitCount_0f7a4 15 = .ok (.iload_n 0, 1) := by decide +kernel
theorem dJ6_bitCount_0f7a4_16 : decode cJ6_bitCount_0f7a4 16 = .ok (.iconst 2, 1) := by decide +kernel
theorem dJ6_bitCount_0f7a4_17 : decode cJ6_bitCount_0f7a4 17 = .ok (.iushr, 1) := by decide +kernel
theorem dJ6_bitCount_0f7a4_18 : decode cJ6_bitCount_0f7a4 18 = .ok (.ldc_w 266, 3) := by decide +kernel
theorem dJ6_bitCount_0f7a4_21 : decode cJ6_bitCount_0f7a4 21 = .ok (.iand, 1) := by decide +kernel
theorem dJ6_bitCount_0f7a4_22 : decode cJ6_bitCount_0f7a4 22 = .ok (.iadd, 1) := by decide +kernel
theorem dJ6_bitCount_0f7a4_23 : decode cJ6_bitCount_0f7a4 23 = .ok (.istore_n 0, 1) := by decide +kernel
theorem dJ6_bitCount_0f7a4_24 : decode cJ6_bitCount_0f7a4 24 = .ok (.iload_n 0, 1) := by decide +kernel
theorem dJ6_bitCount_0f7a4_25 : decode cJ6_bitCount_0f7a4 25 = .ok (.iload_n 0, 1) := by decide +kernel
theorem dJ6_bitCount_0f7a4_26 : decode cJ6_bitCount_0f7a4 26 = .ok (.iconst 4, 1) := by decide +kernel
theorem dJ6_bitCount_0f7a4_27 : decode cJ6_bitCount_0f7a4 27 = .ok (.iushr, 1) := by decide +kernel
theorem dJ6_bitCount_0f7a4_28 : decode cJ6_bitCount_0f7a4 28 = .ok (.iadd, 1) := by decide +kernel
theorem dJ6_bitCount_0f7a4_29 : decode cJ6_bitCount_0f7a4 29 = .ok (.ldc_w 267, 3) := by decide +kernel
theorem dJ6_bitCount_0f7a4_32 : decode cJ6_bitCount_0f7a4 32 = .ok (.iand, 1) := by decide +kernel
theorem dJ6_bitCount_0f7a4_33 : decode cJ6_bitCount_0f7a4 33 = .ok (.istore_n 0, 1) := by decide +kernel
theorem dJ6_bitCount_0f7a4_34 : decode cJ6_bitCount_0f7a4 34 = .ok (.iload_n 0, 1) := by decide +kernel
theorem dJ6_bitCount_0f7a4_35 : decode cJ6_bitCount_0f7a4 35 = .ok (.iload_n 0, 1) := by decide +kernel
theorem dJ6_bitCount_0f7a4_36 : decode cJ6_bitCount_0f7a4 36 = .ok (.bipush 8, 2) := by decide +kernel
theorem dJ6_bitCount_0f7a4_38 : decode cJ6_bitCount_0f7a4 38 = .ok (.iushr, 1) := by decide +kernel
theorem dJ6_bitCount_0f7a4_39 : decode cJ6_bitCount_0f7a4 39 = .ok (.iadd, 1) := by decide +kernel
theorem dJ6_bitCount_0f7a4_40 : decode cJ6_bitCount_0f7a4 40 = .ok (.istore_n 0, 1) := by decide +kernel
theorem dJ6_bitCount_0f7a4_41 : decode cJ6_bitCount_0f7a4 41 = .ok (.iload_n 0, 1) := by decide +kernel
theorem dJ6_bitCount_0f7a4_42 : decode cJ6_bitCount_0f7a4 42 = .ok (.iload_n 0, 1) := by decide +kernel
theorem dJ6_bitCount_0f7a4_43 : decode cJ6_bitCount_0f7a4 43 = .ok (.bipush 16, 2) := by decide +kernel
theorem dJ6_bitCount_0f7a4_45 : decode cJ6_bitCount_0f7a4 45 = .ok (.iushr, 1) := by decide +kernel
theorem dJ6_bitCount_0f7a4_46 : decode cJ6_bitCount_0f7a4 46 = .ok (.iadd, 1) := by decide +kernel
theorem dJ6_bitCount_0f7a4_47 : decode cJ6_bitCount_0f7a4 47 = .ok (.istore_n 0, 1) := by decide +kernel
theorem dJ6_bitCount_0f7a4_48 : decode cJ6_bitCount_0f7a4 48 = .ok (.iload_n 0, 1) := by decide +kernel
theorem dJ6_bitCount_0f7a4_49 : decode cJ6_bitCount_0f7a4 49 = .ok (.bipush 63, 2) := by decide +kernel
theorem dJ6_bitCount_0f7a4_51 : decode cJ6_bitCount_0f7a4 51 = .ok (.iand, 1) := by decide +kernel
theorem dJ6_bitCount_0f7a4_52 : decode cJ6_bitCount_0f7a4 52 = .ok (.ireturn, 1) := by decide +kernel
theorem dJ9_floorDiv_7cf53_0 : decode cJ9_floorDiv_7cf53 0 = .ok (.iload_n 0, 1) := by decide +kernel
theorem dJ9_floorDiv_7cf53_1 : decode cJ9_floorDiv_7cf53 1 = .ok (.iload_n 1, 1) := by decide +kernel
theorem dJ9_floorDiv_7cf53_2 : decode cJ9_floorDiv_7cf53 2 = .ok (.idiv, 1) := by decide +kernel
theorem dJ9_floorDiv_7cf53_3 : decode cJ9_floorDiv_7cf53 3 = .ok (.istore_n 2, 1) := by decide +kernel
theorem dJ9_floorDiv_7cf53_4 : decode cJ9_floorDiv_7cf53 4 = .ok (.iload_n 0, 1) := by decide +kernel
theorem dJ9_floorDiv_7cf53_5 : decode cJ9_floorDiv_7cf53 5 = .ok (.iload_n 1, 1) := by decide +kernel
theorem dJ9_floorDiv_7cf53_6 : decode cJ9_floorDiv_7cf53 6 = .ok (.ixor, 1) := by decide +kernel
theorem dJ9_floorDiv_7cf53_7 : decode cJ9_floorDiv_7cf53 7 = .ok (.ifCond .ge 14, 3) := by decide +kernel
theorem dJ9_floorDiv_7cf53_10 : decode cJ9_floorDiv_7cf53 10 = .ok (.iload_n 2, 1) := by decide +kernel
theorem dJ9_floorDiv_7cf53_11 : decode cJ9_floorDiv_7cf53 11 = .ok (.iload_n 1, 1) := by decide +kernel
theorem dJ9_floorDiv_7cf53_12 : decode cJ9_floorDiv_7cf53 12 = .ok (.imul, 1) := by decide +kernel
theorem dJ9_floorDiv_7cf53_13 : decode cJ9_floorDiv_7cf53 13 = .ok (.iload_n 0, 1) := by decide +kernel
theorem dJ9_floorDiv_7cf53_14 : decode cJ9_floorDiv_7cf53 14 = .ok (.if_icmp .eq 7, 3) := by decide +kernel
theorem dJ9_floorDiv_7cf53_17 : decode cJ9_floorDiv_7cf53 17 = .ok (.iload_n 2, 1) := by decide +kernel
theorem dJ9_floorDiv_7cf53_18 : decode cJ9_floorDiv_7cf53 18 = .ok (.iconst 1, 1) := by decide +kernel
theorem dJ9_floorDiv_7cf53_19 : decode cJ9_floorDiv_7cf53 19 = .ok (.isub, 1) := by decide +kernel
theorem dJ9_floorDiv_7cf53_20 : decode cJ9_floorDiv_7cf53 20 = .ok (.ireturn, 1) := by decide +kernel
theorem dJ9_floorDiv_7cf53_21 : decode cJ9_floorDiv_7cf53 21 = .ok (.iload_n 2, 1) := by decide +kernel
theorem dJ9_floorDiv_7cf53_22 : decode cJ9_floorDiv_7cf53 22 = .ok (.ireturn, 1) := by decide +kernel
theorem dJ9_max_7cf53_0 : decode cJ9_max_7cf53 0 = .ok (.iload_n 0, 1) := by decide +kernel
theorem dJ9_max_7cf53_1 : decode cJ9_max_7cf53 1 = .ok (.iload_n 1, 1) := by decide +kernel
theorem dJ9_max_7cf53_2 : decode cJ9_max_7cf53 2 = .ok (.if_icmp .lt 7, 3) := by decide +kernel
theorem dJ9_max_7cf53_5 : decode cJ9_max_7cf53 5 = .ok (.iload_n 0, 1) := by decide +kernel
theorem dJ9_max_7cf53_6 : decode cJ9_max_7cf53 6 = .ok (.goto 4, 3) := by decide +kernel
theorem dJ9_max_7cf53_9 : decode cJ9_max_7cf53 9 = .ok (.iload_n 1, 1) := by decide +kernel
theorem dJ9_max_7cf53_10 : decode cJ9_max_7cf53 10 = .ok (.ireturn, 1) := by decide +kernel
theorem dJ7_fill_53178_0 : decode cJ7_fill_53178 0 = .ok (.iconst 0, 1) := by decide +kernel
theorem dJ7_fill_53178_1 : decode cJ7_fill_53178 1 = .ok (.istore_n 2, 1) := by decide +kernel
theorem dJ7_fill_53178_2 : decode cJ7_fill_53178 2 = .ok (.aload_n 0, 1) := by decide +kernel
theorem dJ7_fill_53178_3 : decode cJ7_fill_53178 3 = .ok (.arraylength, 1) := by decide +kernel
theorem dJ7_fill_53178_4 : decode cJ7_fill_53178 4 = .ok (.istore_n 3, 1) := by decide +kernel
theorem dJ7_fill_53178_5 : decode cJ7_fill_53178 5 = .ok (.iload_n 2, 1) := by decide +kernel
theorem dJ7_fill_53178_6 : decode cJ7_fill_53178 6 = .ok (.iload_n 3, 1) := by decide +kernel
theorem dJ7_fill_53178_7 : decode cJ7_fill_53178 7 = .ok (.if_icmp .ge 13, 3) := by decide +kernel
theorem dJ7_fill_53178_10 : decode cJ7_fill_53178 10 = .ok (.aload_n 0, 1) := by decide +kernel
theorem dJ7_fill_53178_11 : decode cJ7_fill_53178 11 = .ok (.iload_n 2, 1) := by decide +kernel
theorem dJ7_fill_53178_12 : decode cJ7_fill_53178 12 = .ok (.iload_n 1, 1) := by decide +kernel
theorem dJ7_fill_53178_13 : decode cJ7_fill_53178 13 = .ok (.iastore, 1) := by decide +kernel
theorem dJ7_fill_53178_14 : decode cJ7_fill_53178 14 = .ok (.iinc 2 1, 3) := by decide +kernel
theorem dJ7_fill_53178_17 : decode cJ7_fill_53178 17 = .ok (.goto (-12), 3) := by decide +kernel
theorem dJ7_fill_53178_20 : decode cJ7_fill_53178 20 = .ok (.return_, 1) := by decide +kernel
end
section
theorem dX4_init_0 : decode cX4_init 0 = .ok (.aload_n 0, 1) := by decide +kernel
theorem dX4_init_1 : decode cX4_init 1 = .ok (.invokespecial 1, 3) := by decide +kernel
theorem dX4_init_4 : decode cX4_init 4 = .ok (.aload_n 0, 1) := by decide +kernel
theorem dX4_init_5 : decode cX4_init 5 = .ok (.iconst 4, 1) := by decide +kernel
theorem dX4_init_6 : decode cX4_init 6 = .ok (.newarray .int, 2) := by decide +kernel
theorem dX4_init_8 : decode cX4_init 8 = .ok (.putfield 7, 3) := by decide +kernel
theorem dX4_init_11 : decode cX4_init 11 = .ok (.aload_n 0, 1) := by decide +kernel
theorem dX4_init_12 : decode cX4_init 12 = .ok (.bipush 8, 2) := by decide +kernel
theorem dX4_init_14 : decode cX4_init 14 = .ok (.newarray .int, 2) := by decide +kernel
theorem dX4_init_16 : decode cX4_init 16 = .ok (.putfield 13, 3) := by decide +kernel
theorem dX4_init_19 : decode cX4_init 19 = .ok (.aload_n 0, 1) := by decide +kernel
theorem dX4_init_20 : decode cX4_init 20 = .ok (.iconst 3, 1) := by decide +kernel
theorem dX4_init_21 : decode cX4_init 21 = .ok (.newarray .int, 2) := by decide +kernel
theorem dX4_init_23 : decode cX4_init 23 = .ok (.putfield 16, 3) := by decide +kernel
theorem dX4_init_26 : decode cX4_init 26 = .ok (.aload_n 0, 1) := by decide +kernel
theorem dX4_init_27 : decode cX4_init 27 = .ok (.bipush 8, 2) := by decide +kernel
theorem dX4_init_29 : decode cX4_init 29 = .ok (.newarray .int, 2) := by decide +kernel
theorem dX4_init_31 : decode cX4_init 31 = .ok (.putfield 19, 3) := by decide +kernel
theorem dX4_init_34 : decode cX4_init 34 = .ok (.aload_n 0, 1) := by decide +kernel
theorem dX4_init_35 : decode cX4_init 35 = .ok (.bipush 8, 2) := by decide +kernel
theorem dX4_init_37 : decode cX4_init 37 = .ok (.newarray .int, 2) := by decide +kernel
theorem dX4_init_39 : decode cX4_init 39 = .ok (.putfield 22, 3) := by decide +kernel
theorem dX4_init_42 : decode cX4_init 42 = .ok (.aload_n 0, 1) := by decide +kernel
theorem dX4_init_43 : decode cX4_init 43 = .ok (.bipush 8, 2) := by decide +kernel
theorem dX4_init_45 : decode cX4_init 45 = .ok (.newarray .int, 2) := by decide +kernel
theorem dX4_init_47 : decode cX4_init 47 = .ok (.putfield 25, 3) := by decide +kernel
theorem dX4_init_50 : decode cX4_init 50 = .ok (.aload_n 0, 1) := by decide +kernel
theorem dX4_init_51 : decode cX4_init 51 = .ok (.bipush 8, 2) := by decide +kernel
theorem dX4_init_53 : decode cX4_init 53 = .ok (.newarray .int, 2) := by decide +kernel
theorem dX4_init_55 : decode cX4_init 55 = .ok (.putfield 28, 3) := by decide +kernel
theorem dX4_init_58 : decode cX4_init 58 = .ok (.aload_n 0, 1) := by decide +kernel
theorem dX4_init_59 : decode cX4_init 59 = .ok (.bipush 8, 2) := by decide +kernel
theorem dX4_init_61 : decode cX4_init 61 = .ok (.newarray .int, 2) := by decide +kernel
theorem dX4_init_63 : decode cX4_init 63 = .ok (.putfield 31, 3) := by decide +kernel
theorem dX4_init_66 : decode cX4_init 66 = .ok (.aload_n 0, 1) := by decide +kernel
theorem dX4_init_67 : decode cX4_init 67 = .ok (.bipush 8, 2) := by decide +kernel
theorem dX4_init_69 : decode cX4_init 69 = .ok (.newarray .int, 2) := by decide +kernel
theorem dX4_init_71 : decode cX4_init 71 = .ok (.putfield 34, 3) := by decide +kernel
theorem dX4_init_74 : decode cX4_init 74 = .ok (.aload_n 0, 1) := by decide +kernel
theorem dX4_init_75 : decode cX4_init 75 = .ok (.bipush 8, 2) := by decide +kernel
theorem dX4_init_77 : decode cX4_init 77 = .ok (.newarray .int, 2) := by decide +kernel
theorem dX4_init_79 : decode cX4_init 79 = .ok (.putfield 37, 3) := by decide +kernel
theorem dX4_init_82 : decode cX4_init 82 = .ok (.aload_n 0, 1) := by decide +kernel
theorem dX4_init_83 : decode cX4_init 83 = .ok (.bipush 8, 2) := by decide +kernel
theorem dX4_init_85 : decode cX4_init 85 = .ok (.newarray .int, 2) := by decide +kernel
theorem dX4_init_87 : decode cX4_init 87 = .ok (.putfield 40, 3) := by decide +kernel
theorem dX4_init_90 : decode cX4_init 90 = .ok (.aload_n 0, 1) := by decide +kernel
theorem dX4_init_91 : decode cX4_init 91 = .ok (.bipush 8, 2) := by decide +kernel
theorem dX4_init_93 : decode cX4_init 93 = .ok (.newarray .int, 2) := by decide +kernel
theorem dX4_init_95 : decode cX4_init 95 = .ok (.putfield 43, 3) := by decide +kernel
theorem dX4_init_98 : decode cX4_init 98 = .ok (.aload_n 0, 1) := by decide +kernel
theorem dX4_init_99 : decode cX4_init 99 = .ok (.bipush 8, 2) := by decide +kernel
theorem dX4_init_101 : decode cX4_init 101 = .ok (.newarray .int, 2) := by decide +kernel
theorem dX4_init_103 : decode cX4_init 103 = .ok (.putfield 46, 3) := by decide +kernel
theorem dX4_init_106 : decode cX4_init 106 = .ok (.aload_n 0, 1) := by decide +kernel
theorem dX4_init_107 : decode cX4_init 107 = .ok (.bipush 6, 2) := by decide +kernel
theorem dX4_init_109 : decode cX4_init 109 = .ok (.newarray .int, 2) := by decide +kernel
theorem dX4_init_111 : decode cX4_init 111 = .ok (.putfield 49, 3) := by decide +kernel
theorem dX4_init_114 : decode cX4_init 114 = .ok (.aload_n 0, 1) := by decide +kernel
theorem dX4_init_115 : decode cX4_init 115 = .ok (.bipush 6, 2) := by decide +kernel
theorem dX4_init_117 : decode cX4_init 117 = .ok (.newarray .int, 2) := by decide +kernel
theorem dX4_init_119 : decode cX4_init 119 = .ok (.putfield 52, 3) := by decide +kernel
theorem dX4_init_122 : decode cX4_init 122 = .ok (.aload_n 0, 1) := by decide +kernel
theorem dX4_init_123 : decode cX4_init 123 = .ok (.bipush 6, 2) := by decide +kernel
theorem dX4_init_125 : decode cX4_init 125 = .ok (.newarray .int, 2) := by decide +kernel
theorem dX4_init_127 : decode cX4_init 127 = .ok (.putfield 55, 3) := by decide +kernel
theorem dX4_init_130 : decode cX4_init 130 = .ok (.aload_n 0, 1) := by decide +kernel
theorem dX4_init_131 : decode cX4_init 131 = .ok (.bipush 6, 2) := by decide +kernel
theorem dX4_init_133 : decode cX4_init 133 = .ok (.newarray .int, 2) := by decide +kernel
theorem dX4_init_135 : decode cX4_init 135 = .ok (.putfield 58, 3) := by decide +kernel
theorem dX4_init_138 : decode cX4_init 138 = .ok (.aload_n 0, 1) := by decide +kernel
theorem dX4_init_139 : decode cX4_init 139 = .ok (.sipush 12288, 3) := by decide +kernel
theorem dX4_init_142 : decode cX4_init 142 = .ok (.newarray .boolean, 2) := by decide +kernel
theorem dX4_init_144 : decode cX4_init 144 = .ok (.putfield 61, 3) := by decide +kernel
theorem dX4_init_147 : decode cX4_init 147 = .ok (.iconst 0, 1) := by decide +kernel
theorem dX4_init_148 : decode cX4_init 148 = .ok (.istore_n 1, 1) := by decide +kernel
theorem dX4_init_149 : decode cX4_init 149 = .ok (.iload_n 1, 1) := by decide +kernel
theorem dX4_init_150 : decode cX4_init 150 = .ok (.iconst 4, 1) := by decide +kernel
theorem dX4_init_151 : decode cX4_init 151 = .ok (.if_icmp .ge 17, 3) := by decide +kernel
theorem dX4_init_154 : decode cX4_init 154 = .ok (.aload_n 0, 1) := by decide +kernel
theorem dX4_init_155 : decode cX4_init 155 = .ok (.getfield 7, 3) := by decide +kernel
theorem dX4_init_158 : decode cX4_init 158 = .ok (.iload_n 1, 1) := by decide +kernel
theorem dX4_init_159 : decode cX4_init 159 = .ok (.bipush 8, 2) := by decide +kernel
theorem dX4_init_161 : decode cX4_init 161 = .ok (.iastore, 1) := by decide +kernel
theorem dX4_init_162 : decode cX4_init 162 = .ok (.iinc 1 1, 3) := by decide +kernel
theorem dX4_init_165 : decode cX4_init 165 = .ok (.goto (-16), 3) := by decide +kernel
theorem dX4_init_168 : decode cX4_init 168 = .ok (.iconst 0, 1) := by decide +kernel
theorem dX4_init_169 : decode cX4_init 169 = .ok (.istore_n 1, 1) := by decide +kernel
theorem dX4_init_170 : decode cX4_init 170 = .ok (.iload_n 1, 1) := by decide +kernel
theorem dX4_init_171 : decode cX4_init 171 = .ok (.bipush 8, 2) := by decide +kernel
theorem dX4_init_173 : decode cX4_init 173 = .ok (.if_icmp .ge 44, 3) := by decide +kernel
theorem dX4_init_176 : decode cX4_init 176 = .ok (.aload_n 0, 1) := by decide +kernel
theorem dX4_init_177 : decode cX4_init 177 = .ok (.getfield 19, 3) := by decide +kernel
theorem dX4_init_180 : decode cX4_init 180 = .ok (.iload_n 1, 1) := by decide +kernel
theorem dX4_init_181 : decode cX4_init 181 = .ok (.iconst (-1), 1) := by decide +kernel
theorem dX4_init_182 : decode cX4_init 182 = .ok (.iastore, 1) := by decide +kernel
theorem dX4_init_183 : decode cX4_init 183 = .ok (.aload_n 0, 1) := by decide +kernel
theorem dX4_init_184 : decode cX4_init 184 = .ok (.getfield 25, 3) := by decide +kernel
theorem dX4_init_187 : decode cX4_init 187 = .ok (.iload_n 1, 1) := by decide +kernel
theorem dX4_init_188 : decode cX4_init 188 = .ok (.iconst (-1), 1) := by decide +kernel
theorem dX4_init_189 : decode cX4_init 189 = .ok (.iastore, 1) := by decide +kernel
theorem dX4_init_190 : decode cX4_init 190 = .ok (.aload_n 0, 1) := by decide +kernel
theorem dX4_init_191 : decode cX4_init 191 = .ok (.getfield 31, 3) := by decide +kernel
theorem dX4_init_194 : decode cX4_init 194 = .ok (.iload_n 1, 1) := by decide +kernel
theorem dX4_init_195 : decode cX4_init 195 = .ok (.iconst (-1), 1) := by decide +kernel
theorem dX4_init_196 : decode cX4_init 196 = .ok (.iastore, 1) := by decide +kernel
theorem dX4_init_197 : decode cX4_init 197 = .ok (.aload_n 0, 1) := by decide +kernel
theorem dX4_init_198 : decode cX4_init 198 = .ok (.getfield 34, 3) := by decide +kernel
theorem dX4_init_201 : decode cX4_init 201 = .ok (.iload_n 1, 1) := by decide +kernel
theorem dX4_init_202 : decode cX4_init 202 = .ok (.iconst (-1), 1) := by decide +kernel
theorem dX4_init_203 : decode cX4_init 203 = .ok (.iastore, 1) := by decide +kernel
theorem dX4_init_204 : decode cX4_init 204 = .ok (.aload_n 0, 1) := by decide +kernel
theorem dX4_init_205 : decode cX4_init 205 = .ok (.getfield 40, 3) := by decide +kernel
theorem dX4_init_208 : decode cX4_init 208 = .ok (.iload_n 1, 1) := by decide +kernel
theorem dX4_init_209 : decode cX4_init 209 = .ok (.iconst (-1), 1) := by decide +kernel
theorem dX4_init_210 : decode cX4_init 210 = .ok (.iastore, 1) := by decide +kernel
theorem dX4_init_211 : decode cX4_init 211 = .ok (.iinc 1 1, 3) := by decide +kernel
theorem dX4_init_214 : decode cX4_init 214 = .ok (.goto (-44), 3) := by decide +kernel
theorem dX4_init_217 : decode cX4_init 217 = .ok (.iconst 0, 1) := by decide +kernel
theorem dX4_init_218 : decode cX4_init 218 = .ok (.istore_n 1, 1) := by decide +kernel
theorem dX4_init_219 : decode cX4_init 219 = .ok (.iload_n 1, 1) := by decide +kernel
theorem dX4_init_220 : decode cX4_init 220 = .ok (.bipush 6, 2) := by decide +kernel
theorem dX4_init_222 : decode cX4_init 222 = .ok (.if_icmp .ge 30, 3) := by decide +kernel
theorem dX4_init_225 : decode cX4_init 225 = .ok (.aload_n 0, 1) := by decide +kernel
theorem dX4_init_226 : decode cX4_init 226 = .ok (.getfield 52, 3) := by decide +kernel
theorem dX4_init_229 : decode cX4_init 229 = .ok (.iload_n 1, 1) := by decide +kernel
theorem dX4_init_230 : decode cX4_init 230 = .ok (.iconst (-1), 1) := by decide +kernel
theorem dX4_init_231 : decode cX4_init 231 = .ok (.iastore, 1) := by decide +kernel
theorem dX4_init_232 : decode cX4_init 232 = .ok (.aload_n 0, 1) := by decide +kernel
theorem dX4_init_233 : decode cX4_init 233 = .ok (.getfield 55, 3) := by decide +kernel
theorem dX4_init_236 : decode cX4_init 236 = .ok (.iload_n 1, 1) := by decide +kernel
theorem dX4_init_237 : decode cX4_init 237 = .ok (.iconst (-1), 1) := by decide +kernel
theorem dX4_init_238 : decode cX4_init 238 = .ok (.iastore, 1) := by decide +kernel
theorem dX4_init_239 : decode cX4_init 239 = .ok (.aload_n 0, 1) := by decide +kernel
theorem dX4_init_240 : decode cX4_init 240 = .ok (.getfield 58, 3) := by decide +kernel
theorem dX4_init_243 : decode cX4_init 243 = .ok (.iload_n 1, 1) := by decide +kernel
theorem dX4_init_244 : decode cX4_init 244 = .ok (.iconst (-1), 1) := by decide +kernel
theorem dX4_init_245 : decode cX4_init 245 = .ok (.iastore, 1) := by decide +kernel
theorem dX4_init_246 : decode cX4_init 246 = .ok (.iinc 1 1, 3) := by decide +kernel
theorem dX4_init_249 : decode cX4_init 249 = .ok (.goto (-30), 3) := by decide +kernel
theorem dX4_init_252 : decode cX4_init 252 = .ok (.return_, 1) := by decide +kernel
theorem dX4_thrown_0 : decode cX4_thrown 0 = .ok (.aload_n 0, 1) := by decide +kernel
theorem dX4_thrown_1 : decode cX4_thrown 1 = .ok (.getfield 65, 3) := by decide +kernel
theorem dX4_thrown_4 : decode cX4_thrown 4 = .ok (.ireturn, 1) := by decide +kernel
theorem dX4_in_0 : decode cX4_in 0 = .ok (.iload_n 0, 1) := by decide +kernel
theorem dX4_in_1 : decode cX4_in 1 = .ok (.iload_n 1, 1) := by decide +kernel
theorem dX4_in_2 : decode cX4_in 2 = .ok (.if_icmp .lt 12, 3) := by decide +kernel
theorem dX4_in_5 : decode cX4_in 5 = .ok (.iload_n 0, 1) := by decide +kernel
theorem dX4_in_6 : decode cX4_in 6 = .ok (.iload_n 2, 1) := by decide +kernel
theorem dX4_in_7 : decode cX4_in 7 = .ok (.if_icmp .gt 7, 3) := by decide +kernel
theorem dX4_in_10 : decode cX4_in 10 = .ok (.iconst 1, 1) := by decide +kernel
theorem dX4_in_11 : decode cX4_in 11 = .ok (.goto 4, 3) := by decide +kernel
theorem dX4_in_14 : decode cX4_in 14 = .ok (.iconst 0, 1) := by decide +kernel
theorem dX4_in_15 : decode cX4_in 15 = .ok (.ireturn, 1) := by decide +kernel
theorem dX4_goes_0 : decode cX4_goes 0 = .ok (.aload_n 0, 1) := by decide +kernel
theorem dX4_goes_1 : decode cX4_goes 1 = .ok (.iload_n 1, 1) := by decide +kernel
theorem dX4_goes_2 : decode cX4_goes 2 = .ok (.ifCond .ne 7, 3) := by decide +kernel
theorem dX4_goes_5 : decode cX4_goes 5 = .ok (.iconst 1, 1) := by decide +kernel
theorem dX4_goes_6 : decode cX4_goes 6 = .ok (.goto 20, 3) := by decide +kernel
theorem dX4_goes_9 : decode cX4_goes 9 = .ok (.iload_n 2, 1) := by decide +kernel
theorem dX4_goes_10 : decode cX4_goes 10 = .ok (.ifCond .ne 7, 3) := by decide +kernel
theorem dX4_goes_13 : decode cX4_goes 13 = .ok (.iconst 2, 1) := by decide +kernel
theorem dX4_goes_14 : decode cX4_goes 14 = .ok (.goto 12, 3) := by decide +kernel
theorem dX4_goes_17 : decode cX4_goes 17 = .ok (.iload_n 3, 1) := by decide +kernel
theorem dX4_goes_18 : decode cX4_goes 18 = .ok (.ifCond .ne 7, 3) := by decide +kernel
theorem dX4_goes_21 : decode cX4_goes 21 = .ok (.iconst 3, 1) := by decide +kernel
theorem dX4_goes_22 : decode cX4_goes 22 = .ok (.goto 4, 3) := by decide +kernel
theorem dX4_goes_25 : decode cX4_goes 25 = .ok (.iconst 0, 1) := by decide +kernel
theorem dX4_goes_26 : decode cX4_goes 26 = .ok (.putfield 65, 3) := by decide +kernel
theorem dX4_goes_29 : decode cX4_goes 29 = .ok (.aload_n 0, 1) := by decide +kernel
theorem dX4_goes_30 : decode cX4_goes 30 = .ok (.getfield 65, 3) := by decide +kernel
theorem dX4_goes_33 : decode cX4_goes 33 = .ok (.ifCond .ne 7, 3) := by decide +kernel
theorem dX4_goes_36 : decode cX4_goes 36 = .ok (.iconst 1, 1) := by decide +kernel
theorem dX4_goes_37 : decode cX4_goes 37 = .ok (.goto 4, 3) := by decide +kernel
theorem dX4_goes_40 : decode cX4_goes 40 = .ok (.iconst 0, 1) := by decide +kernel
theorem dX4_goes_41 : decode cX4_goes 41 = .ok (.ireturn, 1) := by decide +kernel
theorem dX4_told_0 : decode cX4_told 0 = .ok (.aload_n 0, 1) := by decide +kernel
theorem dX4_told_1 : decode cX4_told 1 = .ok (.iconst 0, 1) := by decide +kernel
theorem dX4_told_2 : decode cX4_told 2 = .ok (.putfield 65, 3) := by decide +kernel
theorem dX4_told_5 : decode cX4_told 5 = .ok (.iload_n 1, 1) := by decide +kernel
theorem dX4_told_6 : decode cX4_told 6 = .ok (.ireturn, 1) := by decide +kernel
theorem dX4_isGift_0 : decode cX4_isGift 0 = .ok (.iload_n 0, 1) := by decide +kernel
theorem dX4_isGift_1 : decode cX4_isGift 1 = .ok (.iconst 0, 1) := by decide +kernel
theorem dX4_isGift_2 : decode cX4_isGift 2 = .ok (.bipush 7, 2) := by decide +kernel
theorem dX4_isGift_4 : decode cX4_isGift 4 = .ok (.invokestatic 69, 3) := by decide +kernel
theorem dX4_isGift_7 : decode cX4_isGift 7 = .ok (.ireturn, 1) := by decide +kernel
theorem dX4_isCalling_0 : decode cX4_isCalling 0 = .ok (.iload_n 0, 1) := by decide +kernel
theorem dX4_isCalling_1 : decode cX4_isCalling 1 = .ok (.iconst 0, 1) := by decide +kernel
theorem dX4_isCalling_2 : decode cX4_isCalling 2 = .ok (.iconst 2, 1) := by decide +kernel
theorem dX4_isCalling_3 : decode cX4_isCalling 3 = .ok (.invokestatic 69, 3) := by decide +kernel
theorem dX4_isCalling_6 : decode cX4_isCalling 6 = .ok (.ireturn, 1) := by decide +kernel
theorem dX4_isValue_0 : decode cX4_isValue 0 = .ok (.iload_n 0, 1) := by decide +kernel
theorem dX4_isValue_1 : decode cX4_isValue 1 = .ok (.iconst 0, 1) := by decide +kernel
theorem dX4_isValue_2 : decode cX4_isValue 2 = .ok (.iconst 5, 1) := by decide +kernel
theorem dX4_isValue_3 : decode cX4_isValue 3 = .ok (.invokestatic 69, 3) := by decide +kernel
theorem dX4_isValue_6 : decode cX4_isValue 6 = .ok (.ireturn, 1) := by decide +kernel
theorem dX4_has_0 : decode cX4_has 0 = .ok (.iload_n 0, 1) := by decide +kernel
theorem dX4_has_1 : decode cX4_has 1 = .ok (.iload_n 1, 1) := by decide +kernel
theorem dX4_has_2 : decode cX4_has 2 = .ok (.ishr, 1) := by decide +kernel
theorem dX4_has_3 : decode cX4_has 3 = .ok (.iconst 1, 1) := by decide +kernel
theorem dX4_has_4 : decode cX4_has 4 = .ok (.iand, 1) := by decide +kernel
theorem dX4_has_5 : decode cX4_has 5 = .ok (.iconst 1, 1) := by decide +kernel
theorem dX4_has_6 : decode cX4_has 6 = .ok (.if_icmp .ne 7, 3) := by decide +kernel
theorem dX4_has_9 : decode cX4_has 9 = .ok (.iconst 1, 1) := by decide +kernel
theorem dX4_has_10 : decode cX4_has 10 = .ok (.goto 4, 3) := by decide +kernel
theorem dX4_has_13 : decode cX4_has 13 = .ok (.iconst 0, 1) := by decide +kernel
theorem dX4_has_14 : decode cX4_has 14 = .ok (.ireturn, 1) := by decide +kernel
theorem dX4_many_0 : decode cX4_many 0 = .ok (.iconst 0, 1) := by decide +kernel
theorem dX4_many_1 : decode cX4_many 1 = .ok (.istore_n 1, 1) := by decide +kernel
theorem dX4_many_2 : decode cX4_many 2 = .ok (.iconst 0, 1) := by decide +kernel
theorem dX4_many_3 : decode cX4_many 3 = .ok (.istore_n 2, 1) := by decide +kernel
theorem dX4_many_4 : decode cX4_many 4 = .ok (.iload_n 2, 1) := by decide +kernel
theorem dX4_many_5 : decode cX4_many 5 = .ok (.bipush 8, 2) := by decide +kernel
theorem dX4_many_7 : decode cX4_many 7 = .ok (.if_icmp .ge 17, 3) := by decide +kernel
theorem dX4_many_10 : decode cX4_many 10 = .ok (.iload_n 1, 1) := by decide +kernel
theorem dX4_many_11 : decode cX4_many 11 = .ok (.iload_n 0, 1) := by decide +kernel
theorem dX4_many_12 : decode cX4_many 12 = .ok (.iload_n 2, 1) := by decide +kernel
theorem dX4_many_13 : decode cX4_many 13 = .ok (.ishr, 1) := by decide +kernel
theorem dX4_many_14 : decode cX4_many 14 = .ok (.iconst 1, 1) := by decide +kernel
theorem dX4_many_15 : decode cX4_many 15 = .ok (.iand, 1) := by decide +kernel
theorem dX4_many_16 : decode cX4_many 16 = .ok (.iadd, 1) := by decide +kernel
theorem dX4_many_17 : decode cX4_many 17 = .ok (.istore_n 1, 1) := by decide +kernel
theorem dX4_many_18 : decode cX4_many 18 = .ok (.iinc 2 1, 3) := by decide +kernel
theorem dX4_many_21 : decode cX4_many 21 = .ok (.goto (-17), 3) := by decide +kernel
theorem dX4_many_24 : decode cX4_many 24 = .ok (.iload_n 1, 1) := by decide +kernel
theorem dX4_many_25 : decode cX4_many 25 = .ok (.ireturn, 1) := by decide +kernel
theorem dX4_half_0 : decode cX4_half 0 = .ok (.iload_n 0, 1) := by decide +kernel
theorem dX4_half_1 : decode cX4_half 1 = .ok (.iconst 1, 1) := by decide +kernel
theorem dX4_half_2 : decode cX4_half 2 = .ok (.ishr, 1) := by decide +kernel
theorem dX4_half_3 : decode cX4_half 3 = .ok (.ireturn, 1) := by decide +kernel
theorem dX4_setNeeds_0 : decode cX4_setNeeds 0 = .ok (.iload_n 1, 1) := by decide +kernel
theorem dX4_setNeeds_1 : decode cX4_setNeeds 1 = .ok (.invokestatic 73, 3) := by decide +kernel
theorem dX4_setNeeds_4 : decode cX4_setNeeds 4 = .ok (.ifCond .eq 37, 3) := by decide +kernel
theorem dX4_setNeeds_7 : decode cX4_setNeeds 7 = .ok (.iload_n 2, 1) := by decide +kernel
theorem dX4_setNeeds_8 : decode cX4_setNeeds 8 = .ok (.iconst (-1), 1) := by decide +kernel
theorem dX4_setNeeds_9 : decode cX4_setNeeds 9 = .ok (.iconst 3, 1) := by decide +kernel
theorem dX4_setNeeds_10 : decode cX4_setNeeds 10 = .ok (.invokestatic 69, 3) := by decide +kernel
theorem dX4_setNeeds_13 : decode cX4_setNeeds 13 = .ok (.ifCond .eq 28, 3) := by decide +kernel
theorem dX4_setNeeds_16 : decode cX4_setNeeds 16 = .ok (.iload 4, 2) := by decide +kernel
theorem dX4_setNeeds_18 : decode cX4_setNeeds 18 = .ok (.iconst (-1), 1) := by decide +kernel
theorem dX4_setNeeds_19 : decode cX4_setNeeds 19 = .ok (.iconst 2, 1) := by decide +kernel
theorem dX4_setNeeds_20 : decode cX4_setNeeds 20 = .ok (.invokestatic 69, 3) := by decide +kernel
theorem dX4_setNeeds_23 : decode cX4_setNeeds 23 = .ok (.ifCond .eq 18, 3) := by decide +kernel
theorem dX4_setNeeds_26 : decode cX4_setNeeds 26 = .ok (.iload 6, 2) := by decide +kernel
theorem dX4_setNeeds_28 : decode cX4_setNeeds 28 = .ok (.iconst (-1), 1) := by decide +kernel
theorem dX4_setNeeds_29 : decode cX4_setNeeds 29 = .ok (.bipush 7, 2) := by decide +kernel
theorem dX4_setNeeds_31 : decode cX4_setNeeds 31 = .ok (.invokestatic 69, 3) := by decide +kernel
theorem dX4_setNeeds_34 : decode cX4_setNeeds 34 = .ok (.ifCond .eq 7, 3) := by decide +kernel
theorem dX4_setNeeds_37 : decode cX4_setNeeds 37 = .ok (.iconst 1, 1) := by decide +kernel
theorem dX4_setNeeds_38 : decode cX4_setNeeds 38 = .ok (.goto 4, 3) := by decide +kernel
theorem dX4_setNeeds_41 : decode cX4_setNeeds 41 = .ok (.iconst 0, 1) := by decide +kernel
theorem dX4_setNeeds_42 : decode cX4_setNeeds 42 = .ok (.istore 7, 2) := by decide +kernel
theorem dX4_setNeeds_44 : decode cX4_setNeeds 44 = .ok (.iload_n 2, 1) := by decide +kernel
theorem dX4_setNeeds_45 : decode cX4_setNeeds 45 = .ok (.iconst (-1), 1) := by decide +kernel
theorem dX4_setNeeds_46 : decode cX4_setNeeds 46 = .ok (.if_icmp .eq 14, 3) := by decide +kernel
theorem dX4_setNeeds_49 : decode cX4_setNeeds 49 = .ok (.iload_n 3, 1) := by decide +kernel
theorem dX4_setNeeds_50 : decode cX4_setNeeds 50 = .ok (.bipush 8, 2) := by decide +kernel
theorem dX4_setNeeds_52 : decode cX4_setNeeds 52 = .ok (.bipush 16, 2) := by decide +kernel
theorem dX4_setNeeds_54 : decode cX4_setNeeds 54 = .ok (.invokestatic 69, 3) := by decide +kernel
theorem dX4_setNeeds_57 : decode cX4_setNeeds 57 = .ok (.ifCond .eq 24, 3) := by decide +kernel
theorem dX4_setNeeds_60 : decode cX4_setNeeds 60 = .ok (.iload 4, 2) := by decide +kernel
theorem dX4_setNeeds_62 : decode cX4_setNeeds 62 = .ok (.iconst (-1), 1) := by decide +kernel
theorem dX4_setNeeds_63 : decode cX4_setNeeds 63 = .ok (.if_icmp .eq 14, 3) := by decide +kernel
theorem dX4_setNeeds_66 : decode cX4_setNeeds 66 = .ok (.iload 5, 2) := by decide +kernel
theorem dX4_setNeeds_68 : decode cX4_setNeeds 68 = .ok (.iconst 1, 1) := by decide +kernel
theorem dX4_setNeeds_69 : decode cX4_setNeeds 69 = .ok (.bipush 8, 2) := by decide +kernel
theorem dX4_setNeeds_71 : decode cX4_setNeeds 71 = .ok (.invokestatic 69, 3) := by decide +kernel
theorem dX4_setNeeds_74 : decode cX4_setNeeds 74 = .ok (.ifCond .eq 7, 3) := by decide +kernel
theorem dX4_setNeeds_77 : decode cX4_setNeeds 77 = .ok (.iconst 1, 1) := by decide +kernel
theorem dX4_setNeeds_78 : decode cX4_setNeeds 78 = .ok (.goto 4, 3) := by decide +kernel
theorem dX4_setNeeds_81 : decode cX4_setNeeds 81 = .ok (.iconst 0, 1) := by decide +kernel
theorem dX4_setNeeds_82 : decode cX4_setNeeds 82 = .ok (.istore 8, 2) := by decide +kernel
theorem dX4_setNeeds_84 : decode cX4_setNeeds 84 = .ok (.aload_n 0, 1) := by decide +kernel
theorem dX4_setNeeds_85 : decode cX4_setNeeds 85 = .ok (.iload 7, 2) := by decide +kernel
theorem dX4_setNeeds_87 : decode cX4_setNeeds 87 = .ok (.iload 8, 2) := by decide +kernel
theorem dX4_setNeeds_89 : decode cX4_setNeeds 89 = .ok (.iconst 1, 1) := by decide +kernel
theorem dX4_setNeeds_90 : decode cX4_setNeeds 90 = .ok (.invokevirtual 77, 3) := by decide +kernel
theorem dX4_setNeeds_93 : decode cX4_setNeeds 93 = .ok (.ifCond .eq 41, 3) := by decide +kernel
theorem dX4_setNeeds_96 : decode cX4_setNeeds 96 = .ok (.aload_n 0, 1) := by decide +kernel
theorem dX4_setNeeds_97 : decode cX4_setNeeds 97 = .ok (.getfield 19, 3) := by decide +kernel
theorem dX4_setNeeds_100 : decode cX4_setNeeds 100 = .ok (.iload_n 1, 1) := by decide +kernel
theorem dX4_setNeeds_101 : decode cX4_setNeeds 101 = .ok (.iload_n 2, 1) := by decide +kernel
theorem dX4_setNeeds_102 : decode cX4_setNeeds 102 = .ok (.iastore, 1) := by decide +kernel
theorem dX4_setNeeds_103 : decode cX4_setNeeds 103 = .ok (.aload_n 0, 1) := by decide +kernel
theorem dX4_setNeeds_104 : decode cX4_setNeeds 104 = .ok (.getfield 22, 3) := by decide +kernel
theorem dX4_setNeeds_107 : decode cX4_setNeeds 107 = .ok (.iload_n 1, 1) := by decide +kernel
theorem dX4_setNeeds_108 : decode cX4_setNeeds 108 = .ok (.iload_n 3, 1) := by decide +kernel
theorem dX4_setNeeds_109 : decode cX4_setNeeds 109 = .ok (.iastore, 1) := by decide +kernel
theorem dX4_setNeeds_110 : decode cX4_setNeeds 110 = .ok (.aload_n 0, 1) := by decide +kernel
theorem dX4_setNeeds_111 : decode cX4_setNeeds 111 = .ok (.getfield 25, 3) := by decide +kernel
theorem dX4_setNeeds_114 : decode cX4_setNeeds 114 = .ok (.iload_n 1, 1) := by decide +kernel
theorem dX4_setNeeds_115 : decode cX4_setNeeds 115 = .ok (.iload 4, 2) := by decide +kernel
theorem dX4_setNeeds_117 : decode cX4_setNeeds 117 = .ok (.iastore, 1) := by decide +kernel
theorem dX4_setNeeds_118 : decode cX4_setNeeds 118 = .ok (.aload_n 0, 1) := by decide +kernel
theorem dX4_setNeeds_119 : decode cX4_setNeeds 119 = .ok (.getfield 28, 3) := by decide +kernel
theorem dX4_setNeeds_122 : decode cX4_setNeeds 122 = .ok (.iload_n 1, 1) := by decide +kernel
theorem dX4_setNeeds_123 : decode cX4_setNeeds 123 = .ok (.iload 5, 2) := by decide +kernel
theorem dX4_setNeeds_125 : decode cX4_setNeeds 125 = .ok (.iastore, 1) := by decide +kernel
theorem dX4_setNeeds_126 : decode cX4_setNeeds 126 = .ok (.aload_n 0, 1) := by decide +kernel
theorem dX4_setNeeds_127 : decode cX4_setNeeds 127 = .ok (.getfield 31, 3) := by decide +kernel
theorem dX4_setNeeds_130 : decode cX4_setNeeds 130 = .ok (.iload_n 1, 1) := by decide +kernel
theorem dX4_setNeeds_131 : decode cX4_setNeeds 131 = .ok (.iload 6, 2) := by decide +kernel
theorem dX4_setNeeds_133 : decode cX4_setNeeds 133 = .ok (.iastore, 1) := by decide +kernel
theorem dX4_setNeeds_134 : decode cX4_setNeeds 134 = .ok (.return_, 1) := by decide +kernel
theorem dX4_bar_0 : decode cX4_bar 0 = .ok (.aload_n 0, 1) := by decide +kernel
theorem dX4_bar_1 : decode cX4_bar 1 = .ok (.iload_n 1, 1) := by decide +kernel
theorem dX4_bar_2 : decode cX4_bar 2 = .ok (.invokestatic 73, 3) := by decide +kernel
theorem dX4_bar_5 : decode cX4_bar 5 = .ok (.ifCond .eq 16, 3) := by decide +kernel
theorem dX4_bar_8 : decode cX4_bar 8 = .ok (.iload_n 2, 1) := by decide +kernel
theorem dX4_bar_9 : decode cX4_bar 9 = .ok (.iconst (-1), 1) := by decide +kernel
theorem dX4_bar_10 : decode cX4_bar 10 = .ok (.iconst 2, 1) := by decide +kernel
theorem dX4_bar_11 : decode cX4_bar 11 = .ok (.invokestatic 69, 3) := by decide +kernel
theorem dX4_bar_14 : decode cX4_bar 14 = .ok (.ifCond .eq 7, 3) := by decide +kernel
theorem dX4_bar_17 : decode cX4_bar 17 = .ok (.iconst 1, 1) := by decide +kernel
theorem dX4_bar_18 : decode cX4_bar 18 = .ok (.goto 4, 3) := by decide +kernel
theorem dX4_bar_21 : decode cX4_bar 21 = .ok (.iconst 0, 1) := by decide +kernel
theorem dX4_bar_22 : decode cX4_bar 22 = .ok (.iload_n 2, 1) := by decide +kernel
theorem dX4_bar_23 : decode cX4_bar 23 = .ok (.iconst (-1), 1) := by decide +kernel
theorem dX4_bar_24 : decode cX4_bar 24 = .ok (.if_icmp .eq 13, 3) := by decide +kernel
theorem dX4_bar_27 : decode cX4_bar 27 = .ok (.iload_n 3, 1) := by decide +kernel
theorem dX4_bar_28 : decode cX4_bar 28 = .ok (.iconst 0, 1) := by decide +kernel
theorem dX4_bar_29 : decode cX4_bar 29 = .ok (.bipush 7, 2) := by decide +kernel
theorem dX4_bar_31 : decode cX4_bar 31 = .ok (.invokestatic 69, 3) := by decide +kernel
theorem dX4_bar_34 : decode cX4_bar 34 = .ok (.ifCond .eq 7, 3) := by decide +kernel
theorem dX4_bar_37 : decode cX4_bar 37 = .ok (.iconst 1, 1) := by decide +kernel
theorem dX4_bar_38 : decode cX4_bar 38 = .ok (.goto 4, 3) := by decide +kernel
theorem dX4_bar_41 : decode cX4_bar 41 = .ok (.iconst 0, 1) := by decide +kernel
theorem dX4_bar_42 : decode cX4_bar 42 = .ok (.iconst 1, 1) := by decide +kernel
theorem dX4_bar_43 : decode cX4_bar 43 = .ok (.invokevirtual 77, 3) := by decide +kernel
theorem dX4_bar_46 : decode cX4_bar 46 = .ok (.ifCond .eq 17, 3) := by decide +kernel
theorem dX4_bar_49 : decode cX4_bar 49 = .ok (.aload_n 0, 1) := by decide +kernel
theorem dX4_bar_50 : decode cX4_bar 50 = .ok (.getfield 34, 3) := by decide +kernel
theorem dX4_bar_53 : decode cX4_bar 53 = .ok (.iload_n 1, 1) := by decide +kernel
theorem dX4_bar_54 : decode cX4_bar 54 = .ok (.iload_n 2, 1) := by decide +kernel
theorem dX4_bar_55 : decode cX4_bar 55 = .ok (.iastore, 1) := by decide +kernel
theorem dX4_bar_56 : decode cX4_bar 56 = .ok (.aload_n 0, 1) := by decide +kernel
theorem dX4_bar_57 : decode cX4_bar 57 = .ok (.getfield 37, 3) := by decide +kernel
theorem dX4_bar_60 : decode cX4_bar 60 = .ok (.iload_n 1, 1) := by decide +kernel
theorem dX4_bar_61 : decode cX4_bar 61 = .ok (.iload_n 3, 1) := by decide +kernel
theorem dX4_bar_62 : decode cX4_bar 62 = .ok (.iastore, 1) := by decide +kernel
theorem dX4_bar_63 : decode cX4_bar 63 = .ok (.return_, 1) := by decide +kernel
theorem dX4_setBonus_0 : decode cX4_setBonus 0 = .ok (.aload_n 0, 1) := by decide +kernel
theorem dX4_setBonus_1 : decode cX4_setBonus 1 = .ok (.iload_n 1, 1) := by decide +kernel
theorem dX4_setBonus_2 : decode cX4_setBonus 2 = .ok (.invokestatic 73, 3) := by decide +kernel
theorem dX4_setBonus_5 : decode cX4_setBonus 5 = .ok (.ifCond .eq 16, 3) := by decide +kernel
theorem dX4_setBonus_8 : decode cX4_setBonus 8 = .ok (.iload_n 2, 1) := by decide +kernel
theorem dX4_setBonus_9 : decode cX4_setBonus 9 = .ok (.iconst (-1), 1) := by decide +kernel
theorem dX4_setBonus_10 : decode cX4_setBonus 10 = .ok (.iconst 5, 1) := by decide +kernel
theorem dX4_setBonus_11 : decode cX4_setBonus 11 = .ok (.invokestatic 69, 3) := by decide +kernel
theorem dX4_setBonus_14 : decode cX4_setBonus 14 = .ok (.ifCond .eq 7, 3) := by decide +kernel
theorem dX4_setBonus_17 : decode cX4_setBonus 17 = .ok (.iconst 1, 1) := by decide +kernel
theorem dX4_setBonus_18 : decode cX4_setBonus 18 = .ok (.goto 4, 3) := by decide +kernel
theorem dX4_setBonus_21 : decode cX4_setBonus 21 = .ok (.iconst 0, 1) := by decide +kernel
theorem dX4_setBonus_22 : decode cX4_setBonus 22 = .ok (.iload_n 3, 1) := by decide +kernel
theorem dX4_setBonus_23 : decode cX4_setBonus 23 = .ok (.iconst 0, 1) := by decide +kernel
theorem dX4_setBonus_24 : decode cX4_setBonus 24 = .ok (.iconst 3, 1) := by decide +kernel
theorem dX4_setBonus_25 : decode cX4_setBonus 25 = .ok (.invokestatic 69, 3) := by decide +kernel
theorem dX4_setBonus_28 : decode cX4_setBonus 28 = .ok (.ifCond .eq 19, 3) := by decide +kernel
theorem dX4_setBonus_31 : decode cX4_setBonus 31 = .ok (.iload 4, 2) := by decide +kernel
theorem dX4_setBonus_33 : decode cX4_setBonus 33 = .ok (.bipush (-9), 2) := by decide +kernel
theorem dX4_setBonus_35 : decode cX4_setBonus 35 = .ok (.bipush 9, 2) := by decide +kernel
theorem dX4_setBonus_37 : decode cX4_setBonus 37 = .ok (.invokestatic 69, 3) := by decide +kernel
theorem dX4_setBonus_40 : decode cX4_setBonus 40 = .ok (.ifCond .eq 7, 3) := by decide +kernel
theorem dX4_setBonus_43 : decode cX4_setBonus 43 = .ok (.iconst 1, 1) := by decide +kernel
theorem dX4_setBonus_44 : decode cX4_setBonus 44 = .ok (.goto 4, 3) := by decide +kernel
theorem dX4_setBonus_47 : decode cX4_setBonus 47 = .ok (.iconst 0, 1) := by decide +kernel
theorem dX4_setBonus_48 : decode cX4_setBonus 48 = .ok (.iconst 1, 1) := by decide +kernel
theorem dX4_setBonus_49 : decode cX4_setBonus 49 = .ok (.invokevirtual 77, 3) := by decide +kernel
theorem dX4_setBonus_52 : decode cX4_setBonus 52 = .ok (.ifCond .eq 25, 3) := by decide +kernel
theorem dX4_setBonus_55 : decode cX4_setBonus 55 = .ok (.aload_n 0, 1) := by decide +kernel
theorem dX4_setBonus_56 : decode cX4_setBonus 56 = .ok (.getfield 40, 3) := by decide +kernel
theorem dX4_setBonus_59 : decode cX4_setBonus 59 = .ok (.iload_n 1, 1) := by decide +kernel
theorem dX4_setBonus_60 : decode cX4_setBonus 60 = .ok (.iload_n 2, 1) := by decide +kernel
theorem dX4_setBonus_61 : decode cX4_setBonus 61 = .ok (.iastore, 1) := by decide +kernel
theorem dX4_setBonus_62 : decode cX4_setBonus 62 = .ok (.aload_n 0, 1) := by decide +kernel
theorem dX4_setBonus_63 : decode cX4_setBonus 63 = .ok (.getfield 43, 3) := by decide +kernel
theorem dX4_setBonus_66 : decode cX4_setBonus 66 = .ok (.iload_n 1, 1) := by decide +kernel
theorem dX4_setBonus_67 : decode cX4_setBonus 67 = .ok (.iload_n 3, 1) := by decide +kernel
theorem dX4_setBonus_68 : decode cX4_setBonus 68 = .ok (.iastore, 1) := by decide +kernel
theorem dX4_setBonus_69 : decode cX4_setBonus 69 = .ok (.aload_n 0, 1) := by decide +kernel
theorem dX4_setBonus_70 : decode cX4_setBonus 70 = .ok (.getfield 46, 3) := by decide +kernel
theorem dX4_setBonus_73 : decode cX4_setBonus 73 = .ok (.iload_n 1, 1) := by decide +kernel
theorem dX4_setBonus_74 : decode cX4_setBonus 74 = .ok (.iload 4, 2) := by decide +kernel
theorem dX4_setBonus_76 : decode cX4_setBonus 76 = .ok (.iastore, 1) := by decide +kernel
theorem dX4_setBonus_77 : decode cX4_setBonus 77 = .ok (.return_, 1) := by decide +kernel
theorem dX4_setValue_0 : decode cX4_setValue 0 = .ok (.iload_n 1, 1) := by decide +kernel
theorem dX4_setValue_1 : decode cX4_setValue 1 = .ok (.invokestatic 81, 3) := by decide +kernel
theorem dX4_setValue_4 : decode cX4_setValue 4 = .ok (.ifCond .eq 36, 3) := by decide +kernel
theorem dX4_setValue_7 : decode cX4_setValue 7 = .ok (.iload_n 3, 1) := by decide +kernel
theorem dX4_setValue_8 : decode cX4_setValue 8 = .ok (.iconst (-1), 1) := by decide +kernel
theorem dX4_setValue_9 : decode cX4_setValue 9 = .ok (.iconst 3, 1) := by decide +kernel
theorem dX4_setValue_10 : decode cX4_setValue 10 = .ok (.invokestatic 69, 3) := by decide +kernel
theorem dX4_setValue_13 : decode cX4_setValue 13 = .ok (.ifCond .eq 27, 3) := by decide +kernel
theorem dX4_setValue_16 : decode cX4_setValue 16 = .ok (.iload 4, 2) := by decide +kernel
theorem dX4_setValue_18 : decode cX4_setValue 18 = .ok (.iconst (-1), 1) := by decide +kernel
theorem dX4_setValue_19 : decode cX4_setValue 19 = .ok (.iconst 2, 1) := by decide +kernel
theorem dX4_setValue_20 : decode cX4_setValue 20 = .ok (.invokestatic 69, 3) := by decide +kernel
theorem dX4_setValue_23 : decode cX4_setValue 23 = .ok (.ifCond .eq 17, 3) := by decide +kernel
theorem dX4_setValue_26 : decode cX4_setValue 26 = .ok (.iload 5, 2) := by decide +kernel
theorem dX4_setValue_28 : decode cX4_setValue 28 = .ok (.iconst (-1), 1) := by decide +kernel
theorem dX4_setValue_29 : decode cX4_setValue 29 = .ok (.iconst 5, 1) := by decide +kernel
theorem dX4_setValue_30 : decode cX4_setValue 30 = .ok (.invokestatic 69, 3) := by decide +kernel
theorem dX4_setValue_33 : decode cX4_setValue 33 = .ok (.ifCond .eq 7, 3) := by decide +kernel
theorem dX4_setValue_36 : decode cX4_setValue 36 = .ok (.iconst 1, 1) := by decide +kernel
theorem dX4_setValue_37 : decode cX4_setValue 37 = .ok (.goto 4, 3) := by decide +kernel
theorem dX4_setValue_40 : decode cX4_setValue 40 = .ok (.iconst 0, 1) := by decide +kernel
theorem dX4_setValue_41 : decode cX4_setValue 41 = .ok (.istore 6, 2) := by decide +kernel
theorem dX4_setValue_43 : decode cX4_setValue 43 = .ok (.aload_n 0, 1) := by decide +kernel
theorem dX4_setValue_44 : decode cX4_setValue 44 = .ok (.iload 6, 2) := by decide +kernel
theorem dX4_setValue_46 : decode cX4_setValue 46 = .ok (.iload_n 2, 1) := by decide +kernel
theorem dX4_setValue_47 : decode cX4_setValue 47 = .ok (.bipush (-50), 2) := by decide +kernel
theorem dX4_setValue_49 : decode cX4_setValue 49 = .ok (.bipush 50, 2) := by decide +kernel
theorem dX4_setValue_51 : decode cX4_setValue 51 = .ok (.invokestatic 69, 3) := by decide +kernel
theorem dX4_setValue_54 : decode cX4_setValue 54 = .ok (.iconst 1, 1) := by decide +kernel
theorem dX4_setValue_55 : decode cX4_setValue 55 = .ok (.invokevirtual 77, 3) := by decide +kernel
theorem dX4_setValue_58 : decode cX4_setValue 58 = .ok (.ifCond .eq 33, 3) := by decide +kernel
theorem dX4_setValue_61 : decode cX4_setValue 61 = .ok (.aload_n 0, 1) := by decide +kernel
theorem dX4_setValue_62 : decode cX4_setValue 62 = .ok (.getfield 49, 3) := by decide +kernel
theorem dX4_setValue_65 : decode cX4_setValue 65 = .ok (.iload_n 1, 1) := by decide +kernel
theorem dX4_setValue_66 : decode cX4_setValue 66 = .ok (.iload_n 2, 1) := by decide +kernel
theorem dX4_setValue_67 : decode cX4_setValue 67 = .ok (.iastore, 1) := by decide +kernel
theorem dX4_setValue_68 : decode cX4_setValue 68 = .ok (.aload_n 0, 1) := by decide +kernel
theorem dX4_setValue_69 : decode cX4_setValue 69 = .ok (.getfield 52, 3) := by decide +kernel
theorem dX4_setValue_72 : decode cX4_setValue 72 = .ok (.iload_n 1, 1) := by decide +kernel
theorem dX4_setValue_73 : decode cX4_setValue 73 = .ok (.iload_n 3, 1) := by decide +kernel
theorem dX4_setValue_74 : decode cX4_setValue 74 = .ok (.iastore, 1) := by decide +kernel
theorem dX4_setValue_75 : decode cX4_setValue 75 = .ok (.aload_n 0, 1) := by decide +kernel
theorem dX4_setValue_76 : decode cX4_setValue 76 = .ok (.getfield 55, 3) := by decide +kernel
theorem dX4_setValue_79 : decode cX4_setValue 79 = .ok (.iload_n 1, 1) := by decide +kernel
theorem dX4_setValue_80 : decode cX4_setValue 80 = .ok (.iload 4, 2) := by decide +kernel
theorem dX4_setValue_82 : decode cX4_setValue 82 = .ok (.iastore, 1) := by decide +kernel
theorem dX4_setValue_83 : decode cX4_setValue 83 = .ok (.aload_n 0, 1) := by decide +kernel
theorem dX4_setValue_84 : decode cX4_setValue 84 = .ok (.getfield 58, 3) := by decide +kernel
theorem dX4_setValue_87 : decode cX4_setValue 87 = .ok (.iload_n 1, 1) := by decide +kernel
theorem dX4_setValue_88 : decode cX4_setValue 88 = .ok (.iload 5, 2) := by decide +kernel
theorem dX4_setValue_90 : decode cX4_setValue 90 = .ok (.iastore, 1) := by decide +kernel
theorem dX4_setValue_91 : decode cX4_setValue 91 = .ok (.return_, 1) := by decide +kernel
theorem dX4_costOf_0 : decode cX4_costOf 0 = .ok (.iload_n 0, 1) := by decide +kernel
theorem dX4_costOf_1 : decode cX4_costOf 1 = .ok (.bipush 8, 2) := by decide +kernel
theorem dX4_costOf_3 : decode cX4_costOf 3 = .ok (.isub, 1) := by decide +kernel
theorem dX4_costOf_4 : decode cX4_costOf 4 = .ok (.iload_n 0, 1) := by decide +kernel
theorem dX4_costOf_5 : decode cX4_costOf 5 = .ok (.bipush 12, 2) := by decide +kernel
theorem dX4_costOf_7 : decode cX4_costOf 7 = .ok (.if_icmp .le 10, 3) := by decide +kernel
theorem dX4_costOf_10 : decode cX4_costOf 10 = .ok (.iload_n 0, 1) := by decide +kernel
theorem dX4_costOf_11 : decode cX4_costOf 11 = .ok (.bipush 12, 2) := by decide +kernel
theorem dX4_costOf_13 : decode cX4_costOf 13 = .ok (.isub, 1) := by decide +kernel
theorem dX4_costOf_14 : decode cX4_costOf 14 = .ok (.goto 4, 3) := by decide +kernel
theorem dX4_costOf_17 : decode cX4_costOf 17 = .ok (.iconst 0, 1) := by decide +kernel
theorem dX4_costOf_18 : decode cX4_costOf 18 = .ok (.iadd, 1) := by decide +kernel
theorem dX4_costOf_19 : decode cX4_costOf 19 = .ok (.ireturn, 1) := by decide +kernel
theorem dX4_cost_0 : decode cX4_cost 0 = .ok (.iconst 0, 1) := by decide +kernel
theorem dX4_cost_1 : decode cX4_cost 1 = .ok (.istore_n 1, 1) := by decide +kernel
theorem dX4_cost_2 : decode cX4_cost 2 = .ok (.iconst 0, 1) := by decide +kernel
theorem dX4_cost_3 : decode cX4_cost 3 = .ok (.istore_n 2, 1) := by decide +kernel
theorem dX4_cost_4 : decode cX4_cost 4 = .ok (.iload_n 2, 1) := by decide +kernel
theorem dX4_cost_5 : decode cX4_cost 5 = .ok (.iconst 4, 1) := by decide +kernel
theorem dX4_cost_6 : decode cX4_cost 6 = .ok (.if_icmp .ge 21, 3) := by decide +kernel
theorem dX4_cost_9 : decode cX4_cost 9 = .ok (.iload_n 1, 1) := by decide +kernel
theorem dX4_cost_10 : decode cX4_cost 10 = .ok (.aload_n 0, 1) := by decide +kernel
theorem dX4_cost_11 : decode cX4_cost 11 = .ok (.getfield 7, 3) := by decide +kernel
theorem dX4_cost_14 : decode cX4_cost 14 = .ok (.iload_n 2, 1) := by decide +kernel
theorem dX4_cost_15 : decode cX4_cost 15 = .ok (.iaload, 1) := by decide +kernel
theorem dX4_cost_16 : decode cX4_cost 16 = .ok (.invokestatic 84, 3) := by decide +kernel
theorem dX4_cost_19 : decode cX4_cost 19 = .ok (.iadd, 1) := by decide +kernel
theorem dX4_cost_20 : decode cX4_cost 20 = .ok (.istore_n 1, 1) := by decide +kernel
theorem dX4_cost_21 : decode cX4_cost 21 = .ok (.iinc 2 1, 3) := by decide +kernel
theorem dX4_cost_24 : decode cX4_cost 24 = .ok (.goto (-20), 3) := by decide +kernel
theorem dX4_cost_27 : decode cX4_cost 27 = .ok (.iload_n 1, 1) := by decide +kernel
theorem dX4_cost_28 : decode cX4_cost 28 = .ok (.ireturn, 1) := by decide +kernel
theorem dX4_setScore_0 : decode cX4_setScore 0 = .ok (.iload_n 1, 1) := by decide +kernel
theorem dX4_setScore_1 : decode cX4_setScore 1 = .ok (.iconst 0, 1) := by decide +kernel
theorem dX4_setScore_2 : decode cX4_setScore 2 = .ok (.iconst 3, 1) := by decide +kernel
theorem dX4_setScore_3 : decode cX4_setScore 3 = .ok (.invokestatic 69, 3) := by decide +kernel
theorem dX4_setScore_6 : decode cX4_setScore 6 = .ok (.istore_n 3, 1) := by decide +kernel
theorem dX4_setScore_7 : decode cX4_setScore 7 = .ok (.iload_n 2, 1) := by decide +kernel
theorem dX4_setScore_8 : decode cX4_setScore 8 = .ok (.bipush 8, 2) := by decide +kernel
theorem dX4_setScore_10 : decode cX4_setScore 10 = .ok (.bipush 16, 2) := by decide +kernel
theorem dX4_setScore_12 : decode cX4_setScore 12 = .ok (.invokestatic 69, 3) := by decide +kernel
theorem dX4_setScore_15 : decode cX4_setScore 15 = .ok (.istore 4, 2) := by decide +kernel
theorem dX4_setScore_17 : decode cX4_setScore 17 = .ok (.aload_n 0, 1) := by decide +kernel
theorem dX4_setScore_18 : decode cX4_setScore 18 = .ok (.iload_n 3, 1) := by decide +kernel
theorem dX4_setScore_19 : decode cX4_setScore 19 = .ok (.iload 4, 2) := by decide +kernel
theorem dX4_setScore_21 : decode cX4_setScore 21 = .ok (.iload_n 3, 1) := by decide +kernel
theorem dX4_setScore_22 : decode cX4_setScore 22 = .ok (.ifCond .eq 36, 3) := by decide +kernel
theorem dX4_setScore_25 : decode cX4_setScore 25 = .ok (.iload 4, 2) := by decide +kernel
theorem dX4_setScore_27 : decode cX4_setScore 27 = .ok (.ifCond .eq 31, 3) := by decide +kernel
theorem dX4_setScore_30 : decode cX4_setScore 30 = .ok (.aload_n 0, 1) := by decide +kernel
theorem dX4_setScore_31 : decode cX4_setScore 31 = .ok (.invokevirtual 88, 3) := by decide +kernel
theorem dX4_setScore_34 : decode cX4_setScore 34 = .ok (.aload_n 0, 1) := by decide +kernel
theorem dX4_setScore_35 : decode cX4_setScore 35 = .ok (.getfield 7, 3) := by decide +kernel
theorem dX4_setScore_38 : decode cX4_setScore 38 = .ok (.iload_n 1, 1) := by decide +kernel
theorem dX4_setScore_39 : decode cX4_setScore 39 = .ok (.iaload, 1) := by decide +kernel
theorem dX4_setScore_40 : decode cX4_setScore 40 = .ok (.invokestatic 84, 3) := by decide +kernel
theorem dX4_setScore_43 : decode cX4_setScore 43 = .ok (.isub, 1) := by decide +kernel
theorem dX4_setScore_44 : decode cX4_setScore 44 = .ok (.iload_n 2, 1) := by decide +kernel
theorem dX4_setScore_45 : decode cX4_setScore 45 = .ok (.invokestatic 84, 3) := by decide +kernel
theorem dX4_setScore_48 : decode cX4_setScore 48 = .ok (.iadd, 1) := by decide +kernel
theorem dX4_setScore_49 : decode cX4_setScore 49 = .ok (.bipush 20, 2) := by decide +kernel
theorem dX4_setScore_51 : decode cX4_setScore 51 = .ok (.if_icmp .gt 7, 3) := by decide +kernel
theorem dX4_setScore_54 : decode cX4_setScore 54 = .ok (.iconst 1, 1) := by decide +kernel
theorem dX4_setScore_55 : decode cX4_setScore 55 = .ok (.goto 4, 3) := by decide +kernel
theorem dX4_setScore_58 : decode cX4_setScore 58 = .ok (.iconst 0, 1) := by decide +kernel
theorem dX4_setScore_59 : decode cX4_setScore 59 = .ok (.invokevirtual 77, 3) := by decide +kernel
theorem dX4_setScore_62 : decode cX4_setScore 62 = .ok (.ifCond .ne 5, 3) := by decide +kernel
theorem dX4_setScore_65 : decode cX4_setScore 65 = .ok (.iconst 0, 1) := by decide +kernel
theorem dX4_setScore_66 : decode cX4_setScore 66 = .ok (.ireturn, 1) := by decide +kernel
theorem dX4_setScore_67 : decode cX4_setScore 67 = .ok (.aload_n 0, 1) := by decide +kernel
theorem dX4_setScore_68 : decode cX4_setScore 68 = .ok (.getfield 7, 3) := by decide +kernel
theorem dX4_setScore_71 : decode cX4_setScore 71 = .ok (.iload_n 1, 1) := by decide +kernel
theorem dX4_setScore_72 : decode cX4_setScore 72 = .ok (.iload_n 2, 1) := by decide +kernel
theorem dX4_setScore_73 : decode cX4_setScore 73 = .ok (.iastore, 1) := by decide +kernel
theorem dX4_setScore_74 : decode cX4_setScore 74 = .ok (.bipush 20, 2) := by decide +kernel
theorem dX4_setScore_76 : decode cX4_setScore 76 = .ok (.aload_n 0, 1) := by decide +kernel
theorem dX4_setScore_77 : decode cX4_setScore 77 = .ok (.invokevirtual 88, 3) := by decide +kernel
theorem dX4_setScore_80 : decode cX4_setScore 80 = .ok (.isub, 1) := by decide +kernel
theorem dX4_setScore_81 : decode cX4_setScore 81 = .ok (.ireturn, 1) := by decide +kernel
theorem dX4_takeLevel_0 : decode cX4_takeLevel 0 = .ok (.aload_n 0, 1) := by decide +kernel
theorem dX4_takeLevel_1 : decode cX4_takeLevel 1 = .ok (.iload_n 1, 1) := by decide +kernel
theorem dX4_takeLevel_2 : decode cX4_takeLevel 2 = .ok (.invokestatic 92, 3) := by decide +kernel
theorem dX4_takeLevel_5 : decode cX4_takeLevel 5 = .ok (.aload_n 0, 1) := by decide +kernel
theorem dX4_takeLevel_6 : decode cX4_takeLevel 6 = .ok (.getfield 95, 3) := by decide +kernel
theorem dX4_takeLevel_9 : decode cX4_takeLevel 9 = .ok (.bipush 8, 2) := by decide +kernel
theorem dX4_takeLevel_11 : decode cX4_takeLevel 11 = .ok (.if_icmp .ge 7, 3) := by decide +kernel
theorem dX4_takeLevel_14 : decode cX4_takeLevel 14 = .ok (.iconst 1, 1) := by decide +kernel
theorem dX4_takeLevel_15 : decode cX4_takeLevel 15 = .ok (.goto 4, 3) := by decide +kernel
theorem dX4_takeLevel_18 : decode cX4_takeLevel 18 = .ok (.iconst 0, 1) := by decide +kernel
theorem dX4_takeLevel_19 : decode cX4_takeLevel 19 = .ok (.iconst 1, 1) := by decide +kernel
theorem dX4_takeLevel_20 : decode cX4_takeLevel 20 = .ok (.invokevirtual 77, 3) := by decide +kernel
theorem dX4_takeLevel_23 : decode cX4_takeLevel 23 = .ok (.ifCond .ne 5, 3) := by decide +kernel
theorem dX4_takeLevel_26 : decode cX4_takeLevel 26 = .ok (.iconst 0, 1) := by decide +kernel
theorem dX4_takeLevel_27 : decode cX4_takeLevel 27 = .ok (.ireturn, 1) := by decide +kernel
theorem dX4_takeLevel_28 : decode cX4_takeLevel 28 = .ok (.aload_n 0, 1) := by decide +kernel
theorem dX4_takeLevel_29 : decode cX4_takeLevel 29 = .ok (.getfield 13, 3) := by decide +kernel
theorem dX4_takeLevel_32 : decode cX4_takeLevel 32 = .ok (.aload_n 0, 1) := by decide +kernel
theorem dX4_takeLevel_33 : decode cX4_takeLevel 33 = .ok (.getfield 95, 3) := by decide +kernel
theorem dX4_takeLevel_36 : decode cX4_takeLevel 36 = .ok (.iload_n 1, 1) := by decide +kernel
theorem dX4_takeLevel_37 : decode cX4_takeLevel 37 = .ok (.iastore, 1) := by decide +kernel
theorem dX4_takeLevel_38 : decode cX4_takeLevel 38 = .ok (.aload_n 0, 1) := by decide +kernel
theorem dX4_takeLevel_39 : decode cX4_takeLevel 39 = .ok (.getfield 16, 3) := by decide +kernel
theorem dX4_takeLevel_42 : decode cX4_takeLevel 42 = .ok (.iload_n 1, 1) := by decide +kernel
theorem dX4_takeLevel_43 : decode cX4_takeLevel 43 = .ok (.dup2, 1) := by decide +kernel
theorem dX4_takeLevel_44 : decode cX4_takeLevel 44 = .ok (.iaload, 1) := by decide +kernel
theorem dX4_takeLevel_45 : decode cX4_takeLevel 45 = .ok (.iconst 1, 1) := by decide +kernel
theorem dX4_takeLevel_46 : decode cX4_takeLevel 46 = .ok (.iadd, 1) := by decide +kernel
theorem dX4_takeLevel_47 : decode cX4_takeLevel 47 = .ok (.iastore, 1) := by decide +kernel
theorem dX4_takeLevel_48 : decode cX4_takeLevel 48 = .ok (.aload_n 0, 1) := by decide +kernel
theorem dX4_takeLevel_49 : decode cX4_takeLevel 49 = .ok (.dup, 1) := by decide +kernel
theorem dX4_takeLevel_50 : decode cX4_takeLevel 50 = .ok (.getfield 95, 3) := by decide +kernel
theorem dX4_takeLevel_53 : decode cX4_takeLevel 53 = .ok (.iconst 1, 1) := by decide +kernel
theorem dX4_takeLevel_54 : decode cX4_takeLevel 54 = .ok (.iadd, 1) := by decide +kernel
theorem dX4_takeLevel_55 : decode cX4_takeLevel 55 = .ok (.putfield 95, 3) := by decide +kernel
theorem dX4_takeLevel_58 : decode cX4_takeLevel 58 = .ok (.aload_n 0, 1) := by decide +kernel
theorem dX4_takeLevel_59 : decode cX4_takeLevel 59 = .ok (.getfield 95, 3) := by decide +kernel
theorem dX4_takeLevel_62 : decode cX4_takeLevel 62 = .ok (.ireturn, 1) := by decide +kernel
theorem dX4_areScores_0 : decode cX4_areScores 0 = .ok (.aload_n 0, 1) := by decide +kernel
theorem dX4_areScores_1 : decode cX4_areScores 1 = .ok (.getfield 19, 3) := by decide +kernel
theorem dX4_areScores_4 : decode cX4_areScores 4 = .ok (.iload_n 1, 1) := by decide +kernel
theorem dX4_areScores_5 : decode cX4_areScores 5 = .ok (.iaload, 1) := by decide +kernel
theorem dX4_areScores_6 : decode cX4_areScores 6 = .ok (.iconst (-1), 1) := by decide +kernel
theorem dX4_areScores_7 : decode cX4_areScores 7 = .ok (.if_icmp .eq 23, 3) := by decide +kernel
theorem dX4_areScores_10 : decode cX4_areScores 10 = .ok (.aload_n 0, 1) := by decide +kernel
theorem dX4_areScores_11 : decode cX4_areScores 11 = .ok (.getfield 7, 3) := by decide +kernel
theorem dX4_areScores_14 : decode cX4_areScores 14 = .ok (.aload_n 0, 1) := by decide +kernel
theorem dX4_areScores_15 : decode cX4_areScores 15 = .ok (.getfield 19, 3) := by decide +kernel
theorem dX4_areScores_18 : decode cX4_areScores 18 = .ok (.iload_n 1, 1) := by decide +kernel
theorem dX4_areScores_19 : decode cX4_areScores 19 = .ok (.iaload, 1) := by decide +kernel
theorem dX4_areScores_20 : decode cX4_areScores 20 = .ok (.iaload, 1) := by decide +kernel
theorem dX4_areScores_21 : decode cX4_areScores 21 = .ok (.aload_n 0, 1) := by decide +kernel
theorem dX4_areScores_22 : decode cX4_areScores 22 = .ok (.getfield 22, 3) := by decide +kernel
theorem dX4_areScores_25 : decode cX4_areScores 25 = .ok (.iload_n 1, 1) := by decide +kernel
theorem dX4_areScores_26 : decode cX4_areScores 26 = .ok (.iaload, 1) := by decide +kernel
theorem dX4_areScores_27 : decode cX4_areScores 27 = .ok (.if_icmp .lt 7, 3) := by decide +kernel
theorem dX4_areScores_30 : decode cX4_areScores 30 = .ok (.iconst 1, 1) := by decide +kernel
theorem dX4_areScores_31 : decode cX4_areScores 31 = .ok (.goto 4, 3) := by decide +kernel
theorem dX4_areScores_34 : decode cX4_areScores 34 = .ok (.iconst 0, 1) := by decide +kernel
theorem dX4_areScores_35 : decode cX4_areScores 35 = .ok (.ireturn, 1) := by decide +kernel
theorem dX4_mayTake_0 : decode cX4_mayTake 0 = .ok (.aload_n 0, 1) := by decide +kernel
theorem dX4_mayTake_1 : decode cX4_mayTake 1 = .ok (.getfield 25, 3) := by decide +kernel
theorem dX4_mayTake_4 : decode cX4_mayTake 4 = .ok (.iload_n 1, 1) := by decide +kernel
theorem dX4_mayTake_5 : decode cX4_mayTake 5 = .ok (.iaload, 1) := by decide +kernel
theorem dX4_mayTake_6 : decode cX4_mayTake 6 = .ok (.istore 6, 2) := by decide +kernel
theorem dX4_mayTake_8 : decode cX4_mayTake 8 = .ok (.aload_n 0, 1) := by decide +kernel
theorem dX4_mayTake_9 : decode cX4_mayTake 9 = .ok (.getfield 34, 3) := by decide +kernel
theorem dX4_mayTake_12 : decode cX4_mayTake 12 = .ok (.iload_n 1, 1) := by decide +kernel
theorem dX4_mayTake_13 : decode cX4_mayTake 13 = .ok (.iaload, 1) := by decide +kernel
theorem dX4_mayTake_14 : decode cX4_mayTake 14 = .ok (.istore 7, 2) := by decide +kernel
theorem dX4_mayTake_16 : decode cX4_mayTake 16 = .ok (.iload 6, 2) := by decide +kernel
theorem dX4_mayTake_18 : decode cX4_mayTake 18 = .ok (.ifCond .ne 7, 3) := by decide +kernel
theorem dX4_mayTake_21 : decode cX4_mayTake 21 = .ok (.iload_n 2, 1) := by decide +kernel
theorem dX4_mayTake_22 : decode cX4_mayTake 22 = .ok (.goto 15, 3) := by decide +kernel
theorem dX4_mayTake_25 : decode cX4_mayTake 25 = .ok (.iload 6, 2) := by decide +kernel
theorem dX4_mayTake_27 : decode cX4_mayTake 27 = .ok (.iconst 1, 1) := by decide +kernel
theorem dX4_mayTake_28 : decode cX4_mayTake 28 = .ok (.if_icmp .ne 7, 3) := by decide +kernel
theorem dX4_mayTake_31 : decode cX4_mayTake 31 = .ok (.iload_n 3, 1) := by decide +kernel
theorem dX4_mayTake_32 : decode cX4_mayTake 32 = .ok (.goto 5, 3) := by decide +kernel
theorem dX4_mayTake_35 : decode cX4_mayTake 35 = .ok (.iload 4, 2) := by decide +kernel
theorem dX4_mayTake_37 : decode cX4_mayTake 37 = .ok (.istore 8, 2) := by decide +kernel
theorem dX4_mayTake_39 : decode cX4_mayTake 39 = .ok (.iload 7, 2) := by decide +kernel
theorem dX4_mayTake_41 : decode cX4_mayTake 41 = .ok (.ifCond .ne 7, 3) := by decide +kernel
theorem dX4_mayTake_44 : decode cX4_mayTake 44 = .ok (.iload_n 2, 1) := by decide +kernel
theorem dX4_mayTake_45 : decode cX4_mayTake 45 = .ok (.goto 15, 3) := by decide +kernel
theorem dX4_mayTake_48 : decode cX4_mayTake 48 = .ok (.iload 7, 2) := by decide +kernel
theorem dX4_mayTake_50 : decode cX4_mayTake 50 = .ok (.iconst 1, 1) := by decide +kernel
theorem dX4_mayTake_51 : decode cX4_mayTake 51 = .ok (.if_icmp .ne 7, 3) := by decide +kernel
theorem dX4_mayTake_54 : decode cX4_mayTake 54 = .ok (.iload_n 3, 1) := by decide +kernel
theorem dX4_mayTake_55 : decode cX4_mayTake 55 = .ok (.goto 5, 3) := by decide +kernel
theorem dX4_mayTake_58 : decode cX4_mayTake 58 = .ok (.iload 4, 2) := by decide +kernel
theorem dX4_mayTake_60 : decode cX4_mayTake 60 = .ok (.istore 9, 2) := by decide +kernel
theorem dX4_mayTake_62 : decode cX4_mayTake 62 = .ok (.iload 5, 2) := by decide +kernel
theorem dX4_mayTake_64 : decode cX4_mayTake 64 = .ok (.invokestatic 98, 3) := by decide +kernel
theorem dX4_mayTake_67 : decode cX4_mayTake 67 = .ok (.iconst 1, 1) := by decide +kernel
theorem dX4_mayTake_68 : decode cX4_mayTake 68 = .ok (.iload_n 2, 1) := by decide +kernel
theorem dX4_mayTake_69 : decode cX4_mayTake 69 = .ok (.iload_n 3, 1) := by decide +kernel
theorem dX4_mayTake_70 : decode cX4_mayTake 70 = .ok (.iadd, 1) := by decide +kernel
theorem dX4_mayTake_71 : decode cX4_mayTake 71 = .ok (.iload 4, 2) := by decide +kernel
theorem dX4_mayTake_73 : decode cX4_mayTake 73 = .ok (.iadd, 1) := by decide +kernel
theorem dX4_mayTake_74 : decode cX4_mayTake 74 = .ok (.invokestatic 101, 3) := by decide +kernel
theorem dX4_mayTake_77 : decode cX4_mayTake 77 = .ok (.iadd, 1) := by decide +kernel
theorem dX4_mayTake_78 : decode cX4_mayTake 78 = .ok (.if_icmp .ge 7, 3) := by decide +kernel
theorem dX4_mayTake_81 : decode cX4_mayTake 81 = .ok (.iconst 1, 1) := by decide +kernel
theorem dX4_mayTake_82 : decode cX4_mayTake 82 = .ok (.goto 4, 3) := by decide +kernel
theorem dX4_mayTake_85 : decode cX4_mayTake 85 = .ok (.iconst 0, 1) := by decide +kernel
theorem dX4_mayTake_86 : decode cX4_mayTake 86 = .ok (.istore 10, 2) := by decide +kernel
theorem dX4_mayTake_88 : decode cX4_mayTake 88 = .ok (.aload_n 0, 1) := by decide +kernel
theorem dX4_mayTake_89 : decode cX4_mayTake 89 = .ok (.iload_n 1, 1) := by decide +kernel
theorem dX4_mayTake_90 : decode cX4_mayTake 90 = .ok (.invokevirtual 104, 3) := by decide +kernel
theorem dX4_mayTake_93 : decode cX4_mayTake 93 = .ok (.ifCond .eq 48, 3) := by decide +kernel
theorem dX4_mayTake_96 : decode cX4_mayTake 96 = .ok (.iload 6, 2) := by decide +kernel
theorem dX4_mayTake_98 : decode cX4_mayTake 98 = .ok (.iconst (-1), 1) := by decide +kernel
theorem dX4_mayTake_99 : decode cX4_mayTake 99 = .ok (.if_icmp .eq 14, 3) := by decide +kernel
theorem dX4_mayTake_102 : decode cX4_mayTake 102 = .ok (.iload 8, 2) := by decide +kernel
theorem dX4_mayTake_104 : decode cX4_mayTake 104 = .ok (.aload_n 0, 1) := by decide +kernel
theorem dX4_mayTake_105 : decode cX4_mayTake 105 = .ok (.getfield 28, 3) := by decide +kernel
theorem dX4_mayTake_108 : decode cX4_mayTake 108 = .ok (.iload_n 1, 1) := by decide +kernel
theorem dX4_mayTake_109 : decode cX4_mayTake 109 = .ok (.iaload, 1) := by decide +kernel
theorem dX4_mayTake_110 : decode cX4_mayTake 110 = .ok (.if_icmp .lt 31, 3) := by decide +kernel
theorem dX4_mayTake_113 : decode cX4_mayTake 113 = .ok (.aload_n 0, 1) := by decide +kernel
theorem dX4_mayTake_114 : decode cX4_mayTake 114 = .ok (.getfield 31, 3) := by decide +kernel
theorem dX4_mayTake_117 : decode cX4_mayTake 117 = .ok (.iload_n 1, 1) := by decide +kernel
theorem dX4_mayTake_118 : decode cX4_mayTake 118 = .ok (.iaload, 1) := by decide +kernel
theorem dX4_mayTake_119 : decode cX4_mayTake 119 = .ok (.iconst (-1), 1) := by decide +kernel
theorem dX4_mayTake_120 : decode cX4_mayTake 120 = .ok (.if_icmp .eq 17, 3) := by decide +kernel
theorem dX4_mayTake_123 : decode cX4_mayTake 123 = .ok (.iload 5, 2) := by decide +kernel
theorem dX4_mayTake_125 : decode cX4_mayTake 125 = .ok (.aload_n 0, 1) := by decide +kernel
theorem dX4_mayTake_126 : decode cX4_mayTake 126 = .ok (.getfield 31, 3) := by decide +kernel
theorem dX4_mayTake_129 : decode cX4_mayTake 129 = .ok (.iload_n 1, 1) := by decide +kernel
theorem dX4_mayTake_130 : decode cX4_mayTake 130 = .ok (.iaload, 1) := by decide +kernel
theorem dX4_mayTake_131 : decode cX4_mayTake 131 = .ok (.invokestatic 107, 3) := by decide +kernel
theorem dX4_mayTake_134 : decode cX4_mayTake 134 = .ok (.ifCond .eq 7, 3) := by decide +kernel
theorem dX4_mayTake_137 : decode cX4_mayTake 137 = .ok (.iconst 1, 1) := by decide +kernel
theorem dX4_mayTake_138 : decode cX4_mayTake 138 = .ok (.goto 4, 3) := by decide +kernel
theorem dX4_mayTake_141 : decode cX4_mayTake 141 = .ok (.iconst 0, 1) := by decide +kernel
theorem dX4_mayTake_142 : decode cX4_mayTake 142 = .ok (.istore 11, 2) := by decide +kernel
theorem dX4_mayTake_144 : decode cX4_mayTake 144 = .ok (.iload 5, 2) := by decide +kernel
theorem dX4_mayTake_146 : decode cX4_mayTake 146 = .ok (.iload_n 1, 1) := by decide +kernel
theorem dX4_mayTake_147 : decode cX4_mayTake 147 = .ok (.invokestatic 107, 3) := by decide +kernel
theorem dX4_mayTake_150 : decode cX4_mayTake 150 = .ok (.ifCond .ne 34, 3) := by decide +kernel
theorem dX4_mayTake_153 : decode cX4_mayTake 153 = .ok (.iload 10, 2) := by decide +kernel
theorem dX4_mayTake_155 : decode cX4_mayTake 155 = .ok (.ifCond .eq 29, 3) := by decide +kernel
theorem dX4_mayTake_158 : decode cX4_mayTake 158 = .ok (.iload 11, 2) := by decide +kernel
theorem dX4_mayTake_160 : decode cX4_mayTake 160 = .ok (.ifCond .eq 24, 3) := by decide +kernel
theorem dX4_mayTake_163 : decode cX4_mayTake 163 = .ok (.iload 7, 2) := by decide +kernel
theorem dX4_mayTake_165 : decode cX4_mayTake 165 = .ok (.iconst (-1), 1) := by decide +kernel
theorem dX4_mayTake_166 : decode cX4_mayTake 166 = .ok (.if_icmp .eq 14, 3) := by decide +kernel
theorem dX4_mayTake_169 : decode cX4_mayTake 169 = .ok (.iload 9, 2) := by decide +kernel
theorem dX4_mayTake_171 : decode cX4_mayTake 171 = .ok (.aload_n 0, 1) := by decide +kernel
theorem dX4_mayTake_172 : decode cX4_mayTake 172 = .ok (.getfield 37, 3) := by decide +kernel
theorem dX4_mayTake_175 : decode cX4_mayTake 175 = .ok (.iload_n 1, 1) := by decide +kernel
theorem dX4_mayTake_176 : decode cX4_mayTake 176 = .ok (.iaload, 1) := by decide +kernel
theorem dX4_mayTake_177 : decode cX4_mayTake 177 = .ok (.if_icmp .gt 7, 3) := by decide +kernel
theorem dX4_mayTake_180 : decode cX4_mayTake 180 = .ok (.iconst 1, 1) := by decide +kernel
theorem dX4_mayTake_181 : decode cX4_mayTake 181 = .ok (.goto 4, 3) := by decide +kernel
theorem dX4_mayTake_184 : decode cX4_mayTake 184 = .ok (.iconst 0, 1) := by decide +kernel
theorem dX4_mayTake_185 : decode cX4_mayTake 185 = .ok (.ireturn, 1) := by decide +kernel
theorem dX4_mayTakeNow_0 : decode cX4_mayTakeNow 0 = .ok (.aload_n 0, 1) := by decide +kernel
theorem dX4_mayTakeNow_1 : decode cX4_mayTakeNow 1 = .ok (.iload_n 1, 1) := by decide +kernel
theorem dX4_mayTakeNow_2 : decode cX4_mayTakeNow 2 = .ok (.aload_n 0, 1) := by decide +kernel
theorem dX4_mayTakeNow_3 : decode cX4_mayTakeNow 3 = .ok (.getfield 16, 3) := by decide +kernel
theorem dX4_mayTakeNow_6 : decode cX4_mayTakeNow 6 = .ok (.iconst 0, 1) := by decide +kernel
theorem dX4_mayTakeNow_7 : decode cX4_mayTakeNow 7 = .ok (.iaload, 1) := by decide +kernel
theorem dX4_mayTakeNow_8 : decode cX4_mayTakeNow 8 = .ok (.aload_n 0, 1) := by decide +kernel
theorem dX4_mayTakeNow_9 : decode cX4_mayTakeNow 9 = .ok (.getfield 16, 3) := by decide +kernel
theorem dX4_mayTakeNow_12 : decode cX4_mayTakeNow 12 = .ok (.iconst 1, 1) := by decide +kernel
theorem dX4_mayTakeNow_13 : decode cX4_mayTakeNow 13 = .ok (.iaload, 1) := by decide +kernel
theorem dX4_mayTakeNow_14 : decode cX4_mayTakeNow 14 = .ok (.aload_n 0, 1) := by decide +kernel
theorem dX4_mayTakeNow_15 : decode cX4_mayTakeNow 15 = .ok (.getfield 16, 3) := by decide +kernel
theorem dX4_mayTakeNow_18 : decode cX4_mayTakeNow 18 = .ok (.iconst 2, 1) := by decide +kernel
theorem dX4_mayTakeNow_19 : decode cX4_mayTakeNow 19 = .ok (.iaload, 1) := by decide +kernel
theorem dX4_mayTakeNow_20 : decode cX4_mayTakeNow 20 = .ok (.aload_n 0, 1) := by decide +kernel
theorem dX4_mayTakeNow_21 : decode cX4_mayTakeNow 21 = .ok (.getfield 111, 3) := by decide +kernel
theorem dX4_mayTakeNow_24 : decode cX4_mayTakeNow 24 = .ok (.invokevirtual 114, 3) := by decide +kernel
theorem dX4_mayTakeNow_27 : decode cX4_mayTakeNow 27 = .ok (.ireturn, 1) := by decide +kernel
theorem dX4_takeGift_0 : decode cX4_takeGift 0 = .ok (.iload_n 1, 1) := by decide +kernel
theorem dX4_takeGift_1 : decode cX4_takeGift 1 = .ok (.invokestatic 73, 3) := by decide +kernel
theorem dX4_takeGift_4 : decode cX4_takeGift 4 = .ok (.istore_n 2, 1) := by decide +kernel
theorem dX4_takeGift_5 : decode cX4_takeGift 5 = .ok (.aload_n 0, 1) := by decide +kernel
theorem dX4_takeGift_6 : decode cX4_takeGift 6 = .ok (.iload_n 2, 1) := by decide +kernel
theorem dX4_takeGift_7 : decode cX4_takeGift 7 = .ok (.iload_n 2, 1) := by decide +kernel
theorem dX4_takeGift_8 : decode cX4_takeGift 8 = .ok (.ifCond .eq 15, 3) := by decide +kernel
theorem dX4_takeGift_11 : decode cX4_takeGift 11 = .ok (.aload_n 0, 1) := by decide +kernel
theorem dX4_takeGift_12 : decode cX4_takeGift 12 = .ok (.iload_n 1, 1) := by decide +kernel
theorem dX4_takeGift_13 : decode cX4_takeGift 13 = .ok (.invokevirtual 118, 3) := by decide +kernel
theorem dX4_takeGift_16 : decode cX4_takeGift 16 = .ok (.ifCond .eq 7, 3) := by decide +kernel
theorem dX4_takeGift_19 : decode cX4_takeGift 19 = .ok (.iconst 1, 1) := by decide +kernel
theorem dX4_takeGift_20 : decode cX4_takeGift 20 = .ok (.goto 4, 3) := by decide +kernel
theorem dX4_takeGift_23 : decode cX4_takeGift 23 = .ok (.iconst 0, 1) := by decide +kernel
theorem dX4_takeGift_24 : decode cX4_takeGift 24 = .ok (.iconst 1, 1) := by decide +kernel
theorem dX4_takeGift_25 : decode cX4_takeGift 25 = .ok (.invokevirtual 77, 3) := by decide +kernel
theorem dX4_takeGift_28 : decode cX4_takeGift 28 = .ok (.ifCond .ne 5, 3) := by decide +kernel
theorem dX4_takeGift_31 : decode cX4_takeGift 31 = .ok (.iconst 0, 1) := by decide +kernel
theorem dX4_takeGift_32 : decode cX4_takeGift 32 = .ok (.ireturn, 1) := by decide +kernel
theorem dX4_takeGift_33 : decode cX4_takeGift 33 = .ok (.aload_n 0, 1) := by decide +kernel
theorem dX4_takeGift_34 : decode cX4_takeGift 34 = .ok (.dup, 1) := by decide +kernel
theorem dX4_takeGift_35 : decode cX4_takeGift 35 = .ok (.getfield 111, 3) := by decide +kernel
theorem dX4_takeGift_38 : decode cX4_takeGift 38 = .ok (.iconst 1, 1) := by decide +kernel
theorem dX4_takeGift_39 : decode cX4_takeGift 39 = .ok (.iload_n 1, 1) := by decide +kernel
theorem dX4_takeGift_40 : decode cX4_takeGift 40 = .ok (.ishl, 1) := by decide +kernel
theorem dX4_takeGift_41 : decode cX4_takeGift 41 = .ok (.ior, 1) := by decide +kernel
theorem dX4_takeGift_42 : decode cX4_takeGift 42 = .ok (.putfield 111, 3) := by decide +kernel
theorem dX4_takeGift_45 : decode cX4_takeGift 45 = .ok (.aload_n 0, 1) := by decide +kernel
theorem dX4_takeGift_46 : decode cX4_takeGift 46 = .ok (.getfield 111, 3) := by decide +kernel
theorem dX4_takeGift_49 : decode cX4_takeGift 49 = .ok (.invokestatic 98, 3) := by decide +kernel
theorem dX4_takeGift_52 : decode cX4_takeGift 52 = .ok (.ireturn, 1) := by decide +kernel
theorem dX4_loseLevel_0 : decode cX4_loseLevel 0 = .ok (.aload_n 0, 1) := by decide +kernel
theorem dX4_loseLevel_1 : decode cX4_loseLevel 1 = .ok (.aload_n 0, 1) := by decide +kernel
theorem dX4_loseLevel_2 : decode cX4_loseLevel 2 = .ok (.getfield 95, 3) := by decide +kernel
theorem dX4_loseLevel_5 : decode cX4_loseLevel 5 = .ok (.ifCond .le 7, 3) := by decide +kernel
theorem dX4_loseLevel_8 : decode cX4_loseLevel 8 = .ok (.iconst 1, 1) := by decide +kernel
theorem dX4_loseLevel_9 : decode cX4_loseLevel 9 = .ok (.goto 4, 3) := by decide +kernel
theorem dX4_loseLevel_12 : decode cX4_loseLevel 12 = .ok (.iconst 0, 1) := by decide +kernel
theorem dX4_loseLevel_13 : decode cX4_loseLevel 13 = .ok (.iconst 1, 1) := by decide +kernel
theorem dX4_loseLevel_14 : decode cX4_loseLevel 14 = .ok (.iconst 1, 1) := by decide +kernel
theorem dX4_loseLevel_15 : decode cX4_loseLevel 15 = .ok (.invokevirtual 77, 3) := by decide +kernel
theorem dX4_loseLevel_18 : decode cX4_loseLevel 18 = .ok (.ifCond .ne 5, 3) := by decide +kernel
theorem dX4_loseLevel_21 : decode cX4_loseLevel 21 = .ok (.iconst 0, 1) := by decide +kernel
theorem dX4_loseLevel_22 : decode cX4_loseLevel 22 = .ok (.ireturn, 1) := by decide +kernel
theorem dX4_loseLevel_23 : decode cX4_loseLevel 23 = .ok (.aload_n 0, 1) := by decide +kernel
theorem dX4_loseLevel_24 : decode cX4_loseLevel 24 = .ok (.dup, 1) := by decide +kernel
theorem dX4_loseLevel_25 : decode cX4_loseLevel 25 = .ok (.getfield 95, 3) := by decide +kernel
theorem dX4_loseLevel_28 : decode cX4_loseLevel 28 = .ok (.iconst 1, 1) := by decide +kernel
theorem dX4_loseLevel_29 : decode cX4_loseLevel 29 = .ok (.isub, 1) := by decide +kernel
theorem dX4_loseLevel_30 : decode cX4_loseLevel 30 = .ok (.putfield 95, 3) := by decide +kernel
theorem dX4_loseLevel_33 : decode cX4_loseLevel 33 = .ok (.aload_n 0, 1) := by decide +kernel
theorem dX4_loseLevel_34 : decode cX4_loseLevel 34 = .ok (.getfield 16, 3) := by decide +kernel
theorem dX4_loseLevel_37 : decode cX4_loseLevel 37 = .ok (.aload_n 0, 1) := by decide +kernel
theorem dX4_loseLevel_38 : decode cX4_loseLevel 38 = .ok (.getfield 13, 3) := by decide +kernel
theorem dX4_loseLevel_41 : decode cX4_loseLevel 41 = .ok (.aload_n 0, 1) := by decide +kernel
theorem dX4_loseLevel_42 : decode cX4_loseLevel 42 = .ok (.getfield 95, 3) := by decide +kernel
theorem dX4_loseLevel_45 : decode cX4_loseLevel 45 = .ok (.iaload, 1) := by decide +kernel
theorem dX4_loseLevel_46 : decode cX4_loseLevel 46 = .ok (.dup2, 1) := by decide +kernel
theorem dX4_loseLevel_47 : decode cX4_loseLevel 47 = .ok (.iaload, 1) := by decide +kernel
theorem dX4_loseLevel_48 : decode cX4_loseLevel 48 = .ok (.iconst 1, 1) := by decide +kernel
theorem dX4_loseLevel_49 : decode cX4_loseLevel 49 = .ok (.isub, 1) := by decide +kernel
theorem dX4_loseLevel_50 : decode cX4_loseLevel 50 = .ok (.iastore, 1) := by decide +kernel
theorem dX4_loseLevel_51 : decode cX4_loseLevel 51 = .ok (.aload_n 0, 1) := by decide +kernel
theorem dX4_loseLevel_52 : decode cX4_loseLevel 52 = .ok (.getfield 13, 3) := by decide +kernel
theorem dX4_loseLevel_55 : decode cX4_loseLevel 55 = .ok (.aload_n 0, 1) := by decide +kernel
theorem dX4_loseLevel_56 : decode cX4_loseLevel 56 = .ok (.getfield 95, 3) := by decide +kernel
theorem dX4_loseLevel_59 : decode cX4_loseLevel 59 = .ok (.iaload, 1) := by decide +kernel
theorem dX4_loseLevel_60 : decode cX4_loseLevel 60 = .ok (.ireturn, 1) := by decide +kernel
theorem dX4_workingOf_0 : decode cX4_workingOf 0 = .ok (.iconst 0, 1) := by decide +kernel
theorem dX4_workingOf_1 : decode cX4_workingOf 1 = .ok (.istore_n 2, 1) := by decide +kernel
theorem dX4_workingOf_2 : decode cX4_workingOf 2 = .ok (.iconst 0, 1) := by decide +kernel
theorem dX4_workingOf_3 : decode cX4_workingOf 3 = .ok (.istore_n 3, 1) := by decide +kernel
theorem dX4_workingOf_4 : decode cX4_workingOf 4 = .ok (.iload_n 3, 1) := by decide +kernel
theorem dX4_workingOf_5 : decode cX4_workingOf 5 = .ok (.bipush 8, 2) := by decide +kernel
theorem dX4_workingOf_7 : decode cX4_workingOf 7 = .ok (.if_icmp .ge 124, 3) := by decide +kernel
theorem dX4_workingOf_10 : decode cX4_workingOf 10 = .ok (.iconst 0, 1) := by decide +kernel
theorem dX4_workingOf_11 : decode cX4_workingOf 11 = .ok (.istore 4, 2) := by decide +kernel
theorem dX4_workingOf_13 : decode cX4_workingOf 13 = .ok (.iload 4, 2) := by decide +kernel
theorem dX4_workingOf_15 : decode cX4_workingOf 15 = .ok (.bipush 8, 2) := by decide +kernel
theorem dX4_workingOf_17 : decode cX4_workingOf 17 = .ok (.if_icmp .ge 108, 3) := by decide +kernel
theorem dX4_workingOf_20 : decode cX4_workingOf 20 = .ok (.iload_n 1, 1) := by decide +kernel
theorem dX4_workingOf_21 : decode cX4_workingOf 21 = .ok (.iload 4, 2) := by decide +kernel
theorem dX4_workingOf_23 : decode cX4_workingOf 23 = .ok (.invokestatic 107, 3) := by decide +kernel
theorem dX4_workingOf_26 : decode cX4_workingOf 26 = .ok (.ifCond .eq 49, 3) := by decide +kernel
theorem dX4_workingOf_29 : decode cX4_workingOf 29 = .ok (.aload_n 0, 1) := by decide +kernel
theorem dX4_workingOf_30 : decode cX4_workingOf 30 = .ok (.iload 4, 2) := by decide +kernel
theorem dX4_workingOf_32 : decode cX4_workingOf 32 = .ok (.invokevirtual 104, 3) := by decide +kernel
theorem dX4_workingOf_35 : decode cX4_workingOf 35 = .ok (.ifCond .eq 40, 3) := by decide +kernel
theorem dX4_workingOf_38 : decode cX4_workingOf 38 = .ok (.aload_n 0, 1) := by decide +kernel
theorem dX4_workingOf_39 : decode cX4_workingOf 39 = .ok (.getfield 25, 3) := by decide +kernel
theorem dX4_workingOf_42 : decode cX4_workingOf 42 = .ok (.iload 4, 2) := by decide +kernel
theorem dX4_workingOf_44 : decode cX4_workingOf 44 = .ok (.iaload, 1) := by decide +kernel
theorem dX4_workingOf_45 : decode cX4_workingOf 45 = .ok (.iconst (-1), 1) := by decide +kernel
theorem dX4_workingOf_46 : decode cX4_workingOf 46 = .ok (.if_icmp .eq 25, 3) := by decide +kernel
theorem dX4_workingOf_49 : decode cX4_workingOf 49 = .ok (.aload_n 0, 1) := by decide +kernel
theorem dX4_workingOf_50 : decode cX4_workingOf 50 = .ok (.getfield 16, 3) := by decide +kernel
theorem dX4_workingOf_53 : decode cX4_workingOf 53 = .ok (.aload_n 0, 1) := by decide +kernel
theorem dX4_workingOf_54 : decode cX4_workingOf 54 = .ok (.getfield 25, 3) := by decide +kernel
theorem dX4_workingOf_57 : decode cX4_workingOf 57 = .ok (.iload 4, 2) := by decide +kernel
theorem dX4_workingOf_59 : decode cX4_workingOf 59 = .ok (.iaload, 1) := by decide +kernel
theorem dX4_workingOf_60 : decode cX4_workingOf 60 = .ok (.iaload, 1) := by decide +kernel
theorem dX4_workingOf_61 : decode cX4_workingOf 61 = .ok (.aload_n 0, 1) := by decide +kernel
theorem dX4_workingOf_62 : decode cX4_workingOf 62 = .ok (.getfield 28, 3) := by decide +kernel
theorem dX4_workingOf_65 : decode cX4_workingOf 65 = .ok (.iload 4, 2) := by decide +kernel
theorem dX4_workingOf_67 : decode cX4_workingOf 67 = .ok (.iaload, 1) := by decide +kernel
theorem dX4_workingOf_68 : decode cX4_workingOf 68 = .ok (.if_icmp .lt 7, 3) := by decide +kernel
theorem dX4_workingOf_71 : decode cX4_workingOf 71 = .ok (.iconst 1, 1) := by decide +kernel
theorem dX4_workingOf_72 : decode cX4_workingOf 72 = .ok (.goto 4, 3) := by decide +kernel
theorem dX4_workingOf_75 : decode cX4_workingOf 75 = .ok (.iconst 0, 1) := by decide +kernel
theorem dX4_workingOf_76 : decode cX4_workingOf 76 = .ok (.istore 5, 2) := by decide +kernel
theorem dX4_workingOf_78 : decode cX4_workingOf 78 = .ok (.iload_n 2, 1) := by decide +kernel
theorem dX4_workingOf_79 : decode cX4_workingOf 79 = .ok (.iload 5, 2) := by decide +kernel
theorem dX4_workingOf_81 : decode cX4_workingOf 81 = .ok (.ifCond .eq 35, 3) := by decide +kernel
theorem dX4_workingOf_84 : decode cX4_workingOf 84 = .ok (.aload_n 0, 1) := by decide +kernel
theorem dX4_workingOf_85 : decode cX4_workingOf 85 = .ok (.getfield 31, 3) := by decide +kernel
theorem dX4_workingOf_88 : decode cX4_workingOf 88 = .ok (.iload 4, 2) := by decide +kernel
theorem dX4_workingOf_90 : decode cX4_workingOf 90 = .ok (.iaload, 1) := by decide +kernel
theorem dX4_workingOf_91 : decode cX4_workingOf 91 = .ok (.iconst (-1), 1) := by decide +kernel
theorem dX4_workingOf_92 : decode cX4_workingOf 92 = .ok (.if_icmp .eq 17, 3) := by decide +kernel
theorem dX4_workingOf_95 : decode cX4_workingOf 95 = .ok (.iload_n 2, 1) := by decide +kernel
theorem dX4_workingOf_96 : decode cX4_workingOf 96 = .ok (.aload_n 0, 1) := by decide +kernel
theorem dX4_workingOf_97 : decode cX4_workingOf 97 = .ok (.getfield 31, 3) := by decide +kernel
theorem dX4_workingOf_100 : decode cX4_workingOf 100 = .ok (.iload 4, 2) := by decide +kernel
theorem dX4_workingOf_102 : decode cX4_workingOf 102 = .ok (.iaload, 1) := by decide +kernel
theorem dX4_workingOf_103 : decode cX4_workingOf 103 = .ok (.invokestatic 107, 3) := by decide +kernel
theorem dX4_workingOf_106 : decode cX4_workingOf 106 = .ok (.ifCond .eq 10, 3) := by decide +kernel
theorem dX4_workingOf_109 : decode cX4_workingOf 109 = .ok (.iconst 1, 1) := by decide +kernel
theorem dX4_workingOf_110 : decode cX4_workingOf 110 = .ok (.iload 4, 2) := by decide +kernel
theorem dX4_workingOf_112 : decode cX4_workingOf 112 = .ok (.ishl, 1) := by decide +kernel
theorem dX4_workingOf_113 : decode cX4_workingOf 113 = .ok (.goto 4, 3) := by decide +kernel
theorem dX4_workingOf_116 : decode cX4_workingOf 116 = .ok (.iconst 0, 1) := by decide +kernel
theorem dX4_workingOf_117 : decode cX4_workingOf 117 = .ok (.ior, 1) := by decide +kernel
theorem dX4_workingOf_118 : decode cX4_workingOf 118 = .ok (.istore_n 2, 1) := by decide +kernel
theorem dX4_workingOf_119 : decode cX4_workingOf 119 = .ok (.iinc 4 1, 3) := by decide +kernel
theorem dX4_workingOf_122 : decode cX4_workingOf 122 = .ok (.goto (-109), 3) := by decide +kernel
theorem dX4_workingOf_125 : decode cX4_workingOf 125 = .ok (.iinc 3 1, 3) := by decide +kernel
theorem dX4_workingOf_128 : decode cX4_workingOf 128 = .ok (.goto (-124), 3) := by decide +kernel
theorem dX4_workingOf_131 : decode cX4_workingOf 131 = .ok (.iload_n 2, 1) := by decide +kernel
theorem dX4_workingOf_132 : decode cX4_workingOf 132 = .ok (.ireturn, 1) := by decide +kernel
theorem dX4_exchange_0 : decode cX4_exchange 0 = .ok (.iload_n 1, 1) := by decide +kernel
theorem dX4_exchange_1 : decode cX4_exchange 1 = .ok (.invokestatic 73, 3) := by decide +kernel
theorem dX4_exchange_4 : decode cX4_exchange 4 = .ok (.ifCond .eq 14, 3) := by decide +kernel
theorem dX4_exchange_7 : decode cX4_exchange 7 = .ok (.iload_n 2, 1) := by decide +kernel
theorem dX4_exchange_8 : decode cX4_exchange 8 = .ok (.invokestatic 73, 3) := by decide +kernel
theorem dX4_exchange_11 : decode cX4_exchange 11 = .ok (.ifCond .eq 7, 3) := by decide +kernel
theorem dX4_exchange_14 : decode cX4_exchange 14 = .ok (.iconst 1, 1) := by decide +kernel
theorem dX4_exchange_15 : decode cX4_exchange 15 = .ok (.goto 4, 3) := by decide +kernel
theorem dX4_exchange_18 : decode cX4_exchange 18 = .ok (.iconst 0, 1) := by decide +kernel
theorem dX4_exchange_19 : decode cX4_exchange 19 = .ok (.istore_n 3, 1) := by decide +kernel
theorem dX4_exchange_20 : decode cX4_exchange 20 = .ok (.iload_n 3, 1) := by decide +kernel
theorem dX4_exchange_21 : decode cX4_exchange 21 = .ok (.ifCond .eq 29, 3) := by decide +kernel
theorem dX4_exchange_24 : decode cX4_exchange 24 = .ok (.aload_n 0, 1) := by decide +kernel
theorem dX4_exchange_25 : decode cX4_exchange 25 = .ok (.getfield 111, 3) := by decide +kernel
theorem dX4_exchange_28 : decode cX4_exchange 28 = .ok (.iload_n 1, 1) := by decide +kernel
theorem dX4_exchange_29 : decode cX4_exchange 29 = .ok (.invokestatic 107, 3) := by decide +kernel
theorem dX4_exchange_32 : decode cX4_exchange 32 = .ok (.ifCond .eq 18, 3) := by decide +kernel
theorem dX4_exchange_35 : decode cX4_exchange 35 = .ok (.aload_n 0, 1) := by decide +kernel
theorem dX4_exchange_36 : decode cX4_exchange 36 = .ok (.getfield 111, 3) := by decide +kernel
theorem dX4_exchange_39 : decode cX4_exchange 39 = .ok (.iload_n 2, 1) := by decide +kernel
theorem dX4_exchange_40 : decode cX4_exchange 40 = .ok (.invokestatic 107, 3) := by decide +kernel
theorem dX4_exchange_43 : decode cX4_exchange 43 = .ok (.ifCond .ne 7, 3) := by decide +kernel
theorem dX4_exchange_46 : decode cX4_exchange 46 = .ok (.iconst 1, 1) := by decide +kernel
theorem dX4_exchange_47 : decode cX4_exchange 47 = .ok (.goto 4, 3) := by decide +kernel
theorem dX4_exchange_50 : decode cX4_exchange 50 = .ok (.iconst 0, 1) := by decide +kernel
theorem dX4_exchange_51 : decode cX4_exchange 51 = .ok (.istore 4, 2) := by decide +kernel
theorem dX4_exchange_53 : decode cX4_exchange 53 = .ok (.iload 4, 2) := by decide +kernel
theorem dX4_exchange_55 : decode cX4_exchange 55 = .ok (.ifCond .eq 20, 3) := by decide +kernel
theorem dX4_exchange_58 : decode cX4_exchange 58 = .ok (.aload_n 0, 1) := by decide +kernel
theorem dX4_exchange_59 : decode cX4_exchange 59 = .ok (.getfield 111, 3) := by decide +kernel
theorem dX4_exchange_62 : decode cX4_exchange 62 = .ok (.iconst 1, 1) := by decide +kernel
theorem dX4_exchange_63 : decode cX4_exchange 63 = .ok (.iload_n 1, 1) := by decide +kernel
theorem dX4_exchange_64 : decode cX4_exchange 64 = .ok (.ishl, 1) := by decide +kernel
theorem dX4_exchange_65 : decode cX4_exchange 65 = .ok (.iconst (-1), 1) := by decide +kernel
theorem dX4_exchange_66 : decode cX4_exchange 66 = .ok (.ixor, 1) := by decide +kernel
theorem dX4_exchange_67 : decode cX4_exchange 67 = .ok (.iand, 1) := by decide +kernel
theorem dX4_exchange_68 : decode cX4_exchange 68 = .ok (.iconst 1, 1) := by decide +kernel
theorem dX4_exchange_69 : decode cX4_exchange 69 = .ok (.iload_n 2, 1) := by decide +kernel
theorem dX4_exchange_70 : decode cX4_exchange 70 = .ok (.ishl, 1) := by decide +kernel
theorem dX4_exchange_71 : decode cX4_exchange 71 = .ok (.ior, 1) := by decide +kernel
theorem dX4_exchange_72 : decode cX4_exchange 72 = .ok (.goto 4, 3) := by decide +kernel
theorem dX4_exchange_75 : decode cX4_exchange 75 = .ok (.iconst 0, 1) := by decide +kernel
theorem dX4_exchange_76 : decode cX4_exchange 76 = .ok (.istore 5, 2) := by decide +kernel
theorem dX4_exchange_78 : decode cX4_exchange 78 = .ok (.aload_n 0, 1) := by decide +kernel
theorem dX4_exchange_79 : decode cX4_exchange 79 = .ok (.iload_n 3, 1) := by decide +kernel
theorem dX4_exchange_80 : decode cX4_exchange 80 = .ok (.iload 4, 2) := by decide +kernel
theorem dX4_exchange_82 : decode cX4_exchange 82 = .ok (.ifCond .eq 16, 3) := by decide +kernel
theorem dX4_exchange_85 : decode cX4_exchange 85 = .ok (.aload_n 0, 1) := by decide +kernel
theorem dX4_exchange_86 : decode cX4_exchange 86 = .ok (.iload 5, 2) := by decide +kernel
theorem dX4_exchange_88 : decode cX4_exchange 88 = .ok (.invokevirtual 121, 3) := by decide +kernel
theorem dX4_exchange_91 : decode cX4_exchange 91 = .ok (.ifCond .eq 7, 3) := by decide +kernel
theorem dX4_exchange_94 : decode cX4_exchange 94 = .ok (.iconst 1, 1) := by decide +kernel
theorem dX4_exchange_95 : decode cX4_exchange 95 = .ok (.goto 4, 3) := by decide +kernel
theorem dX4_exchange_98 : decode cX4_exchange 98 = .ok (.iconst 0, 1) := by decide +kernel
theorem dX4_exchange_99 : decode cX4_exchange 99 = .ok (.iconst 1, 1) := by decide +kernel
theorem dX4_exchange_100 : decode cX4_exchange 100 = .ok (.invokevirtual 77, 3) := by decide +kernel
theorem dX4_exchange_103 : decode cX4_exchange 103 = .ok (.ifCond .ne 5, 3) := by decide +kernel
theorem dX4_exchange_106 : decode cX4_exchange 106 = .ok (.iconst 0, 1) := by decide +kernel
theorem dX4_exchange_107 : decode cX4_exchange 107 = .ok (.ireturn, 1) := by decide +kernel
theorem dX4_exchange_108 : decode cX4_exchange 108 = .ok (.aload_n 0, 1) := by decide +kernel
theorem dX4_exchange_109 : decode cX4_exchange 109 = .ok (.aload_n 0, 1) := by decide +kernel
theorem dX4_exchange_110 : decode cX4_exchange 110 = .ok (.getfield 111, 3) := by decide +kernel
theorem dX4_exchange_113 : decode cX4_exchange 113 = .ok (.invokevirtual 124, 3) := by decide +kernel
theorem dX4_exchange_116 : decode cX4_exchange 116 = .ok (.iconst 1, 1) := by decide +kernel
theorem dX4_exchange_117 : decode cX4_exchange 117 = .ok (.iload_n 1, 1) := by decide +kernel
theorem dX4_exchange_118 : decode cX4_exchange 118 = .ok (.ishl, 1) := by decide +kernel
theorem dX4_exchange_119 : decode cX4_exchange 119 = .ok (.iconst (-1), 1) := by decide +kernel
theorem dX4_exchange_120 : decode cX4_exchange 120 = .ok (.ixor, 1) := by decide +kernel
theorem dX4_exchange_121 : decode cX4_exchange 121 = .ok (.iand, 1) := by decide +kernel
theorem dX4_exchange_122 : decode cX4_exchange 122 = .ok (.istore 6, 2) := by decide +kernel
theorem dX4_exchange_124 : decode cX4_exchange 124 = .ok (.aload_n 0, 1) := by decide +kernel
theorem dX4_exchange_125 : decode cX4_exchange 125 = .ok (.iload 5, 2) := by decide +kernel
theorem dX4_exchange_127 : decode cX4_exchange 127 = .ok (.putfield 111, 3) := by decide +kernel
theorem dX4_exchange_130 : decode cX4_exchange 130 = .ok (.iload 6, 2) := by decide +kernel
theorem dX4_exchange_132 : decode cX4_exchange 132 = .ok (.aload_n 0, 1) := by decide +kernel
theorem dX4_exchange_133 : decode cX4_exchange 133 = .ok (.aload_n 0, 1) := by decide +kernel
theorem dX4_exchange_134 : decode cX4_exchange 134 = .ok (.getfield 111, 3) := by decide +kernel
theorem dX4_exchange_137 : decode cX4_exchange 137 = .ok (.invokevirtual 124, 3) := by decide +kernel
theorem dX4_exchange_140 : decode cX4_exchange 140 = .ok (.iconst (-1), 1) := by decide +kernel
theorem dX4_exchange_141 : decode cX4_exchange 141 = .ok (.ixor, 1) := by decide +kernel
theorem dX4_exchange_142 : decode cX4_exchange 142 = .ok (.iand, 1) := by decide +kernel
theorem dX4_exchange_143 : decode cX4_exchange 143 = .ok (.invokestatic 98, 3) := by decide +kernel
theorem dX4_exchange_146 : decode cX4_exchange 146 = .ok (.ireturn, 1) := by decide +kernel
theorem dX4_clear_0 : decode cX4_clear 0 = .ok (.aload_n 0, 1) := by decide +kernel
theorem dX4_clear_1 : decode cX4_clear 1 = .ok (.getfield 95, 3) := by decide +kernel
theorem dX4_clear_4 : decode cX4_clear 4 = .ok (.aload_n 0, 1) := by decide +kernel
theorem dX4_clear_5 : decode cX4_clear 5 = .ok (.getfield 111, 3) := by decide +kernel
theorem dX4_clear_8 : decode cX4_clear 8 = .ok (.invokestatic 98, 3) := by decide +kernel
theorem dX4_clear_11 : decode cX4_clear 11 = .ok (.iadd, 1) := by decide +kernel
theorem dX4_clear_12 : decode cX4_clear 12 = .ok (.istore_n 1, 1) := by decide +kernel
theorem dX4_clear_13 : decode cX4_clear 13 = .ok (.aload_n 0, 1) := by decide +kernel
theorem dX4_clear_14 : decode cX4_clear 14 = .ok (.iconst 0, 1) := by decide +kernel
theorem dX4_clear_15 : decode cX4_clear 15 = .ok (.putfield 95, 3) := by decide +kernel
theorem dX4_clear_18 : decode cX4_clear 18 = .ok (.aload_n 0, 1) := by decide +kernel
theorem dX4_clear_19 : decode cX4_clear 19 = .ok (.iconst 0, 1) := by decide +kernel
theorem dX4_clear_20 : decode cX4_clear 20 = .ok (.putfield 111, 3) := by decide +kernel
theorem dX4_clear_23 : decode cX4_clear 23 = .ok (.iconst 0, 1) := by decide +kernel
theorem dX4_clear_24 : decode cX4_clear 24 = .ok (.istore_n 2, 1) := by decide +kernel
theorem dX4_clear_25 : decode cX4_clear 25 = .ok (.iload_n 2, 1) := by decide +kernel
theorem dX4_clear_26 : decode cX4_clear 26 = .ok (.iconst 3, 1) := by decide +kernel
theorem dX4_clear_27 : decode cX4_clear 27 = .ok (.if_icmp .ge 16, 3) := by decide +kernel
theorem dX4_clear_30 : decode cX4_clear 30 = .ok (.aload_n 0, 1) := by decide +kernel
theorem dX4_clear_31 : decode cX4_clear 31 = .ok (.getfield 16, 3) := by decide +kernel
theorem dX4_clear_34 : decode cX4_clear 34 = .ok (.iload_n 2, 1) := by decide +kernel
theorem dX4_clear_35 : decode cX4_clear 35 = .ok (.iconst 0, 1) := by decide +kernel
theorem dX4_clear_36 : decode cX4_clear 36 = .ok (.iastore, 1) := by decide +kernel
theorem dX4_clear_37 : decode cX4_clear 37 = .ok (.iinc 2 1, 3) := by decide +kernel
theorem dX4_clear_40 : decode cX4_clear 40 = .ok (.goto (-15), 3) := by decide +kernel
theorem dX4_clear_43 : decode cX4_clear 43 = .ok (.aload_n 0, 1) := by decide +kernel
theorem dX4_clear_44 : decode cX4_clear 44 = .ok (.iload_n 1, 1) := by decide +kernel
theorem dX4_clear_45 : decode cX4_clear 45 = .ok (.invokevirtual 127, 3) := by decide +kernel
theorem dX4_clear_48 : decode cX4_clear 48 = .ok (.ireturn, 1) := by decide +kernel
theorem dX4_level_0 : decode cX4_level 0 = .ok (.aload_n 0, 1) := by decide +kernel
theorem dX4_level_1 : decode cX4_level 1 = .ok (.iload_n 1, 1) := by decide +kernel
theorem dX4_level_2 : decode cX4_level 2 = .ok (.invokestatic 92, 3) := by decide +kernel
theorem dX4_level_5 : decode cX4_level 5 = .ok (.iconst 1, 1) := by decide +kernel
theorem dX4_level_6 : decode cX4_level 6 = .ok (.iconst 1, 1) := by decide +kernel
theorem dX4_level_7 : decode cX4_level 7 = .ok (.invokevirtual 77, 3) := by decide +kernel
theorem dX4_level_10 : decode cX4_level 10 = .ok (.ifCond .eq 12, 3) := by decide +kernel
theorem dX4_level_13 : decode cX4_level 13 = .ok (.aload_n 0, 1) := by decide +kernel
theorem dX4_level_14 : decode cX4_level 14 = .ok (.getfield 16, 3) := by decide +kernel
theorem dX4_level_17 : decode cX4_level 17 = .ok (.iload_n 1, 1) := by decide +kernel
theorem dX4_level_18 : decode cX4_level 18 = .ok (.iaload, 1) := by decide +kernel
theorem dX4_level_19 : decode cX4_level 19 = .ok (.goto 4, 3) := by decide +kernel
theorem dX4_level_22 : decode cX4_level 22 = .ok (.iconst 0, 1) := by decide +kernel
theorem dX4_level_23 : decode cX4_level 23 = .ok (.ireturn, 1) := by decide +kernel
theorem dX4_gifts_0 : decode cX4_gifts 0 = .ok (.aload_n 0, 1) := by decide +kernel
theorem dX4_gifts_1 : decode cX4_gifts 1 = .ok (.aload_n 0, 1) := by decide +kernel
theorem dX4_gifts_2 : decode cX4_gifts 2 = .ok (.getfield 111, 3) := by decide +kernel
theorem dX4_gifts_5 : decode cX4_gifts 5 = .ok (.invokevirtual 127, 3) := by decide +kernel
theorem dX4_gifts_8 : decode cX4_gifts 8 = .ok (.ireturn, 1) := by decide +kernel
theorem dX4_working_0 : decode cX4_working 0 = .ok (.aload_n 0, 1) := by decide +kernel
theorem dX4_working_1 : decode cX4_working 1 = .ok (.aload_n 0, 1) := by decide +kernel
theorem dX4_working_2 : decode cX4_working 2 = .ok (.aload_n 0, 1) := by decide +kernel
theorem dX4_working_3 : decode cX4_working 3 = .ok (.getfield 111, 3) := by decide +kernel
theorem dX4_working_6 : decode cX4_working 6 = .ok (.invokevirtual 124, 3) := by decide +kernel
theorem dX4_working_9 : decode cX4_working 9 = .ok (.invokevirtual 127, 3) := by decide +kernel
theorem dX4_working_12 : decode cX4_working 12 = .ok (.ireturn, 1) := by decide +kernel
theorem dX4_open_0 : decode cX4_open 0 = .ok (.iconst 0, 1) := by decide +kernel
theorem dX4_open_1 : decode cX4_open 1 = .ok (.istore_n 1, 1) := by decide +kernel
theorem dX4_open_2 : decode cX4_open 2 = .ok (.iconst 0, 1) := by decide +kernel
theorem dX4_open_3 : decode cX4_open 3 = .ok (.istore_n 2, 1) := by decide +kernel
theorem dX4_open_4 : decode cX4_open 4 = .ok (.iload_n 2, 1) := by decide +kernel
theorem dX4_open_5 : decode cX4_open 5 = .ok (.bipush 8, 2) := by decide +kernel
theorem dX4_open_7 : decode cX4_open 7 = .ok (.if_icmp .ge 27, 3) := by decide +kernel
theorem dX4_open_10 : decode cX4_open 10 = .ok (.iload_n 1, 1) := by decide +kernel
theorem dX4_open_11 : decode cX4_open 11 = .ok (.aload_n 0, 1) := by decide +kernel
theorem dX4_open_12 : decode cX4_open 12 = .ok (.iload_n 2, 1) := by decide +kernel
theorem dX4_open_13 : decode cX4_open 13 = .ok (.invokevirtual 118, 3) := by decide +kernel
theorem dX4_open_16 : decode cX4_open 16 = .ok (.ifCond .eq 9, 3) := by decide +kernel
theorem dX4_open_19 : decode cX4_open 19 = .ok (.iconst 1, 1) := by decide +kernel
theorem dX4_open_20 : decode cX4_open 20 = .ok (.iload_n 2, 1) := by decide +kernel
theorem dX4_open_21 : decode cX4_open 21 = .ok (.ishl, 1) := by decide +kernel
theorem dX4_open_22 : decode cX4_open 22 = .ok (.goto 4, 3) := by decide +kernel
theorem dX4_open_25 : decode cX4_open 25 = .ok (.iconst 0, 1) := by decide +kernel
theorem dX4_open_26 : decode cX4_open 26 = .ok (.ior, 1) := by decide +kernel
theorem dX4_open_27 : decode cX4_open 27 = .ok (.istore_n 1, 1) := by decide +kernel
theorem dX4_open_28 : decode cX4_open 28 = .ok (.iinc 2 1, 3) := by decide +kernel
theorem dX4_open_31 : decode cX4_open 31 = .ok (.goto (-27), 3) := by decide +kernel
theorem dX4_open_34 : decode cX4_open 34 = .ok (.aload_n 0, 1) := by decide +kernel
theorem dX4_open_35 : decode cX4_open 35 = .ok (.iload_n 1, 1) := by decide +kernel
theorem dX4_open_36 : decode cX4_open 36 = .ok (.invokevirtual 127, 3) := by decide +kernel
theorem dX4_open_39 : decode cX4_open 39 = .ok (.ireturn, 1) := by decide +kernel
theorem dX4_places_0 : decode cX4_places 0 = .ok (.aload_n 0, 1) := by decide +kernel
theorem dX4_places_1 : decode cX4_places 1 = .ok (.iconst 1, 1) := by decide +kernel
theorem dX4_places_2 : decode cX4_places 2 = .ok (.aload_n 0, 1) := by decide +kernel
theorem dX4_places_3 : decode cX4_places 3 = .ok (.getfield 95, 3) := by decide +kernel
theorem dX4_places_6 : decode cX4_places 6 = .ok (.invokestatic 101, 3) := by decide +kernel
theorem dX4_places_9 : decode cX4_places 9 = .ok (.iadd, 1) := by decide +kernel
theorem dX4_places_10 : decode cX4_places 10 = .ok (.invokevirtual 127, 3) := by decide +kernel
theorem dX4_places_13 : decode cX4_places 13 = .ok (.ireturn, 1) := by decide +kernel
theorem dX4_points_0 : decode cX4_points 0 = .ok (.aload_n 0, 1) := by decide +kernel
theorem dX4_points_1 : decode cX4_points 1 = .ok (.bipush 20, 2) := by decide +kernel
theorem dX4_points_3 : decode cX4_points 3 = .ok (.aload_n 0, 1) := by decide +kernel
theorem dX4_points_4 : decode cX4_points 4 = .ok (.invokevirtual 88, 3) := by decide +kernel
theorem dX4_points_7 : decode cX4_points 7 = .ok (.isub, 1) := by decide +kernel
theorem dX4_points_8 : decode cX4_points 8 = .ok (.invokevirtual 127, 3) := by decide +kernel
theorem dX4_points_11 : decode cX4_points 11 = .ok (.ireturn, 1) := by decide +kernel
theorem dX4_bonusOf_0 : decode cX4_bonusOf 0 = .ok (.aload_n 0, 1) := by decide +kernel
theorem dX4_bonusOf_1 : decode cX4_bonusOf 1 = .ok (.aload_n 0, 1) := by decide +kernel
theorem dX4_bonusOf_2 : decode cX4_bonusOf 2 = .ok (.getfield 111, 3) := by decide +kernel
theorem dX4_bonusOf_5 : decode cX4_bonusOf 5 = .ok (.invokevirtual 124, 3) := by decide +kernel
theorem dX4_bonusOf_8 : decode cX4_bonusOf 8 = .ok (.istore_n 3, 1) := by decide +kernel
theorem dX4_bonusOf_9 : decode cX4_bonusOf 9 = .ok (.iconst 0, 1) := by decide +kernel
theorem dX4_bonusOf_10 : decode cX4_bonusOf 10 = .ok (.istore 4, 2) := by decide +kernel
theorem dX4_bonusOf_12 : decode cX4_bonusOf 12 = .ok (.iconst 0, 1) := by decide +kernel
theorem dX4_bonusOf_13 : decode cX4_bonusOf 13 = .ok (.istore 5, 2) := by decide +kernel
theorem dX4_bonusOf_15 : decode cX4_bonusOf 15 = .ok (.iconst 0, 1) := by decide +kernel
theorem dX4_bonusOf_16 : decode cX4_bonusOf 16 = .ok (.istore 6, 2) := by decide +kernel
theorem dX4_bonusOf_18 : decode cX4_bonusOf 18 = .ok (.iload 6, 2) := by decide +kernel
theorem dX4_bonusOf_20 : decode cX4_bonusOf 20 = .ok (.bipush 8, 2) := by decide +kernel
theorem dX4_bonusOf_22 : decode cX4_bonusOf 22 = .ok (.if_icmp .ge 117, 3) := by decide +kernel
theorem dX4_bonusOf_25 : decode cX4_bonusOf 25 = .ok (.iload_n 3, 1) := by decide +kernel
theorem dX4_bonusOf_26 : decode cX4_bonusOf 26 = .ok (.iload 6, 2) := by decide +kernel
theorem dX4_bonusOf_28 : decode cX4_bonusOf 28 = .ok (.invokestatic 107, 3) := by decide +kernel
theorem dX4_bonusOf_31 : decode cX4_bonusOf 31 = .ok (.ifCond .eq 29, 3) := by decide +kernel
theorem dX4_bonusOf_34 : decode cX4_bonusOf 34 = .ok (.aload_n 0, 1) := by decide +kernel
theorem dX4_bonusOf_35 : decode cX4_bonusOf 35 = .ok (.getfield 40, 3) := by decide +kernel
theorem dX4_bonusOf_38 : decode cX4_bonusOf 38 = .ok (.iload 6, 2) := by decide +kernel
theorem dX4_bonusOf_40 : decode cX4_bonusOf 40 = .ok (.iaload, 1) := by decide +kernel
theorem dX4_bonusOf_41 : decode cX4_bonusOf 41 = .ok (.iload_n 1, 1) := by decide +kernel
theorem dX4_bonusOf_42 : decode cX4_bonusOf 42 = .ok (.if_icmp .ne 18, 3) := by decide +kernel
theorem dX4_bonusOf_45 : decode cX4_bonusOf 45 = .ok (.aload_n 0, 1) := by decide +kernel
theorem dX4_bonusOf_46 : decode cX4_bonusOf 46 = .ok (.getfield 43, 3) := by decide +kernel
theorem dX4_bonusOf_49 : decode cX4_bonusOf 49 = .ok (.iload 6, 2) := by decide +kernel
theorem dX4_bonusOf_51 : decode cX4_bonusOf 51 = .ok (.iaload, 1) := by decide +kernel
theorem dX4_bonusOf_52 : decode cX4_bonusOf 52 = .ok (.iload_n 2, 1) := by decide +kernel
theorem dX4_bonusOf_53 : decode cX4_bonusOf 53 = .ok (.if_icmp .ne 7, 3) := by decide +kernel
theorem dX4_bonusOf_56 : decode cX4_bonusOf 56 = .ok (.iconst 1, 1) := by decide +kernel
theorem dX4_bonusOf_57 : decode cX4_bonusOf 57 = .ok (.goto 4, 3) := by decide +kernel
theorem dX4_bonusOf_60 : decode cX4_bonusOf 60 = .ok (.iconst 0, 1) := by decide +kernel
theorem dX4_bonusOf_61 : decode cX4_bonusOf 61 = .ok (.istore 7, 2) := by decide +kernel
theorem dX4_bonusOf_63 : decode cX4_bonusOf 63 = .ok (.iload 4, 2) := by decide +kernel
theorem dX4_bonusOf_65 : decode cX4_bonusOf 65 = .ok (.iload 7, 2) := by decide +kernel
theorem dX4_bonusOf_67 : decode cX4_bonusOf 67 = .ok (.ifCond .eq 27, 3) := by decide +kernel
theorem dX4_bonusOf_70 : decode cX4_bonusOf 70 = .ok (.iload_n 2, 1) := by decide +kernel
theorem dX4_bonusOf_71 : decode cX4_bonusOf 71 = .ok (.ifCond .eq 13, 3) := by decide +kernel
theorem dX4_bonusOf_74 : decode cX4_bonusOf 74 = .ok (.aload_n 0, 1) := by decide +kernel
theorem dX4_bonusOf_75 : decode cX4_bonusOf 75 = .ok (.getfield 46, 3) := by decide +kernel
theorem dX4_bonusOf_78 : decode cX4_bonusOf 78 = .ok (.iload 6, 2) := by decide +kernel
theorem dX4_bonusOf_80 : decode cX4_bonusOf 80 = .ok (.iaload, 1) := by decide +kernel
theorem dX4_bonusOf_81 : decode cX4_bonusOf 81 = .ok (.ifCond .ge 13, 3) := by decide +kernel
theorem dX4_bonusOf_84 : decode cX4_bonusOf 84 = .ok (.aload_n 0, 1) := by decide +kernel
theorem dX4_bonusOf_85 : decode cX4_bonusOf 85 = .ok (.getfield 46, 3) := by decide +kernel
theorem dX4_bonusOf_88 : decode cX4_bonusOf 88 = .ok (.iload 6, 2) := by decide +kernel
theorem dX4_bonusOf_90 : decode cX4_bonusOf 90 = .ok (.iaload, 1) := by decide +kernel
theorem dX4_bonusOf_91 : decode cX4_bonusOf 91 = .ok (.goto 4, 3) := by decide +kernel
theorem dX4_bonusOf_94 : decode cX4_bonusOf 94 = .ok (.iconst 0, 1) := by decide +kernel
theorem dX4_bonusOf_95 : decode cX4_bonusOf 95 = .ok (.iadd, 1) := by decide +kernel
theorem dX4_bonusOf_96 : decode cX4_bonusOf 96 = .ok (.istore 4, 2) := by decide +kernel
theorem dX4_bonusOf_98 : decode cX4_bonusOf 98 = .ok (.iload 7, 2) := by decide +kernel
theorem dX4_bonusOf_100 : decode cX4_bonusOf 100 = .ok (.ifCond .eq 29, 3) := by decide +kernel
theorem dX4_bonusOf_103 : decode cX4_bonusOf 103 = .ok (.iload_n 2, 1) := by decide +kernel
theorem dX4_bonusOf_104 : decode cX4_bonusOf 104 = .ok (.ifCond .le 25, 3) := by decide +kernel
theorem dX4_bonusOf_107 : decode cX4_bonusOf 107 = .ok (.aload_n 0, 1) := by decide +kernel
theorem dX4_bonusOf_108 : decode cX4_bonusOf 108 = .ok (.getfield 46, 3) := by decide +kernel
theorem dX4_bonusOf_111 : decode cX4_bonusOf 111 = .ok (.iload 6, 2) := by decide +kernel
theorem dX4_bonusOf_113 : decode cX4_bonusOf 113 = .ok (.iaload, 1) := by decide +kernel
theorem dX4_bonusOf_114 : decode cX4_bonusOf 114 = .ok (.iload 5, 2) := by decide +kernel
theorem dX4_bonusOf_116 : decode cX4_bonusOf 116 = .ok (.if_icmp .le 13, 3) := by decide +kernel
theorem dX4_bonusOf_119 : decode cX4_bonusOf 119 = .ok (.aload_n 0, 1) := by decide +kernel
theorem dX4_bonusOf_120 : decode cX4_bonusOf 120 = .ok (.getfield 46, 3) := by decide +kernel
theorem dX4_bonusOf_123 : decode cX4_bonusOf 123 = .ok (.iload 6, 2) := by decide +kernel
theorem dX4_bonusOf_125 : decode cX4_bonusOf 125 = .ok (.iaload, 1) := by decide +kernel
theorem dX4_bonusOf_126 : decode cX4_bonusOf 126 = .ok (.goto 5, 3) := by decide +kernel
theorem dX4_bonusOf_129 : decode cX4_bonusOf 129 = .ok (.iload 5, 2) := by decide +kernel
theorem dX4_bonusOf_131 : decode cX4_bonusOf 131 = .ok (.istore 5, 2) := by decide +kernel
theorem dX4_bonusOf_133 : decode cX4_bonusOf 133 = .ok (.iinc 6 1, 3) := by decide +kernel
theorem dX4_bonusOf_136 : decode cX4_bonusOf 136 = .ok (.goto (-118), 3) := by decide +kernel
theorem dX4_bonusOf_139 : decode cX4_bonusOf 139 = .ok (.iload 4, 2) := by decide +kernel
theorem dX4_bonusOf_141 : decode cX4_bonusOf 141 = .ok (.iload 5, 2) := by decide +kernel
theorem dX4_bonusOf_143 : decode cX4_bonusOf 143 = .ok (.iadd, 1) := by decide +kernel
theorem dX4_bonusOf_144 : decode cX4_bonusOf 144 = .ok (.ireturn, 1) := by decide +kernel
theorem dX4_isEndless_0 : decode cX4_isEndless 0 = .ok (.iload_n 1, 1) := by decide +kernel
theorem dX4_isEndless_1 : decode cX4_isEndless 1 = .ok (.istore_n 2, 1) := by decide +kernel
theorem dX4_isEndless_2 : decode cX4_isEndless 2 = .ok (.iconst 0, 1) := by decide +kernel
theorem dX4_isEndless_3 : decode cX4_isEndless 3 = .ok (.istore_n 3, 1) := by decide +kernel
theorem dX4_isEndless_4 : decode cX4_isEndless 4 = .ok (.iload_n 3, 1) := by decide +kernel
theorem dX4_isEndless_5 : decode cX4_isEndless 5 = .ok (.bipush 6, 2) := by decide +kernel
theorem dX4_isEndless_7 : decode cX4_isEndless 7 = .ok (.if_icmp .ge 21, 3) := by decide +kernel
theorem dX4_isEndless_10 : decode cX4_isEndless 10 = .ok (.iload_n 2, 1) := by decide +kernel
theorem dX4_isEndless_11 : decode cX4_isEndless 11 = .ok (.iconst (-1), 1) := by decide +kernel
theorem dX4_isEndless_12 : decode cX4_isEndless 12 = .ok (.if_icmp .eq 16, 3) := by decide +kernel
theorem dX4_isEndless_15 : decode cX4_isEndless 15 = .ok (.aload_n 0, 1) := by decide +kernel
theorem dX4_isEndless_16 : decode cX4_isEndless 16 = .ok (.getfield 58, 3) := by decide +kernel
theorem dX4_isEndless_19 : decode cX4_isEndless 19 = .ok (.iload_n 2, 1) := by decide +kernel
theorem dX4_isEndless_20 : decode cX4_isEndless 20 = .ok (.iaload, 1) := by decide +kernel
theorem dX4_isEndless_21 : decode cX4_isEndless 21 = .ok (.istore_n 2, 1) := by decide +kernel
theorem dX4_isEndless_22 : decode cX4_isEndless 22 = .ok (.iinc 3 1, 3) := by decide +kernel
theorem dX4_isEndless_25 : decode cX4_isEndless 25 = .ok (.goto (-21), 3) := by decide +kernel
theorem dX4_isEndless_28 : decode cX4_isEndless 28 = .ok (.iload_n 2, 1) := by decide +kernel
theorem dX4_isEndless_29 : decode cX4_isEndless 29 = .ok (.iconst (-1), 1) := by decide +kernel
theorem dX4_isEndless_30 : decode cX4_isEndless 30 = .ok (.if_icmp .eq 7, 3) := by decide +kernel
theorem dX4_isEndless_33 : decode cX4_isEndless 33 = .ok (.iconst 1, 1) := by decide +kernel
theorem dX4_isEndless_34 : decode cX4_isEndless 34 = .ok (.goto 4, 3) := by decide +kernel
theorem dX4_isEndless_37 : decode cX4_isEndless 37 = .ok (.iconst 0, 1) := by decide +kernel
theorem dX4_isEndless_38 : decode cX4_isEndless 38 = .ok (.ireturn, 1) := by decide +kernel
theorem dX4_alone_0 : decode cX4_alone 0 = .ok (.aload_n 0, 1) := by decide +kernel
theorem dX4_alone_1 : decode cX4_alone 1 = .ok (.getfield 49, 3) := by decide +kernel
theorem dX4_alone_4 : decode cX4_alone 4 = .ok (.iload_n 1, 1) := by decide +kernel
theorem dX4_alone_5 : decode cX4_alone 5 = .ok (.iaload, 1) := by decide +kernel
theorem dX4_alone_6 : decode cX4_alone 6 = .ok (.istore_n 2, 1) := by decide +kernel
theorem dX4_alone_7 : decode cX4_alone 7 = .ok (.iload_n 2, 1) := by decide +kernel
theorem dX4_alone_8 : decode cX4_alone 8 = .ok (.aload_n 0, 1) := by decide +kernel
theorem dX4_alone_9 : decode cX4_alone 9 = .ok (.getfield 52, 3) := by decide +kernel
theorem dX4_alone_12 : decode cX4_alone 12 = .ok (.iload_n 1, 1) := by decide +kernel
theorem dX4_alone_13 : decode cX4_alone 13 = .ok (.iaload, 1) := by decide +kernel
theorem dX4_alone_14 : decode cX4_alone 14 = .ok (.iconst (-1), 1) := by decide +kernel
theorem dX4_alone_15 : decode cX4_alone 15 = .ok (.if_icmp .ne 7, 3) := by decide +kernel
theorem dX4_alone_18 : decode cX4_alone 18 = .ok (.iconst 0, 1) := by decide +kernel
theorem dX4_alone_19 : decode cX4_alone 19 = .ok (.goto 20, 3) := by decide +kernel
theorem dX4_alone_22 : decode cX4_alone 22 = .ok (.aload_n 0, 1) := by decide +kernel
theorem dX4_alone_23 : decode cX4_alone 23 = .ok (.getfield 7, 3) := by decide +kernel
theorem dX4_alone_26 : decode cX4_alone 26 = .ok (.aload_n 0, 1) := by decide +kernel
theorem dX4_alone_27 : decode cX4_alone 27 = .ok (.getfield 52, 3) := by decide +kernel
theorem dX4_alone_30 : decode cX4_alone 30 = .ok (.iload_n 1, 1) := by decide +kernel
theorem dX4_alone_31 : decode cX4_alone 31 = .ok (.iaload, 1) := by decide +kernel
theorem dX4_alone_32 : decode cX4_alone 32 = .ok (.iaload, 1) := by decide +kernel
theorem dX4_alone_33 : decode cX4_alone 33 = .ok (.bipush 10, 2) := by decide +kernel
theorem dX4_alone_35 : decode cX4_alone 35 = .ok (.isub, 1) := by decide +kernel
theorem dX4_alone_36 : decode cX4_alone 36 = .ok (.invokestatic 101, 3) := by decide +kernel
theorem dX4_alone_39 : decode cX4_alone 39 = .ok (.iadd, 1) := by decide +kernel
theorem dX4_alone_40 : decode cX4_alone 40 = .ok (.istore_n 2, 1) := by decide +kernel
theorem dX4_alone_41 : decode cX4_alone 41 = .ok (.iload_n 2, 1) := by decide +kernel
theorem dX4_alone_42 : decode cX4_alone 42 = .ok (.aload_n 0, 1) := by decide +kernel
theorem dX4_alone_43 : decode cX4_alone 43 = .ok (.getfield 55, 3) := by decide +kernel
theorem dX4_alone_46 : decode cX4_alone 46 = .ok (.iload_n 1, 1) := by decide +kernel
theorem dX4_alone_47 : decode cX4_alone 47 = .ok (.iaload, 1) := by decide +kernel
theorem dX4_alone_48 : decode cX4_alone 48 = .ok (.iconst (-1), 1) := by decide +kernel
theorem dX4_alone_49 : decode cX4_alone 49 = .ok (.if_icmp .ne 7, 3) := by decide +kernel
theorem dX4_alone_52 : decode cX4_alone 52 = .ok (.iconst 0, 1) := by decide +kernel
theorem dX4_alone_53 : decode cX4_alone 53 = .ok (.goto 14, 3) := by decide +kernel
theorem dX4_alone_56 : decode cX4_alone 56 = .ok (.aload_n 0, 1) := by decide +kernel
theorem dX4_alone_57 : decode cX4_alone 57 = .ok (.getfield 16, 3) := by decide +kernel
theorem dX4_alone_60 : decode cX4_alone 60 = .ok (.aload_n 0, 1) := by decide +kernel
theorem dX4_alone_61 : decode cX4_alone 61 = .ok (.getfield 55, 3) := by decide +kernel
theorem dX4_alone_64 : decode cX4_alone 64 = .ok (.iload_n 1, 1) := by decide +kernel
theorem dX4_alone_65 : decode cX4_alone 65 = .ok (.iaload, 1) := by decide +kernel
theorem dX4_alone_66 : decode cX4_alone 66 = .ok (.iaload, 1) := by decide +kernel
theorem dX4_alone_67 : decode cX4_alone 67 = .ok (.iadd, 1) := by decide +kernel
theorem dX4_alone_68 : decode cX4_alone 68 = .ok (.istore_n 2, 1) := by decide +kernel
theorem dX4_alone_69 : decode cX4_alone 69 = .ok (.iconst 0, 1) := by decide +kernel
theorem dX4_alone_70 : decode cX4_alone 70 = .ok (.istore_n 3, 1) := by decide +kernel
theorem dX4_alone_71 : decode cX4_alone 71 = .ok (.iload_n 3, 1) := by decide +kernel
theorem dX4_alone_72 : decode cX4_alone 72 = .ok (.iconst 4, 1) := by decide +kernel
theorem dX4_alone_73 : decode cX4_alone 73 = .ok (.if_icmp .ge 18, 3) := by decide +kernel
theorem dX4_alone_76 : decode cX4_alone 76 = .ok (.iload_n 2, 1) := by decide +kernel
theorem dX4_alone_77 : decode cX4_alone 77 = .ok (.aload_n 0, 1) := by decide +kernel
theorem dX4_alone_78 : decode cX4_alone 78 = .ok (.iload_n 1, 1) := by decide +kernel
theorem dX4_alone_79 : decode cX4_alone 79 = .ok (.iload_n 3, 1) := by decide +kernel
theorem dX4_alone_80 : decode cX4_alone 80 = .ok (.invokevirtual 130, 3) := by decide +kernel
theorem dX4_alone_83 : decode cX4_alone 83 = .ok (.iadd, 1) := by decide +kernel
theorem dX4_alone_84 : decode cX4_alone 84 = .ok (.istore_n 2, 1) := by decide +kernel
theorem dX4_alone_85 : decode cX4_alone 85 = .ok (.iinc 3 1, 3) := by decide +kernel
theorem dX4_alone_88 : decode cX4_alone 88 = .ok (.goto (-17), 3) := by decide +kernel
theorem dX4_alone_91 : decode cX4_alone 91 = .ok (.iload_n 2, 1) := by decide +kernel
theorem dX4_alone_92 : decode cX4_alone 92 = .ok (.ireturn, 1) := by decide +kernel
theorem dX4_value_0 : decode cX4_value 0 = .ok (.iload_n 1, 1) := by decide +kernel
theorem dX4_value_1 : decode cX4_value 1 = .ok (.invokestatic 81, 3) := by decide +kernel
theorem dX4_value_4 : decode cX4_value 4 = .ok (.istore_n 2, 1) := by decide +kernel
theorem dX4_value_5 : decode cX4_value 5 = .ok (.aload_n 0, 1) := by decide +kernel
theorem dX4_value_6 : decode cX4_value 6 = .ok (.iload_n 2, 1) := by decide +kernel
theorem dX4_value_7 : decode cX4_value 7 = .ok (.iload_n 2, 1) := by decide +kernel
theorem dX4_value_8 : decode cX4_value 8 = .ok (.ifCond .eq 15, 3) := by decide +kernel
theorem dX4_value_11 : decode cX4_value 11 = .ok (.aload_n 0, 1) := by decide +kernel
theorem dX4_value_12 : decode cX4_value 12 = .ok (.iload_n 1, 1) := by decide +kernel
theorem dX4_value_13 : decode cX4_value 13 = .ok (.invokevirtual 134, 3) := by decide +kernel
theorem dX4_value_16 : decode cX4_value 16 = .ok (.ifCond .ne 7, 3) := by decide +kernel
theorem dX4_value_19 : decode cX4_value 19 = .ok (.iconst 1, 1) := by decide +kernel
theorem dX4_value_20 : decode cX4_value 20 = .ok (.goto 4, 3) := by decide +kernel
theorem dX4_value_23 : decode cX4_value 23 = .ok (.iconst 0, 1) := by decide +kernel
theorem dX4_value_24 : decode cX4_value 24 = .ok (.iconst 1, 1) := by decide +kernel
theorem dX4_value_25 : decode cX4_value 25 = .ok (.invokevirtual 77, 3) := by decide +kernel
theorem dX4_value_28 : decode cX4_value 28 = .ok (.ifCond .ne 5, 3) := by decide +kernel
theorem dX4_value_31 : decode cX4_value 31 = .ok (.iconst 0, 1) := by decide +kernel
theorem dX4_value_32 : decode cX4_value 32 = .ok (.ireturn, 1) := by decide +kernel
theorem dX4_value_33 : decode cX4_value 33 = .ok (.iconst 0, 1) := by decide +kernel
theorem dX4_value_34 : decode cX4_value 34 = .ok (.istore_n 3, 1) := by decide +kernel
theorem dX4_value_35 : decode cX4_value 35 = .ok (.bipush 6, 2) := by decide +kernel
theorem dX4_value_37 : decode cX4_value 37 = .ok (.istore 4, 2) := by decide +kernel
theorem dX4_value_39 : decode cX4_value 39 = .ok (.iload 4, 2) := by decide +kernel
theorem dX4_value_41 : decode cX4_value 41 = .ok (.ifCond .lt 65, 3) := by decide +kernel
theorem dX4_value_44 : decode cX4_value 44 = .ok (.iload_n 1, 1) := by decide +kernel
theorem dX4_value_45 : decode cX4_value 45 = .ok (.istore 5, 2) := by decide +kernel
theorem dX4_value_47 : decode cX4_value 47 = .ok (.iconst 0, 1) := by decide +kernel
theorem dX4_value_48 : decode cX4_value 48 = .ok (.istore 6, 2) := by decide +kernel
theorem dX4_value_50 : decode cX4_value 50 = .ok (.iload 6, 2) := by decide +kernel
theorem dX4_value_52 : decode cX4_value 52 = .ok (.iload 4, 2) := by decide +kernel
theorem dX4_value_54 : decode cX4_value 54 = .ok (.if_icmp .ge 24, 3) := by decide +kernel
theorem dX4_value_57 : decode cX4_value 57 = .ok (.iload 5, 2) := by decide +kernel
theorem dX4_value_59 : decode cX4_value 59 = .ok (.iconst (-1), 1) := by decide +kernel
theorem dX4_value_60 : decode cX4_value 60 = .ok (.if_icmp .eq 18, 3) := by decide +kernel
theorem dX4_value_63 : decode cX4_value 63 = .ok (.aload_n 0, 1) := by decide +kernel
theorem dX4_value_64 : decode cX4_value 64 = .ok (.getfield 58, 3) := by decide +kernel
theorem dX4_value_67 : decode cX4_value 67 = .ok (.iload 5, 2) := by decide +kernel
theorem dX4_value_69 : decode cX4_value 69 = .ok (.iaload, 1) := by decide +kernel
theorem dX4_value_70 : decode cX4_value 70 = .ok (.istore 5, 2) := by decide +kernel
theorem dX4_value_72 : decode cX4_value 72 = .ok (.iinc 6 1, 3) := by decide +kernel
theorem dX4_value_75 : decode cX4_value 75 = .ok (.goto (-25), 3) := by decide +kernel
theorem dX4_value_78 : decode cX4_value 78 = .ok (.iload 5, 2) := by decide +kernel
theorem dX4_value_80 : decode cX4_value 80 = .ok (.iconst (-1), 1) := by decide +kernel
theorem dX4_value_81 : decode cX4_value 81 = .ok (.if_icmp .ne 7, 3) := by decide +kernel
theorem dX4_value_84 : decode cX4_value 84 = .ok (.iconst 0, 1) := by decide +kernel
theorem dX4_value_85 : decode cX4_value 85 = .ok (.goto 14, 3) := by decide +kernel
theorem dX4_value_88 : decode cX4_value 88 = .ok (.aload_n 0, 1) := by decide +kernel
theorem dX4_value_89 : decode cX4_value 89 = .ok (.iload 5, 2) := by decide +kernel
theorem dX4_value_91 : decode cX4_value 91 = .ok (.invokevirtual 137, 3) := by decide +kernel
theorem dX4_value_94 : decode cX4_value 94 = .ok (.iload_n 3, 1) := by decide +kernel
theorem dX4_value_95 : decode cX4_value 95 = .ok (.invokestatic 101, 3) := by decide +kernel
theorem dX4_value_98 : decode cX4_value 98 = .ok (.iadd, 1) := by decide +kernel
theorem dX4_value_99 : decode cX4_value 99 = .ok (.istore_n 3, 1) := by decide +kernel
theorem dX4_value_100 : decode cX4_value 100 = .ok (.iinc 4 (-1), 3) := by decide +kernel
theorem dX4_value_103 : decode cX4_value 103 = .ok (.goto (-64), 3) := by decide +kernel
theorem dX4_value_106 : decode cX4_value 106 = .ok (.iload_n 3, 1) := by decide +kernel
theorem dX4_value_107 : decode cX4_value 107 = .ok (.ireturn, 1) := by decide +kernel
theorem dX4_bonus_0 : decode cX4_bonus 0 = .ok (.aload_n 0, 1) := by decide +kernel
theorem dX4_bonus_1 : decode cX4_bonus 1 = .ok (.iload_n 1, 1) := by decide +kernel
theorem dX4_bonus_2 : decode cX4_bonus 2 = .ok (.invokestatic 81, 3) := by decide +kernel
theorem dX4_bonus_5 : decode cX4_bonus 5 = .ok (.iload_n 2, 1) := by decide +kernel
theorem dX4_bonus_6 : decode cX4_bonus 6 = .ok (.iconst 0, 1) := by decide +kernel
theorem dX4_bonus_7 : decode cX4_bonus 7 = .ok (.iconst 3, 1) := by decide +kernel
theorem dX4_bonus_8 : decode cX4_bonus 8 = .ok (.invokestatic 69, 3) := by decide +kernel
theorem dX4_bonus_11 : decode cX4_bonus 11 = .ok (.iconst 1, 1) := by decide +kernel
theorem dX4_bonus_12 : decode cX4_bonus 12 = .ok (.invokevirtual 77, 3) := by decide +kernel
theorem dX4_bonus_15 : decode cX4_bonus 15 = .ok (.ifCond .eq 12, 3) := by decide +kernel
theorem dX4_bonus_18 : decode cX4_bonus 18 = .ok (.aload_n 0, 1) := by decide +kernel
theorem dX4_bonus_19 : decode cX4_bonus 19 = .ok (.iload_n 1, 1) := by decide +kernel
theorem dX4_bonus_20 : decode cX4_bonus 20 = .ok (.iload_n 2, 1) := by decide +kernel
theorem dX4_bonus_21 : decode cX4_bonus 21 = .ok (.invokevirtual 130, 3) := by decide +kernel
theorem dX4_bonus_24 : decode cX4_bonus 24 = .ok (.goto 4, 3) := by decide +kernel
theorem dX4_bonus_27 : decode cX4_bonus 27 = .ok (.iconst 0, 1) := by decide +kernel
theorem dX4_bonus_28 : decode cX4_bonus 28 = .ok (.ireturn, 1) := by decide +kernel
theorem dX4_isRing_0 : decode cX4_isRing 0 = .ok (.aload_n 0, 1) := by decide +kernel
theorem dX4_isRing_1 : decode cX4_isRing 1 = .ok (.iload_n 1, 1) := by decide +kernel
theorem dX4_isRing_2 : decode cX4_isRing 2 = .ok (.invokestatic 81, 3) := by decide +kernel
theorem dX4_isRing_5 : decode cX4_isRing 5 = .ok (.iconst 1, 1) := by decide +kernel
theorem dX4_isRing_6 : decode cX4_isRing 6 = .ok (.iconst 1, 1) := by decide +kernel
theorem dX4_isRing_7 : decode cX4_isRing 7 = .ok (.invokevirtual 77, 3) := by decide +kernel
theorem dX4_isRing_10 : decode cX4_isRing 10 = .ok (.ifCond .eq 15, 3) := by decide +kernel
theorem dX4_isRing_13 : decode cX4_isRing 13 = .ok (.aload_n 0, 1) := by decide +kernel
theorem dX4_isRing_14 : decode cX4_isRing 14 = .ok (.iload_n 1, 1) := by decide +kernel
theorem dX4_isRing_15 : decode cX4_isRing 15 = .ok (.invokevirtual 134, 3) := by decide +kernel
theorem dX4_isRing_18 : decode cX4_isRing 18 = .ok (.ifCond .eq 7, 3) := by decide +kernel
theorem dX4_isRing_21 : decode cX4_isRing 21 = .ok (.iconst 1, 1) := by decide +kernel
theorem dX4_isRing_22 : decode cX4_isRing 22 = .ok (.goto 4, 3) := by decide +kernel
theorem dX4_isRing_25 : decode cX4_isRing 25 = .ok (.iconst 0, 1) := by decide +kernel
theorem dX4_isRing_26 : decode cX4_isRing 26 = .ok (.ireturn, 1) := by decide +kernel
theorem dX4_attack_0 : decode cX4_attack 0 = .ok (.fconst 0, 1) := by decide +kernel
theorem dX4_attack_1 : decode cX4_attack 1 = .ok (.fstore_n 1, 1) := by decide +kernel
theorem dX4_attack_2 : decode cX4_attack 2 = .ok (.iconst (-1), 1) := by decide +kernel
theorem dX4_attack_3 : decode cX4_attack 3 = .ok (.istore_n 2, 1) := by decide +kernel
theorem dX4_attack_4 : decode cX4_attack 4 = .ok (.iconst 0, 1) := by decide +kernel
theorem dX4_attack_5 : decode cX4_attack 5 = .ok (.istore_n 3, 1) := by decide +kernel
theorem dX4_attack_6 : decode cX4_attack 6 = .ok (.iload_n 3, 1) := by decide +kernel
theorem dX4_attack_7 : decode cX4_attack 7 = .ok (.iconst 3, 1) := by decide +kernel
theorem dX4_attack_8 : decode cX4_attack 8 = .ok (.if_icmp .ge 69, 3) := by decide +kernel
theorem dX4_attack_11 : decode cX4_attack 11 = .ok (.fload_n 1, 1) := by decide +kernel
theorem dX4_attack_12 : decode cX4_attack 12 = .ok (.aload_n 0, 1) := by decide +kernel
theorem dX4_attack_13 : decode cX4_attack 13 = .ok (.getfield 16, 3) := by decide +kernel
theorem dX4_attack_16 : decode cX4_attack 16 = .ok (.iload_n 3, 1) := by decide +kernel
theorem dX4_attack_17 : decode cX4_attack 17 = .ok (.iaload, 1) := by decide +kernel
theorem dX4_attack_18 : decode cX4_attack 18 = .ok (.i2f, 1) := by decide +kernel
theorem dX4_attack_19 : decode cX4_attack 19 = .ok (.iload_n 3, 1) := by decide +kernel
theorem dX4_attack_20 : decode cX4_attack 20 = .ok (.iconst 2, 1) := by decide +kernel
theorem dX4_attack_21 : decode cX4_attack 21 = .ok (.iadd, 1) := by decide +kernel
theorem dX4_attack_22 : decode cX4_attack 22 = .ok (.i2f, 1) := by decide +kernel
theorem dX4_attack_23 : decode cX4_attack 23 = .ok (.ldc 140, 2) := by decide +kernel
theorem dX4_attack_25 : decode cX4_attack 25 = .ok (.fdiv, 1) := by decide +kernel
theorem dX4_attack_26 : decode cX4_attack 26 = .ok (.fmul, 1) := by decide +kernel
theorem dX4_attack_27 : decode cX4_attack 27 = .ok (.fadd, 1) := by decide +kernel
theorem dX4_attack_28 : decode cX4_attack 28 = .ok (.fstore_n 1, 1) := by decide +kernel
theorem dX4_attack_29 : decode cX4_attack 29 = .ok (.fload_n 1, 1) := by decide +kernel
theorem dX4_attack_30 : decode cX4_attack 30 = .ok (.iload_n 2, 1) := by decide +kernel
theorem dX4_attack_31 : decode cX4_attack 31 = .ok (.iconst (-1), 1) := by decide +kernel
theorem dX4_attack_32 : decode cX4_attack 32 = .ok (.if_icmp .ne 7, 3) := by decide +kernel
theorem dX4_attack_35 : decode cX4_attack 35 = .ok (.fconst 0, 1) := by decide +kernel
theorem dX4_attack_36 : decode cX4_attack 36 = .ok (.goto 13, 3) := by decide +kernel
theorem dX4_attack_39 : decode cX4_attack 39 = .ok (.ldc 141, 2) := by decide +kernel
theorem dX4_attack_41 : decode cX4_attack 41 = .ok (.aload_n 0, 1) := by decide +kernel
theorem dX4_attack_42 : decode cX4_attack 42 = .ok (.getfield 16, 3) := by decide +kernel
theorem dX4_attack_45 : decode cX4_attack 45 = .ok (.iload_n 3, 1) := by decide +kernel
theorem dX4_attack_46 : decode cX4_attack 46 = .ok (.iaload, 1) := by decide +kernel
theorem dX4_attack_47 : decode cX4_attack 47 = .ok (.i2f, 1) := by decide +kernel
theorem dX4_attack_48 : decode cX4_attack 48 = .ok (.fmul, 1) := by decide +kernel
theorem dX4_attack_49 : decode cX4_attack 49 = .ok (.fsub, 1) := by decide +kernel
theorem dX4_attack_50 : decode cX4_attack 50 = .ok (.fstore_n 1, 1) := by decide +kernel
theorem dX4_attack_51 : decode cX4_attack 51 = .ok (.iload_n 2, 1) := by decide +kernel
theorem dX4_attack_52 : decode cX4_attack 52 = .ok (.iconst (-1), 1) := by decide +kernel
theorem dX4_attack_53 : decode cX4_attack 53 = .ok (.if_icmp .ne 16, 3) := by decide +kernel
theorem dX4_attack_56 : decode cX4_attack 56 = .ok (.aload_n 0, 1) := by decide +kernel
theorem dX4_attack_57 : decode cX4_attack 57 = .ok (.getfield 16, 3) := by decide +kernel
theorem dX4_attack_60 : decode cX4_attack 60 = .ok (.iload_n 3, 1) := by decide +kernel
theorem dX4_attack_61 : decode cX4_attack 61 = .ok (.iaload, 1) := by decide +kernel
theorem dX4_attack_62 : decode cX4_attack 62 = .ok (.ifCond .le 7, 3) := by decide +kernel
theorem dX4_attack_65 : decode cX4_attack 65 = .ok (.iload_n 3, 1) := by decide +kernel
theorem dX4_attack_66 : decode cX4_attack 66 = .ok (.goto 4, 3) := by decide +kernel
theorem dX4_attack_69 : decode cX4_attack 69 = .ok (.iload_n 2, 1) := by decide +kernel
theorem dX4_attack_70 : decode cX4_attack 70 = .ok (.istore_n 2, 1) := by decide +kernel
theorem dX4_attack_71 : decode cX4_attack 71 = .ok (.iinc 3 1, 3) := by decide +kernel
theorem dX4_attack_74 : decode cX4_attack 74 = .ok (.goto (-68), 3) := by decide +kernel
theorem dX4_attack_77 : decode cX4_attack 77 = .ok (.aload_n 0, 1) := by decide +kernel
theorem dX4_attack_78 : decode cX4_attack 78 = .ok (.fload_n 1, 1) := by decide +kernel
theorem dX4_attack_79 : decode cX4_attack 79 = .ok (.f2i, 1) := by decide +kernel
theorem dX4_attack_80 : decode cX4_attack 80 = .ok (.invokevirtual 127, 3) := by decide +kernel
theorem dX4_attack_83 : decode cX4_attack 83 = .ok (.ireturn, 1) := by decide +kernel
theorem dX4_place_0 : decode cX4_place 0 = .ok (.sipush 256, 3) := by decide +kernel
theorem dX4_place_3 : decode cX4_place 3 = .ok (.iload_n 1, 1) := by decide +kernel
theorem dX4_place_4 : decode cX4_place 4 = .ok (.aload_n 0, 1) := by decide +kernel
theorem dX4_place_5 : decode cX4_place 5 = .ok (.getfield 16, 3) := by decide +kernel
theorem dX4_place_8 : decode cX4_place 8 = .ok (.iconst 1, 1) := by decide +kernel
theorem dX4_place_9 : decode cX4_place 9 = .ok (.iaload, 1) := by decide +kernel
theorem dX4_place_10 : decode cX4_place 10 = .ok (.iconst 1, 1) := by decide +kernel
theorem dX4_place_11 : decode cX4_place 11 = .ok (.iadd, 1) := by decide +kernel
theorem dX4_place_12 : decode cX4_place 12 = .ok (.imul, 1) := by decide +kernel
theorem dX4_place_13 : decode cX4_place 13 = .ok (.iload_n 2, 1) := by decide +kernel
theorem dX4_place_14 : decode cX4_place 14 = .ok (.iadd, 1) := by decide +kernel
theorem dX4_place_15 : decode cX4_place 15 = .ok (.aload_n 0, 1) := by decide +kernel
theorem dX4_place_16 : decode cX4_place 16 = .ok (.getfield 16, 3) := by decide +kernel
theorem dX4_place_19 : decode cX4_place 19 = .ok (.iconst 2, 1) := by decide +kernel
theorem dX4_place_20 : decode cX4_place 20 = .ok (.iaload, 1) := by decide +kernel
theorem dX4_place_21 : decode cX4_place 21 = .ok (.iconst 1, 1) := by decide +kernel
theorem dX4_place_22 : decode cX4_place 22 = .ok (.iadd, 1) := by decide +kernel
theorem dX4_place_23 : decode cX4_place 23 = .ok (.imul, 1) := by decide +kernel
theorem dX4_place_24 : decode cX4_place 24 = .ok (.iload_n 3, 1) := by decide +kernel
theorem dX4_place_25 : decode cX4_place 25 = .ok (.iadd, 1) := by decide +kernel
theorem dX4_place_26 : decode cX4_place 26 = .ok (.imul, 1) := by decide +kernel
theorem dX4_place_27 : decode cX4_place 27 = .ok (.iload 4, 2) := by decide +kernel
theorem dX4_place_29 : decode cX4_place 29 = .ok (.iadd, 1) := by decide +kernel
theorem dX4_place_30 : decode cX4_place 30 = .ok (.ireturn, 1) := by decide +kernel
theorem dX4_leadsOn_0 : decode cX4_leadsOn 0 = .ok (.iload_n 1, 1) := by decide +kernel
theorem dX4_leadsOn_1 : decode cX4_leadsOn 1 = .ok (.aload_n 0, 1) := by decide +kernel
theorem dX4_leadsOn_2 : decode cX4_leadsOn 2 = .ok (.getfield 16, 3) := by decide +kernel
theorem dX4_leadsOn_5 : decode cX4_leadsOn 5 = .ok (.iconst 0, 1) := by decide +kernel
theorem dX4_leadsOn_6 : decode cX4_leadsOn 6 = .ok (.iaload, 1) := by decide +kernel
theorem dX4_leadsOn_7 : decode cX4_leadsOn 7 = .ok (.if_icmp .ne 34, 3) := by decide +kernel
theorem dX4_leadsOn_10 : decode cX4_leadsOn 10 = .ok (.iload_n 2, 1) := by decide +kernel
theorem dX4_leadsOn_11 : decode cX4_leadsOn 11 = .ok (.aload_n 0, 1) := by decide +kernel
theorem dX4_leadsOn_12 : decode cX4_leadsOn 12 = .ok (.getfield 16, 3) := by decide +kernel
theorem dX4_leadsOn_15 : decode cX4_leadsOn 15 = .ok (.iconst 1, 1) := by decide +kernel
theorem dX4_leadsOn_16 : decode cX4_leadsOn 16 = .ok (.iaload, 1) := by decide +kernel
theorem dX4_leadsOn_17 : decode cX4_leadsOn 17 = .ok (.if_icmp .ne 24, 3) := by decide +kernel
theorem dX4_leadsOn_20 : decode cX4_leadsOn 20 = .ok (.iload_n 3, 1) := by decide +kernel
theorem dX4_leadsOn_21 : decode cX4_leadsOn 21 = .ok (.aload_n 0, 1) := by decide +kernel
theorem dX4_leadsOn_22 : decode cX4_leadsOn 22 = .ok (.getfield 16, 3) := by decide +kernel
theorem dX4_leadsOn_25 : decode cX4_leadsOn 25 = .ok (.iconst 2, 1) := by decide +kernel
theorem dX4_leadsOn_26 : decode cX4_leadsOn 26 = .ok (.iaload, 1) := by decide +kernel
theorem dX4_leadsOn_27 : decode cX4_leadsOn 27 = .ok (.if_icmp .ne 14, 3) := by decide +kernel
theorem dX4_leadsOn_30 : decode cX4_leadsOn 30 = .ok (.iload 4, 2) := by decide +kernel
theorem dX4_leadsOn_32 : decode cX4_leadsOn 32 = .ok (.iload 5, 2) := by decide +kernel
theorem dX4_leadsOn_34 : decode cX4_leadsOn 34 = .ok (.if_icmp .ne 7, 3) := by decide +kernel
theorem dX4_leadsOn_37 : decode cX4_leadsOn 37 = .ok (.iconst 1, 1) := by decide +kernel
theorem dX4_leadsOn_38 : decode cX4_leadsOn 38 = .ok (.goto 4, 3) := by decide +kernel
theorem dX4_leadsOn_41 : decode cX4_leadsOn 41 = .ok (.iconst 0, 1) := by decide +kernel
theorem dX4_leadsOn_42 : decode cX4_leadsOn 42 = .ok (.istore 6, 2) := by decide +kernel
theorem dX4_leadsOn_44 : decode cX4_leadsOn 44 = .ok (.iload 6, 2) := by decide +kernel
theorem dX4_leadsOn_46 : decode cX4_leadsOn 46 = .ok (.ifCond .ne 32, 3) := by decide +kernel
theorem dX4_leadsOn_49 : decode cX4_leadsOn 49 = .ok (.iload_n 1, 1) := by decide +kernel
theorem dX4_leadsOn_50 : decode cX4_leadsOn 50 = .ok (.aload_n 0, 1) := by decide +kernel
theorem dX4_leadsOn_51 : decode cX4_leadsOn 51 = .ok (.getfield 16, 3) := by decide +kernel
theorem dX4_leadsOn_54 : decode cX4_leadsOn 54 = .ok (.iconst 0, 1) := by decide +kernel
theorem dX4_leadsOn_55 : decode cX4_leadsOn 55 = .ok (.iaload, 1) := by decide +kernel
theorem dX4_leadsOn_56 : decode cX4_leadsOn 56 = .ok (.if_icmp .ge 26, 3) := by decide +kernel
theorem dX4_leadsOn_59 : decode cX4_leadsOn 59 = .ok (.aload_n 0, 1) := by decide +kernel
theorem dX4_leadsOn_60 : decode cX4_leadsOn 60 = .ok (.getfield 61, 3) := by decide +kernel
theorem dX4_leadsOn_63 : decode cX4_leadsOn 63 = .ok (.aload_n 0, 1) := by decide +kernel
theorem dX4_leadsOn_64 : decode cX4_leadsOn 64 = .ok (.iload_n 1, 1) := by decide +kernel
theorem dX4_leadsOn_65 : decode cX4_leadsOn 65 = .ok (.iconst 1, 1) := by decide +kernel
theorem dX4_leadsOn_66 : decode cX4_leadsOn 66 = .ok (.iadd, 1) := by decide +kernel
theorem dX4_leadsOn_67 : decode cX4_leadsOn 67 = .ok (.iload_n 2, 1) := by decide +kernel
theorem dX4_leadsOn_68 : decode cX4_leadsOn 68 = .ok (.iload_n 3, 1) := by decide +kernel
theorem dX4_leadsOn_69 : decode cX4_leadsOn 69 = .ok (.iload 4, 2) := by decide +kernel
theorem dX4_leadsOn_71 : decode cX4_leadsOn 71 = .ok (.invokevirtual 142, 3) := by decide +kernel
theorem dX4_leadsOn_74 : decode cX4_leadsOn 74 = .ok (.baload, 1) := by decide +kernel
theorem dX4_leadsOn_75 : decode cX4_leadsOn 75 = .ok (.ifCond .eq 7, 3) := by decide +kernel
theorem dX4_leadsOn_78 : decode cX4_leadsOn 78 = .ok (.iconst 1, 1) := by decide +kernel
theorem dX4_leadsOn_79 : decode cX4_leadsOn 79 = .ok (.goto 4, 3) := by decide +kernel
theorem dX4_leadsOn_82 : decode cX4_leadsOn 82 = .ok (.iconst 0, 1) := by decide +kernel
theorem dX4_leadsOn_83 : decode cX4_leadsOn 83 = .ok (.istore 6, 2) := by decide +kernel
theorem dX4_leadsOn_85 : decode cX4_leadsOn 85 = .ok (.iload 6, 2) := by decide +kernel
theorem dX4_leadsOn_87 : decode cX4_leadsOn 87 = .ok (.ifCond .ne 32, 3) := by decide +kernel
theorem dX4_leadsOn_90 : decode cX4_leadsOn 90 = .ok (.iload_n 2, 1) := by decide +kernel
theorem dX4_leadsOn_91 : decode cX4_leadsOn 91 = .ok (.aload_n 0, 1) := by decide +kernel
theorem dX4_leadsOn_92 : decode cX4_leadsOn 92 = .ok (.getfield 16, 3) := by decide +kernel
theorem dX4_leadsOn_95 : decode cX4_leadsOn 95 = .ok (.iconst 1, 1) := by decide +kernel
theorem dX4_leadsOn_96 : decode cX4_leadsOn 96 = .ok (.iaload, 1) := by decide +kernel
theorem dX4_leadsOn_97 : decode cX4_leadsOn 97 = .ok (.if_icmp .ge 26, 3) := by decide +kernel
theorem dX4_leadsOn_100 : decode cX4_leadsOn 100 = .ok (.aload_n 0, 1) := by decide +kernel
theorem dX4_leadsOn_101 : decode cX4_leadsOn 101 = .ok (.getfield 61, 3) := by decide +kernel
theorem dX4_leadsOn_104 : decode cX4_leadsOn 104 = .ok (.aload_n 0, 1) := by decide +kernel
theorem dX4_leadsOn_105 : decode cX4_leadsOn 105 = .ok (.iload_n 1, 1) := by decide +kernel
theorem dX4_leadsOn_106 : decode cX4_leadsOn 106 = .ok (.iload_n 2, 1) := by decide +kernel
theorem dX4_leadsOn_107 : decode cX4_leadsOn 107 = .ok (.iconst 1, 1) := by decide +kernel
theorem dX4_leadsOn_108 : decode cX4_leadsOn 108 = .ok (.iadd, 1) := by decide +kernel
theorem dX4_leadsOn_109 : decode cX4_leadsOn 109 = .ok (.iload_n 3, 1) := by decide +kernel
theorem dX4_leadsOn_110 : decode cX4_leadsOn 110 = .ok (.iload 4, 2) := by decide +kernel
theorem dX4_leadsOn_112 : decode cX4_leadsOn 112 = .ok (.invokevirtual 142, 3) := by decide +kernel
theorem dX4_leadsOn_115 : decode cX4_leadsOn 115 = .ok (.baload, 1) := by decide +kernel
theorem dX4_leadsOn_116 : decode cX4_leadsOn 116 = .ok (.ifCond .eq 7, 3) := by decide +kernel
theorem dX4_leadsOn_119 : decode cX4_leadsOn 119 = .ok (.iconst 1, 1) := by decide +kernel
theorem dX4_leadsOn_120 : decode cX4_leadsOn 120 = .ok (.goto 4, 3) := by decide +kernel
theorem dX4_leadsOn_123 : decode cX4_leadsOn 123 = .ok (.iconst 0, 1) := by decide +kernel
theorem dX4_leadsOn_124 : decode cX4_leadsOn 124 = .ok (.istore 6, 2) := by decide +kernel
theorem dX4_leadsOn_126 : decode cX4_leadsOn 126 = .ok (.iload 6, 2) := by decide +kernel
theorem dX4_leadsOn_128 : decode cX4_leadsOn 128 = .ok (.ifCond .ne 32, 3) := by decide +kernel
theorem dX4_leadsOn_131 : decode cX4_leadsOn 131 = .ok (.iload_n 3, 1) := by decide +kernel
theorem dX4_leadsOn_132 : decode cX4_leadsOn 132 = .ok (.aload_n 0, 1) := by decide +kernel
theorem dX4_leadsOn_133 : decode cX4_leadsOn 133 = .ok (.getfield 16, 3) := by decide +kernel
theorem dX4_leadsOn_136 : decode cX4_leadsOn 136 = .ok (.iconst 2, 1) := by decide +kernel
theorem dX4_leadsOn_137 : decode cX4_leadsOn 137 = .ok (.iaload, 1) := by decide +kernel
theorem dX4_leadsOn_138 : decode cX4_leadsOn 138 = .ok (.if_icmp .ge 26, 3) := by decide +kernel
theorem dX4_leadsOn_141 : decode cX4_leadsOn 141 = .ok (.aload_n 0, 1) := by decide +kernel
theorem dX4_leadsOn_142 : decode cX4_leadsOn 142 = .ok (.getfield 61, 3) := by decide +kernel
theorem dX4_leadsOn_145 : decode cX4_leadsOn 145 = .ok (.aload_n 0, 1) := by decide +kernel
theorem dX4_leadsOn_146 : decode cX4_leadsOn 146 = .ok (.iload_n 1, 1) := by decide +kernel
theorem dX4_leadsOn_147 : decode cX4_leadsOn 147 = .ok (.iload_n 2, 1) := by decide +kernel
theorem dX4_leadsOn_148 : decode cX4_leadsOn 148 = .ok (.iload_n 3, 1) := by decide +kernel
theorem dX4_leadsOn_149 : decode cX4_leadsOn 149 = .ok (.iconst 1, 1) := by decide +kernel
theorem dX4_leadsOn_150 : decode cX4_leadsOn 150 = .ok (.iadd, 1) := by decide +kernel
theorem dX4_leadsOn_151 : decode cX4_leadsOn 151 = .ok (.iload 4, 2) := by decide +kernel
theorem dX4_leadsOn_153 : decode cX4_leadsOn 153 = .ok (.invokevirtual 142, 3) := by decide +kernel
theorem dX4_leadsOn_156 : decode cX4_leadsOn 156 = .ok (.baload, 1) := by decide +kernel
theorem dX4_leadsOn_157 : decode cX4_leadsOn 157 = .ok (.ifCond .eq 7, 3) := by decide +kernel
theorem dX4_leadsOn_160 : decode cX4_leadsOn 160 = .ok (.iconst 1, 1) := by decide +kernel
theorem dX4_leadsOn_161 : decode cX4_leadsOn 161 = .ok (.goto 4, 3) := by decide +kernel
theorem dX4_leadsOn_164 : decode cX4_leadsOn 164 = .ok (.iconst 0, 1) := by decide +kernel
theorem dX4_leadsOn_165 : decode cX4_leadsOn 165 = .ok (.istore 6, 2) := by decide +kernel
theorem dX4_leadsOn_167 : decode cX4_leadsOn 167 = .ok (.iconst 0, 1) := by decide +kernel
theorem dX4_leadsOn_168 : decode cX4_leadsOn 168 = .ok (.istore 7, 2) := by decide +kernel
theorem dX4_leadsOn_170 : decode cX4_leadsOn 170 = .ok (.iload 7, 2) := by decide +kernel
theorem dX4_leadsOn_172 : decode cX4_leadsOn 172 = .ok (.bipush 8, 2) := by decide +kernel
theorem dX4_leadsOn_174 : decode cX4_leadsOn 174 = .ok (.if_icmp .ge 67, 3) := by decide +kernel
theorem dX4_leadsOn_177 : decode cX4_leadsOn 177 = .ok (.iload 6, 2) := by decide +kernel
theorem dX4_leadsOn_179 : decode cX4_leadsOn 179 = .ok (.ifCond .ne 62, 3) := by decide +kernel
theorem dX4_leadsOn_182 : decode cX4_leadsOn 182 = .ok (.iload 5, 2) := by decide +kernel
theorem dX4_leadsOn_184 : decode cX4_leadsOn 184 = .ok (.iload 7, 2) := by decide +kernel
theorem dX4_leadsOn_186 : decode cX4_leadsOn 186 = .ok (.invokestatic 107, 3) := by decide +kernel
theorem dX4_leadsOn_189 : decode cX4_leadsOn 189 = .ok (.ifCond .eq 43, 3) := by decide +kernel
theorem dX4_leadsOn_192 : decode cX4_leadsOn 192 = .ok (.aload_n 0, 1) := by decide +kernel
theorem dX4_leadsOn_193 : decode cX4_leadsOn 193 = .ok (.iload 7, 2) := by decide +kernel
theorem dX4_leadsOn_195 : decode cX4_leadsOn 195 = .ok (.iload_n 1, 1) := by decide +kernel
theorem dX4_leadsOn_196 : decode cX4_leadsOn 196 = .ok (.iload_n 2, 1) := by decide +kernel
theorem dX4_leadsOn_197 : decode cX4_leadsOn 197 = .ok (.iload_n 3, 1) := by decide +kernel
theorem dX4_leadsOn_198 : decode cX4_leadsOn 198 = .ok (.iload 4, 2) := by decide +kernel
theorem dX4_leadsOn_200 : decode cX4_leadsOn 200 = .ok (.invokevirtual 114, 3) := by decide +kernel
theorem dX4_leadsOn_203 : decode cX4_leadsOn 203 = .ok (.ifCond .eq 29, 3) := by decide +kernel
theorem dX4_leadsOn_206 : decode cX4_leadsOn 206 = .ok (.aload_n 0, 1) := by decide +kernel
theorem dX4_leadsOn_207 : decode cX4_leadsOn 207 = .ok (.getfield 61, 3) := by decide +kernel
theorem dX4_leadsOn_210 : decode cX4_leadsOn 210 = .ok (.aload_n 0, 1) := by decide +kernel
theorem dX4_leadsOn_211 : decode cX4_leadsOn 211 = .ok (.iload_n 1, 1) := by decide +kernel
theorem dX4_leadsOn_212 : decode cX4_leadsOn 212 = .ok (.iload_n 2, 1) := by decide +kernel
theorem dX4_leadsOn_213 : decode cX4_leadsOn 213 = .ok (.iload_n 3, 1) := by decide +kernel
theorem dX4_leadsOn_214 : decode cX4_leadsOn 214 = .ok (.iload 4, 2) := by decide +kernel
theorem dX4_leadsOn_216 : decode cX4_leadsOn 216 = .ok (.iconst 1, 1) := by decide +kernel
theorem dX4_leadsOn_217 : decode cX4_leadsOn 217 = .ok (.iload 7, 2) := by decide +kernel
theorem dX4_leadsOn_219 : decode cX4_leadsOn 219 = .ok (.ishl, 1) := by decide +kernel
theorem dX4_leadsOn_220 : decode cX4_leadsOn 220 = .ok (.ior, 1) := by decide +kernel
theorem dX4_leadsOn_221 : decode cX4_leadsOn 221 = .ok (.invokevirtual 142, 3) := by decide +kernel
theorem dX4_leadsOn_224 : decode cX4_leadsOn 224 = .ok (.baload, 1) := by decide +kernel
theorem dX4_leadsOn_225 : decode cX4_leadsOn 225 = .ok (.ifCond .eq 7, 3) := by decide +kernel
theorem dX4_leadsOn_228 : decode cX4_leadsOn 228 = .ok (.iconst 1, 1) := by decide +kernel
theorem dX4_leadsOn_229 : decode cX4_leadsOn 229 = .ok (.goto 4, 3) := by decide +kernel
theorem dX4_leadsOn_232 : decode cX4_leadsOn 232 = .ok (.iconst 0, 1) := by decide +kernel
theorem dX4_leadsOn_233 : decode cX4_leadsOn 233 = .ok (.istore 6, 2) := by decide +kernel
theorem dX4_leadsOn_235 : decode cX4_leadsOn 235 = .ok (.iinc 7 1, 3) := by decide +kernel
theorem dX4_leadsOn_238 : decode cX4_leadsOn 238 = .ok (.goto (-68), 3) := by decide +kernel
theorem dX4_leadsOn_241 : decode cX4_leadsOn 241 = .ok (.iload 6, 2) := by decide +kernel
theorem dX4_leadsOn_243 : decode cX4_leadsOn 243 = .ok (.ireturn, 1) := by decide +kernel
theorem dX4_isLawfulWith_0 : decode cX4_isLawfulWith 0 = .ok (.aload_n 0, 1) := by decide +kernel
theorem dX4_isLawfulWith_1 : decode cX4_isLawfulWith 1 = .ok (.getfield 16, 3) := by decide +kernel
theorem dX4_isLawfulWith_4 : decode cX4_isLawfulWith 4 = .ok (.iconst 0, 1) := by decide +kernel
theorem dX4_isLawfulWith_5 : decode cX4_isLawfulWith 5 = .ok (.iaload, 1) := by decide +kernel
theorem dX4_isLawfulWith_6 : decode cX4_isLawfulWith 6 = .ok (.istore_n 2, 1) := by decide +kernel
theorem dX4_isLawfulWith_7 : decode cX4_isLawfulWith 7 = .ok (.iload_n 2, 1) := by decide +kernel
theorem dX4_isLawfulWith_8 : decode cX4_isLawfulWith 8 = .ok (.ifCond .lt 104, 3) := by decide +kernel
theorem dX4_isLawfulWith_11 : decode cX4_isLawfulWith 11 = .ok (.aload_n 0, 1) := by decide +kernel
theorem dX4_isLawfulWith_12 : decode cX4_isLawfulWith 12 = .ok (.getfield 16, 3) := by decide +kernel
theorem dX4_isLawfulWith_15 : decode cX4_isLawfulWith 15 = .ok (.iconst 1, 1) := by decide +kernel
theorem dX4_isLawfulWith_16 : decode cX4_isLawfulWith 16 = .ok (.iaload, 1) := by decide +kernel
theorem dX4_isLawfulWith_17 : decode cX4_isLawfulWith 17 = .ok (.istore_n 3, 1) := by decide +kernel
theorem dX4_isLawfulWith_18 : decode cX4_isLawfulWith 18 = .ok (.iload_n 3, 1) := by decide +kernel
theorem dX4_isLawfulWith_19 : decode cX4_isLawfulWith 19 = .ok (.ifCond .lt 87, 3) := by decide +kernel
theorem dX4_isLawfulWith_22 : decode cX4_isLawfulWith 22 = .ok (.aload_n 0, 1) := by decide +kernel
theorem dX4_isLawfulWith_23 : decode cX4_isLawfulWith 23 = .ok (.getfield 16, 3) := by decide +kernel
theorem dX4_isLawfulWith_26 : decode cX4_isLawfulWith 26 = .ok (.iconst 2, 1) := by decide +kernel
theorem dX4_isLawfulWith_27 : decode cX4_isLawfulWith 27 = .ok (.iaload, 1) := by decide +kernel
theorem dX4_isLawfulWith_28 : decode cX4_isLawfulWith 28 = .ok (.istore 4, 2) := by decide +kernel
theorem dX4_isLawfulWith_30 : decode cX4_isLawfulWith 30 = .ok (.iload 4, 2) := by decide +kernel
theorem dX4_isLawfulWith_32 : decode cX4_isLawfulWith 32 = .ok (.ifCond .lt 68, 3) := by decide +kernel
theorem dX4_isLawfulWith_35 : decode cX4_isLawfulWith 35 = .ok (.sipush 255, 3) := by decide +kernel
theorem dX4_isLawfulWith_38 : decode cX4_isLawfulWith 38 = .ok (.istore 5, 2) := by decide +kernel
theorem dX4_isLawfulWith_40 : decode cX4_isLawfulWith 40 = .ok (.iload 5, 2) := by decide +kernel
theorem dX4_isLawfulWith_42 : decode cX4_isLawfulWith 42 = .ok (.ifCond .lt 52, 3) := by decide +kernel
theorem dX4_isLawfulWith_45 : decode cX4_isLawfulWith 45 = .ok (.aload_n 0, 1) := by decide +kernel
theorem dX4_isLawfulWith_46 : decode cX4_isLawfulWith 46 = .ok (.getfield 61, 3) := by decide +kernel
theorem dX4_isLawfulWith_49 : decode cX4_isLawfulWith 49 = .ok (.aload_n 0, 1) := by decide +kernel
theorem dX4_isLawfulWith_50 : decode cX4_isLawfulWith 50 = .ok (.iload_n 2, 1) := by decide +kernel
theorem dX4_isLawfulWith_51 : decode cX4_isLawfulWith 51 = .ok (.iload_n 3, 1) := by decide +kernel
theorem dX4_isLawfulWith_52 : decode cX4_isLawfulWith 52 = .ok (.iload 4, 2) := by decide +kernel
theorem dX4_isLawfulWith_54 : decode cX4_isLawfulWith 54 = .ok (.iload 5, 2) := by decide +kernel
theorem dX4_isLawfulWith_56 : decode cX4_isLawfulWith 56 = .ok (.invokevirtual 142, 3) := by decide +kernel
theorem dX4_isLawfulWith_59 : decode cX4_isLawfulWith 59 = .ok (.iload 5, 2) := by decide +kernel
theorem dX4_isLawfulWith_61 : decode cX4_isLawfulWith 61 = .ok (.iload_n 1, 1) := by decide +kernel
theorem dX4_isLawfulWith_62 : decode cX4_isLawfulWith 62 = .ok (.iconst (-1), 1) := by decide +kernel
theorem dX4_isLawfulWith_63 : decode cX4_isLawfulWith 63 = .ok (.ixor, 1) := by decide +kernel
theorem dX4_isLawfulWith_64 : decode cX4_isLawfulWith 64 = .ok (.iand, 1) := by decide +kernel
theorem dX4_isLawfulWith_65 : decode cX4_isLawfulWith 65 = .ok (.ifCond .ne 21, 3) := by decide +kernel
theorem dX4_isLawfulWith_68 : decode cX4_isLawfulWith 68 = .ok (.aload_n 0, 1) := by decide +kernel
theorem dX4_isLawfulWith_69 : decode cX4_isLawfulWith 69 = .ok (.iload_n 2, 1) := by decide +kernel
theorem dX4_isLawfulWith_70 : decode cX4_isLawfulWith 70 = .ok (.iload_n 3, 1) := by decide +kernel
theorem dX4_isLawfulWith_71 : decode cX4_isLawfulWith 71 = .ok (.iload 4, 2) := by decide +kernel
theorem dX4_isLawfulWith_73 : decode cX4_isLawfulWith 73 = .ok (.iload 5, 2) := by decide +kernel
theorem dX4_isLawfulWith_75 : decode cX4_isLawfulWith 75 = .ok (.iload_n 1, 1) := by decide +kernel
theorem dX4_isLawfulWith_76 : decode cX4_isLawfulWith 76 = .ok (.invokevirtual 146, 3) := by decide +kernel
theorem dX4_isLawfulWith_79 : decode cX4_isLawfulWith 79 = .ok (.ifCond .eq 7, 3) := by decide +kernel
theorem dX4_isLawfulWith_82 : decode cX4_isLawfulWith 82 = .ok (.iconst 1, 1) := by decide +kernel
theorem dX4_isLawfulWith_83 : decode cX4_isLawfulWith 83 = .ok (.goto 4, 3) := by decide +kernel
theorem dX4_isLawfulWith_86 : decode cX4_isLawfulWith 86 = .ok (.iconst 0, 1) := by decide +kernel
theorem dX4_isLawfulWith_87 : decode cX4_isLawfulWith 87 = .ok (.bastore, 1) := by decide +kernel
theorem dX4_isLawfulWith_88 : decode cX4_isLawfulWith 88 = .ok (.iinc 5 (-1), 3) := by decide +kernel
theorem dX4_isLawfulWith_91 : decode cX4_isLawfulWith 91 = .ok (.goto (-51), 3) := by decide +kernel
theorem dX4_isLawfulWith_94 : decode cX4_isLawfulWith 94 = .ok (.iinc 4 (-1), 3) := by decide +kernel
theorem dX4_isLawfulWith_97 : decode cX4_isLawfulWith 97 = .ok (.goto (-67), 3) := by decide +kernel
theorem dX4_isLawfulWith_100 : decode cX4_isLawfulWith 100 = .ok (.iinc 3 (-1), 3) := by decide +kernel
theorem dX4_isLawfulWith_103 : decode cX4_isLawfulWith 103 = .ok (.goto (-85), 3) := by decide +kernel
theorem dX4_isLawfulWith_106 : decode cX4_isLawfulWith 106 = .ok (.iinc 2 (-1), 3) := by decide +kernel
theorem dX4_isLawfulWith_109 : decode cX4_isLawfulWith 109 = .ok (.goto (-102), 3) := by decide +kernel
theorem dX4_isLawfulWith_112 : decode cX4_isLawfulWith 112 = .ok (.aload_n 0, 1) := by decide +kernel
theorem dX4_isLawfulWith_113 : decode cX4_isLawfulWith 113 = .ok (.getfield 61, 3) := by decide +kernel
theorem dX4_isLawfulWith_116 : decode cX4_isLawfulWith 116 = .ok (.iconst 0, 1) := by decide +kernel
theorem dX4_isLawfulWith_117 : decode cX4_isLawfulWith 117 = .ok (.baload, 1) := by decide +kernel
theorem dX4_isLawfulWith_118 : decode cX4_isLawfulWith 118 = .ok (.ireturn, 1) := by decide +kernel
theorem dX4_isLawful_0 : decode cX4_isLawful 0 = .ok (.aload_n 0, 1) := by decide +kernel
theorem dX4_isLawful_1 : decode cX4_isLawful 1 = .ok (.iconst 0, 1) := by decide +kernel
theorem dX4_isLawful_2 : decode cX4_isLawful 2 = .ok (.putfield 65, 3) := by decide +kernel
theorem dX4_isLawful_5 : decode cX4_isLawful 5 = .ok (.aload_n 0, 1) := by decide +kernel
theorem dX4_isLawful_6 : decode cX4_isLawful 6 = .ok (.aload_n 0, 1) := by decide +kernel
theorem dX4_isLawful_7 : decode cX4_isLawful 7 = .ok (.getfield 111, 3) := by decide +kernel
theorem dX4_isLawful_10 : decode cX4_isLawful 10 = .ok (.invokevirtual 121, 3) := by decide +kernel
theorem dX4_isLawful_13 : decode cX4_isLawful 13 = .ok (.ireturn, 1) := by decide +kernel
theorem dX4_isLawfulByOrders_0 : decode cX4_isLawfulByOrders 0 = .ok (.aload_n 0, 1) := by decide +kernel
theorem dX4_isLawfulByOrders_1 : decode cX4_isLawfulByOrders 1 = .ok (.aload_n 0, 1) := by decide +kernel
theorem dX4_isLawfulByOrders_2 : decode cX4_isLawfulByOrders 2 = .ok (.getfield 95, 3) := by decide +kernel
theorem dX4_isLawfulByOrders_5 : decode cX4_isLawfulByOrders 5 = .ok (.aload_n 0, 1) := by decide +kernel
theorem dX4_isLawfulByOrders_6 : decode cX4_isLawfulByOrders 6 = .ok (.getfield 111, 3) := by decide +kernel
theorem dX4_isLawfulByOrders_9 : decode cX4_isLawfulByOrders 9 = .ok (.invokestatic 98, 3) := by decide +kernel
theorem dX4_isLawfulByOrders_12 : decode cX4_isLawfulByOrders 12 = .ok (.iadd, 1) := by decide +kernel
theorem dX4_isLawfulByOrders_13 : decode cX4_isLawfulByOrders 13 = .ok (.bipush 8, 2) := by decide +kernel
theorem dX4_isLawfulByOrders_15 : decode cX4_isLawfulByOrders 15 = .ok (.if_icmp .gt 7, 3) := by decide +kernel
theorem dX4_isLawfulByOrders_18 : decode cX4_isLawfulByOrders 18 = .ok (.iconst 1, 1) := by decide +kernel
theorem dX4_isLawfulByOrders_19 : decode cX4_isLawfulByOrders 19 = .ok (.goto 4, 3) := by decide +kernel
theorem dX4_isLawfulByOrders_22 : decode cX4_isLawfulByOrders 22 = .ok (.iconst 0, 1) := by decide +kernel
theorem dX4_isLawfulByOrders_23 : decode cX4_isLawfulByOrders 23 = .ok (.iconst 1, 1) := by decide +kernel
theorem dX4_isLawfulByOrders_24 : decode cX4_isLawfulByOrders 24 = .ok (.iconst 1, 1) := by decide +kernel
theorem dX4_isLawfulByOrders_25 : decode cX4_isLawfulByOrders 25 = .ok (.invokevirtual 77, 3) := by decide +kernel
theorem dX4_isLawfulByOrders_28 : decode cX4_isLawfulByOrders 28 = .ok (.ifCond .eq 18, 3) := by decide +kernel
theorem dX4_isLawfulByOrders_31 : decode cX4_isLawfulByOrders 31 = .ok (.aload_n 0, 1) := by decide +kernel
theorem dX4_isLawfulByOrders_32 : decode cX4_isLawfulByOrders 32 = .ok (.aload_n 0, 1) := by decide +kernel
theorem dX4_isLawfulByOrders_33 : decode cX4_isLawfulByOrders 33 = .ok (.getfield 111, 3) := by decide +kernel
theorem dX4_isLawfulByOrders_36 : decode cX4_isLawfulByOrders 36 = .ok (.invokevirtual 121, 3) := by decide +kernel
theorem dX4_isLawfulByOrders_39 : decode cX4_isLawfulByOrders 39 = .ok (.ifCond .eq 7, 3) := by decide +kernel
theorem dX4_isLawfulByOrders_42 : decode cX4_isLawfulByOrders 42 = .ok (.iconst 1, 1) := by decide +kernel
theorem dX4_isLawfulByOrders_43 : decode cX4_isLawfulByOrders 43 = .ok (.goto 4, 3) := by decide +kernel
theorem dX4_isLawfulByOrders_46 : decode cX4_isLawfulByOrders 46 = .ok (.iconst 0, 1) := by decide +kernel
theorem dX4_isLawfulByOrders_47 : decode cX4_isLawfulByOrders 47 = .ok (.ireturn, 1) := by decide +kernel
theorem dX4_firstStep_0 : decode cX4_firstStep 0 = .ok (.iload_n 1, 1) := by decide +kernel
theorem dX4_firstStep_1 : decode cX4_firstStep 1 = .ok (.aload_n 0, 1) := by decide +kernel
theorem dX4_firstStep_2 : decode cX4_firstStep 2 = .ok (.getfield 16, 3) := by decide +kernel
theorem dX4_firstStep_5 : decode cX4_firstStep 5 = .ok (.iconst 0, 1) := by decide +kernel
theorem dX4_firstStep_6 : decode cX4_firstStep 6 = .ok (.iaload, 1) := by decide +kernel
theorem dX4_firstStep_7 : decode cX4_firstStep 7 = .ok (.if_icmp .ge 24, 3) := by decide +kernel
theorem dX4_firstStep_10 : decode cX4_firstStep 10 = .ok (.aload_n 0, 1) := by decide +kernel
theorem dX4_firstStep_11 : decode cX4_firstStep 11 = .ok (.getfield 61, 3) := by decide +kernel
theorem dX4_firstStep_14 : decode cX4_firstStep 14 = .ok (.aload_n 0, 1) := by decide +kernel
theorem dX4_firstStep_15 : decode cX4_firstStep 15 = .ok (.iload_n 1, 1) := by decide +kernel
theorem dX4_firstStep_16 : decode cX4_firstStep 16 = .ok (.iconst 1, 1) := by decide +kernel
theorem dX4_firstStep_17 : decode cX4_firstStep 17 = .ok (.iadd, 1) := by decide +kernel
theorem dX4_firstStep_18 : decode cX4_firstStep 18 = .ok (.iload_n 2, 1) := by decide +kernel
theorem dX4_firstStep_19 : decode cX4_firstStep 19 = .ok (.iload_n 3, 1) := by decide +kernel
theorem dX4_firstStep_20 : decode cX4_firstStep 20 = .ok (.iload 4, 2) := by decide +kernel
theorem dX4_firstStep_22 : decode cX4_firstStep 22 = .ok (.invokevirtual 142, 3) := by decide +kernel
theorem dX4_firstStep_25 : decode cX4_firstStep 25 = .ok (.baload, 1) := by decide +kernel
theorem dX4_firstStep_26 : decode cX4_firstStep 26 = .ok (.ifCond .eq 5, 3) := by decide +kernel
theorem dX4_firstStep_29 : decode cX4_firstStep 29 = .ok (.iconst 0, 1) := by decide +kernel
theorem dX4_firstStep_30 : decode cX4_firstStep 30 = .ok (.ireturn, 1) := by decide +kernel
theorem dX4_firstStep_31 : decode cX4_firstStep 31 = .ok (.iload_n 2, 1) := by decide +kernel
theorem dX4_firstStep_32 : decode cX4_firstStep 32 = .ok (.aload_n 0, 1) := by decide +kernel
theorem dX4_firstStep_33 : decode cX4_firstStep 33 = .ok (.getfield 16, 3) := by decide +kernel
theorem dX4_firstStep_36 : decode cX4_firstStep 36 = .ok (.iconst 1, 1) := by decide +kernel
theorem dX4_firstStep_37 : decode cX4_firstStep 37 = .ok (.iaload, 1) := by decide +kernel
theorem dX4_firstStep_38 : decode cX4_firstStep 38 = .ok (.if_icmp .ge 24, 3) := by decide +kernel
theorem dX4_firstStep_41 : decode cX4_firstStep 41 = .ok (.aload_n 0, 1) := by decide +kernel
theorem dX4_firstStep_42 : decode cX4_firstStep 42 = .ok (.getfield 61, 3) := by decide +kernel
theorem dX4_firstStep_45 : decode cX4_firstStep 45 = .ok (.aload_n 0, 1) := by decide +kernel
theorem dX4_firstStep_46 : decode cX4_firstStep 46 = .ok (.iload_n 1, 1) := by decide +kernel
theorem dX4_firstStep_47 : decode cX4_firstStep 47 = .ok (.iload_n 2, 1) := by decide +kernel
theorem dX4_firstStep_48 : decode cX4_firstStep 48 = .ok (.iconst 1, 1) := by decide +kernel
theorem dX4_firstStep_49 : decode cX4_firstStep 49 = .ok (.iadd, 1) := by decide +kernel
theorem dX4_firstStep_50 : decode cX4_firstStep 50 = .ok (.iload_n 3, 1) := by decide +kernel
theorem dX4_firstStep_51 : decode cX4_firstStep 51 = .ok (.iload 4, 2) := by decide +kernel
theorem dX4_firstStep_53 : decode cX4_firstStep 53 = .ok (.invokevirtual 142, 3) := by decide +kernel
theorem dX4_firstStep_56 : decode cX4_firstStep 56 = .ok (.baload, 1) := by decide +kernel
theorem dX4_firstStep_57 : decode cX4_firstStep 57 = .ok (.ifCond .eq 5, 3) := by decide +kernel
theorem dX4_firstStep_60 : decode cX4_firstStep 60 = .ok (.iconst 1, 1) := by decide +kernel
theorem dX4_firstStep_61 : decode cX4_firstStep 61 = .ok (.ireturn, 1) := by decide +kernel
theorem dX4_firstStep_62 : decode cX4_firstStep 62 = .ok (.iload_n 3, 1) := by decide +kernel
theorem dX4_firstStep_63 : decode cX4_firstStep 63 = .ok (.aload_n 0, 1) := by decide +kernel
theorem dX4_firstStep_64 : decode cX4_firstStep 64 = .ok (.getfield 16, 3) := by decide +kernel
theorem dX4_firstStep_67 : decode cX4_firstStep 67 = .ok (.iconst 2, 1) := by decide +kernel
theorem dX4_firstStep_68 : decode cX4_firstStep 68 = .ok (.iaload, 1) := by decide +kernel
theorem dX4_firstStep_69 : decode cX4_firstStep 69 = .ok (.if_icmp .ge 24, 3) := by decide +kernel
theorem dX4_firstStep_72 : decode cX4_firstStep 72 = .ok (.aload_n 0, 1) := by decide +kernel
theorem dX4_firstStep_73 : decode cX4_firstStep 73 = .ok (.getfield 61, 3) := by decide +kernel
theorem dX4_firstStep_76 : decode cX4_firstStep 76 = .ok (.aload_n 0, 1) := by decide +kernel
theorem dX4_firstStep_77 : decode cX4_firstStep 77 = .ok (.iload_n 1, 1) := by decide +kernel
theorem dX4_firstStep_78 : decode cX4_firstStep 78 = .ok (.iload_n 2, 1) := by decide +kernel
theorem dX4_firstStep_79 : decode cX4_firstStep 79 = .ok (.iload_n 3, 1) := by decide +kernel
theorem dX4_firstStep_80 : decode cX4_firstStep 80 = .ok (.iconst 1, 1) := by decide +kernel
theorem dX4_firstStep_81 : decode cX4_firstStep 81 = .ok (.iadd, 1) := by decide +kernel
theorem dX4_firstStep_82 : decode cX4_firstStep 82 = .ok (.iload 4, 2) := by decide +kernel
theorem dX4_firstStep_84 : decode cX4_firstStep 84 = .ok (.invokevirtual 142, 3) := by decide +kernel
theorem dX4_firstStep_87 : decode cX4_firstStep 87 = .ok (.baload, 1) := by decide +kernel
theorem dX4_firstStep_88 : decode cX4_firstStep 88 = .ok (.ifCond .eq 5, 3) := by decide +kernel
theorem dX4_firstStep_91 : decode cX4_firstStep 91 = .ok (.iconst 2, 1) := by decide +kernel
theorem dX4_firstStep_92 : decode cX4_firstStep 92 = .ok (.ireturn, 1) := by decide +kernel
theorem dX4_firstStep_93 : decode cX4_firstStep 93 = .ok (.iconst (-1), 1) := by decide +kernel
theorem dX4_firstStep_94 : decode cX4_firstStep 94 = .ok (.istore 5, 2) := by decide +kernel
theorem dX4_firstStep_96 : decode cX4_firstStep 96 = .ok (.bipush 7, 2) := by decide +kernel
theorem dX4_firstStep_98 : decode cX4_firstStep 98 = .ok (.istore 6, 2) := by decide +kernel
theorem dX4_firstStep_100 : decode cX4_firstStep 100 = .ok (.iload 6, 2) := by decide +kernel
theorem dX4_firstStep_102 : decode cX4_firstStep 102 = .ok (.ifCond .lt 81, 3) := by decide +kernel
theorem dX4_firstStep_105 : decode cX4_firstStep 105 = .ok (.aload_n 0, 1) := by decide +kernel
theorem dX4_firstStep_106 : decode cX4_firstStep 106 = .ok (.getfield 111, 3) := by decide +kernel
theorem dX4_firstStep_109 : decode cX4_firstStep 109 = .ok (.iload 6, 2) := by decide +kernel
theorem dX4_firstStep_111 : decode cX4_firstStep 111 = .ok (.invokestatic 107, 3) := by decide +kernel
theorem dX4_firstStep_114 : decode cX4_firstStep 114 = .ok (.ifCond .eq 21, 3) := by decide +kernel
theorem dX4_firstStep_117 : decode cX4_firstStep 117 = .ok (.aload_n 0, 1) := by decide +kernel
theorem dX4_firstStep_118 : decode cX4_firstStep 118 = .ok (.iload 6, 2) := by decide +kernel
theorem dX4_firstStep_120 : decode cX4_firstStep 120 = .ok (.iload_n 1, 1) := by decide +kernel
theorem dX4_firstStep_121 : decode cX4_firstStep 121 = .ok (.iload_n 2, 1) := by decide +kernel
theorem dX4_firstStep_122 : decode cX4_firstStep 122 = .ok (.iload_n 3, 1) := by decide +kernel
theorem dX4_firstStep_123 : decode cX4_firstStep 123 = .ok (.iload 4, 2) := by decide +kernel
theorem dX4_firstStep_125 : decode cX4_firstStep 125 = .ok (.invokevirtual 114, 3) := by decide +kernel
theorem dX4_firstStep_128 : decode cX4_firstStep 128 = .ok (.ifCond .eq 7, 3) := by decide +kernel
theorem dX4_firstStep_131 : decode cX4_firstStep 131 = .ok (.iconst 1, 1) := by decide +kernel
theorem dX4_firstStep_132 : decode cX4_firstStep 132 = .ok (.goto 4, 3) := by decide +kernel
theorem dX4_firstStep_135 : decode cX4_firstStep 135 = .ok (.iconst 0, 1) := by decide +kernel
theorem dX4_firstStep_136 : decode cX4_firstStep 136 = .ok (.istore 7, 2) := by decide +kernel
theorem dX4_firstStep_138 : decode cX4_firstStep 138 = .ok (.iload 7, 2) := by decide +kernel
theorem dX4_firstStep_140 : decode cX4_firstStep 140 = .ok (.ifCond .eq 33, 3) := by decide +kernel
theorem dX4_firstStep_143 : decode cX4_firstStep 143 = .ok (.aload_n 0, 1) := by decide +kernel
theorem dX4_firstStep_144 : decode cX4_firstStep 144 = .ok (.getfield 61, 3) := by decide +kernel
theorem dX4_firstStep_147 : decode cX4_firstStep 147 = .ok (.aload_n 0, 1) := by decide +kernel
theorem dX4_firstStep_148 : decode cX4_firstStep 148 = .ok (.iload_n 1, 1) := by decide +kernel
theorem dX4_firstStep_149 : decode cX4_firstStep 149 = .ok (.iload_n 2, 1) := by decide +kernel
theorem dX4_firstStep_150 : decode cX4_firstStep 150 = .ok (.iload_n 3, 1) := by decide +kernel
theorem dX4_firstStep_151 : decode cX4_firstStep 151 = .ok (.iload 4, 2) := by decide +kernel
theorem dX4_firstStep_153 : decode cX4_firstStep 153 = .ok (.iconst 1, 1) := by decide +kernel
theorem dX4_firstStep_154 : decode cX4_firstStep 154 = .ok (.iload 6, 2) := by decide +kernel
theorem dX4_firstStep_156 : decode cX4_firstStep 156 = .ok (.ishl, 1) := by decide +kernel
theorem dX4_firstStep_157 : decode cX4_firstStep 157 = .ok (.ior, 1) := by decide +kernel
theorem dX4_firstStep_158 : decode cX4_firstStep 158 = .ok (.invokevirtual 142, 3) := by decide +kernel
theorem dX4_firstStep_161 : decode cX4_firstStep 161 = .ok (.baload, 1) := by decide +kernel
theorem dX4_firstStep_162 : decode cX4_firstStep 162 = .ok (.ifCond .eq 11, 3) := by decide +kernel
theorem dX4_firstStep_165 : decode cX4_firstStep 165 = .ok (.bipush 10, 2) := by decide +kernel
theorem dX4_firstStep_167 : decode cX4_firstStep 167 = .ok (.iload 6, 2) := by decide +kernel
theorem dX4_firstStep_169 : decode cX4_firstStep 169 = .ok (.iadd, 1) := by decide +kernel
theorem dX4_firstStep_170 : decode cX4_firstStep 170 = .ok (.goto 5, 3) := by decide +kernel
theorem dX4_firstStep_173 : decode cX4_firstStep 173 = .ok (.iload 5, 2) := by decide +kernel
theorem dX4_firstStep_175 : decode cX4_firstStep 175 = .ok (.istore 5, 2) := by decide +kernel
theorem dX4_firstStep_177 : decode cX4_firstStep 177 = .ok (.iinc 6 (-1), 3) := by decide +kernel
theorem dX4_firstStep_180 : decode cX4_firstStep 180 = .ok (.goto (-80), 3) := by decide +kernel
theorem dX4_firstStep_183 : decode cX4_firstStep 183 = .ok (.iload 5, 2) := by decide +kernel
theorem dX4_firstStep_185 : decode cX4_firstStep 185 = .ok (.ireturn, 1) := by decide +kernel
theorem dX4_stepAt_0 : decode cX4_stepAt 0 = .ok (.aload_n 0, 1) := by decide +kernel
theorem dX4_stepAt_1 : decode cX4_stepAt 1 = .ok (.iload_n 1, 1) := by decide +kernel
theorem dX4_stepAt_2 : decode cX4_stepAt 2 = .ok (.ifCond .lt 7, 3) := by decide +kernel
theorem dX4_stepAt_5 : decode cX4_stepAt 5 = .ok (.iconst 1, 1) := by decide +kernel
theorem dX4_stepAt_6 : decode cX4_stepAt 6 = .ok (.goto 4, 3) := by decide +kernel
theorem dX4_stepAt_9 : decode cX4_stepAt 9 = .ok (.iconst 0, 1) := by decide +kernel
theorem dX4_stepAt_10 : decode cX4_stepAt 10 = .ok (.aload_n 0, 1) := by decide +kernel
theorem dX4_stepAt_11 : decode cX4_stepAt 11 = .ok (.aload_n 0, 1) := by decide +kernel
theorem dX4_stepAt_12 : decode cX4_stepAt 12 = .ok (.getfield 111, 3) := by decide +kernel
theorem dX4_stepAt_15 : decode cX4_stepAt 15 = .ok (.invokevirtual 121, 3) := by decide +kernel
theorem dX4_stepAt_18 : decode cX4_stepAt 18 = .ok (.iconst 1, 1) := by decide +kernel
theorem dX4_stepAt_19 : decode cX4_stepAt 19 = .ok (.invokevirtual 77, 3) := by decide +kernel
theorem dX4_stepAt_22 : decode cX4_stepAt 22 = .ok (.ifCond .eq 19, 3) := by decide +kernel
theorem dX4_stepAt_25 : decode cX4_stepAt 25 = .ok (.iload_n 1, 1) := by decide +kernel
theorem dX4_stepAt_26 : decode cX4_stepAt 26 = .ok (.aload_n 0, 1) := by decide +kernel
theorem dX4_stepAt_27 : decode cX4_stepAt 27 = .ok (.getfield 95, 3) := by decide +kernel
theorem dX4_stepAt_30 : decode cX4_stepAt 30 = .ok (.aload_n 0, 1) := by decide +kernel
theorem dX4_stepAt_31 : decode cX4_stepAt 31 = .ok (.getfield 111, 3) := by decide +kernel
theorem dX4_stepAt_34 : decode cX4_stepAt 34 = .ok (.invokestatic 98, 3) := by decide +kernel
theorem dX4_stepAt_37 : decode cX4_stepAt 37 = .ok (.iadd, 1) := by decide +kernel
theorem dX4_stepAt_38 : decode cX4_stepAt 38 = .ok (.if_icmp .lt 16, 3) := by decide +kernel
theorem dX4_stepAt_41 : decode cX4_stepAt 41 = .ok (.aload_n 0, 1) := by decide +kernel
theorem dX4_stepAt_42 : decode cX4_stepAt 42 = .ok (.getfield 65, 3) := by decide +kernel
theorem dX4_stepAt_45 : decode cX4_stepAt 45 = .ok (.ifCond .ne 7, 3) := by decide +kernel
theorem dX4_stepAt_48 : decode cX4_stepAt 48 = .ok (.iconst (-1), 1) := by decide +kernel
theorem dX4_stepAt_49 : decode cX4_stepAt 49 = .ok (.goto 4, 3) := by decide +kernel
theorem dX4_stepAt_52 : decode cX4_stepAt 52 = .ok (.iconst 0, 1) := by decide +kernel
theorem dX4_stepAt_53 : decode cX4_stepAt 53 = .ok (.ireturn, 1) := by decide +kernel
theorem dX4_stepAt_54 : decode cX4_stepAt 54 = .ok (.iconst 0, 1) := by decide +kernel
theorem dX4_stepAt_55 : decode cX4_stepAt 55 = .ok (.istore_n 2, 1) := by decide +kernel
theorem dX4_stepAt_56 : decode cX4_stepAt 56 = .ok (.iconst 0, 1) := by decide +kernel
theorem dX4_stepAt_57 : decode cX4_stepAt 57 = .ok (.istore_n 3, 1) := by decide +kernel
theorem dX4_stepAt_58 : decode cX4_stepAt 58 = .ok (.iconst 0, 1) := by decide +kernel
theorem dX4_stepAt_59 : decode cX4_stepAt 59 = .ok (.istore 4, 2) := by decide +kernel
theorem dX4_stepAt_61 : decode cX4_stepAt 61 = .ok (.iconst 0, 1) := by decide +kernel
theorem dX4_stepAt_62 : decode cX4_stepAt 62 = .ok (.istore 5, 2) := by decide +kernel
theorem dX4_stepAt_64 : decode cX4_stepAt 64 = .ok (.aload_n 0, 1) := by decide +kernel
theorem dX4_stepAt_65 : decode cX4_stepAt 65 = .ok (.iload_n 2, 1) := by decide +kernel
theorem dX4_stepAt_66 : decode cX4_stepAt 66 = .ok (.iload_n 3, 1) := by decide +kernel
theorem dX4_stepAt_67 : decode cX4_stepAt 67 = .ok (.iload 4, 2) := by decide +kernel
theorem dX4_stepAt_69 : decode cX4_stepAt 69 = .ok (.iload 5, 2) := by decide +kernel
theorem dX4_stepAt_71 : decode cX4_stepAt 71 = .ok (.invokevirtual 149, 3) := by decide +kernel
theorem dX4_stepAt_74 : decode cX4_stepAt 74 = .ok (.istore 6, 2) := by decide +kernel
theorem dX4_stepAt_76 : decode cX4_stepAt 76 = .ok (.iconst 0, 1) := by decide +kernel
theorem dX4_stepAt_77 : decode cX4_stepAt 77 = .ok (.istore 7, 2) := by decide +kernel
theorem dX4_stepAt_79 : decode cX4_stepAt 79 = .ok (.iload 7, 2) := by decide +kernel
theorem dX4_stepAt_81 : decode cX4_stepAt 81 = .ok (.iload_n 1, 1) := by decide +kernel
theorem dX4_stepAt_82 : decode cX4_stepAt 82 = .ok (.if_icmp .ge 87, 3) := by decide +kernel
theorem dX4_stepAt_85 : decode cX4_stepAt 85 = .ok (.iload_n 2, 1) := by decide +kernel
theorem dX4_stepAt_86 : decode cX4_stepAt 86 = .ok (.iload 6, 2) := by decide +kernel
theorem dX4_stepAt_88 : decode cX4_stepAt 88 = .ok (.ifCond .ne 7, 3) := by decide +kernel
theorem dX4_stepAt_91 : decode cX4_stepAt 91 = .ok (.iconst 1, 1) := by decide +kernel
theorem dX4_stepAt_92 : decode cX4_stepAt 92 = .ok (.goto 4, 3) := by decide +kernel
theorem dX4_stepAt_95 : decode cX4_stepAt 95 = .ok (.iconst 0, 1) := by decide +kernel
theorem dX4_stepAt_96 : decode cX4_stepAt 96 = .ok (.iadd, 1) := by decide +kernel
theorem dX4_stepAt_97 : decode cX4_stepAt 97 = .ok (.istore_n 2, 1) := by decide +kernel
theorem dX4_stepAt_98 : decode cX4_stepAt 98 = .ok (.iload_n 3, 1) := by decide +kernel
theorem dX4_stepAt_99 : decode cX4_stepAt 99 = .ok (.iload 6, 2) := by decide +kernel
theorem dX4_stepAt_101 : decode cX4_stepAt 101 = .ok (.iconst 1, 1) := by decide +kernel
theorem dX4_stepAt_102 : decode cX4_stepAt 102 = .ok (.if_icmp .ne 7, 3) := by decide +kernel
theorem dX4_stepAt_105 : decode cX4_stepAt 105 = .ok (.iconst 1, 1) := by decide +kernel
theorem dX4_stepAt_106 : decode cX4_stepAt 106 = .ok (.goto 4, 3) := by decide +kernel
theorem dX4_stepAt_109 : decode cX4_stepAt 109 = .ok (.iconst 0, 1) := by decide +kernel
theorem dX4_stepAt_110 : decode cX4_stepAt 110 = .ok (.iadd, 1) := by decide +kernel
theorem dX4_stepAt_111 : decode cX4_stepAt 111 = .ok (.istore_n 3, 1) := by decide +kernel
theorem dX4_stepAt_112 : decode cX4_stepAt 112 = .ok (.iload 4, 2) := by decide +kernel
theorem dX4_stepAt_114 : decode cX4_stepAt 114 = .ok (.iload 6, 2) := by decide +kernel
theorem dX4_stepAt_116 : decode cX4_stepAt 116 = .ok (.iconst 2, 1) := by decide +kernel
theorem dX4_stepAt_117 : decode cX4_stepAt 117 = .ok (.if_icmp .ne 7, 3) := by decide +kernel
theorem dX4_stepAt_120 : decode cX4_stepAt 120 = .ok (.iconst 1, 1) := by decide +kernel
theorem dX4_stepAt_121 : decode cX4_stepAt 121 = .ok (.goto 4, 3) := by decide +kernel
theorem dX4_stepAt_124 : decode cX4_stepAt 124 = .ok (.iconst 0, 1) := by decide +kernel
theorem dX4_stepAt_125 : decode cX4_stepAt 125 = .ok (.iadd, 1) := by decide +kernel
theorem dX4_stepAt_126 : decode cX4_stepAt 126 = .ok (.istore 4, 2) := by decide +kernel
theorem dX4_stepAt_128 : decode cX4_stepAt 128 = .ok (.iload 5, 2) := by decide +kernel
theorem dX4_stepAt_130 : decode cX4_stepAt 130 = .ok (.iload 6, 2) := by decide +kernel
theorem dX4_stepAt_132 : decode cX4_stepAt 132 = .ok (.bipush 10, 2) := by decide +kernel
theorem dX4_stepAt_134 : decode cX4_stepAt 134 = .ok (.if_icmp .lt 13, 3) := by decide +kernel
theorem dX4_stepAt_137 : decode cX4_stepAt 137 = .ok (.iconst 1, 1) := by decide +kernel
theorem dX4_stepAt_138 : decode cX4_stepAt 138 = .ok (.iload 6, 2) := by decide +kernel
theorem dX4_stepAt_140 : decode cX4_stepAt 140 = .ok (.bipush 10, 2) := by decide +kernel
theorem dX4_stepAt_142 : decode cX4_stepAt 142 = .ok (.isub, 1) := by decide +kernel
theorem dX4_stepAt_143 : decode cX4_stepAt 143 = .ok (.ishl, 1) := by decide +kernel
theorem dX4_stepAt_144 : decode cX4_stepAt 144 = .ok (.goto 4, 3) := by decide +kernel
theorem dX4_stepAt_147 : decode cX4_stepAt 147 = .ok (.iconst 0, 1) := by decide +kernel
theorem dX4_stepAt_148 : decode cX4_stepAt 148 = .ok (.ior, 1) := by decide +kernel
theorem dX4_stepAt_149 : decode cX4_stepAt 149 = .ok (.istore 5, 2) := by decide +kernel
theorem dX4_stepAt_151 : decode cX4_stepAt 151 = .ok (.aload_n 0, 1) := by decide +kernel
theorem dX4_stepAt_152 : decode cX4_stepAt 152 = .ok (.iload_n 2, 1) := by decide +kernel
theorem dX4_stepAt_153 : decode cX4_stepAt 153 = .ok (.iload_n 3, 1) := by decide +kernel
theorem dX4_stepAt_154 : decode cX4_stepAt 154 = .ok (.iload 4, 2) := by decide +kernel
theorem dX4_stepAt_156 : decode cX4_stepAt 156 = .ok (.iload 5, 2) := by decide +kernel
theorem dX4_stepAt_158 : decode cX4_stepAt 158 = .ok (.invokevirtual 149, 3) := by decide +kernel
theorem dX4_stepAt_161 : decode cX4_stepAt 161 = .ok (.istore 6, 2) := by decide +kernel
theorem dX4_stepAt_163 : decode cX4_stepAt 163 = .ok (.iinc 7 1, 3) := by decide +kernel
theorem dX4_stepAt_166 : decode cX4_stepAt 166 = .ok (.goto (-87), 3) := by decide +kernel
theorem dX4_stepAt_169 : decode cX4_stepAt 169 = .ok (.iload 6, 2) := by decide +kernel
theorem dX4_stepAt_171 : decode cX4_stepAt 171 = .ok (.ireturn, 1) := by decide +kernel
end
section
theorem dL_setNeeds_0 : decode cL_setNeeds 0 = .ok (.aload_n 0, 1) := by decide +kernel
theorem dL_setNeeds_1 : decode cL_setNeeds 1 = .ok (.iload_n 1, 1) := by decide +kernel
theorem dL_setNeeds_2 : decode cL_setNeeds 2 = .ok (.iload_n 2, 1) := by decide +kernel
theorem dL_setNeeds_3 : decode cL_setNeeds 3 = .ok (.iload_n 3, 1) := by decide +kernel
theorem dL_setNeeds_4 : decode cL_setNeeds 4 = .ok (.iload 4, 2) := by decide +kernel
theorem dL_setNeeds_6 : decode cL_setNeeds 6 = .ok (.iload 5, 2) := by decide +kernel
theorem dL_setNeeds_8 : decode cL_setNeeds 8 = .ok (.iload 6, 2) := by decide +kernel
theorem dL_setNeeds_10 : decode cL_setNeeds 10 = .ok (.invokevirtual 7, 3) := by decide +kernel
theorem dL_setNeeds_13 : decode cL_setNeeds 13 = .ok (.goto 11, 3) := by decide +kernel
theorem dL_setNeeds_16 : decode cL_setNeeds 16 = .ok (.astore 7, 2) := by decide +kernel
theorem dL_setNeeds_18 : decode cL_setNeeds 18 = .ok (.iconst 1, 1) := by decide +kernel
theorem dL_setNeeds_19 : decode cL_setNeeds 19 = .ok (.ireturn, 1) := by decide +kernel
theorem dL_setNeeds_20 : decode cL_setNeeds 20 = .ok (.astore 7, 2) := by decide +kernel
theorem dL_setNeeds_22 : decode cL_setNeeds 22 = .ok (.iconst 2, 1) := by decide +kernel
theorem dL_setNeeds_23 : decode cL_setNeeds 23 = .ok (.ireturn, 1) := by decide +kernel
theorem dL_setNeeds_24 : decode cL_setNeeds 24 = .ok (.iconst 0, 1) := by decide +kernel
theorem dL_setNeeds_25 : decode cL_setNeeds 25 = .ok (.ireturn, 1) := by decide +kernel
theorem dL_bar_0 : decode cL_bar 0 = .ok (.aload_n 0, 1) := by decide +kernel
theorem dL_bar_1 : decode cL_bar 1 = .ok (.iload_n 1, 1) := by decide +kernel
theorem dL_bar_2 : decode cL_bar 2 = .ok (.iload_n 2, 1) := by decide +kernel
theorem dL_bar_3 : decode cL_bar 3 = .ok (.iload_n 3, 1) := by decide +kernel
theorem dL_bar_4 : decode cL_bar 4 = .ok (.invokevirtual 17, 3) := by decide +kernel
theorem dL_bar_7 : decode cL_bar 7 = .ok (.goto 11, 3) := by decide +kernel
theorem dL_bar_10 : decode cL_bar 10 = .ok (.astore 4, 2) := by decide +kernel
theorem dL_bar_12 : decode cL_bar 12 = .ok (.iconst 1, 1) := by decide +kernel
theorem dL_bar_13 : decode cL_bar 13 = .ok (.ireturn, 1) := by decide +kernel
theorem dL_bar_14 : decode cL_bar 14 = .ok (.astore 4, 2) := by decide +kernel
theorem dL_bar_16 : decode cL_bar 16 = .ok (.iconst 2, 1) := by decide +kernel
theorem dL_bar_17 : decode cL_bar 17 = .ok (.ireturn, 1) := by decide +kernel
theorem dL_bar_18 : decode cL_bar 18 = .ok (.iconst 0, 1) := by decide +kernel
theorem dL_bar_19 : decode cL_bar 19 = .ok (.ireturn, 1) := by decide +kernel
theorem dL_setBonus_0 : decode cL_setBonus 0 = .ok (.aload_n 0, 1) := by decide +kernel
theorem dL_setBonus_1 : decode cL_setBonus 1 = .ok (.iload_n 1, 1) := by decide +kernel
theorem dL_setBonus_2 : decode cL_setBonus 2 = .ok (.iload_n 2, 1) := by decide +kernel
theorem dL_setBonus_3 : decode cL_setBonus 3 = .ok (.iload_n 3, 1) := by decide +kernel
theorem dL_setBonus_4 : decode cL_setBonus 4 = .ok (.iload 4, 2) := by decide +kernel
theorem dL_setBonus_6 : decode cL_setBonus 6 = .ok (.invokevirtual 21, 3) := by decide +kernel
theorem dL_setBonus_9 : decode cL_setBonus 9 = .ok (.goto 11, 3) := by decide +kernel
theorem dL_setBonus_12 : decode cL_setBonus 12 = .ok (.astore 5, 2) := by decide +kernel
theorem dL_setBonus_14 : decode cL_setBonus 14 = .ok (.iconst 1, 1) := by decide +kernel
theorem dL_setBonus_15 : decode cL_setBonus 15 = .ok (.ireturn, 1) := by decide +kernel
theorem dL_setBonus_16 : decode cL_setBonus 16 = .ok (.astore 5, 2) := by decide +kernel
theorem dL_setBonus_18 : decode cL_setBonus 18 = .ok (.iconst 2, 1) := by decide +kernel
theorem dL_setBonus_19 : decode cL_setBonus 19 = .ok (.ireturn, 1) := by decide +kernel
theorem dL_setBonus_20 : decode cL_setBonus 20 = .ok (.iconst 0, 1) := by decide +kernel
theorem dL_setBonus_21 : decode cL_setBonus 21 = .ok (.ireturn, 1) := by decide +kernel
theorem dL_setValue_0 : decode cL_setValue 0 = .ok (.aload_n 0, 1) := by decide +kernel
theorem dL_setValue_1 : decode cL_setValue 1 = .ok (.iload_n 1, 1) := by decide +kernel
theorem dL_setValue_2 : decode cL_setValue 2 = .ok (.iload_n 2, 1) := by decide +kernel
theorem dL_setValue_3 : decode cL_setValue 3 = .ok (.iload_n 3, 1) := by decide +kernel
theorem dL_setValue_4 : decode cL_setValue 4 = .ok (.iload 4, 2) := by decide +kernel
theorem dL_setValue_6 : decode cL_setValue 6 = .ok (.iload 5, 2) := by decide +kernel
theorem dL_setValue_8 : decode cL_setValue 8 = .ok (.invokevirtual 25, 3) := by decide +kernel
theorem dL_setValue_11 : decode cL_setValue 11 = .ok (.goto 11, 3) := by decide +kernel
theorem dL_setValue_14 : decode cL_setValue 14 = .ok (.astore 6, 2) := by decide +kernel
theorem dL_setValue_16 : decode cL_setValue 16 = .ok (.iconst 1, 1) := by decide +kernel
theorem dL_setValue_17 : decode cL_setValue 17 = .ok (.ireturn, 1) := by decide +kernel
theorem dL_setValue_18 : decode cL_setValue 18 = .ok (.astore 6, 2) := by decide +kernel
theorem dL_setValue_20 : decode cL_setValue 20 = .ok (.iconst 2, 1) := by decide +kernel
theorem dL_setValue_21 : decode cL_setValue 21 = .ok (.ireturn, 1) := by decide +kernel
theorem dL_setValue_22 : decode cL_setValue 22 = .ok (.iconst 0, 1) := by decide +kernel
theorem dL_setValue_23 : decode cL_setValue 23 = .ok (.ireturn, 1) := by decide +kernel
theorem dL_setScore_0 : decode cL_setScore 0 = .ok (.aload_n 3, 1) := by decide +kernel
theorem dL_setScore_1 : decode cL_setScore 1 = .ok (.iconst 0, 1) := by decide +kernel
theorem dL_setScore_2 : decode cL_setScore 2 = .ok (.aload_n 0, 1) := by decide +kernel
theorem dL_setScore_3 : decode cL_setScore 3 = .ok (.iload_n 1, 1) := by decide +kernel
theorem dL_setScore_4 : decode cL_setScore 4 = .ok (.iload_n 2, 1) := by decide +kernel
theorem dL_setScore_5 : decode cL_setScore 5 = .ok (.invokevirtual 29, 3) := by decide +kernel
theorem dL_setScore_8 : decode cL_setScore 8 = .ok (.i2l, 1) := by decide +kernel
theorem dL_setScore_9 : decode cL_setScore 9 = .ok (.lastore, 1) := by decide +kernel
theorem dL_setScore_10 : decode cL_setScore 10 = .ok (.goto 15, 3) := by decide +kernel
theorem dL_setScore_13 : decode cL_setScore 13 = .ok (.astore 4, 2) := by decide +kernel
theorem dL_setScore_15 : decode cL_setScore 15 = .ok (.iconst 1, 1) := by decide +kernel
theorem dL_setScore_16 : decode cL_setScore 16 = .ok (.ireturn, 1) := by decide +kernel
theorem dL_setScore_17 : decode cL_setScore 17 = .ok (.astore 4, 2) := by decide +kernel
theorem dL_setScore_19 : decode cL_setScore 19 = .ok (.iconst 2, 1) := by decide +kernel
theorem dL_setScore_20 : decode cL_setScore 20 = .ok (.ireturn, 1) := by decide +kernel
theorem dL_setScore_21 : decode cL_setScore 21 = .ok (.astore 4, 2) := by decide +kernel
theorem dL_setScore_23 : decode cL_setScore 23 = .ok (.iconst 3, 1) := by decide +kernel
theorem dL_setScore_24 : decode cL_setScore 24 = .ok (.ireturn, 1) := by decide +kernel
theorem dL_setScore_25 : decode cL_setScore 25 = .ok (.iconst 0, 1) := by decide +kernel
theorem dL_setScore_26 : decode cL_setScore 26 = .ok (.ireturn, 1) := by decide +kernel
theorem dL_takeLevel_0 : decode cL_takeLevel 0 = .ok (.aload_n 2, 1) := by decide +kernel
theorem dL_takeLevel_1 : decode cL_takeLevel 1 = .ok (.iconst 0, 1) := by decide +kernel
theorem dL_takeLevel_2 : decode cL_takeLevel 2 = .ok (.aload_n 0, 1) := by decide +kernel
theorem dL_takeLevel_3 : decode cL_takeLevel 3 = .ok (.iload_n 1, 1) := by decide +kernel
theorem dL_takeLevel_4 : decode cL_takeLevel 4 = .ok (.invokevirtual 35, 3) := by decide +kernel
theorem dL_takeLevel_7 : decode cL_takeLevel 7 = .ok (.i2l, 1) := by decide +kernel
theorem dL_takeLevel_8 : decode cL_takeLevel 8 = .ok (.lastore, 1) := by decide +kernel
theorem dL_takeLevel_9 : decode cL_takeLevel 9 = .ok (.goto 9, 3) := by decide +kernel
theorem dL_takeLevel_12 : decode cL_takeLevel 12 = .ok (.astore_n 3, 1) := by decide +kernel
theorem dL_takeLevel_13 : decode cL_takeLevel 13 = .ok (.iconst 1, 1) := by decide +kernel
theorem dL_takeLevel_14 : decode cL_takeLevel 14 = .ok (.ireturn, 1) := by decide +kernel
theorem dL_takeLevel_15 : decode cL_takeLevel 15 = .ok (.astore_n 3, 1) := by decide +kernel
theorem dL_takeLevel_16 : decode cL_takeLevel 16 = .ok (.iconst 2, 1) := by decide +kernel
theorem dL_takeLevel_17 : decode cL_takeLevel 17 = .ok (.ireturn, 1) := by decide +kernel
theorem dL_takeLevel_18 : decode cL_takeLevel 18 = .ok (.iconst 0, 1) := by decide +kernel
theorem dL_takeLevel_19 : decode cL_takeLevel 19 = .ok (.ireturn, 1) := by decide +kernel
theorem dL_takeGift_0 : decode cL_takeGift 0 = .ok (.aload_n 2, 1) := by decide +kernel
theorem dL_takeGift_1 : decode cL_takeGift 1 = .ok (.iconst 0, 1) := by decide +kernel
theorem dL_takeGift_2 : decode cL_takeGift 2 = .ok (.aload_n 0, 1) := by decide +kernel
theorem dL_takeGift_3 : decode cL_takeGift 3 = .ok (.iload_n 1, 1) := by decide +kernel
theorem dL_takeGift_4 : decode cL_takeGift 4 = .ok (.invokevirtual 39, 3) := by decide +kernel
theorem dL_takeGift_7 : decode cL_takeGift 7 = .ok (.i2l, 1) := by decide +kernel
theorem dL_takeGift_8 : decode cL_takeGift 8 = .ok (.lastore, 1) := by decide +kernel
theorem dL_takeGift_9 : decode cL_takeGift 9 = .ok (.goto 9, 3) := by decide +kernel
theorem dL_takeGift_12 : decode cL_takeGift 12 = .ok (.astore_n 3, 1) := by decide +kernel
theorem dL_takeGift_13 : decode cL_takeGift 13 = .ok (.iconst 1, 1) := by decide +kernel
theorem dL_takeGift_14 : decode cL_takeGift 14 = .ok (.ireturn, 1) := by decide +kernel
theorem dL_takeGift_15 : decode cL_takeGift 15 = .ok (.astore_n 3, 1) := by decide +kernel
theorem dL_takeGift_16 : decode cL_takeGift 16 = .ok (.iconst 2, 1) := by decide +kernel
theorem dL_takeGift_17 : decode cL_takeGift 17 = .ok (.ireturn, 1) := by decide +kernel
theorem dL_takeGift_18 : decode cL_takeGift 18 = .ok (.iconst 0, 1) := by decide +kernel
theorem dL_takeGift_19 : decode cL_takeGift 19 = .ok (.ireturn, 1) := by decide +kernel
theorem dL_loseLevel_0 : decode cL_loseLevel 0 = .ok (.aload_n 1, 1) := by decide +kernel
theorem dL_loseLevel_1 : decode cL_loseLevel 1 = .ok (.iconst 0, 1) := by decide +kernel
theorem dL_loseLevel_2 : decode cL_loseLevel 2 = .ok (.aload_n 0, 1) := by decide +kernel
theorem dL_loseLevel_3 : decode cL_loseLevel 3 = .ok (.invokevirtual 42, 3) := by decide +kernel
theorem dL_loseLevel_6 : decode cL_loseLevel 6 = .ok (.i2l, 1) := by decide +kernel
theorem dL_loseLevel_7 : decode cL_loseLevel 7 = .ok (.lastore, 1) := by decide +kernel
theorem dL_loseLevel_8 : decode cL_loseLevel 8 = .ok (.goto 6, 3) := by decide +kernel
theorem dL_loseLevel_11 : decode cL_loseLevel 11 = .ok (.astore_n 2, 1) := by decide +kernel
theorem dL_loseLevel_12 : decode cL_loseLevel 12 = .ok (.iconst 1, 1) := by decide +kernel
theorem dL_loseLevel_13 : decode cL_loseLevel 13 = .ok (.ireturn, 1) := by decide +kernel
theorem dL_loseLevel_14 : decode cL_loseLevel 14 = .ok (.iconst 0, 1) := by decide +kernel
theorem dL_loseLevel_15 : decode cL_loseLevel 15 = .ok (.ireturn, 1) := by decide +kernel
theorem dL_exchange_0 : decode cL_exchange 0 = .ok (.aload_n 3, 1) := by decide +kernel
theorem dL_exchange_1 : decode cL_exchange 1 = .ok (.iconst 0, 1) := by decide +kernel
theorem dL_exchange_2 : decode cL_exchange 2 = .ok (.aload_n 0, 1) := by decide +kernel
theorem dL_exchange_3 : decode cL_exchange 3 = .ok (.iload_n 1, 1) := by decide +kernel
theorem dL_exchange_4 : decode cL_exchange 4 = .ok (.iload_n 2, 1) := by decide +kernel
theorem dL_exchange_5 : decode cL_exchange 5 = .ok (.invokevirtual 46, 3) := by decide +kernel
theorem dL_exchange_8 : decode cL_exchange 8 = .ok (.i2l, 1) := by decide +kernel
theorem dL_exchange_9 : decode cL_exchange 9 = .ok (.lastore, 1) := by decide +kernel
theorem dL_exchange_10 : decode cL_exchange 10 = .ok (.goto 11, 3) := by decide +kernel
theorem dL_exchange_13 : decode cL_exchange 13 = .ok (.astore 4, 2) := by decide +kernel
theorem dL_exchange_15 : decode cL_exchange 15 = .ok (.iconst 1, 1) := by decide +kernel
theorem dL_exchange_16 : decode cL_exchange 16 = .ok (.ireturn, 1) := by decide +kernel
theorem dL_exchange_17 : decode cL_exchange 17 = .ok (.astore 4, 2) := by decide +kernel
theorem dL_exchange_19 : decode cL_exchange 19 = .ok (.iconst 2, 1) := by decide +kernel
theorem dL_exchange_20 : decode cL_exchange 20 = .ok (.ireturn, 1) := by decide +kernel
theorem dL_exchange_21 : decode cL_exchange 21 = .ok (.iconst 0, 1) := by decide +kernel
theorem dL_exchange_22 : decode cL_exchange 22 = .ok (.ireturn, 1) := by decide +kernel
theorem dL_level_0 : decode cL_level 0 = .ok (.aload_n 2, 1) := by decide +kernel
theorem dL_level_1 : decode cL_level 1 = .ok (.iconst 0, 1) := by decide +kernel
theorem dL_level_2 : decode cL_level 2 = .ok (.aload_n 0, 1) := by decide +kernel
theorem dL_level_3 : decode cL_level 3 = .ok (.iload_n 1, 1) := by decide +kernel
theorem dL_level_4 : decode cL_level 4 = .ok (.invokevirtual 49, 3) := by decide +kernel
theorem dL_level_7 : decode cL_level 7 = .ok (.i2l, 1) := by decide +kernel
theorem dL_level_8 : decode cL_level 8 = .ok (.lastore, 1) := by decide +kernel
theorem dL_level_9 : decode cL_level 9 = .ok (.goto 6, 3) := by decide +kernel
theorem dL_level_12 : decode cL_level 12 = .ok (.astore_n 3, 1) := by decide +kernel
theorem dL_level_13 : decode cL_level 13 = .ok (.iconst 1, 1) := by decide +kernel
theorem dL_level_14 : decode cL_level 14 = .ok (.ireturn, 1) := by decide +kernel
theorem dL_level_15 : decode cL_level 15 = .ok (.iconst 0, 1) := by decide +kernel
theorem dL_level_16 : decode cL_level 16 = .ok (.ireturn, 1) := by decide +kernel
theorem dL_value_0 : decode cL_value 0 = .ok (.aload_n 2, 1) := by decide +kernel
theorem dL_value_1 : decode cL_value 1 = .ok (.iconst 0, 1) := by decide +kernel
theorem dL_value_2 : decode cL_value 2 = .ok (.aload_n 0, 1) := by decide +kernel
theorem dL_value_3 : decode cL_value 3 = .ok (.iload_n 1, 1) := by decide +kernel
theorem dL_value_4 : decode cL_value 4 = .ok (.invokevirtual 52, 3) := by decide +kernel
theorem dL_value_7 : decode cL_value 7 = .ok (.i2l, 1) := by decide +kernel
theorem dL_value_8 : decode cL_value 8 = .ok (.lastore, 1) := by decide +kernel
theorem dL_value_9 : decode cL_value 9 = .ok (.goto 9, 3) := by decide +kernel
theorem dL_value_12 : decode cL_value 12 = .ok (.astore_n 3, 1) := by decide +kernel
theorem dL_value_13 : decode cL_value 13 = .ok (.iconst 1, 1) := by decide +kernel
theorem dL_value_14 : decode cL_value 14 = .ok (.ireturn, 1) := by decide +kernel
theorem dL_value_15 : decode cL_value 15 = .ok (.astore_n 3, 1) := by decide +kernel
theorem dL_value_16 : decode cL_value 16 = .ok (.iconst 2, 1) := by decide +kernel
theorem dL_value_17 : decode cL_value 17 = .ok (.ireturn, 1) := by decide +kernel
theorem dL_value_18 : decode cL_value 18 = .ok (.iconst 0, 1) := by decide +kernel
theorem dL_value_19 : decode cL_value 19 = .ok (.ireturn, 1) := by decide +kernel
theorem dL_bonus_0 : decode cL_bonus 0 = .ok (.aload_n 3, 1) := by decide +kernel
theorem dL_bonus_1 : decode cL_bonus 1 = .ok (.iconst 0, 1) := by decide +kernel
theorem dL_bonus_2 : decode cL_bonus 2 = .ok (.aload_n 0, 1) := by decide +kernel
theorem dL_bonus_3 : decode cL_bonus 3 = .ok (.iload_n 1, 1) := by decide +kernel
theorem dL_bonus_4 : decode cL_bonus 4 = .ok (.iload_n 2, 1) := by decide +kernel
theorem dL_bonus_5 : decode cL_bonus 5 = .ok (.invokevirtual 55, 3) := by decide +kernel
theorem dL_bonus_8 : decode cL_bonus 8 = .ok (.i2l, 1) := by decide +kernel
theorem dL_bonus_9 : decode cL_bonus 9 = .ok (.lastore, 1) := by decide +kernel
theorem dL_bonus_10 : decode cL_bonus 10 = .ok (.goto 11, 3) := by decide +kernel
theorem dL_bonus_13 : decode cL_bonus 13 = .ok (.astore 4, 2) := by decide +kernel
theorem dL_bonus_15 : decode cL_bonus 15 = .ok (.iconst 1, 1) := by decide +kernel
theorem dL_bonus_16 : decode cL_bonus 16 = .ok (.ireturn, 1) := by decide +kernel
theorem dL_bonus_17 : decode cL_bonus 17 = .ok (.astore 4, 2) := by decide +kernel
theorem dL_bonus_19 : decode cL_bonus 19 = .ok (.iconst 2, 1) := by decide +kernel
theorem dL_bonus_20 : decode cL_bonus 20 = .ok (.ireturn, 1) := by decide +kernel
theorem dL_bonus_21 : decode cL_bonus 21 = .ok (.iconst 0, 1) := by decide +kernel
theorem dL_bonus_22 : decode cL_bonus 22 = .ok (.ireturn, 1) := by decide +kernel
theorem dL_isRing_0 : decode cL_isRing 0 = .ok (.aload_n 2, 1) := by decide +kernel
theorem dL_isRing_1 : decode cL_isRing 1 = .ok (.iconst 0, 1) := by decide +kernel
theorem dL_isRing_2 : decode cL_isRing 2 = .ok (.aload_n 0, 1) := by decide +kernel
theorem dL_isRing_3 : decode cL_isRing 3 = .ok (.iload_n 1, 1) := by decide +kernel
theorem dL_isRing_4 : decode cL_isRing 4 = .ok (.invokevirtual 58, 3) := by decide +kernel
theorem dL_isRing_7 : decode cL_isRing 7 = .ok (.ifCond .eq 7, 3) := by decide +kernel
theorem dL_isRing_10 : decode cL_isRing 10 = .ok (.lconst 1, 1) := by decide +kernel
theorem dL_isRing_11 : decode cL_isRing 11 = .ok (.goto 4, 3) := by decide +kernel
theorem dL_isRing_14 : decode cL_isRing 14 = .ok (.lconst 0, 1) := by decide +kernel
theorem dL_isRing_15 : decode cL_isRing 15 = .ok (.lastore, 1) := by decide +kernel
theorem dL_isRing_16 : decode cL_isRing 16 = .ok (.goto 6, 3) := by decide +kernel
theorem dL_isRing_19 : decode cL_isRing 19 = .ok (.astore_n 3, 1) := by decide +kernel
theorem dL_isRing_20 : decode cL_isRing 20 = .ok (.iconst 1, 1) := by decide +kernel
theorem dL_isRing_21 : decode cL_isRing 21 = .ok (.ireturn, 1) := by decide +kernel
theorem dL_isRing_22 : decode cL_isRing 22 = .ok (.iconst 0, 1) := by decide +kernel
theorem dL_isRing_23 : decode cL_isRing 23 = .ok (.ireturn, 1) := by decide +kernel
theorem dL_isLawfulByOrders_0 : decode cL_isLawfulByOrders 0 = .ok (.aload_n 1, 1) := by decide +kernel
theorem dL_isLawfulByOrders_1 : decode cL_isLawfulByOrders 1 = .ok (.iconst 0, 1) := by decide +kernel
theorem dL_isLawfulByOrders_2 : decode cL_isLawfulByOrders 2 = .ok (.aload_n 0, 1) := by decide +kernel
theorem dL_isLawfulByOrders_3 : decode cL_isLawfulByOrders 3 = .ok (.invokevirtual 62, 3) := by decide +kernel
theorem dL_isLawfulByOrders_6 : decode cL_isLawfulByOrders 6 = .ok (.ifCond .eq 7, 3) := by decide +kernel
theorem dL_isLawfulByOrders_9 : decode cL_isLawfulByOrders 9 = .ok (.lconst 1, 1) := by decide +kernel
theorem dL_isLawfulByOrders_10 : decode cL_isLawfulByOrders 10 = .ok (.goto 4, 3) := by decide +kernel
theorem dL_isLawfulByOrders_13 : decode cL_isLawfulByOrders 13 = .ok (.lconst 0, 1) := by decide +kernel
theorem dL_isLawfulByOrders_14 : decode cL_isLawfulByOrders 14 = .ok (.lastore, 1) := by decide +kernel
theorem dL_isLawfulByOrders_15 : decode cL_isLawfulByOrders 15 = .ok (.goto 6, 3) := by decide +kernel
theorem dL_isLawfulByOrders_18 : decode cL_isLawfulByOrders 18 = .ok (.astore_n 2, 1) := by decide +kernel
theorem dL_isLawfulByOrders_19 : decode cL_isLawfulByOrders 19 = .ok (.iconst 1, 1) := by decide +kernel
theorem dL_isLawfulByOrders_20 : decode cL_isLawfulByOrders 20 = .ok (.ireturn, 1) := by decide +kernel
theorem dL_isLawfulByOrders_21 : decode cL_isLawfulByOrders 21 = .ok (.iconst 0, 1) := by decide +kernel
theorem dL_isLawfulByOrders_22 : decode cL_isLawfulByOrders 22 = .ok (.ireturn, 1) := by decide +kernel
theorem dL_stepAt_0 : decode cL_stepAt 0 = .ok (.aload_n 2, 1) := by decide +kernel
theorem dL_stepAt_1 : decode cL_stepAt 1 = .ok (.iconst 0, 1) := by decide +kernel
theorem dL_stepAt_2 : decode cL_stepAt 2 = .ok (.aload_n 0, 1) := by decide +kernel
theorem dL_stepAt_3 : decode cL_stepAt 3 = .ok (.iload_n 1, 1) := by decide +kernel
theorem dL_stepAt_4 : decode cL_stepAt 4 = .ok (.invokevirtual 66, 3) := by decide +kernel
theorem dL_stepAt_7 : decode cL_stepAt 7 = .ok (.i2l, 1) := by decide +kernel
theorem dL_stepAt_8 : decode cL_stepAt 8 = .ok (.lastore, 1) := by decide +kernel
theorem dL_stepAt_9 : decode cL_stepAt 9 = .ok (.goto 9, 3) := by decide +kernel
theorem dL_stepAt_12 : decode cL_stepAt 12 = .ok (.astore_n 3, 1) := by decide +kernel
theorem dL_stepAt_13 : decode cL_stepAt 13 = .ok (.iconst 1, 1) := by decide +kernel
theorem dL_stepAt_14 : decode cL_stepAt 14 = .ok (.ireturn, 1) := by decide +kernel
theorem dL_stepAt_15 : decode cL_stepAt 15 = .ok (.astore_n 3, 1) := by decide +kernel
theorem dL_stepAt_16 : decode cL_stepAt 16 = .ok (.iconst 2, 1) := by decide +kernel
theorem dL_stepAt_17 : decode cL_stepAt 17 = .ok (.ireturn, 1) := by decide +kernel
theorem dL_stepAt_18 : decode cL_stepAt 18 = .ok (.iconst 0, 1) := by decide +kernel
theorem dL_stepAt_19 : decode cL_stepAt 19 = .ok (.ireturn, 1) := by decide +kernel
theorem dL_law_0 : decode cL_law 0 = .ok (.new 8, 3) := by decide +kernel
theorem dL_law_3 : decode cL_law 3 = .ok (.dup, 1) := by decide +kernel
theorem dL_law_4 : decode cL_law 4 = .ok (.invokespecial 69, 3) := by decide +kernel
theorem dL_law_7 : decode cL_law 7 = .ok (.astore_n 1, 1) := by decide +kernel
theorem dL_law_8 : decode cL_law 8 = .ok (.new 70, 3) := by decide +kernel
theorem dL_law_11 : decode cL_law 11 = .ok (.dup, 1) := by decide +kernel
theorem dL_law_12 : decode cL_law 12 = .ok (.invokespecial 72, 3) := by decide +kernel
theorem dL_law_15 : decode cL_law 15 = .ok (.astore_n 2, 1) := by decide +kernel
theorem dL_law_16 : decode cL_law 16 = .ok (.iconst 1, 1) := by decide +kernel
theorem dL_law_17 : decode cL_law 17 = .ok (.newarray .long, 2) := by decide +kernel
theorem dL_law_19 : decode cL_law 19 = .ok (.astore_n 3, 1) := by decide +kernel
theorem dL_law_20 : decode cL_law 20 = .ok (.iconst 0, 1) := by decide +kernel
theorem dL_law_21 : decode cL_law 21 = .ok (.istore 4, 2) := by decide +kernel
theorem dL_law_23 : decode cL_law 23 = .ok (.iload 4, 2) := by decide +kernel
theorem dL_law_25 : decode cL_law 25 = .ok (.aload_n 0, 1) := by decide +kernel
theorem dL_law_26 : decode cL_law 26 = .ok (.arraylength, 1) := by decide +kernel
theorem dL_law_27 : decode cL_law 27 = .ok (.bipush 7, 2) := by decide +kernel
theorem dL_law_29 : decode cL_law 29 = .ok (.isub, 1) := by decide +kernel
theorem dL_law_30 : decode cL_law 30 = .ok (.if_icmp .gt 1184, 3) := by decide +kernel
theorem dL_law_33 : decode cL_law 33 = .ok (.aload_n 0, 1) := by decide +kernel
theorem dL_law_34 : decode cL_law 34 = .ok (.iload 4, 2) := by decide +kernel
theorem dL_law_36 : decode cL_law 36 = .ok (.iaload, 1) := by decide +kernel
theorem dL_law_37 : decode cL_law 37 = .ok (.bipush 31, 2) := by decide +kernel
theorem dL_law_39 : decode cL_law 39 = .ok (.iand, 1) := by decide +kernel
theorem dL_law_40 : decode cL_law 40 = .ok (.tableswitch 1168 0 22 #[108, 206, 266, 338, 422, 490, 546, 602, 646, 714, 727, 783, 796, 809, 822, 835, 848, 904, 972, 1035, 1048, 1061, 1112], 108) := by decide +kernel
theorem dL_law_148 : decode cL_law 148 = .ok (.aload_n 1, 1) := by decide +kernel
theorem dL_law_149 : decode cL_law 149 = .ok (.aload_n 0, 1) := by decide +kernel
theorem dL_law_150 : decode cL_law 150 = .ok (.iload 4, 2) := by decide +kernel
theorem dL_law_152 : decode cL_law 152 = .ok (.iconst 1, 1) := by decide +kernel
theorem dL_law_153 : decode cL_law 153 = .ok (.iadd, 1) := by decide +kernel
theorem dL_law_154 : decode cL_law 154 = .ok (.iaload, 1) := by decide +kernel
theorem dL_law_155 : decode cL_law 155 = .ok (.aload_n 0, 1) := by decide +kernel
theorem dL_law_156 : decode cL_law 156 = .ok (.iload 4, 2) := by decide +kernel
theorem dL_law_158 : decode cL_law 158 = .ok (.iconst 2, 1) := by decide +kernel
theorem dL_law_159 : decode cL_law 159 = .ok (.iadd, 1) := by decide +kernel
theorem dL_law_160 : decode cL_law 160 = .ok (.iaload, 1) := by decide +kernel
theorem dL_law_161 : decode cL_law 161 = .ok (.aload_n 0, 1) := by decide +kernel
theorem dL_law_162 : decode cL_law 162 = .ok (.iload 4, 2) := by decide +kernel
theorem dL_law_164 : decode cL_law 164 = .ok (.iconst 3, 1) := by decide +kernel
theorem dL_law_165 : decode cL_law 165 = .ok (.iadd, 1) := by decide +kernel
theorem dL_law_166 : decode cL_law 166 = .ok (.iaload, 1) := by decide +kernel
theorem dL_law_167 : decode cL_law 167 = .ok (.aload_n 0, 1) := by decide +kernel
theorem dL_law_168 : decode cL_law 168 = .ok (.iload 4, 2) := by decide +kernel
theorem dL_law_170 : decode cL_law 170 = .ok (.iconst 4, 1) := by decide +kernel
theorem dL_law_171 : decode cL_law 171 = .ok (.iadd, 1) := by decide +kernel
theorem dL_law_172 : decode cL_law 172 = .ok (.iaload, 1) := by decide +kernel
theorem dL_law_173 : decode cL_law 173 = .ok (.aload_n 0, 1) := by decide +kernel
theorem dL_law_174 : decode cL_law 174 = .ok (.iload 4, 2) := by decide +kernel
theorem dL_law_176 : decode cL_law 176 = .ok (.iconst 5, 1) := by decide +kernel
theorem dL_law_177 : decode cL_law 177 = .ok (.iadd, 1) := by decide +kernel
theorem dL_law_178 : decode cL_law 178 = .ok (.iaload, 1) := by decide +kernel
theorem dL_law_179 : decode cL_law 179 = .ok (.aload_n 0, 1) := by decide +kernel
theorem dL_law_180 : decode cL_law 180 = .ok (.iload 4, 2) := by decide +kernel
theorem dL_law_182 : decode cL_law 182 = .ok (.bipush 6, 2) := by decide +kernel
theorem dL_law_184 : decode cL_law 184 = .ok (.iadd, 1) := by decide +kernel
theorem dL_law_185 : decode cL_law 185 = .ok (.iaload, 1) := by decide +kernel
theorem dL_law_186 : decode cL_law 186 = .ok (.invokestatic 73, 3) := by decide +kernel
theorem dL_law_189 : decode cL_law 189 = .ok (.istore 5, 2) := by decide +kernel
theorem dL_law_191 : decode cL_law 191 = .ok (.aload_n 2, 1) := by decide +kernel
theorem dL_law_192 : decode cL_law 192 = .ok (.aload_n 0, 1) := by decide +kernel
theorem dL_law_193 : decode cL_law 193 = .ok (.iload 4, 2) := by decide +kernel
theorem dL_law_195 : decode cL_law 195 = .ok (.iconst 1, 1) := by decide +kernel
theorem dL_law_196 : decode cL_law 196 = .ok (.iadd, 1) := by decide +kernel
theorem dL_law_197 : decode cL_law 197 = .ok (.iaload, 1) := by decide +kernel
theorem dL_law_198 : decode cL_law 198 = .ok (.aload_n 0, 1) := by decide +kernel
theorem dL_law_199 : decode cL_law 199 = .ok (.iload 4, 2) := by decide +kernel
theorem dL_law_201 : decode cL_law 201 = .ok (.iconst 2, 1) := by decide +kernel
theorem dL_law_202 : decode cL_law 202 = .ok (.iadd, 1) := by decide +kernel
theorem dL_law_203 : decode cL_law 203 = .ok (.iaload, 1) := by decide +kernel
theorem dL_law_204 : decode cL_law 204 = .ok (.aload_n 0, 1) := by decide +kernel
theorem dL_law_205 : decode cL_law 205 = .ok (.iload 4, 2) := by decide +kernel
theorem dL_law_207 : decode cL_law 207 = .ok (.iconst 3, 1) := by decide +kernel
theorem dL_law_208 : decode cL_law 208 = .ok (.iadd, 1) := by decide +kernel
theorem dL_law_209 : decode cL_law 209 = .ok (.iaload, 1) := by decide +kernel
theorem dL_law_210 : decode cL_law 210 = .ok (.aload_n 0, 1) := by decide +kernel
theorem dL_law_211 : decode cL_law 211 = .ok (.iload 4, 2) := by decide +kernel
theorem dL_law_213 : decode cL_law 213 = .ok (.iconst 4, 1) := by decide +kernel
theorem dL_law_214 : decode cL_law 214 = .ok (.iadd, 1) := by decide +kernel
theorem dL_law_215 : decode cL_law 215 = .ok (.iaload, 1) := by decide +kernel
theorem dL_law_216 : decode cL_law 216 = .ok (.aload_n 0, 1) := by decide +kernel
theorem dL_law_217 : decode cL_law 217 = .ok (.iload 4, 2) := by decide +kernel
theorem dL_law_219 : decode cL_law 219 = .ok (.iconst 5, 1) := by decide +kernel
theorem dL_law_220 : decode cL_law 220 = .ok (.iadd, 1) := by decide +kernel
theorem dL_law_221 : decode cL_law 221 = .ok (.iaload, 1) := by decide +kernel
theorem dL_law_222 : decode cL_law 222 = .ok (.aload_n 0, 1) := by decide +kernel
theorem dL_law_223 : decode cL_law 223 = .ok (.iload 4, 2) := by decide +kernel
theorem dL_law_225 : decode cL_law 225 = .ok (.bipush 6, 2) := by decide +kernel
theorem dL_law_227 : decode cL_law 227 = .ok (.iadd, 1) := by decide +kernel
theorem dL_law_228 : decode cL_law 228 = .ok (.iaload, 1) := by decide +kernel
theorem dL_law_229 : decode cL_law 229 = .ok (.invokevirtual 78, 3) := by decide +kernel
theorem dL_law_232 : decode cL_law 232 = .ok (.aload_n 2, 1) := by decide +kernel
theorem dL_law_233 : decode cL_law 233 = .ok (.invokevirtual 79, 3) := by decide +kernel
theorem dL_law_236 : decode cL_law 236 = .ok (.iload 5, 2) := by decide +kernel
theorem dL_law_238 : decode cL_law 238 = .ok (.if_icmp .eq 5, 3) := by decide +kernel
theorem dL_law_241 : decode cL_law 241 = .ok (.iconst 0, 1) := by decide +kernel
theorem dL_law_242 : decode cL_law 242 = .ok (.ireturn, 1) := by decide +kernel
theorem dL_law_243 : decode cL_law 243 = .ok (.goto 965, 3) := by decide +kernel
theorem dL_law_246 : decode cL_law 246 = .ok (.aload_n 1, 1) := by decide +kernel
theorem dL_law_247 : decode cL_law 247 = .ok (.aload_n 0, 1) := by decide +kernel
theorem dL_law_248 : decode cL_law 248 = .ok (.iload 4, 2) := by decide +kernel
theorem dL_law_250 : decode cL_law 250 = .ok (.iconst 1, 1) := by decide +kernel
theorem dL_law_251 : decode cL_law 251 = .ok (.iadd, 1) := by decide +kernel
theorem dL_law_252 : decode cL_law 252 = .ok (.iaload, 1) := by decide +kernel
theorem dL_law_253 : decode cL_law 253 = .ok (.aload_n 0, 1) := by decide +kernel
theorem dL_law_254 : decode cL_law 254 = .ok (.iload 4, 2) := by decide +kernel
theorem dL_law_256 : decode cL_law 256 = .ok (.iconst 2, 1) := by decide +kernel
theorem dL_law_257 : decode cL_law 257 = .ok (.iadd, 1) := by decide +kernel
theorem dL_law_258 : decode cL_law 258 = .ok (.iaload, 1) := by decide +kernel
theorem dL_law_259 : decode cL_law 259 = .ok (.aload_n 0, 1) := by decide +kernel
theorem dL_law_260 : decode cL_law 260 = .ok (.iload 4, 2) := by decide +kernel
theorem dL_law_262 : decode cL_law 262 = .ok (.iconst 3, 1) := by decide +kernel
theorem dL_law_263 : decode cL_law 263 = .ok (.iadd, 1) := by decide +kernel
theorem dL_law_264 : decode cL_law 264 = .ok (.iaload, 1) := by decide +kernel
theorem dL_law_265 : decode cL_law 265 = .ok (.invokestatic 82, 3) := by decide +kernel
theorem dL_law_268 : decode cL_law 268 = .ok (.istore 5, 2) := by decide +kernel
theorem dL_law_270 : decode cL_law 270 = .ok (.aload_n 2, 1) := by decide +kernel
theorem dL_law_271 : decode cL_law 271 = .ok (.aload_n 0, 1) := by decide +kernel
theorem dL_law_272 : decode cL_law 272 = .ok (.iload 4, 2) := by decide +kernel
theorem dL_law_274 : decode cL_law 274 = .ok (.iconst 1, 1) := by decide +kernel
theorem dL_law_275 : decode cL_law 275 = .ok (.iadd, 1) := by decide +kernel
theorem dL_law_276 : decode cL_law 276 = .ok (.iaload, 1) := by decide +kernel
theorem dL_law_277 : decode cL_law 277 = .ok (.aload_n 0, 1) := by decide +kernel
theorem dL_law_278 : decode cL_law 278 = .ok (.iload 4, 2) := by decide +kernel
theorem dL_law_280 : decode cL_law 280 = .ok (.iconst 2, 1) := by decide +kernel
theorem dL_law_281 : decode cL_law 281 = .ok (.iadd, 1) := by decide +kernel
theorem dL_law_282 : decode cL_law 282 = .ok (.iaload, 1) := by decide +kernel
theorem dL_law_283 : decode cL_law 283 = .ok (.aload_n 0, 1) := by decide +kernel
theorem dL_law_284 : decode cL_law 284 = .ok (.iload 4, 2) := by decide +kernel
theorem dL_law_286 : decode cL_law 286 = .ok (.iconst 3, 1) := by decide +kernel
theorem dL_law_287 : decode cL_law 287 = .ok (.iadd, 1) := by decide +kernel
theorem dL_law_288 : decode cL_law 288 = .ok (.iaload, 1) := by decide +kernel
theorem dL_law_289 : decode cL_law 289 = .ok (.invokevirtual 85, 3) := by decide +kernel
theorem dL_law_292 : decode cL_law 292 = .ok (.aload_n 2, 1) := by decide +kernel
theorem dL_law_293 : decode cL_law 293 = .ok (.invokevirtual 79, 3) := by decide +kernel
theorem dL_law_296 : decode cL_law 296 = .ok (.iload 5, 2) := by decide +kernel
theorem dL_law_298 : decode cL_law 298 = .ok (.if_icmp .eq 5, 3) := by decide +kernel
theorem dL_law_301 : decode cL_law 301 = .ok (.iconst 0, 1) := by decide +kernel
theorem dL_law_302 : decode cL_law 302 = .ok (.ireturn, 1) := by decide +kernel
theorem dL_law_303 : decode cL_law 303 = .ok (.goto 905, 3) := by decide +kernel
theorem dL_law_306 : decode cL_law 306 = .ok (.aload_n 1, 1) := by decide +kernel
theorem dL_law_307 : decode cL_law 307 = .ok (.aload_n 0, 1) := by decide +kernel
theorem dL_law_308 : decode cL_law 308 = .ok (.iload 4, 2) := by decide +kernel
theorem dL_law_310 : decode cL_law 310 = .ok (.iconst 1, 1) := by decide +kernel
theorem dL_law_311 : decode cL_law 311 = .ok (.iadd, 1) := by decide +kernel
theorem dL_law_312 : decode cL_law 312 = .ok (.iaload, 1) := by decide +kernel
theorem dL_law_313 : decode cL_law 313 = .ok (.aload_n 0, 1) := by decide +kernel
theorem dL_law_314 : decode cL_law 314 = .ok (.iload 4, 2) := by decide +kernel
theorem dL_law_316 : decode cL_law 316 = .ok (.iconst 2, 1) := by decide +kernel
theorem dL_law_317 : decode cL_law 317 = .ok (.iadd, 1) := by decide +kernel
theorem dL_law_318 : decode cL_law 318 = .ok (.iaload, 1) := by decide +kernel
theorem dL_law_319 : decode cL_law 319 = .ok (.aload_n 0, 1) := by decide +kernel
theorem dL_law_320 : decode cL_law 320 = .ok (.iload 4, 2) := by decide +kernel
theorem dL_law_322 : decode cL_law 322 = .ok (.iconst 3, 1) := by decide +kernel
theorem dL_law_323 : decode cL_law 323 = .ok (.iadd, 1) := by decide +kernel
theorem dL_law_324 : decode cL_law 324 = .ok (.iaload, 1) := by decide +kernel
theorem dL_law_325 : decode cL_law 325 = .ok (.aload_n 0, 1) := by decide +kernel
theorem dL_law_326 : decode cL_law 326 = .ok (.iload 4, 2) := by decide +kernel
theorem dL_law_328 : decode cL_law 328 = .ok (.iconst 4, 1) := by decide +kernel
theorem dL_law_329 : decode cL_law 329 = .ok (.iadd, 1) := by decide +kernel
theorem dL_law_330 : decode cL_law 330 = .ok (.iaload, 1) := by decide +kernel
theorem dL_law_331 : decode cL_law 331 = .ok (.invokestatic 86, 3) := by decide +kernel
theorem dL_law_334 : decode cL_law 334 = .ok (.istore 5, 2) := by decide +kernel
theorem dL_law_336 : decode cL_law 336 = .ok (.aload_n 2, 1) := by decide +kernel
theorem dL_law_337 : decode cL_law 337 = .ok (.aload_n 0, 1) := by decide +kernel
theorem dL_law_338 : decode cL_law 338 = .ok (.iload 4, 2) := by decide +kernel
theorem dL_law_340 : decode cL_law 340 = .ok (.iconst 1, 1) := by decide +kernel
theorem dL_law_341 : decode cL_law 341 = .ok (.iadd, 1) := by decide +kernel
theorem dL_law_342 : decode cL_law 342 = .ok (.iaload, 1) := by decide +kernel
theorem dL_law_343 : decode cL_law 343 = .ok (.aload_n 0, 1) := by decide +kernel
theorem dL_law_344 : decode cL_law 344 = .ok (.iload 4, 2) := by decide +kernel
theorem dL_law_346 : decode cL_law 346 = .ok (.iconst 2, 1) := by decide +kernel
theorem dL_law_347 : decode cL_law 347 = .ok (.iadd, 1) := by decide +kernel
theorem dL_law_348 : decode cL_law 348 = .ok (.iaload, 1) := by decide +kernel
theorem dL_law_349 : decode cL_law 349 = .ok (.aload_n 0, 1) := by decide +kernel
theorem dL_law_350 : decode cL_law 350 = .ok (.iload 4, 2) := by decide +kernel
theorem dL_law_352 : decode cL_law 352 = .ok (.iconst 3, 1) := by decide +kernel
theorem dL_law_353 : decode cL_law 353 = .ok (.iadd, 1) := by decide +kernel
theorem dL_law_354 : decode cL_law 354 = .ok (.iaload, 1) := by decide +kernel
theorem dL_law_355 : decode cL_law 355 = .ok (.aload_n 0, 1) := by decide +kernel
theorem dL_law_356 : decode cL_law 356 = .ok (.iload 4, 2) := by decide +kernel
theorem dL_law_358 : decode cL_law 358 = .ok (.iconst 4, 1) := by decide +kernel
theorem dL_law_359 : decode cL_law 359 = .ok (.iadd, 1) := by decide +kernel
theorem dL_law_360 : decode cL_law 360 = .ok (.iaload, 1) := by decide +kernel
theorem dL_law_361 : decode cL_law 361 = .ok (.invokevirtual 89, 3) := by decide +kernel
theorem dL_law_364 : decode cL_law 364 = .ok (.aload_n 2, 1) := by decide +kernel
theorem dL_law_365 : decode cL_law 365 = .ok (.invokevirtual 79, 3) := by decide +kernel
theorem dL_law_368 : decode cL_law 368 = .ok (.iload 5, 2) := by decide +kernel
theorem dL_law_370 : decode cL_law 370 = .ok (.if_icmp .eq 5, 3) := by decide +kernel
theorem dL_law_373 : decode cL_law 373 = .ok (.iconst 0, 1) := by decide +kernel
theorem dL_law_374 : decode cL_law 374 = .ok (.ireturn, 1) := by decide +kernel
theorem dL_law_375 : decode cL_law 375 = .ok (.goto 833, 3) := by decide +kernel
theorem dL_law_378 : decode cL_law 378 = .ok (.aload_n 1, 1) := by decide +kernel
theorem dL_law_379 : decode cL_law 379 = .ok (.aload_n 0, 1) := by decide +kernel
theorem dL_law_380 : decode cL_law 380 = .ok (.iload 4, 2) := by decide +kernel
theorem dL_law_382 : decode cL_law 382 = .ok (.iconst 1, 1) := by decide +kernel
theorem dL_law_383 : decode cL_law 383 = .ok (.iadd, 1) := by decide +kernel
theorem dL_law_384 : decode cL_law 384 = .ok (.iaload, 1) := by decide +kernel
theorem dL_law_385 : decode cL_law 385 = .ok (.aload_n 0, 1) := by decide +kernel
theorem dL_law_386 : decode cL_law 386 = .ok (.iload 4, 2) := by decide +kernel
theorem dL_law_388 : decode cL_law 388 = .ok (.iconst 2, 1) := by decide +kernel
theorem dL_law_389 : decode cL_law 389 = .ok (.iadd, 1) := by decide +kernel
theorem dL_law_390 : decode cL_law 390 = .ok (.iaload, 1) := by decide +kernel
theorem dL_law_391 : decode cL_law 391 = .ok (.aload_n 0, 1) := by decide +kernel
theorem dL_law_392 : decode cL_law 392 = .ok (.iload 4, 2) := by decide +kernel
theorem dL_law_394 : decode cL_law 394 = .ok (.iconst 3, 1) := by decide +kernel
theorem dL_law_395 : decode cL_law 395 = .ok (.iadd, 1) := by decide +kernel
theorem dL_law_396 : decode cL_law 396 = .ok (.iaload, 1) := by decide +kernel
theorem dL_law_397 : decode cL_law 397 = .ok (.aload_n 0, 1) := by decide +kernel
theorem dL_law_398 : decode cL_law 398 = .ok (.iload 4, 2) := by decide +kernel
theorem dL_law_400 : decode cL_law 400 = .ok (.iconst 4, 1) := by decide +kernel
theorem dL_law_401 : decode cL_law 401 = .ok (.iadd, 1) := by decide +kernel
theorem dL_law_402 : decode cL_law 402 = .ok (.iaload, 1) := by decide +kernel
theorem dL_law_403 : decode cL_law 403 = .ok (.aload_n 0, 1) := by decide +kernel
theorem dL_law_404 : decode cL_law 404 = .ok (.iload 4, 2) := by decide +kernel
theorem dL_law_406 : decode cL_law 406 = .ok (.iconst 5, 1) := by decide +kernel
theorem dL_law_407 : decode cL_law 407 = .ok (.iadd, 1) := by decide +kernel
theorem dL_law_408 : decode cL_law 408 = .ok (.iaload, 1) := by decide +kernel
theorem dL_law_409 : decode cL_law 409 = .ok (.invokestatic 90, 3) := by decide +kernel
theorem dL_law_412 : decode cL_law 412 = .ok (.istore 5, 2) := by decide +kernel
theorem dL_law_414 : decode cL_law 414 = .ok (.aload_n 2, 1) := by decide +kernel
theorem dL_law_415 : decode cL_law 415 = .ok (.aload_n 0, 1) := by decide +kernel
theorem dL_law_416 : decode cL_law 416 = .ok (.iload 4, 2) := by decide +kernel
theorem dL_law_418 : decode cL_law 418 = .ok (.iconst 1, 1) := by decide +kernel
theorem dL_law_419 : decode cL_law 419 = .ok (.iadd, 1) := by decide +kernel
theorem dL_law_420 : decode cL_law 420 = .ok (.iaload, 1) := by decide +kernel
theorem dL_law_421 : decode cL_law 421 = .ok (.aload_n 0, 1) := by decide +kernel
theorem dL_law_422 : decode cL_law 422 = .ok (.iload 4, 2) := by decide +kernel
theorem dL_law_424 : decode cL_law 424 = .ok (.iconst 2, 1) := by decide +kernel
theorem dL_law_425 : decode cL_law 425 = .ok (.iadd, 1) := by decide +kernel
theorem dL_law_426 : decode cL_law 426 = .ok (.iaload, 1) := by decide +kernel
theorem dL_law_427 : decode cL_law 427 = .ok (.aload_n 0, 1) := by decide +kernel
theorem dL_law_428 : decode cL_law 428 = .ok (.iload 4, 2) := by decide +kernel
theorem dL_law_430 : decode cL_law 430 = .ok (.iconst 3, 1) := by decide +kernel
theorem dL_law_431 : decode cL_law 431 = .ok (.iadd, 1) := by decide +kernel
theorem dL_law_432 : decode cL_law 432 = .ok (.iaload, 1) := by decide +kernel
theorem dL_law_433 : decode cL_law 433 = .ok (.aload_n 0, 1) := by decide +kernel
theorem dL_law_434 : decode cL_law 434 = .ok (.iload 4, 2) := by decide +kernel
theorem dL_law_436 : decode cL_law 436 = .ok (.iconst 4, 1) := by decide +kernel
theorem dL_law_437 : decode cL_law 437 = .ok (.iadd, 1) := by decide +kernel
theorem dL_law_438 : decode cL_law 438 = .ok (.iaload, 1) := by decide +kernel
theorem dL_law_439 : decode cL_law 439 = .ok (.aload_n 0, 1) := by decide +kernel
theorem dL_law_440 : decode cL_law 440 = .ok (.iload 4, 2) := by decide +kernel
theorem dL_law_442 : decode cL_law 442 = .ok (.iconst 5, 1) := by decide +kernel
theorem dL_law_443 : decode cL_law 443 = .ok (.iadd, 1) := by decide +kernel
theorem dL_law_444 : decode cL_law 444 = .ok (.iaload, 1) := by decide +kernel
theorem dL_law_445 : decode cL_law 445 = .ok (.invokevirtual 93, 3) := by decide +kernel
theorem dL_law_448 : decode cL_law 448 = .ok (.aload_n 2, 1) := by decide +kernel
theorem dL_law_449 : decode cL_law 449 = .ok (.invokevirtual 79, 3) := by decide +kernel
theorem dL_law_452 : decode cL_law 452 = .ok (.iload 5, 2) := by decide +kernel
theorem dL_law_454 : decode cL_law 454 = .ok (.if_icmp .eq 5, 3) := by decide +kernel
theorem dL_law_457 : decode cL_law 457 = .ok (.iconst 0, 1) := by decide +kernel
theorem dL_law_458 : decode cL_law 458 = .ok (.ireturn, 1) := by decide +kernel
theorem dL_law_459 : decode cL_law 459 = .ok (.goto 749, 3) := by decide +kernel
theorem dL_law_462 : decode cL_law 462 = .ok (.aload_n 1, 1) := by decide +kernel
theorem dL_law_463 : decode cL_law 463 = .ok (.aload_n 0, 1) := by decide +kernel
theorem dL_law_464 : decode cL_law 464 = .ok (.iload 4, 2) := by decide +kernel
theorem dL_law_466 : decode cL_law 466 = .ok (.iconst 1, 1) := by decide +kernel
theorem dL_law_467 : decode cL_law 467 = .ok (.iadd, 1) := by decide +kernel
theorem dL_law_468 : decode cL_law 468 = .ok (.iaload, 1) := by decide +kernel
theorem dL_law_469 : decode cL_law 469 = .ok (.aload_n 0, 1) := by decide +kernel
theorem dL_law_470 : decode cL_law 470 = .ok (.iload 4, 2) := by decide +kernel
theorem dL_law_472 : decode cL_law 472 = .ok (.iconst 2, 1) := by decide +kernel
theorem dL_law_473 : decode cL_law 473 = .ok (.iadd, 1) := by decide +kernel
theorem dL_law_474 : decode cL_law 474 = .ok (.iaload, 1) := by decide +kernel
theorem dL_law_475 : decode cL_law 475 = .ok (.aload_n 3, 1) := by decide +kernel
theorem dL_law_476 : decode cL_law 476 = .ok (.invokestatic 94, 3) := by decide +kernel
theorem dL_law_479 : decode cL_law 479 = .ok (.istore 5, 2) := by decide +kernel
theorem dL_law_481 : decode cL_law 481 = .ok (.aload_n 2, 1) := by decide +kernel
theorem dL_law_482 : decode cL_law 482 = .ok (.aload_n 0, 1) := by decide +kernel
theorem dL_law_483 : decode cL_law 483 = .ok (.iload 4, 2) := by decide +kernel
theorem dL_law_485 : decode cL_law 485 = .ok (.iconst 1, 1) := by decide +kernel
theorem dL_law_486 : decode cL_law 486 = .ok (.iadd, 1) := by decide +kernel
theorem dL_law_487 : decode cL_law 487 = .ok (.iaload, 1) := by decide +kernel
theorem dL_law_488 : decode cL_law 488 = .ok (.aload_n 0, 1) := by decide +kernel
theorem dL_law_489 : decode cL_law 489 = .ok (.iload 4, 2) := by decide +kernel
theorem dL_law_491 : decode cL_law 491 = .ok (.iconst 2, 1) := by decide +kernel
theorem dL_law_492 : decode cL_law 492 = .ok (.iadd, 1) := by decide +kernel
theorem dL_law_493 : decode cL_law 493 = .ok (.iaload, 1) := by decide +kernel
theorem dL_law_494 : decode cL_law 494 = .ok (.invokevirtual 97, 3) := by decide +kernel
theorem dL_law_497 : decode cL_law 497 = .ok (.istore 6, 2) := by decide +kernel
theorem dL_law_499 : decode cL_law 499 = .ok (.aload_n 2, 1) := by decide +kernel
theorem dL_law_500 : decode cL_law 500 = .ok (.invokevirtual 79, 3) := by decide +kernel
theorem dL_law_503 : decode cL_law 503 = .ok (.iload 5, 2) := by decide +kernel
theorem dL_law_505 : decode cL_law 505 = .ok (.if_icmp .eq 5, 3) := by decide +kernel
theorem dL_law_508 : decode cL_law 508 = .ok (.iconst 0, 1) := by decide +kernel
theorem dL_law_509 : decode cL_law 509 = .ok (.ireturn, 1) := by decide +kernel
theorem dL_law_510 : decode cL_law 510 = .ok (.iload 5, 2) := by decide +kernel
theorem dL_law_512 : decode cL_law 512 = .ok (.ifCond .ne 15, 3) := by decide +kernel
theorem dL_law_515 : decode cL_law 515 = .ok (.aload_n 3, 1) := by decide +kernel
theorem dL_law_516 : decode cL_law 516 = .ok (.iconst 0, 1) := by decide +kernel
theorem dL_law_517 : decode cL_law 517 = .ok (.laload, 1) := by decide +kernel
theorem dL_law_518 : decode cL_law 518 = .ok (.iload 6, 2) := by decide +kernel
theorem dL_law_520 : decode cL_law 520 = .ok (.i2l, 1) := by decide +kernel
theorem dL_law_521 : decode cL_law 521 = .ok (.lcmp, 1) := by decide +kernel
theorem dL_law_522 : decode cL_law 522 = .ok (.ifCond .eq 5, 3) := by decide +kernel
theorem dL_law_525 : decode cL_law 525 = .ok (.iconst 0, 1) := by decide +kernel
theorem dL_law_526 : decode cL_law 526 = .ok (.ireturn, 1) := by decide +kernel
theorem dL_law_527 : decode cL_law 527 = .ok (.goto 681, 3) := by decide +kernel
theorem dL_law_530 : decode cL_law 530 = .ok (.aload_n 1, 1) := by decide +kernel
theorem dL_law_531 : decode cL_law 531 = .ok (.aload_n 0, 1) := by decide +kernel
theorem dL_law_532 : decode cL_law 532 = .ok (.iload 4, 2) := by decide +kernel
theorem dL_law_534 : decode cL_law 534 = .ok (.iconst 1, 1) := by decide +kernel
theorem dL_law_535 : decode cL_law 535 = .ok (.iadd, 1) := by decide +kernel
theorem dL_law_536 : decode cL_law 536 = .ok (.iaload, 1) := by decide +kernel
theorem dL_law_537 : decode cL_law 537 = .ok (.aload_n 3, 1) := by decide +kernel
theorem dL_law_538 : decode cL_law 538 = .ok (.invokestatic 98, 3) := by decide +kernel
theorem dL_law_541 : decode cL_law 541 = .ok (.istore 5, 2) := by decide +kernel
theorem dL_law_543 : decode cL_law 543 = .ok (.aload_n 2, 1) := by decide +kernel
theorem dL_law_544 : decode cL_law 544 = .ok (.aload_n 0, 1) := by decide +kernel
theorem dL_law_545 : decode cL_law 545 = .ok (.iload 4, 2) := by decide +kernel
theorem dL_law_547 : decode cL_law 547 = .ok (.iconst 1, 1) := by decide +kernel
theorem dL_law_548 : decode cL_law 548 = .ok (.iadd, 1) := by decide +kernel
theorem dL_law_549 : decode cL_law 549 = .ok (.iaload, 1) := by decide +kernel
theorem dL_law_550 : decode cL_law 550 = .ok (.invokevirtual 101, 3) := by decide +kernel
theorem dL_law_553 : decode cL_law 553 = .ok (.istore 6, 2) := by decide +kernel
theorem dL_law_555 : decode cL_law 555 = .ok (.aload_n 2, 1) := by decide +kernel
theorem dL_law_556 : decode cL_law 556 = .ok (.invokevirtual 79, 3) := by decide +kernel
theorem dL_law_559 : decode cL_law 559 = .ok (.iload 5, 2) := by decide +kernel
theorem dL_law_561 : decode cL_law 561 = .ok (.if_icmp .eq 5, 3) := by decide +kernel
theorem dL_law_564 : decode cL_law 564 = .ok (.iconst 0, 1) := by decide +kernel
theorem dL_law_565 : decode cL_law 565 = .ok (.ireturn, 1) := by decide +kernel
theorem dL_law_566 : decode cL_law 566 = .ok (.iload 5, 2) := by decide +kernel
theorem dL_law_568 : decode cL_law 568 = .ok (.ifCond .ne 15, 3) := by decide +kernel
theorem dL_law_571 : decode cL_law 571 = .ok (.aload_n 3, 1) := by decide +kernel
theorem dL_law_572 : decode cL_law 572 = .ok (.iconst 0, 1) := by decide +kernel
theorem dL_law_573 : decode cL_law 573 = .ok (.laload, 1) := by decide +kernel
theorem dL_law_574 : decode cL_law 574 = .ok (.iload 6, 2) := by decide +kernel
theorem dL_law_576 : decode cL_law 576 = .ok (.i2l, 1) := by decide +kernel
theorem dL_law_577 : decode cL_law 577 = .ok (.lcmp, 1) := by decide +kernel
theorem dL_law_578 : decode cL_law 578 = .ok (.ifCond .eq 5, 3) := by decide +kernel
theorem dL_law_581 : decode cL_law 581 = .ok (.iconst 0, 1) := by decide +kernel
theorem dL_law_582 : decode cL_law 582 = .ok (.ireturn, 1) := by decide +kernel
theorem dL_law_583 : decode cL_law 583 = .ok (.goto 625, 3) := by decide +kernel
theorem dL_law_586 : decode cL_law 586 = .ok (.aload_n 1, 1) := by decide +kernel
theorem dL_law_587 : decode cL_law 587 = .ok (.aload_n 0, 1) := by decide +kernel
theorem dL_law_588 : decode cL_law 588 = .ok (.iload 4, 2) := by decide +kernel
theorem dL_law_590 : decode cL_law 590 = .ok (.iconst 1, 1) := by decide +kernel
theorem dL_law_591 : decode cL_law 591 = .ok (.iadd, 1) := by decide +kernel
theorem dL_law_592 : decode cL_law 592 = .ok (.iaload, 1) := by decide +kernel
theorem dL_law_593 : decode cL_law 593 = .ok (.aload_n 3, 1) := by decide +kernel
theorem dL_law_594 : decode cL_law 594 = .ok (.invokestatic 102, 3) := by decide +kernel
theorem dL_law_597 : decode cL_law 597 = .ok (.istore 5, 2) := by decide +kernel
theorem dL_law_599 : decode cL_law 599 = .ok (.aload_n 2, 1) := by decide +kernel
theorem dL_law_600 : decode cL_law 600 = .ok (.aload_n 0, 1) := by decide +kernel
theorem dL_law_601 : decode cL_law 601 = .ok (.iload 4, 2) := by decide +kernel
theorem dL_law_603 : decode cL_law 603 = .ok (.iconst 1, 1) := by decide +kernel
theorem dL_law_604 : decode cL_law 604 = .ok (.iadd, 1) := by decide +kernel
theorem dL_law_605 : decode cL_law 605 = .ok (.iaload, 1) := by decide +kernel
theorem dL_law_606 : decode cL_law 606 = .ok (.invokevirtual 104, 3) := by decide +kernel
theorem dL_law_609 : decode cL_law 609 = .ok (.istore 6, 2) := by decide +kernel
theorem dL_law_611 : decode cL_law 611 = .ok (.aload_n 2, 1) := by decide +kernel
theorem dL_law_612 : decode cL_law 612 = .ok (.invokevirtual 79, 3) := by decide +kernel
theorem dL_law_615 : decode cL_law 615 = .ok (.iload 5, 2) := by decide +kernel
theorem dL_law_617 : decode cL_law 617 = .ok (.if_icmp .eq 5, 3) := by decide +kernel
theorem dL_law_620 : decode cL_law 620 = .ok (.iconst 0, 1) := by decide +kernel
theorem dL_law_621 : decode cL_law 621 = .ok (.ireturn, 1) := by decide +kernel
theorem dL_law_622 : decode cL_law 622 = .ok (.iload 5, 2) := by decide +kernel
theorem dL_law_624 : decode cL_law 624 = .ok (.ifCond .ne 15, 3) := by decide +kernel
theorem dL_law_627 : decode cL_law 627 = .ok (.aload_n 3, 1) := by decide +kernel
theorem dL_law_628 : decode cL_law 628 = .ok (.iconst 0, 1) := by decide +kernel
theorem dL_law_629 : decode cL_law 629 = .ok (.laload, 1) := by decide +kernel
theorem dL_law_630 : decode cL_law 630 = .ok (.iload 6, 2) := by decide +kernel
theorem dL_law_632 : decode cL_law 632 = .ok (.i2l, 1) := by decide +kernel
theorem dL_law_633 : decode cL_law 633 = .ok (.lcmp, 1) := by decide +kernel
theorem dL_law_634 : decode cL_law 634 = .ok (.ifCond .eq 5, 3) := by decide +kernel
theorem dL_law_637 : decode cL_law 637 = .ok (.iconst 0, 1) := by decide +kernel
theorem dL_law_638 : decode cL_law 638 = .ok (.ireturn, 1) := by decide +kernel
theorem dL_law_639 : decode cL_law 639 = .ok (.goto 569, 3) := by decide +kernel
theorem dL_law_642 : decode cL_law 642 = .ok (.aload_n 1, 1) := by decide +kernel
theorem dL_law_643 : decode cL_law 643 = .ok (.aload_n 3, 1) := by decide +kernel
theorem dL_law_644 : decode cL_law 644 = .ok (.invokestatic 105, 3) := by decide +kernel
theorem dL_law_647 : decode cL_law 647 = .ok (.istore 5, 2) := by decide +kernel
theorem dL_law_649 : decode cL_law 649 = .ok (.aload_n 2, 1) := by decide +kernel
theorem dL_law_650 : decode cL_law 650 = .ok (.invokevirtual 108, 3) := by decide +kernel
theorem dL_law_653 : decode cL_law 653 = .ok (.istore 6, 2) := by decide +kernel
theorem dL_law_655 : decode cL_law 655 = .ok (.aload_n 2, 1) := by decide +kernel
theorem dL_law_656 : decode cL_law 656 = .ok (.invokevirtual 79, 3) := by decide +kernel
theorem dL_law_659 : decode cL_law 659 = .ok (.iload 5, 2) := by decide +kernel
theorem dL_law_661 : decode cL_law 661 = .ok (.if_icmp .eq 5, 3) := by decide +kernel
theorem dL_law_664 : decode cL_law 664 = .ok (.iconst 0, 1) := by decide +kernel
theorem dL_law_665 : decode cL_law 665 = .ok (.ireturn, 1) := by decide +kernel
theorem dL_law_666 : decode cL_law 666 = .ok (.iload 5, 2) := by decide +kernel
theorem dL_law_668 : decode cL_law 668 = .ok (.ifCond .ne 15, 3) := by decide +kernel
theorem dL_law_671 : decode cL_law 671 = .ok (.aload_n 3, 1) := by decide +kernel
theorem dL_law_672 : decode cL_law 672 = .ok (.iconst 0, 1) := by decide +kernel
theorem dL_law_673 : decode cL_law 673 = .ok (.laload, 1) := by decide +kernel
theorem dL_law_674 : decode cL_law 674 = .ok (.iload 6, 2) := by decide +kernel
theorem dL_law_676 : decode cL_law 676 = .ok (.i2l, 1) := by decide +kernel
theorem dL_law_677 : decode cL_law 677 = .ok (.lcmp, 1) := by decide +kernel
theorem dL_law_678 : decode cL_law 678 = .ok (.ifCond .eq 5, 3) := by decide +kernel
theorem dL_law_681 : decode cL_law 681 = .ok (.iconst 0, 1) := by decide +kernel
theorem dL_law_682 : decode cL_law 682 = .ok (.ireturn, 1) := by decide +kernel
theorem dL_law_683 : decode cL_law 683 = .ok (.goto 525, 3) := by decide +kernel
theorem dL_law_686 : decode cL_law 686 = .ok (.aload_n 1, 1) := by decide +kernel
theorem dL_law_687 : decode cL_law 687 = .ok (.aload_n 0, 1) := by decide +kernel
theorem dL_law_688 : decode cL_law 688 = .ok (.iload 4, 2) := by decide +kernel
theorem dL_law_690 : decode cL_law 690 = .ok (.iconst 1, 1) := by decide +kernel
theorem dL_law_691 : decode cL_law 691 = .ok (.iadd, 1) := by decide +kernel
theorem dL_law_692 : decode cL_law 692 = .ok (.iaload, 1) := by decide +kernel
theorem dL_law_693 : decode cL_law 693 = .ok (.aload_n 0, 1) := by decide +kernel
theorem dL_law_694 : decode cL_law 694 = .ok (.iload 4, 2) := by decide +kernel
theorem dL_law_696 : decode cL_law 696 = .ok (.iconst 2, 1) := by decide +kernel
theorem dL_law_697 : decode cL_law 697 = .ok (.iadd, 1) := by decide +kernel
theorem dL_law_698 : decode cL_law 698 = .ok (.iaload, 1) := by decide +kernel
theorem dL_law_699 : decode cL_law 699 = .ok (.aload_n 3, 1) := by decide +kernel
theorem dL_law_700 : decode cL_law 700 = .ok (.invokestatic 109, 3) := by decide +kernel
theorem dL_law_703 : decode cL_law 703 = .ok (.istore 5, 2) := by decide +kernel
theorem dL_law_705 : decode cL_law 705 = .ok (.aload_n 2, 1) := by decide +kernel
theorem dL_law_706 : decode cL_law 706 = .ok (.aload_n 0, 1) := by decide +kernel
theorem dL_law_707 : decode cL_law 707 = .ok (.iload 4, 2) := by decide +kernel
theorem dL_law_709 : decode cL_law 709 = .ok (.iconst 1, 1) := by decide +kernel
theorem dL_law_710 : decode cL_law 710 = .ok (.iadd, 1) := by decide +kernel
theorem dL_law_711 : decode cL_law 711 = .ok (.iaload, 1) := by decide +kernel
theorem dL_law_712 : decode cL_law 712 = .ok (.aload_n 0, 1) := by decide +kernel
theorem dL_law_713 : decode cL_law 713 = .ok (.iload 4, 2) := by decide +kernel
theorem dL_law_715 : decode cL_law 715 = .ok (.iconst 2, 1) := by decide +kernel
theorem dL_law_716 : decode cL_law 716 = .ok (.iadd, 1) := by decide +kernel
theorem dL_law_717 : decode cL_law 717 = .ok (.iaload, 1) := by decide +kernel
theorem dL_law_718 : decode cL_law 718 = .ok (.invokevirtual 111, 3) := by decide +kernel
theorem dL_law_721 : decode cL_law 721 = .ok (.istore 6, 2) := by decide +kernel
theorem dL_law_723 : decode cL_law 723 = .ok (.aload_n 2, 1) := by decide +kernel
theorem dL_law_724 : decode cL_law 724 = .ok (.invokevirtual 79, 3) := by decide +kernel
theorem dL_law_727 : decode cL_law 727 = .ok (.iload 5, 2) := by decide +kernel
theorem dL_law_729 : decode cL_law 729 = .ok (.if_icmp .eq 5, 3) := by decide +kernel
theorem dL_law_732 : decode cL_law 732 = .ok (.iconst 0, 1) := by decide +kernel
theorem dL_law_733 : decode cL_law 733 = .ok (.ireturn, 1) := by decide +kernel
theorem dL_law_734 : decode cL_law 734 = .ok (.iload 5, 2) := by decide +kernel
theorem dL_law_736 : decode cL_law 736 = .ok (.ifCond .ne 15, 3) := by decide +kernel
theorem dL_law_739 : decode cL_law 739 = .ok (.aload_n 3, 1) := by decide +kernel
theorem dL_law_740 : decode cL_law 740 = .ok (.iconst 0, 1) := by decide +kernel
theorem dL_law_741 : decode cL_law 741 = .ok (.laload, 1) := by decide +kernel
theorem dL_law_742 : decode cL_law 742 = .ok (.iload 6, 2) := by decide +kernel
theorem dL_law_744 : decode cL_law 744 = .ok (.i2l, 1) := by decide +kernel
theorem dL_law_745 : decode cL_law 745 = .ok (.lcmp, 1) := by decide +kernel
theorem dL_law_746 : decode cL_law 746 = .ok (.ifCond .eq 5, 3) := by decide +kernel
theorem dL_law_749 : decode cL_law 749 = .ok (.iconst 0, 1) := by decide +kernel
theorem dL_law_750 : decode cL_law 750 = .ok (.ireturn, 1) := by decide +kernel
theorem dL_law_751 : decode cL_law 751 = .ok (.goto 457, 3) := by decide +kernel
theorem dL_law_754 : decode cL_law 754 = .ok (.aload_n 1, 1) := by decide +kernel
theorem dL_law_755 : decode cL_law 755 = .ok (.invokevirtual 112, 3) := by decide +kernel
theorem dL_law_758 : decode cL_law 758 = .ok (.aload_n 2, 1) := by decide +kernel
theorem dL_law_759 : decode cL_law 759 = .ok (.invokevirtual 115, 3) := by decide +kernel
theorem dL_law_762 : decode cL_law 762 = .ok (.if_icmp .eq 446, 3) := by decide +kernel
theorem dL_law_765 : decode cL_law 765 = .ok (.iconst 0, 1) := by decide +kernel
theorem dL_law_766 : decode cL_law 766 = .ok (.ireturn, 1) := by decide +kernel
theorem dL_law_767 : decode cL_law 767 = .ok (.aload_n 1, 1) := by decide +kernel
theorem dL_law_768 : decode cL_law 768 = .ok (.aload_n 0, 1) := by decide +kernel
theorem dL_law_769 : decode cL_law 769 = .ok (.iload 4, 2) := by decide +kernel
theorem dL_law_771 : decode cL_law 771 = .ok (.iconst 1, 1) := by decide +kernel
theorem dL_law_772 : decode cL_law 772 = .ok (.iadd, 1) := by decide +kernel
theorem dL_law_773 : decode cL_law 773 = .ok (.iaload, 1) := by decide +kernel
theorem dL_law_774 : decode cL_law 774 = .ok (.aload_n 3, 1) := by decide +kernel
theorem dL_law_775 : decode cL_law 775 = .ok (.invokestatic 116, 3) := by decide +kernel
theorem dL_law_778 : decode cL_law 778 = .ok (.istore 5, 2) := by decide +kernel
theorem dL_law_780 : decode cL_law 780 = .ok (.aload_n 2, 1) := by decide +kernel
theorem dL_law_781 : decode cL_law 781 = .ok (.aload_n 0, 1) := by decide +kernel
theorem dL_law_782 : decode cL_law 782 = .ok (.iload 4, 2) := by decide +kernel
theorem dL_law_784 : decode cL_law 784 = .ok (.iconst 1, 1) := by decide +kernel
theorem dL_law_785 : decode cL_law 785 = .ok (.iadd, 1) := by decide +kernel
theorem dL_law_786 : decode cL_law 786 = .ok (.iaload, 1) := by decide +kernel
theorem dL_law_787 : decode cL_law 787 = .ok (.invokevirtual 118, 3) := by decide +kernel
theorem dL_law_790 : decode cL_law 790 = .ok (.istore 6, 2) := by decide +kernel
theorem dL_law_792 : decode cL_law 792 = .ok (.aload_n 2, 1) := by decide +kernel
theorem dL_law_793 : decode cL_law 793 = .ok (.invokevirtual 79, 3) := by decide +kernel
theorem dL_law_796 : decode cL_law 796 = .ok (.iload 5, 2) := by decide +kernel
theorem dL_law_798 : decode cL_law 798 = .ok (.if_icmp .eq 5, 3) := by decide +kernel
theorem dL_law_801 : decode cL_law 801 = .ok (.iconst 0, 1) := by decide +kernel
theorem dL_law_802 : decode cL_law 802 = .ok (.ireturn, 1) := by decide +kernel
theorem dL_law_803 : decode cL_law 803 = .ok (.iload 5, 2) := by decide +kernel
theorem dL_law_805 : decode cL_law 805 = .ok (.ifCond .ne 15, 3) := by decide +kernel
theorem dL_law_808 : decode cL_law 808 = .ok (.aload_n 3, 1) := by decide +kernel
theorem dL_law_809 : decode cL_law 809 = .ok (.iconst 0, 1) := by decide +kernel
theorem dL_law_810 : decode cL_law 810 = .ok (.laload, 1) := by decide +kernel
theorem dL_law_811 : decode cL_law 811 = .ok (.iload 6, 2) := by decide +kernel
theorem dL_law_813 : decode cL_law 813 = .ok (.i2l, 1) := by decide +kernel
theorem dL_law_814 : decode cL_law 814 = .ok (.lcmp, 1) := by decide +kernel
theorem dL_law_815 : decode cL_law 815 = .ok (.ifCond .eq 5, 3) := by decide +kernel
theorem dL_law_818 : decode cL_law 818 = .ok (.iconst 0, 1) := by decide +kernel
theorem dL_law_819 : decode cL_law 819 = .ok (.ireturn, 1) := by decide +kernel
theorem dL_law_820 : decode cL_law 820 = .ok (.goto 388, 3) := by decide +kernel
theorem dL_law_823 : decode cL_law 823 = .ok (.aload_n 1, 1) := by decide +kernel
theorem dL_law_824 : decode cL_law 824 = .ok (.invokevirtual 119, 3) := by decide +kernel
theorem dL_law_827 : decode cL_law 827 = .ok (.aload_n 2, 1) := by decide +kernel
theorem dL_law_828 : decode cL_law 828 = .ok (.invokevirtual 122, 3) := by decide +kernel
theorem dL_law_831 : decode cL_law 831 = .ok (.if_icmp .eq 377, 3) := by decide +kernel
theorem dL_law_834 : decode cL_law 834 = .ok (.iconst 0, 1) := by decide +kernel
theorem dL_law_835 : decode cL_law 835 = .ok (.ireturn, 1) := by decide +kernel
theorem dL_law_836 : decode cL_law 836 = .ok (.aload_n 1, 1) := by decide +kernel
theorem dL_law_837 : decode cL_law 837 = .ok (.invokevirtual 123, 3) := by decide +kernel
theorem dL_law_840 : decode cL_law 840 = .ok (.aload_n 2, 1) := by decide +kernel
theorem dL_law_841 : decode cL_law 841 = .ok (.invokevirtual 126, 3) := by decide +kernel
theorem dL_law_844 : decode cL_law 844 = .ok (.if_icmp .eq 364, 3) := by decide +kernel
theorem dL_law_847 : decode cL_law 847 = .ok (.iconst 0, 1) := by decide +kernel
theorem dL_law_848 : decode cL_law 848 = .ok (.ireturn, 1) := by decide +kernel
theorem dL_law_849 : decode cL_law 849 = .ok (.aload_n 1, 1) := by decide +kernel
theorem dL_law_850 : decode cL_law 850 = .ok (.invokevirtual 127, 3) := by decide +kernel
theorem dL_law_853 : decode cL_law 853 = .ok (.aload_n 2, 1) := by decide +kernel
theorem dL_law_854 : decode cL_law 854 = .ok (.invokevirtual 130, 3) := by decide +kernel
theorem dL_law_857 : decode cL_law 857 = .ok (.if_icmp .eq 351, 3) := by decide +kernel
theorem dL_law_860 : decode cL_law 860 = .ok (.iconst 0, 1) := by decide +kernel
theorem dL_law_861 : decode cL_law 861 = .ok (.ireturn, 1) := by decide +kernel
theorem dL_law_862 : decode cL_law 862 = .ok (.aload_n 1, 1) := by decide +kernel
theorem dL_law_863 : decode cL_law 863 = .ok (.invokevirtual 131, 3) := by decide +kernel
theorem dL_law_866 : decode cL_law 866 = .ok (.aload_n 2, 1) := by decide +kernel
theorem dL_law_867 : decode cL_law 867 = .ok (.invokevirtual 134, 3) := by decide +kernel
theorem dL_law_870 : decode cL_law 870 = .ok (.if_icmp .eq 338, 3) := by decide +kernel
theorem dL_law_873 : decode cL_law 873 = .ok (.iconst 0, 1) := by decide +kernel
theorem dL_law_874 : decode cL_law 874 = .ok (.ireturn, 1) := by decide +kernel
theorem dL_law_875 : decode cL_law 875 = .ok (.aload_n 1, 1) := by decide +kernel
theorem dL_law_876 : decode cL_law 876 = .ok (.invokevirtual 135, 3) := by decide +kernel
theorem dL_law_879 : decode cL_law 879 = .ok (.aload_n 2, 1) := by decide +kernel
theorem dL_law_880 : decode cL_law 880 = .ok (.invokevirtual 138, 3) := by decide +kernel
theorem dL_law_883 : decode cL_law 883 = .ok (.if_icmp .eq 325, 3) := by decide +kernel
theorem dL_law_886 : decode cL_law 886 = .ok (.iconst 0, 1) := by decide +kernel
theorem dL_law_887 : decode cL_law 887 = .ok (.ireturn, 1) := by decide +kernel
theorem dL_law_888 : decode cL_law 888 = .ok (.aload_n 1, 1) := by decide +kernel
theorem dL_law_889 : decode cL_law 889 = .ok (.aload_n 0, 1) := by decide +kernel
theorem dL_law_890 : decode cL_law 890 = .ok (.iload 4, 2) := by decide +kernel
theorem dL_law_892 : decode cL_law 892 = .ok (.iconst 1, 1) := by decide +kernel
theorem dL_law_893 : decode cL_law 893 = .ok (.iadd, 1) := by decide +kernel
theorem dL_law_894 : decode cL_law 894 = .ok (.iaload, 1) := by decide +kernel
theorem dL_law_895 : decode cL_law 895 = .ok (.aload_n 3, 1) := by decide +kernel
theorem dL_law_896 : decode cL_law 896 = .ok (.invokestatic 139, 3) := by decide +kernel
theorem dL_law_899 : decode cL_law 899 = .ok (.istore 5, 2) := by decide +kernel
theorem dL_law_901 : decode cL_law 901 = .ok (.aload_n 2, 1) := by decide +kernel
theorem dL_law_902 : decode cL_law 902 = .ok (.aload_n 0, 1) := by decide +kernel
theorem dL_law_903 : decode cL_law 903 = .ok (.iload 4, 2) := by decide +kernel
theorem dL_law_905 : decode cL_law 905 = .ok (.iconst 1, 1) := by decide +kernel
theorem dL_law_906 : decode cL_law 906 = .ok (.iadd, 1) := by decide +kernel
theorem dL_law_907 : decode cL_law 907 = .ok (.iaload, 1) := by decide +kernel
theorem dL_law_908 : decode cL_law 908 = .ok (.invokevirtual 141, 3) := by decide +kernel
theorem dL_law_911 : decode cL_law 911 = .ok (.istore 6, 2) := by decide +kernel
theorem dL_law_913 : decode cL_law 913 = .ok (.aload_n 2, 1) := by decide +kernel
theorem dL_law_914 : decode cL_law 914 = .ok (.invokevirtual 79, 3) := by decide +kernel
theorem dL_law_917 : decode cL_law 917 = .ok (.iload 5, 2) := by decide +kernel
theorem dL_law_919 : decode cL_law 919 = .ok (.if_icmp .eq 5, 3) := by decide +kernel
theorem dL_law_922 : decode cL_law 922 = .ok (.iconst 0, 1) := by decide +kernel
theorem dL_law_923 : decode cL_law 923 = .ok (.ireturn, 1) := by decide +kernel
theorem dL_law_924 : decode cL_law 924 = .ok (.iload 5, 2) := by decide +kernel
theorem dL_law_926 : decode cL_law 926 = .ok (.ifCond .ne 15, 3) := by decide +kernel
theorem dL_law_929 : decode cL_law 929 = .ok (.aload_n 3, 1) := by decide +kernel
theorem dL_law_930 : decode cL_law 930 = .ok (.iconst 0, 1) := by decide +kernel
theorem dL_law_931 : decode cL_law 931 = .ok (.laload, 1) := by decide +kernel
theorem dL_law_932 : decode cL_law 932 = .ok (.iload 6, 2) := by decide +kernel
theorem dL_law_934 : decode cL_law 934 = .ok (.i2l, 1) := by decide +kernel
theorem dL_law_935 : decode cL_law 935 = .ok (.lcmp, 1) := by decide +kernel
theorem dL_law_936 : decode cL_law 936 = .ok (.ifCond .eq 5, 3) := by decide +kernel
theorem dL_law_939 : decode cL_law 939 = .ok (.iconst 0, 1) := by decide +kernel
theorem dL_law_940 : decode cL_law 940 = .ok (.ireturn, 1) := by decide +kernel
theorem dL_law_941 : decode cL_law 941 = .ok (.goto 267, 3) := by decide +kernel
theorem dL_law_944 : decode cL_law 944 = .ok (.aload_n 1, 1) := by decide +kernel
theorem dL_law_945 : decode cL_law 945 = .ok (.aload_n 0, 1) := by decide +kernel
theorem dL_law_946 : decode cL_law 946 = .ok (.iload 4, 2) := by decide +kernel
theorem dL_law_948 : decode cL_law 948 = .ok (.iconst 1, 1) := by decide +kernel
theorem dL_law_949 : decode cL_law 949 = .ok (.iadd, 1) := by decide +kernel
theorem dL_law_950 : decode cL_law 950 = .ok (.iaload, 1) := by decide +kernel
theorem dL_law_951 : decode cL_law 951 = .ok (.aload_n 0, 1) := by decide +kernel
theorem dL_law_952 : decode cL_law 952 = .ok (.iload 4, 2) := by decide +kernel
theorem dL_law_954 : decode cL_law 954 = .ok (.iconst 2, 1) := by decide +kernel
theorem dL_law_955 : decode cL_law 955 = .ok (.iadd, 1) := by decide +kernel
theorem dL_law_956 : decode cL_law 956 = .ok (.iaload, 1) := by decide +kernel
theorem dL_law_957 : decode cL_law 957 = .ok (.aload_n 3, 1) := by decide +kernel
theorem dL_law_958 : decode cL_law 958 = .ok (.invokestatic 142, 3) := by decide +kernel
theorem dL_law_961 : decode cL_law 961 = .ok (.istore 5, 2) := by decide +kernel
theorem dL_law_963 : decode cL_law 963 = .ok (.aload_n 2, 1) := by decide +kernel
theorem dL_law_964 : decode cL_law 964 = .ok (.aload_n 0, 1) := by decide +kernel
theorem dL_law_965 : decode cL_law 965 = .ok (.iload 4, 2) := by decide +kernel
theorem dL_law_967 : decode cL_law 967 = .ok (.iconst 1, 1) := by decide +kernel
theorem dL_law_968 : decode cL_law 968 = .ok (.iadd, 1) := by decide +kernel
theorem dL_law_969 : decode cL_law 969 = .ok (.iaload, 1) := by decide +kernel
theorem dL_law_970 : decode cL_law 970 = .ok (.aload_n 0, 1) := by decide +kernel
theorem dL_law_971 : decode cL_law 971 = .ok (.iload 4, 2) := by decide +kernel
theorem dL_law_973 : decode cL_law 973 = .ok (.iconst 2, 1) := by decide +kernel
theorem dL_law_974 : decode cL_law 974 = .ok (.iadd, 1) := by decide +kernel
theorem dL_law_975 : decode cL_law 975 = .ok (.iaload, 1) := by decide +kernel
theorem dL_law_976 : decode cL_law 976 = .ok (.invokevirtual 144, 3) := by decide +kernel
theorem dL_law_979 : decode cL_law 979 = .ok (.istore 6, 2) := by decide +kernel
theorem dL_law_981 : decode cL_law 981 = .ok (.aload_n 2, 1) := by decide +kernel
theorem dL_law_982 : decode cL_law 982 = .ok (.invokevirtual 79, 3) := by decide +kernel
theorem dL_law_985 : decode cL_law 985 = .ok (.iload 5, 2) := by decide +kernel
theorem dL_law_987 : decode cL_law 987 = .ok (.if_icmp .eq 5, 3) := by decide +kernel
theorem dL_law_990 : decode cL_law 990 = .ok (.iconst 0, 1) := by decide +kernel
theorem dL_law_991 : decode cL_law 991 = .ok (.ireturn, 1) := by decide +kernel
theorem dL_law_992 : decode cL_law 992 = .ok (.iload 5, 2) := by decide +kernel
theorem dL_law_994 : decode cL_law 994 = .ok (.ifCond .ne 15, 3) := by decide +kernel
theorem dL_law_997 : decode cL_law 997 = .ok (.aload_n 3, 1) := by decide +kernel
theorem dL_law_998 : decode cL_law 998 = .ok (.iconst 0, 1) := by decide +kernel
theorem dL_law_999 : decode cL_law 999 = .ok (.laload, 1) := by decide +kernel
theorem dL_law_1000 : decode cL_law 1000 = .ok (.iload 6, 2) := by decide +kernel
theorem dL_law_1002 : decode cL_law 1002 = .ok (.i2l, 1) := by decide +kernel
theorem dL_law_1003 : decode cL_law 1003 = .ok (.lcmp, 1) := by decide +kernel
theorem dL_law_1004 : decode cL_law 1004 = .ok (.ifCond .eq 5, 3) := by decide +kernel
theorem dL_law_1007 : decode cL_law 1007 = .ok (.iconst 0, 1) := by decide +kernel
theorem dL_law_1008 : decode cL_law 1008 = .ok (.ireturn, 1) := by decide +kernel
theorem dL_law_1009 : decode cL_law 1009 = .ok (.goto 199, 3) := by decide +kernel
theorem dL_law_1012 : decode cL_law 1012 = .ok (.aload_n 1, 1) := by decide +kernel
theorem dL_law_1013 : decode cL_law 1013 = .ok (.aload_n 0, 1) := by decide +kernel
theorem dL_law_1014 : decode cL_law 1014 = .ok (.iload 4, 2) := by decide +kernel
theorem dL_law_1016 : decode cL_law 1016 = .ok (.iconst 1, 1) := by decide +kernel
theorem dL_law_1017 : decode cL_law 1017 = .ok (.iadd, 1) := by decide +kernel
theorem dL_law_1018 : decode cL_law 1018 = .ok (.iaload, 1) := by decide +kernel
theorem dL_law_1019 : decode cL_law 1019 = .ok (.aload_n 3, 1) := by decide +kernel
theorem dL_law_1020 : decode cL_law 1020 = .ok (.invokestatic 145, 3) := by decide +kernel
theorem dL_law_1023 : decode cL_law 1023 = .ok (.istore 5, 2) := by decide +kernel
theorem dL_law_1025 : decode cL_law 1025 = .ok (.aload_n 2, 1) := by decide +kernel
theorem dL_law_1026 : decode cL_law 1026 = .ok (.aload_n 0, 1) := by decide +kernel
theorem dL_law_1027 : decode cL_law 1027 = .ok (.iload 4, 2) := by decide +kernel
theorem dL_law_1029 : decode cL_law 1029 = .ok (.iconst 1, 1) := by decide +kernel
theorem dL_law_1030 : decode cL_law 1030 = .ok (.iadd, 1) := by decide +kernel
theorem dL_law_1031 : decode cL_law 1031 = .ok (.iaload, 1) := by decide +kernel
theorem dL_law_1032 : decode cL_law 1032 = .ok (.invokevirtual 147, 3) := by decide +kernel
theorem dL_law_1035 : decode cL_law 1035 = .ok (.istore 6, 2) := by decide +kernel
theorem dL_law_1037 : decode cL_law 1037 = .ok (.aload_n 2, 1) := by decide +kernel
theorem dL_law_1038 : decode cL_law 1038 = .ok (.invokevirtual 79, 3) := by decide +kernel
theorem dL_law_1041 : decode cL_law 1041 = .ok (.iload 5, 2) := by decide +kernel
theorem dL_law_1043 : decode cL_law 1043 = .ok (.if_icmp .eq 5, 3) := by decide +kernel
theorem dL_law_1046 : decode cL_law 1046 = .ok (.iconst 0, 1) := by decide +kernel
theorem dL_law_1047 : decode cL_law 1047 = .ok (.ireturn, 1) := by decide +kernel
theorem dL_law_1048 : decode cL_law 1048 = .ok (.iload 5, 2) := by decide +kernel
theorem dL_law_1050 : decode cL_law 1050 = .ok (.ifCond .ne 22, 3) := by decide +kernel
theorem dL_law_1053 : decode cL_law 1053 = .ok (.aload_n 3, 1) := by decide +kernel
theorem dL_law_1054 : decode cL_law 1054 = .ok (.iconst 0, 1) := by decide +kernel
theorem dL_law_1055 : decode cL_law 1055 = .ok (.laload, 1) := by decide +kernel
theorem dL_law_1056 : decode cL_law 1056 = .ok (.iload 6, 2) := by decide +kernel
theorem dL_law_1058 : decode cL_law 1058 = .ok (.ifCond .eq 7, 3) := by decide +kernel
theorem dL_law_1061 : decode cL_law 1061 = .ok (.lconst 1, 1) := by decide +kernel
theorem dL_law_1062 : decode cL_law 1062 = .ok (.goto 4, 3) := by decide +kernel
theorem dL_law_1065 : decode cL_law 1065 = .ok (.lconst 0, 1) := by decide +kernel
theorem dL_law_1066 : decode cL_law 1066 = .ok (.lcmp, 1) := by decide +kernel
theorem dL_law_1067 : decode cL_law 1067 = .ok (.ifCond .eq 5, 3) := by decide +kernel
theorem dL_law_1070 : decode cL_law 1070 = .ok (.iconst 0, 1) := by decide +kernel
theorem dL_law_1071 : decode cL_law 1071 = .ok (.ireturn, 1) := by decide +kernel
theorem dL_law_1072 : decode cL_law 1072 = .ok (.goto 136, 3) := by decide +kernel
theorem dL_law_1075 : decode cL_law 1075 = .ok (.aload_n 1, 1) := by decide +kernel
theorem dL_law_1076 : decode cL_law 1076 = .ok (.invokevirtual 148, 3) := by decide +kernel
theorem dL_law_1079 : decode cL_law 1079 = .ok (.aload_n 2, 1) := by decide +kernel
theorem dL_law_1080 : decode cL_law 1080 = .ok (.invokevirtual 151, 3) := by decide +kernel
theorem dL_law_1083 : decode cL_law 1083 = .ok (.if_icmp .eq 125, 3) := by decide +kernel
theorem dL_law_1086 : decode cL_law 1086 = .ok (.iconst 0, 1) := by decide +kernel
theorem dL_law_1087 : decode cL_law 1087 = .ok (.ireturn, 1) := by decide +kernel
theorem dL_law_1088 : decode cL_law 1088 = .ok (.aload_n 1, 1) := by decide +kernel
theorem dL_law_1089 : decode cL_law 1089 = .ok (.invokevirtual 152, 3) := by decide +kernel
theorem dL_law_1092 : decode cL_law 1092 = .ok (.aload_n 2, 1) := by decide +kernel
theorem dL_law_1093 : decode cL_law 1093 = .ok (.invokevirtual 155, 3) := by decide +kernel
theorem dL_law_1096 : decode cL_law 1096 = .ok (.if_icmp .eq 112, 3) := by decide +kernel
theorem dL_law_1099 : decode cL_law 1099 = .ok (.iconst 0, 1) := by decide +kernel
theorem dL_law_1100 : decode cL_law 1100 = .ok (.ireturn, 1) := by decide +kernel
theorem dL_law_1101 : decode cL_law 1101 = .ok (.aload_n 1, 1) := by decide +kernel
theorem dL_law_1102 : decode cL_law 1102 = .ok (.aload_n 3, 1) := by decide +kernel
theorem dL_law_1103 : decode cL_law 1103 = .ok (.invokestatic 156, 3) := by decide +kernel
theorem dL_law_1106 : decode cL_law 1106 = .ok (.istore 5, 2) := by decide +kernel
theorem dL_law_1108 : decode cL_law 1108 = .ok (.aload_n 2, 1) := by decide +kernel
theorem dL_law_1109 : decode cL_law 1109 = .ok (.invokevirtual 158, 3) := by decide +kernel
theorem dL_law_1112 : decode cL_law 1112 = .ok (.istore 6, 2) := by decide +kernel
theorem dL_law_1114 : decode cL_law 1114 = .ok (.aload_n 2, 1) := by decide +kernel
theorem dL_law_1115 : decode cL_law 1115 = .ok (.invokevirtual 79, 3) := by decide +kernel
theorem dL_law_1118 : decode cL_law 1118 = .ok (.iload 5, 2) := by decide +kernel
theorem dL_law_1120 : decode cL_law 1120 = .ok (.if_icmp .eq 5, 3) := by decide +kernel
theorem dL_law_1123 : decode cL_law 1123 = .ok (.iconst 0, 1) := by decide +kernel
theorem dL_law_1124 : decode cL_law 1124 = .ok (.ireturn, 1) := by decide +kernel
theorem dL_law_1125 : decode cL_law 1125 = .ok (.iload 5, 2) := by decide +kernel
theorem dL_law_1127 : decode cL_law 1127 = .ok (.ifCond .ne 22, 3) := by decide +kernel
theorem dL_law_1130 : decode cL_law 1130 = .ok (.aload_n 3, 1) := by decide +kernel
theorem dL_law_1131 : decode cL_law 1131 = .ok (.iconst 0, 1) := by decide +kernel
theorem dL_law_1132 : decode cL_law 1132 = .ok (.laload, 1) := by decide +kernel
theorem dL_law_1133 : decode cL_law 1133 = .ok (.iload 6, 2) := by decide +kernel
theorem dL_law_1135 : decode cL_law 1135 = .ok (.ifCond .eq 7, 3) := by decide +kernel
theorem dL_law_1138 : decode cL_law 1138 = .ok (.lconst 1, 1) := by decide +kernel
theorem dL_law_1139 : decode cL_law 1139 = .ok (.goto 4, 3) := by decide +kernel
theorem dL_law_1142 : decode cL_law 1142 = .ok (.lconst 0, 1) := by decide +kernel
theorem dL_law_1143 : decode cL_law 1143 = .ok (.lcmp, 1) := by decide +kernel
theorem dL_law_1144 : decode cL_law 1144 = .ok (.ifCond .eq 5, 3) := by decide +kernel
theorem dL_law_1147 : decode cL_law 1147 = .ok (.iconst 0, 1) := by decide +kernel
theorem dL_law_1148 : decode cL_law 1148 = .ok (.ireturn, 1) := by decide +kernel
theorem dL_law_1149 : decode cL_law 1149 = .ok (.goto 59, 3) := by decide +kernel
theorem dL_law_1152 : decode cL_law 1152 = .ok (.aload_n 1, 1) := by decide +kernel
theorem dL_law_1153 : decode cL_law 1153 = .ok (.aload_n 0, 1) := by decide +kernel
theorem dL_law_1154 : decode cL_law 1154 = .ok (.iload 4, 2) := by decide +kernel
theorem dL_law_1156 : decode cL_law 1156 = .ok (.iconst 1, 1) := by decide +kernel
theorem dL_law_1157 : decode cL_law 1157 = .ok (.iadd, 1) := by decide +kernel
theorem dL_law_1158 : decode cL_law 1158 = .ok (.iaload, 1) := by decide +kernel
theorem dL_law_1159 : decode cL_law 1159 = .ok (.aload_n 3, 1) := by decide +kernel
theorem dL_law_1160 : decode cL_law 1160 = .ok (.invokestatic 159, 3) := by decide +kernel
theorem dL_law_1163 : decode cL_law 1163 = .ok (.istore 5, 2) := by decide +kernel
theorem dL_law_1165 : decode cL_law 1165 = .ok (.aload_n 2, 1) := by decide +kernel
theorem dL_law_1166 : decode cL_law 1166 = .ok (.aload_n 0, 1) := by decide +kernel
theorem dL_law_1167 : decode cL_law 1167 = .ok (.iload 4, 2) := by decide +kernel
theorem dL_law_1169 : decode cL_law 1169 = .ok (.iconst 1, 1) := by decide +kernel
theorem dL_law_1170 : decode cL_law 1170 = .ok (.iadd, 1) := by decide +kernel
theorem dL_law_1171 : decode cL_law 1171 = .ok (.iaload, 1) := by decide +kernel
theorem dL_law_1172 : decode cL_law 1172 = .ok (.invokevirtual 161, 3) := by decide +kernel
theorem dL_law_1175 : decode cL_law 1175 = .ok (.istore 6, 2) := by decide +kernel
theorem dL_law_1177 : decode cL_law 1177 = .ok (.aload_n 2, 1) := by decide +kernel
theorem dL_law_1178 : decode cL_law 1178 = .ok (.invokevirtual 79, 3) := by decide +kernel
theorem dL_law_1181 : decode cL_law 1181 = .ok (.iload 5, 2) := by decide +kernel
theorem dL_law_1183 : decode cL_law 1183 = .ok (.if_icmp .eq 5, 3) := by decide +kernel
theorem dL_law_1186 : decode cL_law 1186 = .ok (.iconst 0, 1) := by decide +kernel
theorem dL_law_1187 : decode cL_law 1187 = .ok (.ireturn, 1) := by decide +kernel
theorem dL_law_1188 : decode cL_law 1188 = .ok (.iload 5, 2) := by decide +kernel
theorem dL_law_1190 : decode cL_law 1190 = .ok (.ifCond .ne 15, 3) := by decide +kernel
theorem dL_law_1193 : decode cL_law 1193 = .ok (.aload_n 3, 1) := by decide +kernel
theorem dL_law_1194 : decode cL_law 1194 = .ok (.iconst 0, 1) := by decide +kernel
theorem dL_law_1195 : decode cL_law 1195 = .ok (.laload, 1) := by decide +kernel
theorem dL_law_1196 : decode cL_law 1196 = .ok (.iload 6, 2) := by decide +kernel
theorem dL_law_1198 : decode cL_law 1198 = .ok (.i2l, 1) := by decide +kernel
theorem dL_law_1199 : decode cL_law 1199 = .ok (.lcmp, 1) := by decide +kernel
theorem dL_law_1200 : decode cL_law 1200 = .ok (.ifCond .eq 5, 3) := by decide +kernel
theorem dL_law_1203 : decode cL_law 1203 = .ok (.iconst 0, 1) := by decide +kernel
theorem dL_law_1204 : decode cL_law 1204 = .ok (.ireturn, 1) := by decide +kernel
theorem dL_law_1205 : decode cL_law 1205 = .ok (.goto 3, 3) := by decide +kernel
theorem dL_law_1208 : decode cL_law 1208 = .ok (.iinc 4 7, 3) := by decide +kernel
theorem dL_law_1211 : decode cL_law 1211 = .ok (.goto (-1188), 3) := by decide +kernel
theorem dL_law_1214 : decode cL_law 1214 = .ok (.iconst 1, 1) := by decide +kernel
theorem dL_law_1215 : decode cL_law 1215 = .ok (.ireturn, 1) := by decide +kernel
end
section
/-! the good words of the tables, each by its place -/
def zTs : List Cond := lw_tbl.filter goodWord
theorem zTs_in : ∀ w ∈ zTs, w ∈ lw_tbl := fun _ h => (List.mem_filter.mp h).1
theorem zTs_good : ∀ w ∈ zTs, goodWord w = true := fun _ h => (List.mem_filter.mp h).2
theorem zq {w : Cond} (i : Nat) (h : lw_tbl[i]? = some w) (g : goodWord w = true) : w ∈ zTs := List.mem_filter.mpr ⟨List.mem_of_getElem? h, g⟩
theorem zqs {ws : List Cond} (ps : List Nat) (h : ws = ps.filterMap (fun i => lw_tbl[i]?)) (g : ws.all goodWord = true) : ∀ w ∈ ws, w ∈ zTs := by
  intro w hw
  refine List.mem_filter.mpr ⟨?_, List.all_eq_true.mp g w hw⟩
  rw [h] at hw
  obtain ⟨i, -, hi⟩ := List.mem_filterMap.mp hw
  exact List.mem_of_getElem? hi
theorem inZ0 : ∀ w ∈ u_ws RX0 TX0 2, w ∈ zTs := zqs [145, 147] (by decide +kernel) (by decide +kernel)
theorem inZ1 : ∀ w ∈ u_ws RX1 TX1 10, w ∈ zTs := zqs [89, 91, 93, 95, 97, 99, 101, 103, 105, 107] (by decide +kernel) (by decide +kernel)
theorem inZ2 : ∀ w ∈ u_ws RX2 TX2 4, w ∈ zTs := zqs [126, 128, 130, 132] (by decide +kernel) (by decide +kernel)
theorem inZ3 : ∀ w ∈ u_ws RX3 TX3 8, w ∈ zTs := zqs [159, 161, 163, 165, 167, 169, 171, 173] (by decide +kernel) (by decide +kernel)
theorem inZ4 : ∀ w ∈ u_ws RX4 TX4 21, w ∈ zTs := zqs [616, 618, 620, 622, 624, 626, 628, 630, 632, 634, 636, 638, 640, 642, 644, 646, 648, 650, 652, 654, 656] (by decide +kernel) (by decide +kernel)
set_option maxRecDepth 20000 in
theorem q_se_X3_stepCount : Cond.selects RX3 yX3_stepCount yX3_stepCount ∈ zTs := zq 0 rfl rfl
set_option maxRecDepth 20000 in
theorem q_se_X3_workingAmong : Cond.selects RX3 yX3_workingAmong yX3_workingAmong ∈ zTs := zq 1 rfl rfl
set_option maxRecDepth 20000 in
theorem q_se_X3_hasScoreFor : Cond.selects RX3 yX3_hasScoreFor yX3_hasScoreFor ∈ zTs := zq 2 rfl rfl
set_option maxRecDepth 20000 in
theorem q_se_X3_hasLevelFor : Cond.selects RX3 yX3_hasLevelFor yX3_hasLevelFor ∈ zTs := zq 3 rfl rfl
set_option maxRecDepth 20000 in
theorem q_se_X3_isOtherIn : Cond.selects RX3 yX3_isOtherIn yX3_isOtherIn ∈ zTs := zq 4 rfl rfl
set_option maxRecDepth 20000 in
theorem q_se_X3_mayTake : Cond.selects RX3 yX3_mayTake yX3_mayTake ∈ zTs := zq 5 rfl rfl
set_option maxRecDepth 20000 in
theorem q_se_X3_isBarred : Cond.selects RX3 yX3_isBarred yX3_isBarred ∈ zTs := zq 6 rfl rfl
set_option maxRecDepth 20000 in
theorem q_se_X3_pointsLeft : Cond.selects RX3 yX3_pointsLeft yX3_pointsLeft ∈ zTs := zq 7 rfl rfl
set_option maxRecDepth 20000 in
theorem q_se_X3_canReach : Cond.selects RX3 yX3_canReach yX3_canReach ∈ zTs := zq 8 rfl rfl
set_option maxRecDepth 20000 in
theorem q_se_X3_markSets : Cond.selects RX3 yX3_markSets yX3_markSets ∈ zTs := zq 9 rfl rfl
set_option maxRecDepth 20000 in
theorem q_se_X3_firstStepTowards : Cond.selects RX3 yX3_firstStepTowards yX3_firstStepTowards ∈ zTs := zq 10 rfl rfl
set_option maxRecDepth 20000 in
theorem q_se_X3_isStepTowards : Cond.selects RX3 yX3_isStepTowards yX3_isStepTowards ∈ zTs := zq 11 rfl rfl
set_option maxRecDepth 20000 in
theorem q_se_X3_isMarked : Cond.selects RX3 yX3_isMarked yX3_isMarked ∈ zTs := zq 12 rfl rfl
set_option maxRecDepth 20000 in
theorem q_se_X3_wordOfTrial : Cond.selects RX3 yX3_wordOfTrial yX3_wordOfTrial ∈ zTs := zq 13 rfl rfl
set_option maxRecDepth 20000 in
theorem q_se_X3_bitOfTrial : Cond.selects RX3 yX3_bitOfTrial yX3_bitOfTrial ∈ zTs := zq 14 rfl rfl
set_option maxRecDepth 20000 in
theorem q_se_X3_mark : Cond.selects RX3 yX3_mark yX3_mark ∈ zTs := zq 15 rfl rfl
set_option maxRecDepth 20000 in
theorem q_se_X3_leadsIntoRing : Cond.selects RX3 yX3_leadsIntoRing yX3_leadsIntoRing ∈ zTs := zq 17 rfl rfl
set_option maxRecDepth 20000 in
theorem q_se_X3_sumOf : Cond.selects RX3 yX3_sumOf yX3_sumOf ∈ zTs := zq 18 rfl rfl
set_option maxRecDepth 20000 in
theorem q_se_X3_modifierOf : Cond.selects RX3 yX3_modifierOf yX3_modifierOf ∈ zTs := zq 19 rfl rfl
set_option maxRecDepth 20000 in
theorem q_se_X3_bonusFrom : Cond.selects RX3 yX3_bonusFrom yX3_bonusFrom ∈ zTs := zq 20 rfl rfl
set_option maxRecDepth 20000 in
theorem q_se_X3_someOrderEnds : Cond.selects RX3 yX3_someOrderEnds yX3_someOrderEnds ∈ zTs := zq 21 rfl rfl
set_option maxRecDepth 20000 in
theorem q_se_X3_stepOfFirstOrder : Cond.selects RX3 yX3_stepOfFirstOrder yX3_stepOfFirstOrder ∈ zTs := zq 22 rfl rfl
set_option maxRecDepth 20000 in
theorem q_se_X4_goes : Cond.selects RX4 yX4_goes yX4_goes ∈ zTs := zq 23 rfl rfl
set_option maxRecDepth 20000 in
theorem q_se_X4_cost : Cond.selects RX4 yX4_cost yX4_cost ∈ zTs := zq 24 rfl rfl
set_option maxRecDepth 20000 in
theorem q_se_X4_mayTakeNow : Cond.selects RX4 yX4_mayTakeNow yX4_mayTakeNow ∈ zTs := zq 25 rfl rfl
set_option maxRecDepth 20000 in
theorem q_se_X4_mayTake : Cond.selects RX4 yX4_mayTake yX4_mayTake ∈ zTs := zq 26 rfl rfl
set_option maxRecDepth 20000 in
theorem q_se_X4_areScores : Cond.selects RX4 yX4_areScores yX4_areScores ∈ zTs := zq 27 rfl rfl
set_option maxRecDepth 20000 in
theorem q_se_X4_isLawfulWith : Cond.selects RX4 yX4_isLawfulWith yX4_isLawfulWith ∈ zTs := zq 28 rfl rfl
set_option maxRecDepth 20000 in
theorem q_se_X4_place : Cond.selects RX4 yX4_place yX4_place ∈ zTs := zq 29 rfl rfl
set_option maxRecDepth 20000 in
theorem q_se_X4_leadsOn : Cond.selects RX4 yX4_leadsOn yX4_leadsOn ∈ zTs := zq 30 rfl rfl
set_option maxRecDepth 20000 in
theorem q_se_X4_workingOf : Cond.selects RX4 yX4_workingOf yX4_workingOf ∈ zTs := zq 31 rfl rfl
set_option maxRecDepth 20000 in
theorem q_se_X4_told : Cond.selects RX4 yX4_told yX4_told ∈ zTs := zq 32 rfl rfl
set_option maxRecDepth 20000 in
theorem q_se_X4_isEndless : Cond.selects RX4 yX4_isEndless yX4_isEndless ∈ zTs := zq 33 rfl rfl
set_option maxRecDepth 20000 in
theorem q_se_X4_alone : Cond.selects RX4 yX4_alone yX4_alone ∈ zTs := zq 34 rfl rfl
set_option maxRecDepth 20000 in
theorem q_se_X4_bonusOf : Cond.selects RX4 yX4_bonusOf yX4_bonusOf ∈ zTs := zq 35 rfl rfl
set_option maxRecDepth 20000 in
theorem q_se_X4_firstStep : Cond.selects RX4 yX4_firstStep yX4_firstStep ∈ zTs := zq 36 rfl rfl
set_option maxRecDepth 20000 in
theorem q_in_L : Cond.initialized RL ∈ zTs := zq 37 rfl rfl
set_option maxRecDepth 20000 in
theorem q_in_X3 : Cond.initialized RX3 ∈ zTs := zq 38 rfl rfl
set_option maxRecDepth 20000 in
theorem q_in_X1 : Cond.initialized RX1 ∈ zTs := zq 39 rfl rfl
set_option maxRecDepth 20000 in
theorem q_in_J7 : Cond.initialized RJ7 ∈ zTs := zq 40 rfl rfl
set_option maxRecDepth 20000 in
theorem q_in_X2 : Cond.initialized RX2 ∈ zTs := zq 41 rfl rfl
set_option maxRecDepth 20000 in
theorem q_in_X0 : Cond.initialized RX0 ∈ zTs := zq 42 rfl rfl
set_option maxRecDepth 20000 in
theorem q_in_X4 : Cond.initialized RX4 ∈ zTs := zq 43 rfl rfl
set_option maxRecDepth 20000 in
theorem q_in_java_lang_Throwable : Cond.initialized "java/lang/Throwable" ∈ zTs := zq 44 rfl rfl
set_option maxRecDepth 20000 in
theorem q_in_java_lang_Exception : Cond.initialized "java/lang/Exception" ∈ zTs := zq 45 rfl rfl
set_option maxRecDepth 20000 in
theorem q_in_java_lang_RuntimeException : Cond.initialized "java/lang/RuntimeException" ∈ zTs := zq 46 rfl rfl
set_option maxRecDepth 20000 in
theorem q_in_java_lang_IndexOutOfBoundsException : Cond.initialized "java/lang/IndexOutOfBoundsException" ∈ zTs := zq 47 rfl rfl
set_option maxRecDepth 20000 in
theorem q_in_java_lang_IllegalArgumentException : Cond.initialized "java/lang/IllegalArgumentException" ∈ zTs := zq 48 rfl rfl
set_option maxRecDepth 20000 in
theorem q_in_J9 : Cond.initialized RJ9 ∈ zTs := zq 49 rfl rfl
set_option maxRecDepth 20000 in
theorem q_in_java_lang_IllegalStateException : Cond.initialized "java/lang/IllegalStateException" ∈ zTs := zq 50 rfl rfl
set_option maxRecDepth 20000 in
theorem q_in_J6 : Cond.initialized RJ6 ∈ zTs := zq 51 rfl rfl
set_option maxRecDepth 20000 in
theorem q_cl_L_8 : Cond.classLink RL 8 RX3 ∈ zTs := zq 52 rfl rfl
set_option maxRecDepth 20000 in
theorem q_is_X3 : Cond.instantiable RX3 8 ∈ zTs := zq 53 rfl rfl
set_option maxRecDepth 20000 in
theorem q_ml_L_69 : Cond.methodLink RL 69 yX3_init ∈ zTs := zq 54 rfl rfl
set_option maxRecDepth 20000 in
theorem q_im_X3_init : Cond.instanceMethod yX3_init ∈ zTs := zq 55 rfl rfl
set_option maxRecDepth 20000 in
theorem q_co_X3_init : Cond.code yX3_init cX3_init 1 none ∈ zTs := zq 56 rfl rfl
set_option maxRecDepth 20000 in
theorem q_ml_X3_3 : Cond.methodLink RX3 3 objectInit ∈ zTs := zq 57 rfl rfl
set_option maxRecDepth 20000 in
theorem q_im_objectInit : Cond.instanceMethod objectInit ∈ zTs := zq 58 rfl rfl
set_option maxRecDepth 20000 in
theorem q_co_objectInit : Cond.code objectInit ⟨#[0xb1]⟩ 1 none ∈ zTs := zq 59 rfl rfl
set_option maxRecDepth 20000 in
theorem q_cl_X3_9 : Cond.classLink RX3 9 RX1 ∈ zTs := zq 60 rfl rfl
set_option maxRecDepth 20000 in
theorem q_is_X1 : Cond.instantiable RX1 10 ∈ zTs := zq 61 rfl rfl
set_option maxRecDepth 20000 in
theorem q_ml_X3_11 : Cond.methodLink RX3 11 yX1_init ∈ zTs := zq 62 rfl rfl
set_option maxRecDepth 20000 in
theorem q_im_X1_init : Cond.instanceMethod yX1_init ∈ zTs := zq 63 rfl rfl
set_option maxRecDepth 20000 in
theorem q_co_X1_init : Cond.code yX1_init cX1_init 1 none ∈ zTs := zq 64 rfl rfl
set_option maxRecDepth 20000 in
theorem q_ml_X1_3 : Cond.methodLink RX1 3 objectInit ∈ zTs := zq 65 rfl rfl
set_option maxRecDepth 20000 in
theorem q_ml_X1_42 : Cond.methodLink RX1 42 yJ7_fill_53178 ∈ zTs := zq 66 rfl rfl
set_option maxRecDepth 20000 in
theorem q_st_J7_fill_53178 : Cond.static yJ7_fill_53178 ∈ zTs := zq 67 rfl rfl
set_option maxRecDepth 20000 in
theorem q_co_J7_fill_53178 : Cond.code yJ7_fill_53178 cJ7_fill_53178 4 none ∈ zTs := zq 68 rfl rfl
set_option maxRecDepth 20000 in
theorem q_fl_X1_9 : Cond.fieldLink RX1 9 "Rulesheet$GiftRules" "ability" "[I" ∈ zTs := zq 69 rfl rfl
set_option maxRecDepth 20000 in
theorem q_fl_X3_78 : Cond.fieldLink RX3 78 "Rulesheet$GiftRules" "ability" "[I" ∈ zTs := zq 70 rfl rfl
set_option maxRecDepth 20000 in
theorem q_fl_X1_15 : Cond.fieldLink RX1 15 "Rulesheet$GiftRules" "score" "[I" ∈ zTs := zq 71 rfl rfl
set_option maxRecDepth 20000 in
theorem q_fl_X3_81 : Cond.fieldLink RX3 81 "Rulesheet$GiftRules" "score" "[I" ∈ zTs := zq 72 rfl rfl
set_option maxRecDepth 20000 in
theorem q_fl_X1_18 : Cond.fieldLink RX1 18 "Rulesheet$GiftRules" "calling" "[I" ∈ zTs := zq 73 rfl rfl
set_option maxRecDepth 20000 in
theorem q_fl_X3_84 : Cond.fieldLink RX3 84 "Rulesheet$GiftRules" "calling" "[I" ∈ zTs := zq 74 rfl rfl
set_option maxRecDepth 20000 in
theorem q_fl_X1_21 : Cond.fieldLink RX1 21 "Rulesheet$GiftRules" "level" "[I" ∈ zTs := zq 75 rfl rfl
set_option maxRecDepth 20000 in
theorem q_fl_X3_87 : Cond.fieldLink RX3 87 "Rulesheet$GiftRules" "level" "[I" ∈ zTs := zq 76 rfl rfl
set_option maxRecDepth 20000 in
theorem q_fl_X1_24 : Cond.fieldLink RX1 24 "Rulesheet$GiftRules" "other" "[I" ∈ zTs := zq 77 rfl rfl
set_option maxRecDepth 20000 in
theorem q_fl_X3_90 : Cond.fieldLink RX3 90 "Rulesheet$GiftRules" "other" "[I" ∈ zTs := zq 78 rfl rfl
set_option maxRecDepth 20000 in
theorem q_fl_X1_27 : Cond.fieldLink RX1 27 "Rulesheet$GiftRules" "barCalling" "[I" ∈ zTs := zq 79 rfl rfl
set_option maxRecDepth 20000 in
theorem q_fl_X3_95 : Cond.fieldLink RX3 95 "Rulesheet$GiftRules" "barCalling" "[I" ∈ zTs := zq 80 rfl rfl
set_option maxRecDepth 20000 in
theorem q_fl_X1_30 : Cond.fieldLink RX1 30 "Rulesheet$GiftRules" "barLevel" "[I" ∈ zTs := zq 81 rfl rfl
set_option maxRecDepth 20000 in
theorem q_fl_X3_98 : Cond.fieldLink RX3 98 "Rulesheet$GiftRules" "barLevel" "[I" ∈ zTs := zq 82 rfl rfl
set_option maxRecDepth 20000 in
theorem q_fl_X1_33 : Cond.fieldLink RX1 33 "Rulesheet$GiftRules" "bonusValue" "[I" ∈ zTs := zq 83 rfl rfl
set_option maxRecDepth 20000 in
theorem q_fl_X3_105 : Cond.fieldLink RX3 105 "Rulesheet$GiftRules" "bonusValue" "[I" ∈ zTs := zq 84 rfl rfl
set_option maxRecDepth 20000 in
theorem q_fl_X1_36 : Cond.fieldLink RX1 36 "Rulesheet$GiftRules" "bonusKind" "[I" ∈ zTs := zq 85 rfl rfl
set_option maxRecDepth 20000 in
theorem q_fl_X3_108 : Cond.fieldLink RX3 108 "Rulesheet$GiftRules" "bonusKind" "[I" ∈ zTs := zq 86 rfl rfl
set_option maxRecDepth 20000 in
theorem q_fl_X1_39 : Cond.fieldLink RX1 39 "Rulesheet$GiftRules" "bonusAmount" "[I" ∈ zTs := zq 87 rfl rfl
set_option maxRecDepth 20000 in
theorem q_fl_X3_111 : Cond.fieldLink RX3 111 "Rulesheet$GiftRules" "bonusAmount" "[I" ∈ zTs := zq 88 rfl rfl
set_option maxRecDepth 20000 in
theorem q_ac_int : Cond.arrayClass .int ∈ zTs := zq 110 rfl rfl
set_option maxRecDepth 20000 in
theorem q_cl_X3_16 : Cond.classLink RX3 16 RX2 ∈ zTs := zq 111 rfl rfl
set_option maxRecDepth 20000 in
theorem q_is_X2 : Cond.instantiable RX2 4 ∈ zTs := zq 112 rfl rfl
set_option maxRecDepth 20000 in
theorem q_ml_X3_18 : Cond.methodLink RX3 18 yX2_init ∈ zTs := zq 113 rfl rfl
set_option maxRecDepth 20000 in
theorem q_im_X2_init : Cond.instanceMethod yX2_init ∈ zTs := zq 114 rfl rfl
set_option maxRecDepth 20000 in
theorem q_co_X2_init : Cond.code yX2_init cX2_init 1 none ∈ zTs := zq 115 rfl rfl
set_option maxRecDepth 20000 in
theorem q_ml_X2_3 : Cond.methodLink RX2 3 objectInit ∈ zTs := zq 116 rfl rfl
set_option maxRecDepth 20000 in
theorem q_ml_X2_24 : Cond.methodLink RX2 24 yJ7_fill_53178 ∈ zTs := zq 117 rfl rfl
set_option maxRecDepth 20000 in
theorem q_fl_X2_9 : Cond.fieldLink RX2 9 "Rulesheet$ValueRules" "base" "[I" ∈ zTs := zq 118 rfl rfl
set_option maxRecDepth 20000 in
theorem q_fl_X3_118 : Cond.fieldLink RX3 118 "Rulesheet$ValueRules" "base" "[I" ∈ zTs := zq 119 rfl rfl
set_option maxRecDepth 20000 in
theorem q_fl_X2_15 : Cond.fieldLink RX2 15 "Rulesheet$ValueRules" "ability" "[I" ∈ zTs := zq 120 rfl rfl
set_option maxRecDepth 20000 in
theorem q_fl_X3_121 : Cond.fieldLink RX3 121 "Rulesheet$ValueRules" "ability" "[I" ∈ zTs := zq 121 rfl rfl
set_option maxRecDepth 20000 in
theorem q_fl_X2_18 : Cond.fieldLink RX2 18 "Rulesheet$ValueRules" "calling" "[I" ∈ zTs := zq 122 rfl rfl
set_option maxRecDepth 20000 in
theorem q_fl_X3_122 : Cond.fieldLink RX3 122 "Rulesheet$ValueRules" "calling" "[I" ∈ zTs := zq 123 rfl rfl
set_option maxRecDepth 20000 in
theorem q_fl_X2_21 : Cond.fieldLink RX2 21 "Rulesheet$ValueRules" "other" "[I" ∈ zTs := zq 124 rfl rfl
set_option maxRecDepth 20000 in
theorem q_fl_X3_123 : Cond.fieldLink RX3 123 "Rulesheet$ValueRules" "other" "[I" ∈ zTs := zq 125 rfl rfl
set_option maxRecDepth 20000 in
theorem q_cl_X3_27 : Cond.classLink RX3 27 RX0 ∈ zTs := zq 135 rfl rfl
set_option maxRecDepth 20000 in
theorem q_is_X0 : Cond.instantiable RX0 2 ∈ zTs := zq 136 rfl rfl
set_option maxRecDepth 20000 in
theorem q_im_X0_init : Cond.instanceMethod yX0_init ∈ zTs := zq 138 rfl rfl
set_option maxRecDepth 20000 in
theorem q_co_X0_init : Cond.code yX0_init cX0_init 1 none ∈ zTs := zq 139 rfl rfl
set_option maxRecDepth 20000 in
theorem q_ml_X0_3 : Cond.methodLink RX0 3 objectInit ∈ zTs := zq 140 rfl rfl
set_option maxRecDepth 20000 in
theorem q_fl_X0_9 : Cond.fieldLink RX0 9 "Rulesheet$Build" "levels" "[I" ∈ zTs := zq 141 rfl rfl
set_option maxRecDepth 20000 in
theorem q_fl_X3_236 : Cond.fieldLink RX3 236 "Rulesheet$Build" "levels" "[I" ∈ zTs := zq 142 rfl rfl
set_option maxRecDepth 20000 in
theorem q_fl_X0_15 : Cond.fieldLink RX0 15 "Rulesheet$Build" "held" "I" ∈ zTs := zq 143 rfl rfl
set_option maxRecDepth 20000 in
theorem q_fl_X3_155 : Cond.fieldLink RX3 155 "Rulesheet$Build" "held" "I" ∈ zTs := zq 144 rfl rfl
set_option maxRecDepth 20000 in
theorem q_ml_X3_47 : Cond.methodLink RX3 47 yJ7_fill_53178 ∈ zTs := zq 150 rfl rfl
set_option maxRecDepth 20000 in
theorem q_fl_X3_12 : Cond.fieldLink RX3 12 "Rulesheet" "giftRules" "LRulesheet$GiftRules;" ∈ zTs := zq 151 rfl rfl
set_option maxRecDepth 20000 in
theorem q_fl_X3_19 : Cond.fieldLink RX3 19 "Rulesheet" "valueRules" "LRulesheet$ValueRules;" ∈ zTs := zq 152 rfl rfl
set_option maxRecDepth 20000 in
theorem q_fl_X3_23 : Cond.fieldLink RX3 23 "Rulesheet" "scores" "[I" ∈ zTs := zq 153 rfl rfl
set_option maxRecDepth 20000 in
theorem q_fl_X3_30 : Cond.fieldLink RX3 30 "Rulesheet" "character" "LRulesheet$Build;" ∈ zTs := zq 154 rfl rfl
set_option maxRecDepth 20000 in
theorem q_fl_X3_34 : Cond.fieldLink RX3 34 "Rulesheet" "taken" "[I" ∈ zTs := zq 155 rfl rfl
set_option maxRecDepth 20000 in
theorem q_fl_X3_37 : Cond.fieldLink RX3 37 "Rulesheet" "takenCount" "I" ∈ zTs := zq 156 rfl rfl
set_option maxRecDepth 20000 in
theorem q_fl_X3_41 : Cond.fieldLink RX3 41 "Rulesheet" "trial" "LRulesheet$Build;" ∈ zTs := zq 157 rfl rfl
set_option maxRecDepth 20000 in
theorem q_fl_X3_44 : Cond.fieldLink RX3 44 "Rulesheet" "endings" "[I" ∈ zTs := zq 158 rfl rfl
set_option maxRecDepth 20000 in
theorem q_ml_L_112 : Cond.methodLink RL 112 yX3_clear ∈ zTs := zq 176 rfl rfl
set_option maxRecDepth 20000 in
theorem q_im_X3_clear : Cond.instanceMethod yX3_clear ∈ zTs := zq 177 rfl rfl
set_option maxRecDepth 20000 in
theorem q_se_X3_clear : Cond.selects RX3 yX3_clear yX3_clear ∈ zTs := zq 178 rfl rfl
set_option maxRecDepth 20000 in
theorem q_co_X3_clear : Cond.code yX3_clear cX3_clear 2 (some .int) ∈ zTs := zq 179 rfl rfl
set_option maxRecDepth 20000 in
theorem q_ml_X3_182 : Cond.methodLink RX3 182 yX3_stepCount ∈ zTs := zq 180 rfl rfl
set_option maxRecDepth 20000 in
theorem q_im_X3_stepCount : Cond.instanceMethod yX3_stepCount ∈ zTs := zq 182 rfl rfl
set_option maxRecDepth 20000 in
theorem q_co_X3_stepCount : Cond.code yX3_stepCount cX3_stepCount 1 (some .int) ∈ zTs := zq 183 rfl rfl
set_option maxRecDepth 20000 in
theorem q_ml_X3_158 : Cond.methodLink RX3 158 yX0_heldCount ∈ zTs := zq 184 rfl rfl
set_option maxRecDepth 20000 in
theorem q_im_X0_heldCount : Cond.instanceMethod yX0_heldCount ∈ zTs := zq 185 rfl rfl
set_option maxRecDepth 20000 in
theorem q_se_X0_heldCount : Cond.selects RX0 yX0_heldCount yX0_heldCount ∈ zTs := zq 186 rfl rfl
set_option maxRecDepth 20000 in
theorem q_co_X0_heldCount : Cond.code yX0_heldCount cX0_heldCount 1 (some .int) ∈ zTs := zq 187 rfl rfl
set_option maxRecDepth 20000 in
theorem q_ml_X0_25 : Cond.methodLink RX0 25 yJ6_bitCount_0f7a4 ∈ zTs := zq 188 rfl rfl
set_option maxRecDepth 20000 in
theorem q_st_J6_bitCount_0f7a4 : Cond.static yJ6_bitCount_0f7a4 ∈ zTs := zq 189 rfl rfl
set_option maxRecDepth 20000 in
theorem q_co_J6_bitCount_0f7a4 : Cond.code yJ6_bitCount_0f7a4 cJ6_bitCount_0f7a4 1 (some .int) ∈ zTs := zq 190 rfl rfl
set_option maxRecDepth 20000 in
theorem q_k_J6_265 : Cond.constant RJ6 265 (1431655765) ∈ zTs := zq 191 rfl rfl
set_option maxRecDepth 20000 in
theorem q_k_J6_266 : Cond.constant RJ6 266 (858993459) ∈ zTs := zq 192 rfl rfl
set_option maxRecDepth 20000 in
theorem q_k_J6_267 : Cond.constant RJ6 267 (252645135) ∈ zTs := zq 193 rfl rfl
set_option maxRecDepth 20000 in
theorem q_ml_X3_185 : Cond.methodLink RX3 185 yX0_empty ∈ zTs := zq 194 rfl rfl
set_option maxRecDepth 20000 in
theorem q_im_X0_empty : Cond.instanceMethod yX0_empty ∈ zTs := zq 195 rfl rfl
set_option maxRecDepth 20000 in
theorem q_se_X0_empty : Cond.selects RX0 yX0_empty yX0_empty ∈ zTs := zq 196 rfl rfl
set_option maxRecDepth 20000 in
theorem q_co_X0_empty : Cond.code yX0_empty cX0_empty 1 none ∈ zTs := zq 197 rfl rfl
set_option maxRecDepth 20000 in
theorem q_ml_X0_19 : Cond.methodLink RX0 19 yJ7_fill_53178 ∈ zTs := zq 198 rfl rfl
set_option maxRecDepth 20000 in
theorem q_ml_L_119 : Cond.methodLink RL 119 yX3_gifts ∈ zTs := zq 199 rfl rfl
set_option maxRecDepth 20000 in
theorem q_im_X3_gifts : Cond.instanceMethod yX3_gifts ∈ zTs := zq 200 rfl rfl
set_option maxRecDepth 20000 in
theorem q_se_X3_gifts : Cond.selects RX3 yX3_gifts yX3_gifts ∈ zTs := zq 201 rfl rfl
set_option maxRecDepth 20000 in
theorem q_co_X3_gifts : Cond.code yX3_gifts cX3_gifts 1 (some .int) ∈ zTs := zq 202 rfl rfl
set_option maxRecDepth 20000 in
theorem q_ml_L_123 : Cond.methodLink RL 123 yX3_working ∈ zTs := zq 203 rfl rfl
set_option maxRecDepth 20000 in
theorem q_im_X3_working : Cond.instanceMethod yX3_working ∈ zTs := zq 204 rfl rfl
set_option maxRecDepth 20000 in
theorem q_se_X3_working : Cond.selects RX3 yX3_working yX3_working ∈ zTs := zq 205 rfl rfl
set_option maxRecDepth 20000 in
theorem q_co_X3_working : Cond.code yX3_working cX3_working 1 (some .int) ∈ zTs := zq 206 rfl rfl
set_option maxRecDepth 20000 in
theorem q_ml_X3_174 : Cond.methodLink RX3 174 yX3_workingAmong ∈ zTs := zq 207 rfl rfl
set_option maxRecDepth 20000 in
theorem q_im_X3_workingAmong : Cond.instanceMethod yX3_workingAmong ∈ zTs := zq 209 rfl rfl
set_option maxRecDepth 20000 in
theorem q_co_X3_workingAmong : Cond.code yX3_workingAmong cX3_workingAmong 5 (some .int) ∈ zTs := zq 210 rfl rfl
set_option maxRecDepth 20000 in
theorem q_ml_X3_239 : Cond.methodLink RX3 239 yX3_hasScoreFor ∈ zTs := zq 211 rfl rfl
set_option maxRecDepth 20000 in
theorem q_im_X3_hasScoreFor : Cond.instanceMethod yX3_hasScoreFor ∈ zTs := zq 213 rfl rfl
set_option maxRecDepth 20000 in
theorem q_co_X3_hasScoreFor : Cond.code yX3_hasScoreFor cX3_hasScoreFor 3 (some .boolean) ∈ zTs := zq 214 rfl rfl
set_option maxRecDepth 20000 in
theorem q_ml_X3_242 : Cond.methodLink RX3 242 yX3_hasLevelFor ∈ zTs := zq 215 rfl rfl
set_option maxRecDepth 20000 in
theorem q_im_X3_hasLevelFor : Cond.instanceMethod yX3_hasLevelFor ∈ zTs := zq 217 rfl rfl
set_option maxRecDepth 20000 in
theorem q_co_X3_hasLevelFor : Cond.code yX3_hasLevelFor cX3_hasLevelFor 4 (some .boolean) ∈ zTs := zq 218 rfl rfl
set_option maxRecDepth 20000 in
theorem q_ml_X3_245 : Cond.methodLink RX3 245 yX3_isOtherIn ∈ zTs := zq 219 rfl rfl
set_option maxRecDepth 20000 in
theorem q_im_X3_isOtherIn : Cond.instanceMethod yX3_isOtherIn ∈ zTs := zq 221 rfl rfl
set_option maxRecDepth 20000 in
theorem q_co_X3_isOtherIn : Cond.code yX3_isOtherIn cX3_isOtherIn 4 (some .boolean) ∈ zTs := zq 222 rfl rfl
set_option maxRecDepth 20000 in
theorem q_ml_L_127 : Cond.methodLink RL 127 yX3_open ∈ zTs := zq 223 rfl rfl
set_option maxRecDepth 20000 in
theorem q_im_X3_open : Cond.instanceMethod yX3_open ∈ zTs := zq 224 rfl rfl
set_option maxRecDepth 20000 in
theorem q_se_X3_open : Cond.selects RX3 yX3_open yX3_open ∈ zTs := zq 225 rfl rfl
set_option maxRecDepth 20000 in
theorem q_co_X3_open : Cond.code yX3_open cX3_open 3 (some .int) ∈ zTs := zq 226 rfl rfl
set_option maxRecDepth 20000 in
theorem q_ml_X3_149 : Cond.methodLink RX3 149 yX3_mayTake ∈ zTs := zq 227 rfl rfl
set_option maxRecDepth 20000 in
theorem q_im_X3_mayTake : Cond.instanceMethod yX3_mayTake ∈ zTs := zq 229 rfl rfl
set_option maxRecDepth 20000 in
theorem q_co_X3_mayTake : Cond.code yX3_mayTake cX3_mayTake 3 (some .boolean) ∈ zTs := zq 230 rfl rfl
set_option maxRecDepth 20000 in
theorem q_ml_X3_165 : Cond.methodLink RX3 165 yX0_has ∈ zTs := zq 231 rfl rfl
set_option maxRecDepth 20000 in
theorem q_im_X0_has : Cond.instanceMethod yX0_has ∈ zTs := zq 232 rfl rfl
set_option maxRecDepth 20000 in
theorem q_se_X0_has : Cond.selects RX0 yX0_has yX0_has ∈ zTs := zq 233 rfl rfl
set_option maxRecDepth 20000 in
theorem q_co_X0_has : Cond.code yX0_has cX0_has 2 (some .boolean) ∈ zTs := zq 234 rfl rfl
set_option maxRecDepth 20000 in
theorem q_ml_X3_177 : Cond.methodLink RX3 177 yJ6_bitCount_0f7a4 ∈ zTs := zq 235 rfl rfl
set_option maxRecDepth 20000 in
theorem q_ml_X3_191 : Cond.methodLink RX3 191 yX0_levelInAll ∈ zTs := zq 236 rfl rfl
set_option maxRecDepth 20000 in
theorem q_im_X0_levelInAll : Cond.instanceMethod yX0_levelInAll ∈ zTs := zq 237 rfl rfl
set_option maxRecDepth 20000 in
theorem q_se_X0_levelInAll : Cond.selects RX0 yX0_levelInAll yX0_levelInAll ∈ zTs := zq 238 rfl rfl
set_option maxRecDepth 20000 in
theorem q_co_X0_levelInAll : Cond.code yX0_levelInAll cX0_levelInAll 3 (some .int) ∈ zTs := zq 239 rfl rfl
set_option maxRecDepth 20000 in
theorem q_ml_X3_194 : Cond.methodLink RX3 194 yX3_placesAt ∈ zTs := zq 240 rfl rfl
set_option maxRecDepth 20000 in
theorem q_st_X3_placesAt : Cond.static yX3_placesAt ∈ zTs := zq 241 rfl rfl
set_option maxRecDepth 20000 in
theorem q_co_X3_placesAt : Cond.code yX3_placesAt cX3_placesAt 1 (some .int) ∈ zTs := zq 242 rfl rfl
set_option maxRecDepth 20000 in
theorem q_ml_X3_248 : Cond.methodLink RX3 248 yX3_isBarred ∈ zTs := zq 243 rfl rfl
set_option maxRecDepth 20000 in
theorem q_im_X3_isBarred : Cond.instanceMethod yX3_isBarred ∈ zTs := zq 245 rfl rfl
set_option maxRecDepth 20000 in
theorem q_co_X3_isBarred : Cond.code yX3_isBarred cX3_isBarred 4 (some .boolean) ∈ zTs := zq 246 rfl rfl
set_option maxRecDepth 20000 in
theorem q_ml_L_131 : Cond.methodLink RL 131 yX3_places ∈ zTs := zq 247 rfl rfl
set_option maxRecDepth 20000 in
theorem q_im_X3_places : Cond.instanceMethod yX3_places ∈ zTs := zq 248 rfl rfl
set_option maxRecDepth 20000 in
theorem q_se_X3_places : Cond.selects RX3 yX3_places yX3_places ∈ zTs := zq 249 rfl rfl
set_option maxRecDepth 20000 in
theorem q_co_X3_places : Cond.code yX3_places cX3_places 1 (some .int) ∈ zTs := zq 250 rfl rfl
set_option maxRecDepth 20000 in
theorem q_ml_L_135 : Cond.methodLink RL 135 yX3_points ∈ zTs := zq 251 rfl rfl
set_option maxRecDepth 20000 in
theorem q_im_X3_points : Cond.instanceMethod yX3_points ∈ zTs := zq 252 rfl rfl
set_option maxRecDepth 20000 in
theorem q_se_X3_points : Cond.selects RX3 yX3_points yX3_points ∈ zTs := zq 253 rfl rfl
set_option maxRecDepth 20000 in
theorem q_co_X3_points : Cond.code yX3_points cX3_points 1 (some .int) ∈ zTs := zq 254 rfl rfl
set_option maxRecDepth 20000 in
theorem q_ml_X3_126 : Cond.methodLink RX3 126 yX3_pointsLeft ∈ zTs := zq 255 rfl rfl
set_option maxRecDepth 20000 in
theorem q_im_X3_pointsLeft : Cond.instanceMethod yX3_pointsLeft ∈ zTs := zq 257 rfl rfl
set_option maxRecDepth 20000 in
theorem q_co_X3_pointsLeft : Cond.code yX3_pointsLeft cX3_pointsLeft 3 (some .int) ∈ zTs := zq 258 rfl rfl
set_option maxRecDepth 20000 in
theorem q_ml_X3_130 : Cond.methodLink RX3 130 yX3_costOf ∈ zTs := zq 259 rfl rfl
set_option maxRecDepth 20000 in
theorem q_st_X3_costOf : Cond.static yX3_costOf ∈ zTs := zq 260 rfl rfl
set_option maxRecDepth 20000 in
theorem q_co_X3_costOf : Cond.code yX3_costOf cX3_costOf 1 (some .int) ∈ zTs := zq 261 rfl rfl
set_option maxRecDepth 20000 in
theorem q_ml_X3_227 : Cond.methodLink RX3 227 yJ9_max_7cf53 ∈ zTs := zq 262 rfl rfl
set_option maxRecDepth 20000 in
theorem q_st_J9_max_7cf53 : Cond.static yJ9_max_7cf53 ∈ zTs := zq 263 rfl rfl
set_option maxRecDepth 20000 in
theorem q_co_J9_max_7cf53 : Cond.code yJ9_max_7cf53 cJ9_max_7cf53 2 (some .int) ∈ zTs := zq 264 rfl rfl
set_option maxRecDepth 20000 in
theorem q_ml_L_148 : Cond.methodLink RL 148 yX3_attack ∈ zTs := zq 265 rfl rfl
set_option maxRecDepth 20000 in
theorem q_im_X3_attack : Cond.instanceMethod yX3_attack ∈ zTs := zq 266 rfl rfl
set_option maxRecDepth 20000 in
theorem q_se_X3_attack : Cond.selects RX3 yX3_attack yX3_attack ∈ zTs := zq 267 rfl rfl
set_option maxRecDepth 20000 in
theorem q_co_X3_attack : Cond.code yX3_attack cX3_attack 5 (some .int) ∈ zTs := zq 268 rfl rfl
set_option maxRecDepth 20000 in
theorem q_ml_X3_188 : Cond.methodLink RX3 188 yX0_levelIn ∈ zTs := zq 269 rfl rfl
set_option maxRecDepth 20000 in
theorem q_im_X0_levelIn : Cond.instanceMethod yX0_levelIn ∈ zTs := zq 270 rfl rfl
set_option maxRecDepth 20000 in
theorem q_se_X0_levelIn : Cond.selects RX0 yX0_levelIn yX0_levelIn ∈ zTs := zq 271 rfl rfl
set_option maxRecDepth 20000 in
theorem q_co_X0_levelIn : Cond.code yX0_levelIn cX0_levelIn 2 (some .int) ∈ zTs := zq 272 rfl rfl
set_option maxRecDepth 20000 in
theorem q_kf_X3_213 : Cond.constantFloat RX3 213 (1082130432) ∈ zTs := zq 273 rfl rfl
set_option maxRecDepth 20000 in
theorem q_kf_X3_214 : Cond.constantFloat RX3 214 (1040187392) ∈ zTs := zq 274 rfl rfl
set_option maxRecDepth 20000 in
theorem q_ml_L_152 : Cond.methodLink RL 152 yX3_isLawful ∈ zTs := zq 275 rfl rfl
set_option maxRecDepth 20000 in
theorem q_im_X3_isLawful : Cond.instanceMethod yX3_isLawful ∈ zTs := zq 276 rfl rfl
set_option maxRecDepth 20000 in
theorem q_se_X3_isLawful : Cond.selects RX3 yX3_isLawful yX3_isLawful ∈ zTs := zq 277 rfl rfl
set_option maxRecDepth 20000 in
theorem q_co_X3_isLawful : Cond.code yX3_isLawful cX3_isLawful 1 (some .boolean) ∈ zTs := zq 278 rfl rfl
set_option maxRecDepth 20000 in
theorem q_ml_X3_169 : Cond.methodLink RX3 169 yX3_canReach ∈ zTs := zq 279 rfl rfl
set_option maxRecDepth 20000 in
theorem q_im_X3_canReach : Cond.instanceMethod yX3_canReach ∈ zTs := zq 281 rfl rfl
set_option maxRecDepth 20000 in
theorem q_co_X3_canReach : Cond.code yX3_canReach cX3_canReach 5 (some .boolean) ∈ zTs := zq 282 rfl rfl
set_option maxRecDepth 20000 in
theorem q_ml_X3_254 : Cond.methodLink RX3 254 yX3_markSets ∈ zTs := zq 283 rfl rfl
set_option maxRecDepth 20000 in
theorem q_im_X3_markSets : Cond.instanceMethod yX3_markSets ∈ zTs := zq 285 rfl rfl
set_option maxRecDepth 20000 in
theorem q_co_X3_markSets : Cond.code yX3_markSets cX3_markSets 4 none ∈ zTs := zq 286 rfl rfl
set_option maxRecDepth 20000 in
theorem q_ml_X3_262 : Cond.methodLink RX3 262 yX3_firstStepTowards ∈ zTs := zq 287 rfl rfl
set_option maxRecDepth 20000 in
theorem q_im_X3_firstStepTowards : Cond.instanceMethod yX3_firstStepTowards ∈ zTs := zq 289 rfl rfl
set_option maxRecDepth 20000 in
theorem q_co_X3_firstStepTowards : Cond.code yX3_firstStepTowards cX3_firstStepTowards 4 (some .int) ∈ zTs := zq 290 rfl rfl
set_option maxRecDepth 20000 in
theorem q_ml_X3_268 : Cond.methodLink RX3 268 yX3_isStepTowards ∈ zTs := zq 291 rfl rfl
set_option maxRecDepth 20000 in
theorem q_im_X3_isStepTowards : Cond.instanceMethod yX3_isStepTowards ∈ zTs := zq 293 rfl rfl
set_option maxRecDepth 20000 in
theorem q_co_X3_isStepTowards : Cond.code yX3_isStepTowards cX3_isStepTowards 4 (some .boolean) ∈ zTs := zq 294 rfl rfl
set_option maxRecDepth 20000 in
theorem q_ml_X3_53 : Cond.methodLink RX3 53 yX3_isAmong ∈ zTs := zq 295 rfl rfl
set_option maxRecDepth 20000 in
theorem q_st_X3_isAmong : Cond.static yX3_isAmong ∈ zTs := zq 296 rfl rfl
set_option maxRecDepth 20000 in
theorem q_co_X3_isAmong : Cond.code yX3_isAmong cX3_isAmong 2 (some .boolean) ∈ zTs := zq 297 rfl rfl
set_option maxRecDepth 20000 in
theorem q_ml_X3_271 : Cond.methodLink RX3 271 yX0_goOn ∈ zTs := zq 298 rfl rfl
set_option maxRecDepth 20000 in
theorem q_im_X0_goOn : Cond.instanceMethod yX0_goOn ∈ zTs := zq 299 rfl rfl
set_option maxRecDepth 20000 in
theorem q_se_X0_goOn : Cond.selects RX0 yX0_goOn yX0_goOn ∈ zTs := zq 300 rfl rfl
set_option maxRecDepth 20000 in
theorem q_co_X0_goOn : Cond.code yX0_goOn cX0_goOn 2 none ∈ zTs := zq 301 rfl rfl
set_option maxRecDepth 20000 in
theorem q_ml_X0_35 : Cond.methodLink RX0 35 yX0_changeLevel ∈ zTs := zq 302 rfl rfl
set_option maxRecDepth 20000 in
theorem q_im_X0_changeLevel : Cond.instanceMethod yX0_changeLevel ∈ zTs := zq 303 rfl rfl
set_option maxRecDepth 20000 in
theorem q_se_X0_changeLevel : Cond.selects RX0 yX0_changeLevel yX0_changeLevel ∈ zTs := zq 304 rfl rfl
set_option maxRecDepth 20000 in
theorem q_co_X0_changeLevel : Cond.code yX0_changeLevel cX0_changeLevel 3 none ∈ zTs := zq 305 rfl rfl
set_option maxRecDepth 20000 in
theorem q_ml_X3_258 : Cond.methodLink RX3 258 yX3_isMarked ∈ zTs := zq 307 rfl rfl
set_option maxRecDepth 20000 in
theorem q_im_X3_isMarked : Cond.instanceMethod yX3_isMarked ∈ zTs := zq 309 rfl rfl
set_option maxRecDepth 20000 in
theorem q_co_X3_isMarked : Cond.code yX3_isMarked cX3_isMarked 2 (some .boolean) ∈ zTs := zq 310 rfl rfl
set_option maxRecDepth 20000 in
theorem q_ml_X3_277 : Cond.methodLink RX3 277 yX3_wordOfTrial ∈ zTs := zq 311 rfl rfl
set_option maxRecDepth 20000 in
theorem q_im_X3_wordOfTrial : Cond.instanceMethod yX3_wordOfTrial ∈ zTs := zq 313 rfl rfl
set_option maxRecDepth 20000 in
theorem q_co_X3_wordOfTrial : Cond.code yX3_wordOfTrial cX3_wordOfTrial 3 (some .int) ∈ zTs := zq 314 rfl rfl
set_option maxRecDepth 20000 in
theorem q_ml_X3_280 : Cond.methodLink RX3 280 yX3_bitOfTrial ∈ zTs := zq 315 rfl rfl
set_option maxRecDepth 20000 in
theorem q_im_X3_bitOfTrial : Cond.instanceMethod yX3_bitOfTrial ∈ zTs := zq 317 rfl rfl
set_option maxRecDepth 20000 in
theorem q_co_X3_bitOfTrial : Cond.code yX3_bitOfTrial cX3_bitOfTrial 1 (some .int) ∈ zTs := zq 318 rfl rfl
set_option maxRecDepth 20000 in
theorem q_ml_X3_274 : Cond.methodLink RX3 274 yX0_goBack ∈ zTs := zq 319 rfl rfl
set_option maxRecDepth 20000 in
theorem q_im_X0_goBack : Cond.instanceMethod yX0_goBack ∈ zTs := zq 320 rfl rfl
set_option maxRecDepth 20000 in
theorem q_se_X0_goBack : Cond.selects RX0 yX0_goBack yX0_goBack ∈ zTs := zq 321 rfl rfl
set_option maxRecDepth 20000 in
theorem q_co_X0_goBack : Cond.code yX0_goBack cX0_goBack 2 none ∈ zTs := zq 322 rfl rfl
set_option maxRecDepth 20000 in
theorem q_ml_X3_265 : Cond.methodLink RX3 265 yX3_mark ∈ zTs := zq 323 rfl rfl
set_option maxRecDepth 20000 in
theorem q_im_X3_mark : Cond.instanceMethod yX3_mark ∈ zTs := zq 325 rfl rfl
set_option maxRecDepth 20000 in
theorem q_co_X3_mark : Cond.code yX3_mark cX3_mark 2 none ∈ zTs := zq 326 rfl rfl
set_option maxRecDepth 20000 in
theorem q_ml_L_73 : Cond.methodLink RL 73 yL_setNeeds ∈ zTs := zq 327 rfl rfl
set_option maxRecDepth 20000 in
theorem q_st_L_setNeeds : Cond.static yL_setNeeds ∈ zTs := zq 328 rfl rfl
set_option maxRecDepth 20000 in
theorem q_cw_L_setNeeds : Cond.codeWith yL_setNeeds cL_setNeeds 8 (some .int) [(0, 13, 16, 13), (0, 13, 20, 15)] ∈ zTs := zq 329 rfl rfl
set_option maxRecDepth 20000 in
theorem q_cl_L_13 : Cond.classLink RL 13 "java/lang/IndexOutOfBoundsException" ∈ zTs := zq 330 rfl rfl
set_option maxRecDepth 20000 in
theorem q_cl_L_15 : Cond.classLink RL 15 "java/lang/IllegalArgumentException" ∈ zTs := zq 331 rfl rfl
set_option maxRecDepth 20000 in
theorem q_ml_L_7 : Cond.methodLink RL 7 yX3_setNeeds ∈ zTs := zq 332 rfl rfl
set_option maxRecDepth 20000 in
theorem q_im_X3_setNeeds : Cond.instanceMethod yX3_setNeeds ∈ zTs := zq 333 rfl rfl
set_option maxRecDepth 20000 in
theorem q_se_X3_setNeeds : Cond.selects RX3 yX3_setNeeds yX3_setNeeds ∈ zTs := zq 334 rfl rfl
set_option maxRecDepth 20000 in
theorem q_co_X3_setNeeds : Cond.code yX3_setNeeds cX3_setNeeds 7 none ∈ zTs := zq 335 rfl rfl
set_option maxRecDepth 20000 in
theorem q_ml_X3_57 : Cond.methodLink RX3 57 yX3_isAmongOrNone ∈ zTs := zq 336 rfl rfl
set_option maxRecDepth 20000 in
theorem q_st_X3_isAmongOrNone : Cond.static yX3_isAmongOrNone ∈ zTs := zq 337 rfl rfl
set_option maxRecDepth 20000 in
theorem q_co_X3_isAmongOrNone : Cond.code yX3_isAmongOrNone cX3_isAmongOrNone 2 (some .boolean) ∈ zTs := zq 338 rfl rfl
set_option maxRecDepth 20000 in
theorem q_cl_X3_60 : Cond.classLink RX3 60 "java/lang/IndexOutOfBoundsException" ∈ zTs := zq 339 rfl rfl
set_option maxRecDepth 20000 in
theorem q_is_java_lang_IndexOutOfBoundsException : Cond.instantiable "java/lang/IndexOutOfBoundsException" 6 ∈ zTs := zq 340 rfl rfl
set_option maxRecDepth 20000 in
theorem q_fl_java_lang_Throwable_198 : Cond.fieldLink "java/lang/Throwable" 198 "java/lang/Throwable" "backtrace" "Ljava/lang/Object;" ∈ zTs := zq 360 rfl rfl
set_option maxRecDepth 20000 in
theorem q_ml_java_lang_Throwable_1 : Cond.methodLink "java/lang/Throwable" 1 objectInit ∈ zTs := zq 364 rfl rfl
set_option maxRecDepth 20000 in
theorem q_fl_java_lang_Throwable_13 : Cond.fieldLink "java/lang/Throwable" 13 "java/lang/Throwable" "UNASSIGNED_STACK" "[Ljava/lang/StackTraceElement;" ∈ zTs := zq 365 rfl rfl
set_option maxRecDepth 20000 in
theorem q_fl_java_lang_Throwable_20 : Cond.fieldLink "java/lang/Throwable" 20 "java/lang/Throwable" "SUPPRESSED_SENTINEL" "Ljava/util/List;" ∈ zTs := zq 367 rfl rfl
set_option maxRecDepth 20000 in
theorem q_is_java_lang_Throwable : Cond.instantiable "java/lang/Throwable" 6 ∈ zTs := zq 378 rfl rfl
set_option maxRecDepth 20000 in
theorem q_fl_java_lang_Throwable_31 : Cond.fieldLink "java/lang/Throwable" 31 "java/lang/Throwable" "detailMessage" "Ljava/lang/String;" ∈ zTs := zq 394 rfl rfl
set_option maxRecDepth 20000 in
theorem q_fl_java_lang_Throwable_7 : Cond.fieldLink "java/lang/Throwable" 7 "java/lang/Throwable" "cause" "Ljava/lang/Throwable;" ∈ zTs := zq 395 rfl rfl
set_option maxRecDepth 20000 in
theorem q_fl_java_lang_Throwable_17 : Cond.fieldLink "java/lang/Throwable" 17 "java/lang/Throwable" "stackTrace" "[Ljava/lang/StackTraceElement;" ∈ zTs := zq 396 rfl rfl
set_option maxRecDepth 20000 in
theorem q_fl_java_lang_Throwable_24 : Cond.fieldLink "java/lang/Throwable" 24 "java/lang/Throwable" "suppressedExceptions" "Ljava/util/List;" ∈ zTs := zq 397 rfl rfl
set_option maxRecDepth 20000 in
theorem q_ac_byte : Cond.arrayClass .byte ∈ zTs := zq 406 rfl rfl
set_option maxRecDepth 20000 in
theorem q_ml_X3_67 : Cond.methodLink RX3 67 yX3_isFromTo ∈ zTs := zq 407 rfl rfl
set_option maxRecDepth 20000 in
theorem q_st_X3_isFromTo : Cond.static yX3_isFromTo ∈ zTs := zq 408 rfl rfl
set_option maxRecDepth 20000 in
theorem q_co_X3_isFromTo : Cond.code yX3_isFromTo cX3_isFromTo 3 (some .boolean) ∈ zTs := zq 409 rfl rfl
set_option maxRecDepth 20000 in
theorem q_cl_X3_71 : Cond.classLink RX3 71 "java/lang/IllegalArgumentException" ∈ zTs := zq 410 rfl rfl
set_option maxRecDepth 20000 in
theorem q_is_java_lang_IllegalArgumentException : Cond.instantiable "java/lang/IllegalArgumentException" 6 ∈ zTs := zq 411 rfl rfl
set_option maxRecDepth 20000 in
theorem q_ml_L_82 : Cond.methodLink RL 82 yL_bar ∈ zTs := zq 427 rfl rfl
set_option maxRecDepth 20000 in
theorem q_st_L_bar : Cond.static yL_bar ∈ zTs := zq 428 rfl rfl
set_option maxRecDepth 20000 in
theorem q_cw_L_bar : Cond.codeWith yL_bar cL_bar 5 (some .int) [(0, 7, 10, 13), (0, 7, 14, 15)] ∈ zTs := zq 429 rfl rfl
set_option maxRecDepth 20000 in
theorem q_ml_L_17 : Cond.methodLink RL 17 yX3_bar ∈ zTs := zq 430 rfl rfl
set_option maxRecDepth 20000 in
theorem q_im_X3_bar : Cond.instanceMethod yX3_bar ∈ zTs := zq 431 rfl rfl
set_option maxRecDepth 20000 in
theorem q_se_X3_bar : Cond.selects RX3 yX3_bar yX3_bar ∈ zTs := zq 432 rfl rfl
set_option maxRecDepth 20000 in
theorem q_co_X3_bar : Cond.code yX3_bar cX3_bar 4 none ∈ zTs := zq 433 rfl rfl
set_option maxRecDepth 20000 in
theorem q_ml_L_86 : Cond.methodLink RL 86 yL_setBonus ∈ zTs := zq 435 rfl rfl
set_option maxRecDepth 20000 in
theorem q_st_L_setBonus : Cond.static yL_setBonus ∈ zTs := zq 436 rfl rfl
set_option maxRecDepth 20000 in
theorem q_cw_L_setBonus : Cond.codeWith yL_setBonus cL_setBonus 6 (some .int) [(0, 9, 12, 13), (0, 9, 16, 15)] ∈ zTs := zq 437 rfl rfl
set_option maxRecDepth 20000 in
theorem q_ml_L_21 : Cond.methodLink RL 21 yX3_setBonus ∈ zTs := zq 438 rfl rfl
set_option maxRecDepth 20000 in
theorem q_im_X3_setBonus : Cond.instanceMethod yX3_setBonus ∈ zTs := zq 439 rfl rfl
set_option maxRecDepth 20000 in
theorem q_se_X3_setBonus : Cond.selects RX3 yX3_setBonus yX3_setBonus ∈ zTs := zq 440 rfl rfl
set_option maxRecDepth 20000 in
theorem q_co_X3_setBonus : Cond.code yX3_setBonus cX3_setBonus 5 none ∈ zTs := zq 441 rfl rfl
set_option maxRecDepth 20000 in
theorem q_ml_L_90 : Cond.methodLink RL 90 yL_setValue ∈ zTs := zq 444 rfl rfl
set_option maxRecDepth 20000 in
theorem q_st_L_setValue : Cond.static yL_setValue ∈ zTs := zq 445 rfl rfl
set_option maxRecDepth 20000 in
theorem q_cw_L_setValue : Cond.codeWith yL_setValue cL_setValue 7 (some .int) [(0, 11, 14, 13), (0, 11, 18, 15)] ∈ zTs := zq 446 rfl rfl
set_option maxRecDepth 20000 in
theorem q_ml_L_25 : Cond.methodLink RL 25 yX3_setValue ∈ zTs := zq 447 rfl rfl
set_option maxRecDepth 20000 in
theorem q_im_X3_setValue : Cond.instanceMethod yX3_setValue ∈ zTs := zq 448 rfl rfl
set_option maxRecDepth 20000 in
theorem q_se_X3_setValue : Cond.selects RX3 yX3_setValue yX3_setValue ∈ zTs := zq 449 rfl rfl
set_option maxRecDepth 20000 in
theorem q_co_X3_setValue : Cond.code yX3_setValue cX3_setValue 6 none ∈ zTs := zq 450 rfl rfl
set_option maxRecDepth 20000 in
theorem q_ml_L_94 : Cond.methodLink RL 94 yL_setScore ∈ zTs := zq 453 rfl rfl
set_option maxRecDepth 20000 in
theorem q_st_L_setScore : Cond.static yL_setScore ∈ zTs := zq 454 rfl rfl
set_option maxRecDepth 20000 in
theorem q_cw_L_setScore : Cond.codeWith yL_setScore cL_setScore 5 (some .int) [(0, 10, 13, 13), (0, 10, 17, 15), (0, 10, 21, 33)] ∈ zTs := zq 455 rfl rfl
set_option maxRecDepth 20000 in
theorem q_cl_L_33 : Cond.classLink RL 33 "java/lang/IllegalStateException" ∈ zTs := zq 456 rfl rfl
set_option maxRecDepth 20000 in
theorem q_ml_L_29 : Cond.methodLink RL 29 yX3_setScore ∈ zTs := zq 457 rfl rfl
set_option maxRecDepth 20000 in
theorem q_im_X3_setScore : Cond.instanceMethod yX3_setScore ∈ zTs := zq 458 rfl rfl
set_option maxRecDepth 20000 in
theorem q_se_X3_setScore : Cond.selects RX3 yX3_setScore yX3_setScore ∈ zTs := zq 459 rfl rfl
set_option maxRecDepth 20000 in
theorem q_co_X3_setScore : Cond.code yX3_setScore cX3_setScore 4 (some .int) ∈ zTs := zq 460 rfl rfl
set_option maxRecDepth 20000 in
theorem q_cl_X3_134 : Cond.classLink RX3 134 "java/lang/IllegalStateException" ∈ zTs := zq 462 rfl rfl
set_option maxRecDepth 20000 in
theorem q_is_java_lang_IllegalStateException : Cond.instantiable "java/lang/IllegalStateException" 6 ∈ zTs := zq 463 rfl rfl
set_option maxRecDepth 20000 in
theorem q_ml_L_98 : Cond.methodLink RL 98 yL_takeLevel ∈ zTs := zq 478 rfl rfl
set_option maxRecDepth 20000 in
theorem q_st_L_takeLevel : Cond.static yL_takeLevel ∈ zTs := zq 479 rfl rfl
set_option maxRecDepth 20000 in
theorem q_cw_L_takeLevel : Cond.codeWith yL_takeLevel cL_takeLevel 4 (some .int) [(0, 9, 12, 13), (0, 9, 15, 33)] ∈ zTs := zq 480 rfl rfl
set_option maxRecDepth 20000 in
theorem q_ml_L_35 : Cond.methodLink RL 35 yX3_takeLevel ∈ zTs := zq 481 rfl rfl
set_option maxRecDepth 20000 in
theorem q_im_X3_takeLevel : Cond.instanceMethod yX3_takeLevel ∈ zTs := zq 482 rfl rfl
set_option maxRecDepth 20000 in
theorem q_se_X3_takeLevel : Cond.selects RX3 yX3_takeLevel yX3_takeLevel ∈ zTs := zq 483 rfl rfl
set_option maxRecDepth 20000 in
theorem q_co_X3_takeLevel : Cond.code yX3_takeLevel cX3_takeLevel 2 (some .int) ∈ zTs := zq 484 rfl rfl
set_option maxRecDepth 20000 in
theorem q_ml_X3_143 : Cond.methodLink RX3 143 yX0_changeLevel ∈ zTs := zq 487 rfl rfl
set_option maxRecDepth 20000 in
theorem q_ml_L_102 : Cond.methodLink RL 102 yL_takeGift ∈ zTs := zq 488 rfl rfl
set_option maxRecDepth 20000 in
theorem q_st_L_takeGift : Cond.static yL_takeGift ∈ zTs := zq 489 rfl rfl
set_option maxRecDepth 20000 in
theorem q_cw_L_takeGift : Cond.codeWith yL_takeGift cL_takeGift 4 (some .int) [(0, 9, 12, 13), (0, 9, 15, 33)] ∈ zTs := zq 490 rfl rfl
set_option maxRecDepth 20000 in
theorem q_ml_L_39 : Cond.methodLink RL 39 yX3_takeGift ∈ zTs := zq 491 rfl rfl
set_option maxRecDepth 20000 in
theorem q_im_X3_takeGift : Cond.instanceMethod yX3_takeGift ∈ zTs := zq 492 rfl rfl
set_option maxRecDepth 20000 in
theorem q_se_X3_takeGift : Cond.selects RX3 yX3_takeGift yX3_takeGift ∈ zTs := zq 493 rfl rfl
set_option maxRecDepth 20000 in
theorem q_co_X3_takeGift : Cond.code yX3_takeGift cX3_takeGift 2 (some .int) ∈ zTs := zq 494 rfl rfl
set_option maxRecDepth 20000 in
theorem q_ml_L_105 : Cond.methodLink RL 105 yL_loseLevel ∈ zTs := zq 497 rfl rfl
set_option maxRecDepth 20000 in
theorem q_st_L_loseLevel : Cond.static yL_loseLevel ∈ zTs := zq 498 rfl rfl
set_option maxRecDepth 20000 in
theorem q_cw_L_loseLevel : Cond.codeWith yL_loseLevel cL_loseLevel 3 (some .int) [(0, 8, 11, 33)] ∈ zTs := zq 499 rfl rfl
set_option maxRecDepth 20000 in
theorem q_ml_L_42 : Cond.methodLink RL 42 yX3_loseLevel ∈ zTs := zq 500 rfl rfl
set_option maxRecDepth 20000 in
theorem q_im_X3_loseLevel : Cond.instanceMethod yX3_loseLevel ∈ zTs := zq 501 rfl rfl
set_option maxRecDepth 20000 in
theorem q_se_X3_loseLevel : Cond.selects RX3 yX3_loseLevel yX3_loseLevel ∈ zTs := zq 502 rfl rfl
set_option maxRecDepth 20000 in
theorem q_co_X3_loseLevel : Cond.code yX3_loseLevel cX3_loseLevel 2 (some .int) ∈ zTs := zq 503 rfl rfl
set_option maxRecDepth 20000 in
theorem q_ml_L_109 : Cond.methodLink RL 109 yL_exchange ∈ zTs := zq 505 rfl rfl
set_option maxRecDepth 20000 in
theorem q_st_L_exchange : Cond.static yL_exchange ∈ zTs := zq 506 rfl rfl
set_option maxRecDepth 20000 in
theorem q_cw_L_exchange : Cond.codeWith yL_exchange cL_exchange 5 (some .int) [(0, 10, 13, 13), (0, 10, 17, 33)] ∈ zTs := zq 507 rfl rfl
set_option maxRecDepth 20000 in
theorem q_ml_L_46 : Cond.methodLink RL 46 yX3_exchange ∈ zTs := zq 508 rfl rfl
set_option maxRecDepth 20000 in
theorem q_im_X3_exchange : Cond.instanceMethod yX3_exchange ∈ zTs := zq 509 rfl rfl
set_option maxRecDepth 20000 in
theorem q_se_X3_exchange : Cond.selects RX3 yX3_exchange yX3_exchange ∈ zTs := zq 510 rfl rfl
set_option maxRecDepth 20000 in
theorem q_co_X3_exchange : Cond.code yX3_exchange cX3_exchange 5 (some .int) ∈ zTs := zq 511 rfl rfl
set_option maxRecDepth 20000 in
theorem q_ml_L_116 : Cond.methodLink RL 116 yL_level ∈ zTs := zq 514 rfl rfl
set_option maxRecDepth 20000 in
theorem q_st_L_level : Cond.static yL_level ∈ zTs := zq 515 rfl rfl
set_option maxRecDepth 20000 in
theorem q_cw_L_level : Cond.codeWith yL_level cL_level 4 (some .int) [(0, 9, 12, 13)] ∈ zTs := zq 516 rfl rfl
set_option maxRecDepth 20000 in
theorem q_ml_L_49 : Cond.methodLink RL 49 yX3_level ∈ zTs := zq 517 rfl rfl
set_option maxRecDepth 20000 in
theorem q_im_X3_level : Cond.instanceMethod yX3_level ∈ zTs := zq 518 rfl rfl
set_option maxRecDepth 20000 in
theorem q_se_X3_level : Cond.selects RX3 yX3_level yX3_level ∈ zTs := zq 519 rfl rfl
set_option maxRecDepth 20000 in
theorem q_co_X3_level : Cond.code yX3_level cX3_level 2 (some .int) ∈ zTs := zq 520 rfl rfl
set_option maxRecDepth 20000 in
theorem q_ml_L_139 : Cond.methodLink RL 139 yL_value ∈ zTs := zq 521 rfl rfl
set_option maxRecDepth 20000 in
theorem q_st_L_value : Cond.static yL_value ∈ zTs := zq 522 rfl rfl
set_option maxRecDepth 20000 in
theorem q_cw_L_value : Cond.codeWith yL_value cL_value 4 (some .int) [(0, 9, 12, 13), (0, 9, 15, 33)] ∈ zTs := zq 523 rfl rfl
set_option maxRecDepth 20000 in
theorem q_ml_L_52 : Cond.methodLink RL 52 yX3_value ∈ zTs := zq 524 rfl rfl
set_option maxRecDepth 20000 in
theorem q_im_X3_value : Cond.instanceMethod yX3_value ∈ zTs := zq 525 rfl rfl
set_option maxRecDepth 20000 in
theorem q_se_X3_value : Cond.selects RX3 yX3_value yX3_value ∈ zTs := zq 526 rfl rfl
set_option maxRecDepth 20000 in
theorem q_co_X3_value : Cond.code yX3_value cX3_value 2 (some .int) ∈ zTs := zq 527 rfl rfl
set_option maxRecDepth 20000 in
theorem q_ml_X3_199 : Cond.methodLink RX3 199 yX3_leadsIntoRing ∈ zTs := zq 529 rfl rfl
set_option maxRecDepth 20000 in
theorem q_im_X3_leadsIntoRing : Cond.instanceMethod yX3_leadsIntoRing ∈ zTs := zq 531 rfl rfl
set_option maxRecDepth 20000 in
theorem q_co_X3_leadsIntoRing : Cond.code yX3_leadsIntoRing cX3_leadsIntoRing 4 (some .boolean) ∈ zTs := zq 532 rfl rfl
set_option maxRecDepth 20000 in
theorem q_ml_X3_204 : Cond.methodLink RX3 204 yX3_sumOf ∈ zTs := zq 534 rfl rfl
set_option maxRecDepth 20000 in
theorem q_im_X3_sumOf : Cond.instanceMethod yX3_sumOf ∈ zTs := zq 536 rfl rfl
set_option maxRecDepth 20000 in
theorem q_co_X3_sumOf : Cond.code yX3_sumOf cX3_sumOf 6 (some .int) ∈ zTs := zq 537 rfl rfl
set_option maxRecDepth 20000 in
theorem q_ml_X3_251 : Cond.methodLink RX3 251 yX3_modifierOf ∈ zTs := zq 538 rfl rfl
set_option maxRecDepth 20000 in
theorem q_im_X3_modifierOf : Cond.instanceMethod yX3_modifierOf ∈ zTs := zq 540 rfl rfl
set_option maxRecDepth 20000 in
theorem q_co_X3_modifierOf : Cond.code yX3_modifierOf cX3_modifierOf 2 (some .int) ∈ zTs := zq 541 rfl rfl
set_option maxRecDepth 20000 in
theorem q_ml_X3_233 : Cond.methodLink RX3 233 yJ9_floorDiv_7cf53 ∈ zTs := zq 542 rfl rfl
set_option maxRecDepth 20000 in
theorem q_st_J9_floorDiv_7cf53 : Cond.static yJ9_floorDiv_7cf53 ∈ zTs := zq 543 rfl rfl
set_option maxRecDepth 20000 in
theorem q_co_J9_floorDiv_7cf53 : Cond.code yJ9_floorDiv_7cf53 cJ9_floorDiv_7cf53 3 (some .int) ∈ zTs := zq 544 rfl rfl
set_option maxRecDepth 20000 in
theorem q_ml_X3_210 : Cond.methodLink RX3 210 yX3_bonusFrom ∈ zTs := zq 545 rfl rfl
set_option maxRecDepth 20000 in
theorem q_im_X3_bonusFrom : Cond.instanceMethod yX3_bonusFrom ∈ zTs := zq 547 rfl rfl
set_option maxRecDepth 20000 in
theorem q_co_X3_bonusFrom : Cond.code yX3_bonusFrom cX3_bonusFrom 8 (some .int) ∈ zTs := zq 548 rfl rfl
set_option maxRecDepth 20000 in
theorem q_ml_L_142 : Cond.methodLink RL 142 yL_bonus ∈ zTs := zq 549 rfl rfl
set_option maxRecDepth 20000 in
theorem q_st_L_bonus : Cond.static yL_bonus ∈ zTs := zq 550 rfl rfl
set_option maxRecDepth 20000 in
theorem q_cw_L_bonus : Cond.codeWith yL_bonus cL_bonus 5 (some .int) [(0, 10, 13, 13), (0, 10, 17, 15)] ∈ zTs := zq 551 rfl rfl
set_option maxRecDepth 20000 in
theorem q_ml_L_55 : Cond.methodLink RL 55 yX3_bonus ∈ zTs := zq 552 rfl rfl
set_option maxRecDepth 20000 in
theorem q_im_X3_bonus : Cond.instanceMethod yX3_bonus ∈ zTs := zq 553 rfl rfl
set_option maxRecDepth 20000 in
theorem q_se_X3_bonus : Cond.selects RX3 yX3_bonus yX3_bonus ∈ zTs := zq 554 rfl rfl
set_option maxRecDepth 20000 in
theorem q_co_X3_bonus : Cond.code yX3_bonus cX3_bonus 3 (some .int) ∈ zTs := zq 555 rfl rfl
set_option maxRecDepth 20000 in
theorem q_ml_L_145 : Cond.methodLink RL 145 yL_isRing ∈ zTs := zq 557 rfl rfl
set_option maxRecDepth 20000 in
theorem q_st_L_isRing : Cond.static yL_isRing ∈ zTs := zq 558 rfl rfl
set_option maxRecDepth 20000 in
theorem q_cw_L_isRing : Cond.codeWith yL_isRing cL_isRing 4 (some .int) [(0, 16, 19, 13)] ∈ zTs := zq 559 rfl rfl
set_option maxRecDepth 20000 in
theorem q_ml_L_58 : Cond.methodLink RL 58 yX3_isRing ∈ zTs := zq 560 rfl rfl
set_option maxRecDepth 20000 in
theorem q_im_X3_isRing : Cond.instanceMethod yX3_isRing ∈ zTs := zq 561 rfl rfl
set_option maxRecDepth 20000 in
theorem q_se_X3_isRing : Cond.selects RX3 yX3_isRing yX3_isRing ∈ zTs := zq 562 rfl rfl
set_option maxRecDepth 20000 in
theorem q_co_X3_isRing : Cond.code yX3_isRing cX3_isRing 2 (some .boolean) ∈ zTs := zq 563 rfl rfl
set_option maxRecDepth 20000 in
theorem q_ml_L_156 : Cond.methodLink RL 156 yL_isLawfulByOrders ∈ zTs := zq 564 rfl rfl
set_option maxRecDepth 20000 in
theorem q_st_L_isLawfulByOrders : Cond.static yL_isLawfulByOrders ∈ zTs := zq 565 rfl rfl
set_option maxRecDepth 20000 in
theorem q_cw_L_isLawfulByOrders : Cond.codeWith yL_isLawfulByOrders cL_isLawfulByOrders 3 (some .int) [(0, 15, 18, 33)] ∈ zTs := zq 566 rfl rfl
set_option maxRecDepth 20000 in
theorem q_ml_L_62 : Cond.methodLink RL 62 yX3_isLawfulByOrders ∈ zTs := zq 567 rfl rfl
set_option maxRecDepth 20000 in
theorem q_im_X3_isLawfulByOrders : Cond.instanceMethod yX3_isLawfulByOrders ∈ zTs := zq 568 rfl rfl
set_option maxRecDepth 20000 in
theorem q_se_X3_isLawfulByOrders : Cond.selects RX3 yX3_isLawfulByOrders yX3_isLawfulByOrders ∈ zTs := zq 569 rfl rfl
set_option maxRecDepth 20000 in
theorem q_co_X3_isLawfulByOrders : Cond.code yX3_isLawfulByOrders cX3_isLawfulByOrders 2 (some .boolean) ∈ zTs := zq 570 rfl rfl
set_option maxRecDepth 20000 in
theorem q_ml_X3_217 : Cond.methodLink RX3 217 yX3_someOrderEnds ∈ zTs := zq 572 rfl rfl
set_option maxRecDepth 20000 in
theorem q_im_X3_someOrderEnds : Cond.instanceMethod yX3_someOrderEnds ∈ zTs := zq 574 rfl rfl
set_option maxRecDepth 20000 in
theorem q_co_X3_someOrderEnds : Cond.code yX3_someOrderEnds cX3_someOrderEnds 4 (some .boolean) ∈ zTs := zq 575 rfl rfl
set_option maxRecDepth 20000 in
theorem q_ml_L_159 : Cond.methodLink RL 159 yL_stepAt ∈ zTs := zq 576 rfl rfl
set_option maxRecDepth 20000 in
theorem q_st_L_stepAt : Cond.static yL_stepAt ∈ zTs := zq 577 rfl rfl
set_option maxRecDepth 20000 in
theorem q_cw_L_stepAt : Cond.codeWith yL_stepAt cL_stepAt 4 (some .int) [(0, 9, 12, 13), (0, 9, 15, 33)] ∈ zTs := zq 578 rfl rfl
set_option maxRecDepth 20000 in
theorem q_ml_L_66 : Cond.methodLink RL 66 yX3_stepAt ∈ zTs := zq 579 rfl rfl
set_option maxRecDepth 20000 in
theorem q_im_X3_stepAt : Cond.instanceMethod yX3_stepAt ∈ zTs := zq 580 rfl rfl
set_option maxRecDepth 20000 in
theorem q_se_X3_stepAt : Cond.selects RX3 yX3_stepAt yX3_stepAt ∈ zTs := zq 581 rfl rfl
set_option maxRecDepth 20000 in
theorem q_co_X3_stepAt : Cond.code yX3_stepAt cX3_stepAt 2 (some .int) ∈ zTs := zq 582 rfl rfl
set_option maxRecDepth 20000 in
theorem q_ml_X3_224 : Cond.methodLink RX3 224 yX3_stepOfFirstOrder ∈ zTs := zq 585 rfl rfl
set_option maxRecDepth 20000 in
theorem q_im_X3_stepOfFirstOrder : Cond.instanceMethod yX3_stepOfFirstOrder ∈ zTs := zq 587 rfl rfl
set_option maxRecDepth 20000 in
theorem q_co_X3_stepOfFirstOrder : Cond.code yX3_stepOfFirstOrder cX3_stepOfFirstOrder 4 (some .int) ∈ zTs := zq 588 rfl rfl
set_option maxRecDepth 20000 in
theorem q_cl_L_70 : Cond.classLink RL 70 RX4 ∈ zTs := zq 589 rfl rfl
set_option maxRecDepth 20000 in
theorem q_is_X4 : Cond.instantiable RX4 21 ∈ zTs := zq 590 rfl rfl
set_option maxRecDepth 20000 in
theorem q_ml_L_72 : Cond.methodLink RL 72 yX4_init ∈ zTs := zq 591 rfl rfl
set_option maxRecDepth 20000 in
theorem q_im_X4_init : Cond.instanceMethod yX4_init ∈ zTs := zq 592 rfl rfl
set_option maxRecDepth 20000 in
theorem q_co_X4_init : Cond.code yX4_init cX4_init 2 none ∈ zTs := zq 593 rfl rfl
set_option maxRecDepth 20000 in
theorem q_ml_X4_1 : Cond.methodLink RX4 1 objectInit ∈ zTs := zq 594 rfl rfl
set_option maxRecDepth 20000 in
theorem q_fl_X4_7 : Cond.fieldLink RX4 7 "RulesheetModel" "score" "[I" ∈ zTs := zq 595 rfl rfl
set_option maxRecDepth 20000 in
theorem q_fl_X4_13 : Cond.fieldLink RX4 13 "RulesheetModel" "taken" "[I" ∈ zTs := zq 596 rfl rfl
set_option maxRecDepth 20000 in
theorem q_fl_X4_16 : Cond.fieldLink RX4 16 "RulesheetModel" "level" "[I" ∈ zTs := zq 597 rfl rfl
set_option maxRecDepth 20000 in
theorem q_fl_X4_95 : Cond.fieldLink RX4 95 "RulesheetModel" "levels" "I" ∈ zTs := zq 598 rfl rfl
set_option maxRecDepth 20000 in
theorem q_fl_X4_111 : Cond.fieldLink RX4 111 "RulesheetModel" "gifts" "I" ∈ zTs := zq 599 rfl rfl
set_option maxRecDepth 20000 in
theorem q_fl_X4_19 : Cond.fieldLink RX4 19 "RulesheetModel" "needAbility" "[I" ∈ zTs := zq 600 rfl rfl
set_option maxRecDepth 20000 in
theorem q_fl_X4_22 : Cond.fieldLink RX4 22 "RulesheetModel" "needScore" "[I" ∈ zTs := zq 601 rfl rfl
set_option maxRecDepth 20000 in
theorem q_fl_X4_25 : Cond.fieldLink RX4 25 "RulesheetModel" "needCalling" "[I" ∈ zTs := zq 602 rfl rfl
set_option maxRecDepth 20000 in
theorem q_fl_X4_28 : Cond.fieldLink RX4 28 "RulesheetModel" "needLevel" "[I" ∈ zTs := zq 603 rfl rfl
set_option maxRecDepth 20000 in
theorem q_fl_X4_31 : Cond.fieldLink RX4 31 "RulesheetModel" "needGift" "[I" ∈ zTs := zq 604 rfl rfl
set_option maxRecDepth 20000 in
theorem q_fl_X4_34 : Cond.fieldLink RX4 34 "RulesheetModel" "barCalling" "[I" ∈ zTs := zq 605 rfl rfl
set_option maxRecDepth 20000 in
theorem q_fl_X4_37 : Cond.fieldLink RX4 37 "RulesheetModel" "barLevel" "[I" ∈ zTs := zq 606 rfl rfl
set_option maxRecDepth 20000 in
theorem q_fl_X4_40 : Cond.fieldLink RX4 40 "RulesheetModel" "bonusValue" "[I" ∈ zTs := zq 607 rfl rfl
set_option maxRecDepth 20000 in
theorem q_fl_X4_43 : Cond.fieldLink RX4 43 "RulesheetModel" "bonusKind" "[I" ∈ zTs := zq 608 rfl rfl
set_option maxRecDepth 20000 in
theorem q_fl_X4_46 : Cond.fieldLink RX4 46 "RulesheetModel" "amount" "[I" ∈ zTs := zq 609 rfl rfl
set_option maxRecDepth 20000 in
theorem q_fl_X4_49 : Cond.fieldLink RX4 49 "RulesheetModel" "base" "[I" ∈ zTs := zq 610 rfl rfl
set_option maxRecDepth 20000 in
theorem q_fl_X4_52 : Cond.fieldLink RX4 52 "RulesheetModel" "ofAbility" "[I" ∈ zTs := zq 611 rfl rfl
set_option maxRecDepth 20000 in
theorem q_fl_X4_55 : Cond.fieldLink RX4 55 "RulesheetModel" "ofCalling" "[I" ∈ zTs := zq 612 rfl rfl
set_option maxRecDepth 20000 in
theorem q_fl_X4_58 : Cond.fieldLink RX4 58 "RulesheetModel" "ofValue" "[I" ∈ zTs := zq 613 rfl rfl
set_option maxRecDepth 20000 in
theorem q_fl_X4_61 : Cond.fieldLink RX4 61 "RulesheetModel" "leads" "[Z" ∈ zTs := zq 614 rfl rfl
set_option maxRecDepth 20000 in
theorem q_fl_X4_65 : Cond.fieldLink RX4 65 "RulesheetModel" "thrown" "I" ∈ zTs := zq 615 rfl rfl
set_option maxRecDepth 20000 in
theorem q_ac_boolean : Cond.arrayClass .boolean ∈ zTs := zq 659 rfl rfl
set_option maxRecDepth 20000 in
theorem q_ml_L_79 : Cond.methodLink RL 79 yX4_thrown ∈ zTs := zq 660 rfl rfl
set_option maxRecDepth 20000 in
theorem q_im_X4_thrown : Cond.instanceMethod yX4_thrown ∈ zTs := zq 661 rfl rfl
set_option maxRecDepth 20000 in
theorem q_se_X4_thrown : Cond.selects RX4 yX4_thrown yX4_thrown ∈ zTs := zq 662 rfl rfl
set_option maxRecDepth 20000 in
theorem q_co_X4_thrown : Cond.code yX4_thrown cX4_thrown 1 (some .int) ∈ zTs := zq 663 rfl rfl
set_option maxRecDepth 20000 in
theorem q_ml_L_78 : Cond.methodLink RL 78 yX4_setNeeds ∈ zTs := zq 664 rfl rfl
set_option maxRecDepth 20000 in
theorem q_im_X4_setNeeds : Cond.instanceMethod yX4_setNeeds ∈ zTs := zq 665 rfl rfl
set_option maxRecDepth 20000 in
theorem q_se_X4_setNeeds : Cond.selects RX4 yX4_setNeeds yX4_setNeeds ∈ zTs := zq 666 rfl rfl
set_option maxRecDepth 20000 in
theorem q_co_X4_setNeeds : Cond.code yX4_setNeeds cX4_setNeeds 9 none ∈ zTs := zq 667 rfl rfl
set_option maxRecDepth 20000 in
theorem q_ml_X4_73 : Cond.methodLink RX4 73 yX4_isGift ∈ zTs := zq 668 rfl rfl
set_option maxRecDepth 20000 in
theorem q_st_X4_isGift : Cond.static yX4_isGift ∈ zTs := zq 669 rfl rfl
set_option maxRecDepth 20000 in
theorem q_co_X4_isGift : Cond.code yX4_isGift cX4_isGift 1 (some .boolean) ∈ zTs := zq 670 rfl rfl
set_option maxRecDepth 20000 in
theorem q_ml_X4_69 : Cond.methodLink RX4 69 yX4_in ∈ zTs := zq 671 rfl rfl
set_option maxRecDepth 20000 in
theorem q_st_X4_in : Cond.static yX4_in ∈ zTs := zq 672 rfl rfl
set_option maxRecDepth 20000 in
theorem q_co_X4_in : Cond.code yX4_in cX4_in 3 (some .boolean) ∈ zTs := zq 673 rfl rfl
set_option maxRecDepth 20000 in
theorem q_ml_X4_77 : Cond.methodLink RX4 77 yX4_goes ∈ zTs := zq 674 rfl rfl
set_option maxRecDepth 20000 in
theorem q_im_X4_goes : Cond.instanceMethod yX4_goes ∈ zTs := zq 676 rfl rfl
set_option maxRecDepth 20000 in
theorem q_co_X4_goes : Cond.code yX4_goes cX4_goes 4 (some .boolean) ∈ zTs := zq 677 rfl rfl
set_option maxRecDepth 20000 in
theorem q_ml_L_85 : Cond.methodLink RL 85 yX4_bar ∈ zTs := zq 678 rfl rfl
set_option maxRecDepth 20000 in
theorem q_im_X4_bar : Cond.instanceMethod yX4_bar ∈ zTs := zq 679 rfl rfl
set_option maxRecDepth 20000 in
theorem q_se_X4_bar : Cond.selects RX4 yX4_bar yX4_bar ∈ zTs := zq 680 rfl rfl
set_option maxRecDepth 20000 in
theorem q_co_X4_bar : Cond.code yX4_bar cX4_bar 4 none ∈ zTs := zq 681 rfl rfl
set_option maxRecDepth 20000 in
theorem q_ml_L_89 : Cond.methodLink RL 89 yX4_setBonus ∈ zTs := zq 682 rfl rfl
set_option maxRecDepth 20000 in
theorem q_im_X4_setBonus : Cond.instanceMethod yX4_setBonus ∈ zTs := zq 683 rfl rfl
set_option maxRecDepth 20000 in
theorem q_se_X4_setBonus : Cond.selects RX4 yX4_setBonus yX4_setBonus ∈ zTs := zq 684 rfl rfl
set_option maxRecDepth 20000 in
theorem q_co_X4_setBonus : Cond.code yX4_setBonus cX4_setBonus 5 none ∈ zTs := zq 685 rfl rfl
set_option maxRecDepth 20000 in
theorem q_ml_L_93 : Cond.methodLink RL 93 yX4_setValue ∈ zTs := zq 686 rfl rfl
set_option maxRecDepth 20000 in
theorem q_im_X4_setValue : Cond.instanceMethod yX4_setValue ∈ zTs := zq 687 rfl rfl
set_option maxRecDepth 20000 in
theorem q_se_X4_setValue : Cond.selects RX4 yX4_setValue yX4_setValue ∈ zTs := zq 688 rfl rfl
set_option maxRecDepth 20000 in
theorem q_co_X4_setValue : Cond.code yX4_setValue cX4_setValue 7 none ∈ zTs := zq 689 rfl rfl
set_option maxRecDepth 20000 in
theorem q_ml_X4_81 : Cond.methodLink RX4 81 yX4_isValue ∈ zTs := zq 690 rfl rfl
set_option maxRecDepth 20000 in
theorem q_st_X4_isValue : Cond.static yX4_isValue ∈ zTs := zq 691 rfl rfl
set_option maxRecDepth 20000 in
theorem q_co_X4_isValue : Cond.code yX4_isValue cX4_isValue 1 (some .boolean) ∈ zTs := zq 692 rfl rfl
set_option maxRecDepth 20000 in
theorem q_ml_L_97 : Cond.methodLink RL 97 yX4_setScore ∈ zTs := zq 693 rfl rfl
set_option maxRecDepth 20000 in
theorem q_im_X4_setScore : Cond.instanceMethod yX4_setScore ∈ zTs := zq 694 rfl rfl
set_option maxRecDepth 20000 in
theorem q_se_X4_setScore : Cond.selects RX4 yX4_setScore yX4_setScore ∈ zTs := zq 695 rfl rfl
set_option maxRecDepth 20000 in
theorem q_co_X4_setScore : Cond.code yX4_setScore cX4_setScore 5 (some .int) ∈ zTs := zq 696 rfl rfl
set_option maxRecDepth 20000 in
theorem q_ml_X4_88 : Cond.methodLink RX4 88 yX4_cost ∈ zTs := zq 697 rfl rfl
set_option maxRecDepth 20000 in
theorem q_im_X4_cost : Cond.instanceMethod yX4_cost ∈ zTs := zq 699 rfl rfl
set_option maxRecDepth 20000 in
theorem q_co_X4_cost : Cond.code yX4_cost cX4_cost 3 (some .int) ∈ zTs := zq 700 rfl rfl
set_option maxRecDepth 20000 in
theorem q_ml_X4_84 : Cond.methodLink RX4 84 yX4_costOf ∈ zTs := zq 701 rfl rfl
set_option maxRecDepth 20000 in
theorem q_st_X4_costOf : Cond.static yX4_costOf ∈ zTs := zq 702 rfl rfl
set_option maxRecDepth 20000 in
theorem q_co_X4_costOf : Cond.code yX4_costOf cX4_costOf 1 (some .int) ∈ zTs := zq 703 rfl rfl
set_option maxRecDepth 20000 in
theorem q_ml_L_101 : Cond.methodLink RL 101 yX4_takeLevel ∈ zTs := zq 704 rfl rfl
set_option maxRecDepth 20000 in
theorem q_im_X4_takeLevel : Cond.instanceMethod yX4_takeLevel ∈ zTs := zq 705 rfl rfl
set_option maxRecDepth 20000 in
theorem q_se_X4_takeLevel : Cond.selects RX4 yX4_takeLevel yX4_takeLevel ∈ zTs := zq 706 rfl rfl
set_option maxRecDepth 20000 in
theorem q_co_X4_takeLevel : Cond.code yX4_takeLevel cX4_takeLevel 2 (some .int) ∈ zTs := zq 707 rfl rfl
set_option maxRecDepth 20000 in
theorem q_ml_X4_92 : Cond.methodLink RX4 92 yX4_isCalling ∈ zTs := zq 708 rfl rfl
set_option maxRecDepth 20000 in
theorem q_st_X4_isCalling : Cond.static yX4_isCalling ∈ zTs := zq 709 rfl rfl
set_option maxRecDepth 20000 in
theorem q_co_X4_isCalling : Cond.code yX4_isCalling cX4_isCalling 1 (some .boolean) ∈ zTs := zq 710 rfl rfl
set_option maxRecDepth 20000 in
theorem q_ml_L_104 : Cond.methodLink RL 104 yX4_takeGift ∈ zTs := zq 711 rfl rfl
set_option maxRecDepth 20000 in
theorem q_im_X4_takeGift : Cond.instanceMethod yX4_takeGift ∈ zTs := zq 712 rfl rfl
set_option maxRecDepth 20000 in
theorem q_se_X4_takeGift : Cond.selects RX4 yX4_takeGift yX4_takeGift ∈ zTs := zq 713 rfl rfl
set_option maxRecDepth 20000 in
theorem q_co_X4_takeGift : Cond.code yX4_takeGift cX4_takeGift 3 (some .int) ∈ zTs := zq 714 rfl rfl
set_option maxRecDepth 20000 in
theorem q_ml_X4_118 : Cond.methodLink RX4 118 yX4_mayTakeNow ∈ zTs := zq 715 rfl rfl
set_option maxRecDepth 20000 in
theorem q_im_X4_mayTakeNow : Cond.instanceMethod yX4_mayTakeNow ∈ zTs := zq 717 rfl rfl
set_option maxRecDepth 20000 in
theorem q_co_X4_mayTakeNow : Cond.code yX4_mayTakeNow cX4_mayTakeNow 2 (some .boolean) ∈ zTs := zq 718 rfl rfl
set_option maxRecDepth 20000 in
theorem q_ml_X4_114 : Cond.methodLink RX4 114 yX4_mayTake ∈ zTs := zq 719 rfl rfl
set_option maxRecDepth 20000 in
theorem q_im_X4_mayTake : Cond.instanceMethod yX4_mayTake ∈ zTs := zq 721 rfl rfl
set_option maxRecDepth 20000 in
theorem q_co_X4_mayTake : Cond.code yX4_mayTake cX4_mayTake 12 (some .boolean) ∈ zTs := zq 722 rfl rfl
set_option maxRecDepth 20000 in
theorem q_ml_X4_98 : Cond.methodLink RX4 98 yX4_many ∈ zTs := zq 723 rfl rfl
set_option maxRecDepth 20000 in
theorem q_st_X4_many : Cond.static yX4_many ∈ zTs := zq 724 rfl rfl
set_option maxRecDepth 20000 in
theorem q_co_X4_many : Cond.code yX4_many cX4_many 3 (some .int) ∈ zTs := zq 725 rfl rfl
set_option maxRecDepth 20000 in
theorem q_ml_X4_101 : Cond.methodLink RX4 101 yX4_half ∈ zTs := zq 726 rfl rfl
set_option maxRecDepth 20000 in
theorem q_st_X4_half : Cond.static yX4_half ∈ zTs := zq 727 rfl rfl
set_option maxRecDepth 20000 in
theorem q_co_X4_half : Cond.code yX4_half cX4_half 1 (some .int) ∈ zTs := zq 728 rfl rfl
set_option maxRecDepth 20000 in
theorem q_ml_X4_104 : Cond.methodLink RX4 104 yX4_areScores ∈ zTs := zq 729 rfl rfl
set_option maxRecDepth 20000 in
theorem q_im_X4_areScores : Cond.instanceMethod yX4_areScores ∈ zTs := zq 731 rfl rfl
set_option maxRecDepth 20000 in
theorem q_co_X4_areScores : Cond.code yX4_areScores cX4_areScores 2 (some .boolean) ∈ zTs := zq 732 rfl rfl
set_option maxRecDepth 20000 in
theorem q_ml_X4_107 : Cond.methodLink RX4 107 yX4_has ∈ zTs := zq 733 rfl rfl
set_option maxRecDepth 20000 in
theorem q_st_X4_has : Cond.static yX4_has ∈ zTs := zq 734 rfl rfl
set_option maxRecDepth 20000 in
theorem q_co_X4_has : Cond.code yX4_has cX4_has 2 (some .boolean) ∈ zTs := zq 735 rfl rfl
set_option maxRecDepth 20000 in
theorem q_ml_L_108 : Cond.methodLink RL 108 yX4_loseLevel ∈ zTs := zq 736 rfl rfl
set_option maxRecDepth 20000 in
theorem q_im_X4_loseLevel : Cond.instanceMethod yX4_loseLevel ∈ zTs := zq 737 rfl rfl
set_option maxRecDepth 20000 in
theorem q_se_X4_loseLevel : Cond.selects RX4 yX4_loseLevel yX4_loseLevel ∈ zTs := zq 738 rfl rfl
set_option maxRecDepth 20000 in
theorem q_co_X4_loseLevel : Cond.code yX4_loseLevel cX4_loseLevel 1 (some .int) ∈ zTs := zq 739 rfl rfl
set_option maxRecDepth 20000 in
theorem q_ml_L_111 : Cond.methodLink RL 111 yX4_exchange ∈ zTs := zq 740 rfl rfl
set_option maxRecDepth 20000 in
theorem q_im_X4_exchange : Cond.instanceMethod yX4_exchange ∈ zTs := zq 741 rfl rfl
set_option maxRecDepth 20000 in
theorem q_se_X4_exchange : Cond.selects RX4 yX4_exchange yX4_exchange ∈ zTs := zq 742 rfl rfl
set_option maxRecDepth 20000 in
theorem q_co_X4_exchange : Cond.code yX4_exchange cX4_exchange 7 (some .int) ∈ zTs := zq 743 rfl rfl
set_option maxRecDepth 20000 in
theorem q_ml_X4_121 : Cond.methodLink RX4 121 yX4_isLawfulWith ∈ zTs := zq 744 rfl rfl
set_option maxRecDepth 20000 in
theorem q_im_X4_isLawfulWith : Cond.instanceMethod yX4_isLawfulWith ∈ zTs := zq 746 rfl rfl
set_option maxRecDepth 20000 in
theorem q_co_X4_isLawfulWith : Cond.code yX4_isLawfulWith cX4_isLawfulWith 6 (some .boolean) ∈ zTs := zq 747 rfl rfl
set_option maxRecDepth 20000 in
theorem q_ml_X4_142 : Cond.methodLink RX4 142 yX4_place ∈ zTs := zq 748 rfl rfl
set_option maxRecDepth 20000 in
theorem q_im_X4_place : Cond.instanceMethod yX4_place ∈ zTs := zq 750 rfl rfl
set_option maxRecDepth 20000 in
theorem q_co_X4_place : Cond.code yX4_place cX4_place 5 (some .int) ∈ zTs := zq 751 rfl rfl
set_option maxRecDepth 20000 in
theorem q_ml_X4_146 : Cond.methodLink RX4 146 yX4_leadsOn ∈ zTs := zq 752 rfl rfl
set_option maxRecDepth 20000 in
theorem q_im_X4_leadsOn : Cond.instanceMethod yX4_leadsOn ∈ zTs := zq 754 rfl rfl
set_option maxRecDepth 20000 in
theorem q_co_X4_leadsOn : Cond.code yX4_leadsOn cX4_leadsOn 8 (some .boolean) ∈ zTs := zq 755 rfl rfl
set_option maxRecDepth 20000 in
theorem q_ml_X4_124 : Cond.methodLink RX4 124 yX4_workingOf ∈ zTs := zq 756 rfl rfl
set_option maxRecDepth 20000 in
theorem q_im_X4_workingOf : Cond.instanceMethod yX4_workingOf ∈ zTs := zq 758 rfl rfl
set_option maxRecDepth 20000 in
theorem q_co_X4_workingOf : Cond.code yX4_workingOf cX4_workingOf 6 (some .int) ∈ zTs := zq 759 rfl rfl
set_option maxRecDepth 20000 in
theorem q_ml_L_115 : Cond.methodLink RL 115 yX4_clear ∈ zTs := zq 760 rfl rfl
set_option maxRecDepth 20000 in
theorem q_im_X4_clear : Cond.instanceMethod yX4_clear ∈ zTs := zq 761 rfl rfl
set_option maxRecDepth 20000 in
theorem q_se_X4_clear : Cond.selects RX4 yX4_clear yX4_clear ∈ zTs := zq 762 rfl rfl
set_option maxRecDepth 20000 in
theorem q_co_X4_clear : Cond.code yX4_clear cX4_clear 3 (some .int) ∈ zTs := zq 763 rfl rfl
set_option maxRecDepth 20000 in
theorem q_ml_X4_127 : Cond.methodLink RX4 127 yX4_told ∈ zTs := zq 764 rfl rfl
set_option maxRecDepth 20000 in
theorem q_im_X4_told : Cond.instanceMethod yX4_told ∈ zTs := zq 766 rfl rfl
set_option maxRecDepth 20000 in
theorem q_co_X4_told : Cond.code yX4_told cX4_told 2 (some .int) ∈ zTs := zq 767 rfl rfl
set_option maxRecDepth 20000 in
theorem q_ml_L_118 : Cond.methodLink RL 118 yX4_level ∈ zTs := zq 768 rfl rfl
set_option maxRecDepth 20000 in
theorem q_im_X4_level : Cond.instanceMethod yX4_level ∈ zTs := zq 769 rfl rfl
set_option maxRecDepth 20000 in
theorem q_se_X4_level : Cond.selects RX4 yX4_level yX4_level ∈ zTs := zq 770 rfl rfl
set_option maxRecDepth 20000 in
theorem q_co_X4_level : Cond.code yX4_level cX4_level 2 (some .int) ∈ zTs := zq 771 rfl rfl
set_option maxRecDepth 20000 in
theorem q_ml_L_122 : Cond.methodLink RL 122 yX4_gifts ∈ zTs := zq 772 rfl rfl
set_option maxRecDepth 20000 in
theorem q_im_X4_gifts : Cond.instanceMethod yX4_gifts ∈ zTs := zq 773 rfl rfl
set_option maxRecDepth 20000 in
theorem q_se_X4_gifts : Cond.selects RX4 yX4_gifts yX4_gifts ∈ zTs := zq 774 rfl rfl
set_option maxRecDepth 20000 in
theorem q_co_X4_gifts : Cond.code yX4_gifts cX4_gifts 1 (some .int) ∈ zTs := zq 775 rfl rfl
set_option maxRecDepth 20000 in
theorem q_ml_L_126 : Cond.methodLink RL 126 yX4_working ∈ zTs := zq 776 rfl rfl
set_option maxRecDepth 20000 in
theorem q_im_X4_working : Cond.instanceMethod yX4_working ∈ zTs := zq 777 rfl rfl
set_option maxRecDepth 20000 in
theorem q_se_X4_working : Cond.selects RX4 yX4_working yX4_working ∈ zTs := zq 778 rfl rfl
set_option maxRecDepth 20000 in
theorem q_co_X4_working : Cond.code yX4_working cX4_working 1 (some .int) ∈ zTs := zq 779 rfl rfl
set_option maxRecDepth 20000 in
theorem q_ml_L_130 : Cond.methodLink RL 130 yX4_open ∈ zTs := zq 780 rfl rfl
set_option maxRecDepth 20000 in
theorem q_im_X4_open : Cond.instanceMethod yX4_open ∈ zTs := zq 781 rfl rfl
set_option maxRecDepth 20000 in
theorem q_se_X4_open : Cond.selects RX4 yX4_open yX4_open ∈ zTs := zq 782 rfl rfl
set_option maxRecDepth 20000 in
theorem q_co_X4_open : Cond.code yX4_open cX4_open 3 (some .int) ∈ zTs := zq 783 rfl rfl
set_option maxRecDepth 20000 in
theorem q_ml_L_134 : Cond.methodLink RL 134 yX4_places ∈ zTs := zq 784 rfl rfl
set_option maxRecDepth 20000 in
theorem q_im_X4_places : Cond.instanceMethod yX4_places ∈ zTs := zq 785 rfl rfl
set_option maxRecDepth 20000 in
theorem q_se_X4_places : Cond.selects RX4 yX4_places yX4_places ∈ zTs := zq 786 rfl rfl
set_option maxRecDepth 20000 in
theorem q_co_X4_places : Cond.code yX4_places cX4_places 1 (some .int) ∈ zTs := zq 787 rfl rfl
set_option maxRecDepth 20000 in
theorem q_ml_L_138 : Cond.methodLink RL 138 yX4_points ∈ zTs := zq 788 rfl rfl
set_option maxRecDepth 20000 in
theorem q_im_X4_points : Cond.instanceMethod yX4_points ∈ zTs := zq 789 rfl rfl
set_option maxRecDepth 20000 in
theorem q_se_X4_points : Cond.selects RX4 yX4_points yX4_points ∈ zTs := zq 790 rfl rfl
set_option maxRecDepth 20000 in
theorem q_co_X4_points : Cond.code yX4_points cX4_points 1 (some .int) ∈ zTs := zq 791 rfl rfl
set_option maxRecDepth 20000 in
theorem q_ml_L_141 : Cond.methodLink RL 141 yX4_value ∈ zTs := zq 792 rfl rfl
set_option maxRecDepth 20000 in
theorem q_im_X4_value : Cond.instanceMethod yX4_value ∈ zTs := zq 793 rfl rfl
set_option maxRecDepth 20000 in
theorem q_se_X4_value : Cond.selects RX4 yX4_value yX4_value ∈ zTs := zq 794 rfl rfl
set_option maxRecDepth 20000 in
theorem q_co_X4_value : Cond.code yX4_value cX4_value 7 (some .int) ∈ zTs := zq 795 rfl rfl
set_option maxRecDepth 20000 in
theorem q_ml_X4_134 : Cond.methodLink RX4 134 yX4_isEndless ∈ zTs := zq 796 rfl rfl
set_option maxRecDepth 20000 in
theorem q_im_X4_isEndless : Cond.instanceMethod yX4_isEndless ∈ zTs := zq 798 rfl rfl
set_option maxRecDepth 20000 in
theorem q_co_X4_isEndless : Cond.code yX4_isEndless cX4_isEndless 4 (some .boolean) ∈ zTs := zq 799 rfl rfl
set_option maxRecDepth 20000 in
theorem q_ml_X4_137 : Cond.methodLink RX4 137 yX4_alone ∈ zTs := zq 800 rfl rfl
set_option maxRecDepth 20000 in
theorem q_im_X4_alone : Cond.instanceMethod yX4_alone ∈ zTs := zq 802 rfl rfl
set_option maxRecDepth 20000 in
theorem q_co_X4_alone : Cond.code yX4_alone cX4_alone 4 (some .int) ∈ zTs := zq 803 rfl rfl
set_option maxRecDepth 20000 in
theorem q_ml_X4_130 : Cond.methodLink RX4 130 yX4_bonusOf ∈ zTs := zq 804 rfl rfl
set_option maxRecDepth 20000 in
theorem q_im_X4_bonusOf : Cond.instanceMethod yX4_bonusOf ∈ zTs := zq 806 rfl rfl
set_option maxRecDepth 20000 in
theorem q_co_X4_bonusOf : Cond.code yX4_bonusOf cX4_bonusOf 8 (some .int) ∈ zTs := zq 807 rfl rfl
set_option maxRecDepth 20000 in
theorem q_ml_L_144 : Cond.methodLink RL 144 yX4_bonus ∈ zTs := zq 808 rfl rfl
set_option maxRecDepth 20000 in
theorem q_im_X4_bonus : Cond.instanceMethod yX4_bonus ∈ zTs := zq 809 rfl rfl
set_option maxRecDepth 20000 in
theorem q_se_X4_bonus : Cond.selects RX4 yX4_bonus yX4_bonus ∈ zTs := zq 810 rfl rfl
set_option maxRecDepth 20000 in
theorem q_co_X4_bonus : Cond.code yX4_bonus cX4_bonus 3 (some .int) ∈ zTs := zq 811 rfl rfl
set_option maxRecDepth 20000 in
theorem q_ml_L_147 : Cond.methodLink RL 147 yX4_isRing ∈ zTs := zq 812 rfl rfl
set_option maxRecDepth 20000 in
theorem q_im_X4_isRing : Cond.instanceMethod yX4_isRing ∈ zTs := zq 813 rfl rfl
set_option maxRecDepth 20000 in
theorem q_se_X4_isRing : Cond.selects RX4 yX4_isRing yX4_isRing ∈ zTs := zq 814 rfl rfl
set_option maxRecDepth 20000 in
theorem q_co_X4_isRing : Cond.code yX4_isRing cX4_isRing 2 (some .boolean) ∈ zTs := zq 815 rfl rfl
set_option maxRecDepth 20000 in
theorem q_ml_L_151 : Cond.methodLink RL 151 yX4_attack ∈ zTs := zq 816 rfl rfl
set_option maxRecDepth 20000 in
theorem q_im_X4_attack : Cond.instanceMethod yX4_attack ∈ zTs := zq 817 rfl rfl
set_option maxRecDepth 20000 in
theorem q_se_X4_attack : Cond.selects RX4 yX4_attack yX4_attack ∈ zTs := zq 818 rfl rfl
set_option maxRecDepth 20000 in
theorem q_co_X4_attack : Cond.code yX4_attack cX4_attack 4 (some .int) ∈ zTs := zq 819 rfl rfl
set_option maxRecDepth 20000 in
theorem q_kf_X4_140 : Cond.constantFloat RX4 140 (1082130432) ∈ zTs := zq 820 rfl rfl
set_option maxRecDepth 20000 in
theorem q_kf_X4_141 : Cond.constantFloat RX4 141 (1040187392) ∈ zTs := zq 821 rfl rfl
set_option maxRecDepth 20000 in
theorem q_ml_L_155 : Cond.methodLink RL 155 yX4_isLawful ∈ zTs := zq 822 rfl rfl
set_option maxRecDepth 20000 in
theorem q_im_X4_isLawful : Cond.instanceMethod yX4_isLawful ∈ zTs := zq 823 rfl rfl
set_option maxRecDepth 20000 in
theorem q_se_X4_isLawful : Cond.selects RX4 yX4_isLawful yX4_isLawful ∈ zTs := zq 824 rfl rfl
set_option maxRecDepth 20000 in
theorem q_co_X4_isLawful : Cond.code yX4_isLawful cX4_isLawful 1 (some .boolean) ∈ zTs := zq 825 rfl rfl
set_option maxRecDepth 20000 in
theorem q_ml_L_158 : Cond.methodLink RL 158 yX4_isLawfulByOrders ∈ zTs := zq 826 rfl rfl
set_option maxRecDepth 20000 in
theorem q_im_X4_isLawfulByOrders : Cond.instanceMethod yX4_isLawfulByOrders ∈ zTs := zq 827 rfl rfl
set_option maxRecDepth 20000 in
theorem q_se_X4_isLawfulByOrders : Cond.selects RX4 yX4_isLawfulByOrders yX4_isLawfulByOrders ∈ zTs := zq 828 rfl rfl
set_option maxRecDepth 20000 in
theorem q_co_X4_isLawfulByOrders : Cond.code yX4_isLawfulByOrders cX4_isLawfulByOrders 1 (some .boolean) ∈ zTs := zq 829 rfl rfl
set_option maxRecDepth 20000 in
theorem q_ml_L_161 : Cond.methodLink RL 161 yX4_stepAt ∈ zTs := zq 830 rfl rfl
set_option maxRecDepth 20000 in
theorem q_im_X4_stepAt : Cond.instanceMethod yX4_stepAt ∈ zTs := zq 831 rfl rfl
set_option maxRecDepth 20000 in
theorem q_se_X4_stepAt : Cond.selects RX4 yX4_stepAt yX4_stepAt ∈ zTs := zq 832 rfl rfl
set_option maxRecDepth 20000 in
theorem q_co_X4_stepAt : Cond.code yX4_stepAt cX4_stepAt 8 (some .int) ∈ zTs := zq 833 rfl rfl
set_option maxRecDepth 20000 in
theorem q_ml_X4_149 : Cond.methodLink RX4 149 yX4_firstStep ∈ zTs := zq 834 rfl rfl
set_option maxRecDepth 20000 in
theorem q_im_X4_firstStep : Cond.instanceMethod yX4_firstStep ∈ zTs := zq 836 rfl rfl
set_option maxRecDepth 20000 in
theorem q_co_X4_firstStep : Cond.code yX4_firstStep cX4_firstStep 8 (some .int) ∈ zTs := zq 837 rfl rfl
set_option maxRecDepth 20000 in
theorem q_ac_long : Cond.arrayClass .long ∈ zTs := zq 838 rfl rfl
def zNest : Cond := Cond.methodLinkNest RX0 31 yX3_isAmong "Rulesheet"
end
section
/-! ===== the z layer: a walk over pc, locals by place, stack and cells; heap and locals' array are hidden ===== -/
/-- what a method's walk keeps: program, launch, environment, room, start, method, arguments, frames below, method record, code, class table, writable cells, end, array classes -/
abbrev zE : Type := Program × Launch × Env × Room × State × MethodId × Array Value × List Frame × Method × Code × va_G × (Nat → Prop) × (State → Prop) × (ClassId × ClassId × ClassId)
abbrev zs (E : zE) : State := E.2.2.2.2.1
abbrev zm (E : zE) : MethodId := E.2.2.2.2.2.1
abbrev zargs (E : zE) : Array Value := E.2.2.2.2.2.2.1
abbrev zb (E : zE) : List Frame := E.2.2.2.2.2.2.2.1
abbrev zh (E : zE) : Method := E.2.2.2.2.2.2.2.2.1
abbrev zc (E : zE) : Code := E.2.2.2.2.2.2.2.2.2.1
abbrev zD (E : zE) : va_G := E.2.2.2.2.2.2.2.2.2.2.1
abbrev zA (E : zE) : Nat → Prop := E.2.2.2.2.2.2.2.2.2.2.2.1
abbrev zQ (E : zE) : State → Prop := E.2.2.2.2.2.2.2.2.2.2.2.2.1
abbrev zt (E : zE) : ClassId × ClassId × ClassId := E.2.2.2.2.2.2.2.2.2.2.2.2.2
/-- locals by place -/
def zp : Nat → List (Option Value) → List (Nat × Value)
  | _, [] => []
  | i, none :: l => zp (i + 1) l
  | i, some v :: l => (i, v) :: zp (i + 1) l
def zcat1 (l : List (Option Value)) : Prop := ∀ v, some v ∈ l → v.category = 1
def zHas (ls : Array Slot) (l : List (Option Value)) : Prop := lv_has ls l.length (zp 0 l) ∧ zcat1 l
theorem zp_mem : ∀ (l : List (Option Value)) (b i : Nat) (v : Value), (i, v) ∈ zp b l ↔ b ≤ i ∧ l[i - b]? = some (some v)
  | [], b, i, v => by simp [zp]
  | none :: l, b, i, v => by
    rw [zp, zp_mem l (b + 1) i v]
    constructor
    · rintro ⟨h1, h2⟩
      refine ⟨by omega, ?_⟩
      rw [show i - b = (i - (b + 1)) + 1 by omega]
      simpa using h2
    · rintro ⟨h1, h2⟩
      rcases Nat.eq_or_lt_of_le h1 with e | e
      · subst e; simp at h2
      · refine ⟨e, ?_⟩
        rw [show i - b = (i - (b + 1)) + 1 by omega] at h2
        simpa using h2
  | some w :: l, b, i, v => by
    rw [zp, List.mem_cons, zp_mem l (b + 1) i v]
    constructor
    · rintro (h | ⟨h1, h2⟩)
      · cases h; exact ⟨Nat.le_refl _, by simp⟩
      · refine ⟨by omega, ?_⟩
        rw [show i - b = (i - (b + 1)) + 1 by omega]
        simpa using h2
    · rintro ⟨h1, h2⟩
      rcases Nat.eq_or_lt_of_le h1 with e | e
      · subst e; simp at h2; left; rw [h2]
      · right
        refine ⟨e, ?_⟩
        rw [show i - b = (i - (b + 1)) + 1 by omega] at h2
        simpa using h2
theorem zHas.get {ls : Array Slot} {l : List (Option Value)} (h : zHas ls l) {i : Nat} {v : Value} (hi : l[i]? = some (some v)) : ls[i]? = some (.val v) :=
  h.1.2.2 (i, v) ((zp_mem l 0 i v).mpr ⟨Nat.zero_le _, by simpa using hi⟩)
theorem zHas.of {ls : Array Slot} {l : List (Option Value)} {nL : Nat} {lv : List (Nat × Value)} (h : lv_has ls nL lv) (hn : nL = l.length) (hc : zcat1 l) (hm : ∀ i v, l[i]? = some (some v) → (i, v) ∈ lv) : zHas ls l :=
  ⟨⟨h.1.trans hn, h.2.1, fun q hq => h.2.2 q (hm q.1 q.2 (by simpa using ((zp_mem l 0 q.1 q.2).mp hq).2))⟩, hc⟩
theorem zHas.set {ls' : Array Slot} {l : List (Option Value)} {i : Nat} {v : Value} (hc : zcat1 l) (hv : v.category = 1) (h' : lv_has ls' l.length ((i, v) :: (zp 0 l).filter (fun q => !(q.1 == i) && !(q.1 + 1 == i && q.2.category == 2)))) : zHas ls' (l.set i (some v)) := by
  refine zHas.of h' (by simp) ?_ ?_
  · intro w hw
    rcases List.mem_or_eq_of_mem_set hw with h | h
    · exact hc w h
    · cases h; exact hv
  · intro j w hj
    by_cases e : j = i
    · subst e
      have hlt : j < l.length := by
        have := (List.getElem?_eq_some_iff.mp hj).1
        simpa using this
      rw [List.getElem?_set_self hlt] at hj
      cases hj
      exact List.mem_cons_self
    · rw [List.getElem?_set_ne (Ne.symm e)] at hj
      refine List.mem_cons_of_mem _ (List.mem_filter.mpr ⟨(zp_mem l 0 j w).mpr ⟨Nat.zero_le _, by simpa using hj⟩, ?_⟩)
      have hw : w.category = 1 := hc w (List.mem_of_getElem? hj)
      simp [e, hw]
/-- fewer known locals -/
def zle : List (Option Value) → List (Option Value) → Prop
  | [], [] => True
  | none :: a, _ :: b => zle a b
  | some v :: a, some w :: b => v = w ∧ zle a b
  | _, _ => False
theorem zle_get : ∀ {a b : List (Option Value)}, zle a b → a.length = b.length ∧ ∀ (i : Nat) (v : Value), a[i]? = some (some v) → b[i]? = some (some v)
  | [], [], _ => ⟨rfl, fun i v h => by simp at h⟩
  | none :: a, x :: b, h => by
    obtain ⟨h1, h2⟩ := zle_get (a := a) (b := b) h
    refine ⟨by simp [h1], fun i v hi => ?_⟩
    cases i with
    | zero => simp at hi
    | succ i => simp only [List.getElem?_cons_succ] at hi ⊢; exact h2 i v hi
  | some v :: a, some w :: b, h => by
    obtain ⟨rfl, h⟩ := h
    obtain ⟨h1, h2⟩ := zle_get (a := a) (b := b) h
    refine ⟨by simp [h1], fun i u hi => ?_⟩
    cases i with
    | zero => exact hi
    | succ i => simp only [List.getElem?_cons_succ] at hi ⊢; exact h2 i u hi
theorem zHas.less {ls : Array Slot} {a b : List (Option Value)} (h : zHas ls b) (hl : zle a b) : zHas ls a := by
  obtain ⟨h1, h2⟩ := zle_get hl
  refine zHas.of h.1 h1.symm (fun v hv => ?_) (fun i v hi => (zp_mem b 0 i v).mpr ⟨Nat.zero_le _, by simpa using h2 i v hi⟩)
  obtain ⟨i, hi⟩ := List.getElem?_of_mem hv
  exact h.2 v (List.mem_of_getElem? (h2 i v hi))
/-- the walk -/
def Wz (E : zE) (k n : Nat) (pc : Nat) (lv : List (Option Value)) (st : List Value) (ws : va_W) : Prop :=
  ∀ (ls : Array Slot) (H : Heap) (locs : List Loc), zHas ls lv → va_P (zD E) vwCl ws H → va_D (fun _ => True) ws → va_S (zA E) (zs E).heap H locs →
    W E.1 E.2.1 E.2.2.1 E.2.2.2.1 (zs E) (zm E) (zargs E) (zb E) (zh E) (zc E) H locs k n (zQ E) (F0 (zm E) pc ls st)
/-- the array classes of int, boolean, long -/
abbrev zTy (t : ClassId × ClassId × ClassId) : List (ClassId × FieldType) := [(t.1, .int), (t.2.1, .boolean), (t.2.2, .long)]
/-- what every method's start has of the tables beside its words -/
def zKp (D : va_G) (t : ClassId × ClassId × ClassId) (U : State) : Prop := va_K D vwCl (zTy t) U ∧ va_Nw zNest U
/-- the room of a method of height h -/
abbrev zR (h : Nat) : Room := { frames := h, cells := 0, slots := 0, locals := 32 * h }
abbrev zRx (h : Nat) : Room := { frames := h, cells := 1, slots := 6, locals := 32 * h }
/-- what its rows stand on -/
def zX (E : zE) (own : String) (cc : ByteArray) (nL : Nat) (rm : Room) (D : va_G) (t : ClassId × ClassId × ClassId) (l : Launch) : Prop :=
  E.1.tables.exec = Jvm.exec ∧ (zc E).code = cc ∧ (zc E).maxLocals = nL ∧ (zs E).vm.findClass own = some (zm E).cls ∧ zKp D t (zs E) ∧ E.2.2.2.1 = rm ∧ (∀ w ∈ zTs, w.before (zargs E) (zs E) = true) ∧ zD E = D ∧ zt E = t ∧ E.2.1 = l
/-- the cells that may be written -/
def zWr (E : zE) (L : List Nat) : Prop := ∀ q ∈ L, zA E q
def zin (w : va_W) : Nat → Prop := fun q => q ∈ w.map (fun x => x.1)
section ZR
variable {E : zE} {k n pc : Nat} {lv : List (Option Value)} {st : List Value} {ws : va_W} {own : String} {cc : ByteArray} {nL : Nat} {rm : Room} {D : va_G} {t : ClassId × ClassId × ClassId} {l : Launch}
theorem Wz.eq {ws' : va_W} (h : ws = ws') (kk : Wz E k n pc lv st ws') : Wz E k n pc lv st ws := h ▸ kk
theorem Wz.less {lv' : List (Option Value)} (h : zle lv' lv) (kk : Wz E k n pc lv' st ws) : Wz E k n pc lv st ws := fun ls H locs hl => kk ls H locs (hl.less h)
theorem Wz.wide {k' n' : Nat} (h1 : k ≤ k') (h2 : n ≤ n') (kk : Wz E k' n' pc lv st ws) : Wz E k n pc lv st ws := fun ls H locs hl hP hD hS => W.widen h1 h2 (kk ls H locs hl hP hD hS)
theorem z_iconst (X : zX E own cc nL rm D t l) {i : Int} {v : Int32} (hd : decode cc pc = .ok (.iconst i, 1)) (hv : Int32.ofInt i = v) (kk : Wz E k n (pc + 1) lv (.int v :: st) ws) : Wz E k n pc lv st ws :=
  fun ls H locs hl hP hD hS => lv_iconst X.1 X.2.1 hd hv (kk ls H locs hl hP hD hS)
theorem z_bipush (X : zX E own cc nL rm D t l) {i : Int} {v : Int32} (hd : decode cc pc = .ok (.bipush i, 2)) (hv : (Int8.ofInt i).toInt32 = v) (kk : Wz E k n (pc + 2) lv (.int v :: st) ws) : Wz E k n pc lv st ws :=
  fun ls H locs hl hP hD hS => lv_bipush X.1 X.2.1 hd hv (kk ls H locs hl hP hD hS)
theorem z_sipush (X : zX E own cc nL rm D t l) {i : Int} {v : Int32} (hd : decode cc pc = .ok (.sipush i, 3)) (hv : (Int16.ofInt i).toInt32 = v) (kk : Wz E k n (pc + 3) lv (.int v :: st) ws) : Wz E k n pc lv st ws :=
  fun ls H locs hl hP hD hS => lv_sipush X.1 X.2.1 hd hv (kk ls H locs hl hP hD hS)
theorem z_iload_n (X : zX E own cc nL rm D t l) {i : Fin 4} {j : Nat} {x : Int32} (hd : decode cc pc = .ok (.iload_n i, 1)) (hj : (i : Nat) = j) (hx : lv[j]? = some (some (.int x))) (kk : Wz E k n (pc + 1) lv (.int x :: st) ws) : Wz E k n pc lv st ws :=
  fun ls H locs hl hP hD hS => lv_iload_n X.1 X.2.1 hd hj (hl.get hx) (kk ls H locs hl hP hD hS)
theorem z_iload (X : zX E own cc nL rm D t l) {j : Nat} {x : Int32} (hd : decode cc pc = .ok (.iload j, 2)) (hx : lv[j]? = some (some (.int x))) (kk : Wz E k n (pc + 2) lv (.int x :: st) ws) : Wz E k n pc lv st ws :=
  fun ls H locs hl hP hD hS => lv_iload X.1 X.2.1 hd (hl.get hx) (kk ls H locs hl hP hD hS)
theorem z_aload_n (X : zX E own cc nL rm D t l) {i : Fin 4} {j : Nat} {x : Nat} (hd : decode cc pc = .ok (.aload_n i, 1)) (hj : (i : Nat) = j) (hx : lv[j]? = some (some (.ref x))) (kk : Wz E k n (pc + 1) lv (.ref x :: st) ws) : Wz E k n pc lv st ws :=
  fun ls H locs hl hP hD hS => lv_aload_n X.1 X.2.1 hd hj (hl.get hx) (kk ls H locs hl hP hD hS)
theorem z_aload (X : zX E own cc nL rm D t l) {j : Nat} {x : Nat} (hd : decode cc pc = .ok (.aload j, 2)) (hx : lv[j]? = some (some (.ref x))) (kk : Wz E k n (pc + 2) lv (.ref x :: st) ws) : Wz E k n pc lv st ws :=
  fun ls H locs hl hP hD hS => lv_aload X.1 X.2.1 hd (hl.get hx) (kk ls H locs hl hP hD hS)
theorem z_fload_n (X : zX E own cc nL rm D t l) {i : Fin 4} {j : Nat} {x : UInt32} (hd : decode cc pc = .ok (.fload_n i, 1)) (hj : (i : Nat) = j) (hx : lv[j]? = some (some (.float x))) (kk : Wz E k n (pc + 1) lv (.float x :: st) ws) : Wz E k n pc lv st ws :=
  fun ls H locs hl hP hD hS => lv_fload_n X.1 X.2.1 hd hj (hl.get hx) (kk ls H locs hl hP hD hS)
theorem z_istore_n (X : zX E own cc nL rm D t l) {i : Fin 4} {j : Nat} {x : Int32} (hd : decode cc pc = .ok (.istore_n i, 1)) (hj : (i : Nat) = j) (hn : j < lv.length) (kk : Wz E k n (pc + 1) (lv.set j (some (.int x))) st ws) : Wz E k n pc lv (.int x :: st) ws :=
  fun ls H locs hl hP hD hS => lv_istore_n X.1 X.2.1 hd hj hl.1 hn rfl (fun ls' h' => kk ls' H locs (zHas.set hl.2 rfl h') hP hD hS)
theorem z_istore (X : zX E own cc nL rm D t l) {j : Nat} {x : Int32} (hd : decode cc pc = .ok (.istore j, 2)) (hn : j < lv.length) (kk : Wz E k n (pc + 2) (lv.set j (some (.int x))) st ws) : Wz E k n pc lv (.int x :: st) ws :=
  fun ls H locs hl hP hD hS => lv_istore X.1 X.2.1 hd hl.1 hn rfl (fun ls' h' => kk ls' H locs (zHas.set hl.2 rfl h') hP hD hS)
theorem z_astore_n (X : zX E own cc nL rm D t l) {i : Fin 4} {j : Nat} {x : Nat} (hd : decode cc pc = .ok (.astore_n i, 1)) (hj : (i : Nat) = j) (hn : j < lv.length) (kk : Wz E k n (pc + 1) (lv.set j (some (.ref x))) st ws) : Wz E k n pc lv (.ref x :: st) ws :=
  fun ls H locs hl hP hD hS => lv_astore_n X.1 X.2.1 hd hj hl.1 hn rfl (fun ls' h' => kk ls' H locs (zHas.set hl.2 rfl h') hP hD hS)
theorem z_astore (X : zX E own cc nL rm D t l) {j : Nat} {x : Nat} (hd : decode cc pc = .ok (.astore j, 2)) (hn : j < lv.length) (kk : Wz E k n (pc + 2) (lv.set j (some (.ref x))) st ws) : Wz E k n pc lv (.ref x :: st) ws :=
  fun ls H locs hl hP hD hS => lv_astore X.1 X.2.1 hd hl.1 hn rfl (fun ls' h' => kk ls' H locs (zHas.set hl.2 rfl h') hP hD hS)
theorem z_fstore_n (X : zX E own cc nL rm D t l) {i : Fin 4} {j : Nat} {x : UInt32} (hd : decode cc pc = .ok (.fstore_n i, 1)) (hj : (i : Nat) = j) (hn : j < lv.length) (kk : Wz E k n (pc + 1) (lv.set j (some (.float x))) st ws) : Wz E k n pc lv (.float x :: st) ws :=
  fun ls H locs hl hP hD hS => lv_fstore_n X.1 X.2.1 hd hj hl.1 hn rfl (fun ls' h' => kk ls' H locs (zHas.set hl.2 rfl h') hP hD hS)
theorem z_iinc (X : zX E own cc nL rm D t l) {j : Nat} {i : Int} {x v : Int32} (hd : decode cc pc = .ok (.iinc j i, 3)) (hx : lv[j]? = some (some (.int x))) (hv : x + Int32.ofInt i = v) (kk : Wz E k n (pc + 3) (lv.set j (some (.int v))) st ws) : Wz E k n pc lv st ws := by
  intro ls H locs hl hP hD hS
  obtain ⟨q, hq⟩ := List.getElem?_of_mem ((zp_mem lv 0 j (.int x)).mpr ⟨Nat.zero_le _, by simpa using hx⟩)
  exact lv_iinc X.1 X.2.1 hd hl.1 hq hv (List.getElem?_eq_some_iff.mp hx).1 rfl (fun ls' h' => kk ls' H locs (zHas.set hl.2 rfl h') hP hD hS)
theorem z_dup (X : zX E own cc nL rm D t l) {v : Value} (hd : decode cc pc = .ok (.dup, 1)) (hv : v.category = 1) (kk : Wz E k n (pc + 1) lv (v :: v :: st) ws) : Wz E k n pc lv (v :: st) ws :=
  fun ls H locs hl hP hD hS => lv_dup X.1 X.2.1 hd hv (kk ls H locs hl hP hD hS)
theorem z_dup2 (X : zX E own cc nL rm D t l) {v w : Value} (hd : decode cc pc = .ok (.dup2, 1)) (hv : v.category = 1) (hw : w.category = 1) (kk : Wz E k n (pc + 1) lv (v :: w :: v :: w :: st) ws) : Wz E k n pc lv (v :: w :: st) ws :=
  fun ls H locs hl hP hD hS => lv_dup2_11 X.1 X.2.1 hd hv hw (kk ls H locs hl hP hD hS)
theorem z_iadd (X : zX E own cc nL rm D t l) {x y : Int32} (hd : decode cc pc = .ok (.iadd, 1)) (kk : Wz E k n (pc + 1) lv (.int (x + y) :: st) ws) : Wz E k n pc lv (.int y :: .int x :: st) ws :=
  fun ls H locs hl hP hD hS => lv_iadd X.1 X.2.1 hd (kk ls H locs hl hP hD hS)
theorem z_isub (X : zX E own cc nL rm D t l) {x y : Int32} (hd : decode cc pc = .ok (.isub, 1)) (kk : Wz E k n (pc + 1) lv (.int (x - y) :: st) ws) : Wz E k n pc lv (.int y :: .int x :: st) ws :=
  fun ls H locs hl hP hD hS => lv_isub X.1 X.2.1 hd (kk ls H locs hl hP hD hS)
theorem z_imul (X : zX E own cc nL rm D t l) {x y : Int32} (hd : decode cc pc = .ok (.imul, 1)) (kk : Wz E k n (pc + 1) lv (.int (x * y) :: st) ws) : Wz E k n pc lv (.int y :: .int x :: st) ws :=
  fun ls H locs hl hP hD hS => lv_imul X.1 X.2.1 hd (kk ls H locs hl hP hD hS)
theorem z_idiv (X : zX E own cc nL rm D t l) {x y : Int32} (hd : decode cc pc = .ok (.idiv, 1)) (hy : ¬ y = 0) (kk : Wz E k n (pc + 1) lv (.int (x / y) :: st) ws) : Wz E k n pc lv (.int y :: .int x :: st) ws :=
  fun ls H locs hl hP hD hS => lv_idiv X.1 X.2.1 hd hy (kk ls H locs hl hP hD hS)
theorem z_irem (X : zX E own cc nL rm D t l) {x y : Int32} (hd : decode cc pc = .ok (.irem, 1)) (hy : ¬ y = 0) (kk : Wz E k n (pc + 1) lv (.int (x - x / y * y) :: st) ws) : Wz E k n pc lv (.int y :: .int x :: st) ws :=
  fun ls H locs hl hP hD hS => lv_irem X.1 X.2.1 hd hy (kk ls H locs hl hP hD hS)
theorem z_iand (X : zX E own cc nL rm D t l) {x y : Int32} (hd : decode cc pc = .ok (.iand, 1)) (kk : Wz E k n (pc + 1) lv (.int (x &&& y) :: st) ws) : Wz E k n pc lv (.int y :: .int x :: st) ws :=
  fun ls H locs hl hP hD hS => lv_iand X.1 X.2.1 hd (kk ls H locs hl hP hD hS)
theorem z_ior (X : zX E own cc nL rm D t l) {x y : Int32} (hd : decode cc pc = .ok (.ior, 1)) (kk : Wz E k n (pc + 1) lv (.int (x ||| y) :: st) ws) : Wz E k n pc lv (.int y :: .int x :: st) ws :=
  fun ls H locs hl hP hD hS => lv_ior X.1 X.2.1 hd (kk ls H locs hl hP hD hS)
theorem z_ixor (X : zX E own cc nL rm D t l) {x y : Int32} (hd : decode cc pc = .ok (.ixor, 1)) (kk : Wz E k n (pc + 1) lv (.int (x ^^^ y) :: st) ws) : Wz E k n pc lv (.int y :: .int x :: st) ws :=
  fun ls H locs hl hP hD hS => lv_ixor X.1 X.2.1 hd (kk ls H locs hl hP hD hS)
theorem z_ishl (X : zX E own cc nL rm D t l) {x y : Int32} (hd : decode cc pc = .ok (.ishl, 1)) (kk : Wz E k n (pc + 1) lv (.int (x <<< (y &&& 31)) :: st) ws) : Wz E k n pc lv (.int y :: .int x :: st) ws :=
  fun ls H locs hl hP hD hS => lv_ishl X.1 X.2.1 hd (kk ls H locs hl hP hD hS)
theorem z_ishr (X : zX E own cc nL rm D t l) {x y : Int32} (hd : decode cc pc = .ok (.ishr, 1)) (kk : Wz E k n (pc + 1) lv (.int (x >>> (y &&& 31)) :: st) ws) : Wz E k n pc lv (.int y :: .int x :: st) ws :=
  fun ls H locs hl hP hD hS => lv_ishr X.1 X.2.1 hd (kk ls H locs hl hP hD hS)
theorem z_iushr (X : zX E own cc nL rm D t l) {x y : Int32} (hd : decode cc pc = .ok (.iushr, 1)) (kk : Wz E k n (pc + 1) lv (.int (x.toUInt32 >>> (y.toUInt32 &&& Int32.toUInt32 31)).toInt32 :: st) ws) : Wz E k n pc lv (.int y :: .int x :: st) ws :=
  fun ls H locs hl hP hD hS => lv_iushr X.1 X.2.1 hd rfl (kk ls H locs hl hP hD hS)
theorem z_goto (X : zX E own cc nL rm D t l) {off : Int} {tgt : Nat} (hd : decode cc pc = .ok (.goto off, 3)) (ht : (pc : Int) + off = (tgt : Int)) (kk : Wz E k n tgt lv st ws) : Wz E k n pc lv st ws :=
  fun ls H locs hl hP hD hS => lv_goto X.1 X.2.1 hd ht (kk ls H locs hl hP hD hS)
theorem z_i2l (X : zX E own cc nL rm D t l) {x : Int32} (hd : decode cc pc = .ok (.i2l, 1)) (kk : Wz E k n (pc + 1) lv (.long x.toInt64 :: st) ws) : Wz E k n pc lv (.int x :: st) ws :=
  fun ls H locs hl hP hD hS => lv_i2l X.1 X.2.1 hd rfl (kk ls H locs hl hP hD hS)
theorem z_lconst (X : zX E own cc nL rm D t l) {i : Fin 2} {v : Int64} (hd : decode cc pc = .ok (.lconst i, 1)) (hv : Int64.ofNat (i : Nat) = v) (kk : Wz E k n (pc + 1) lv (.long v :: st) ws) : Wz E k n pc lv st ws :=
  fun ls H locs hl hP hD hS => lv_lconst X.1 X.2.1 hd hv (kk ls H locs hl hP hD hS)
theorem z_lcmp (X : zX E own cc nL rm D t l) {x y : Int64} (hd : decode cc pc = .ok (.lcmp, 1)) (kk : Wz E k n (pc + 1) lv (.int (lg_cmp x y) :: st) ws) : Wz E k n pc lv (.long y :: .long x :: st) ws :=
  fun ls H locs hl hP hD hS => W.lcmp X.1 X.2.1 hd (kk ls H locs hl hP hD hS)
theorem z_fconst0 (X : zX E own cc nL rm D t l) (hd : decode cc pc = .ok (.fconst 0, 1)) (kk : Wz E k n (pc + 1) lv (.float FP.fconst0 :: st) ws) : Wz E k n pc lv st ws :=
  fun ls H locs hl hP hD hS => lv_fconst0 X.1 X.2.1 hd (kk ls H locs hl hP hD hS)
theorem z_i2f (X : zX E own cc nL rm D t l) {x : Int32} (hd : decode cc pc = .ok (.i2f, 1)) (kk : Wz E k n (pc + 1) lv (.float (FP.i2f x) :: st) ws) : Wz E k n pc lv (.int x :: st) ws :=
  fun ls H locs hl hP hD hS => lv_i2f X.1 X.2.1 hd (kk ls H locs hl hP hD hS)
theorem z_f2i (X : zX E own cc nL rm D t l) {x : UInt32} (hd : decode cc pc = .ok (.f2i, 1)) (kk : Wz E k n (pc + 1) lv (.int (FP.f2i x) :: st) ws) : Wz E k n pc lv (.float x :: st) ws :=
  fun ls H locs hl hP hD hS => lv_f2i X.1 X.2.1 hd (kk ls H locs hl hP hD hS)
theorem z_fadd (X : zX E own cc nL rm D t l) {x y : UInt32} (hd : decode cc pc = .ok (.fadd, 1)) (hn : vf_n32 (FP.fadd x y)) (kk : Wz E k n (pc + 1) lv (.float (FP.fadd x y) :: st) ws) : Wz E k n pc lv (.float y :: .float x :: st) ws :=
  fun ls H locs hl hP hD hS => lv_fadd X.1 X.2.1 hd hn (kk ls H locs hl hP hD hS)
theorem z_fsub (X : zX E own cc nL rm D t l) {x y : UInt32} (hd : decode cc pc = .ok (.fsub, 1)) (hn : vf_n32 (FP.fsub x y)) (kk : Wz E k n (pc + 1) lv (.float (FP.fsub x y) :: st) ws) : Wz E k n pc lv (.float y :: .float x :: st) ws :=
  fun ls H locs hl hP hD hS => lv_fsub X.1 X.2.1 hd hn (kk ls H locs hl hP hD hS)
theorem z_fmul (X : zX E own cc nL rm D t l) {x y : UInt32} (hd : decode cc pc = .ok (.fmul, 1)) (hn : vf_n32 (FP.fmul x y)) (kk : Wz E k n (pc + 1) lv (.float (FP.fmul x y) :: st) ws) : Wz E k n pc lv (.float y :: .float x :: st) ws :=
  fun ls H locs hl hP hD hS => lv_fmul X.1 X.2.1 hd hn (kk ls H locs hl hP hD hS)
theorem z_fdiv (X : zX E own cc nL rm D t l) {x y : UInt32} (hd : decode cc pc = .ok (.fdiv, 1)) (hn : vf_n32 (FP.fdiv x y)) (kk : Wz E k n (pc + 1) lv (.float (FP.fdiv x y) :: st) ws) : Wz E k n pc lv (.float y :: .float x :: st) ws :=
  fun ls H locs hl hP hD hS => lv_fdiv X.1 X.2.1 hd hn (kk ls H locs hl hP hD hS)
theorem z_ldcw (X : zX E own cc nL rm D t l) {i : Nat} {v : Int32} (hw : Cond.constant own i v ∈ zTs) (hd : decode cc pc = .ok (.ldc_w i, 3)) (kk : Wz E k n (pc + 3) lv (.int v :: st) ws) : Wz E k n pc lv st ws :=
  fun ls H locs hl hP hD hS => lv_ldcw X.1 X.2.1 X.2.2.2.1 (X.2.2.2.2.2.2.1 _ hw) hd (kk ls H locs hl hP hD hS)
theorem z_ldcf (X : zX E own cc nL rm D t l) {i : Nat} {v : UInt32} (hw : Cond.constantFloat own i v ∈ zTs) (hd : decode cc pc = .ok (.ldc i, 2)) (kk : Wz E k n (pc + 2) lv (.float v :: st) ws) : Wz E k n pc lv st ws :=
  fun ls H locs hl hP hD hS => lv_ldcf X.1 X.2.1 X.2.2.2.1 (X.2.2.2.2.2.2.1 _ hw) hd (kk ls H locs hl hP hD hS)
theorem z_if_eq (X : zX E own cc nL rm D t l) {x : Int32} {off : Int} {tgt : Nat} (hd : decode cc pc = .ok (.ifCond .eq off, 3)) (ht : (pc : Int) + off = (tgt : Int)) (kt : x = 0 → Wz E k n tgt lv st ws) (kf : ¬ (x = 0) → Wz E k n (pc + 3) lv st ws) : Wz E k n pc lv (.int x :: st) ws :=
  fun ls H locs hl hP hD hS => lv_if_eq X.1 X.2.1 hd ht (fun h => kt h ls H locs hl hP hD hS) (fun h => kf h ls H locs hl hP hD hS)
theorem z_if_ne (X : zX E own cc nL rm D t l) {x : Int32} {off : Int} {tgt : Nat} (hd : decode cc pc = .ok (.ifCond .ne off, 3)) (ht : (pc : Int) + off = (tgt : Int)) (kt : ¬ x = 0 → Wz E k n tgt lv st ws) (kf : x = 0 → Wz E k n (pc + 3) lv st ws) : Wz E k n pc lv (.int x :: st) ws :=
  fun ls H locs hl hP hD hS => lv_if_ne X.1 X.2.1 hd ht (fun h => kt h ls H locs hl hP hD hS) (fun h => kf h ls H locs hl hP hD hS)
theorem z_if_lt (X : zX E own cc nL rm D t l) {x : Int32} {off : Int} {tgt : Nat} (hd : decode cc pc = .ok (.ifCond .lt off, 3)) (ht : (pc : Int) + off = (tgt : Int)) (kt : x < 0 → Wz E k n tgt lv st ws) (kf : ¬ (x < 0) → Wz E k n (pc + 3) lv st ws) : Wz E k n pc lv (.int x :: st) ws :=
  fun ls H locs hl hP hD hS => lv_if_lt X.1 X.2.1 hd ht (fun h => kt h ls H locs hl hP hD hS) (fun h => kf h ls H locs hl hP hD hS)
theorem z_if_ge (X : zX E own cc nL rm D t l) {x : Int32} {off : Int} {tgt : Nat} (hd : decode cc pc = .ok (.ifCond .ge off, 3)) (ht : (pc : Int) + off = (tgt : Int)) (kt : 0 ≤ x → Wz E k n tgt lv st ws) (kf : ¬ (0 ≤ x) → Wz E k n (pc + 3) lv st ws) : Wz E k n pc lv (.int x :: st) ws :=
  fun ls H locs hl hP hD hS => lv_if_ge X.1 X.2.1 hd ht (fun h => kt h ls H locs hl hP hD hS) (fun h => kf h ls H locs hl hP hD hS)
theorem z_if_gt (X : zX E own cc nL rm D t l) {x : Int32} {off : Int} {tgt : Nat} (hd : decode cc pc = .ok (.ifCond .gt off, 3)) (ht : (pc : Int) + off = (tgt : Int)) (kt : 0 < x → Wz E k n tgt lv st ws) (kf : ¬ (0 < x) → Wz E k n (pc + 3) lv st ws) : Wz E k n pc lv (.int x :: st) ws :=
  fun ls H locs hl hP hD hS => lv_if_gt X.1 X.2.1 hd ht (fun h => kt h ls H locs hl hP hD hS) (fun h => kf h ls H locs hl hP hD hS)
theorem z_if_le (X : zX E own cc nL rm D t l) {x : Int32} {off : Int} {tgt : Nat} (hd : decode cc pc = .ok (.ifCond .le off, 3)) (ht : (pc : Int) + off = (tgt : Int)) (kt : x ≤ 0 → Wz E k n tgt lv st ws) (kf : ¬ (x ≤ 0) → Wz E k n (pc + 3) lv st ws) : Wz E k n pc lv (.int x :: st) ws :=
  fun ls H locs hl hP hD hS => lv_if_le X.1 X.2.1 hd ht (fun h => kt h ls H locs hl hP hD hS) (fun h => kf h ls H locs hl hP hD hS)
theorem z_icmp_eq (X : zX E own cc nL rm D t l) {x y : Int32} {off : Int} {tgt : Nat} (hd : decode cc pc = .ok (.if_icmp .eq off, 3)) (ht : (pc : Int) + off = (tgt : Int)) (kt : x = y → Wz E k n tgt lv st ws) (kf : ¬ (x = y) → Wz E k n (pc + 3) lv st ws) : Wz E k n pc lv (.int y :: .int x :: st) ws :=
  fun ls H locs hl hP hD hS => lv_icmp_eq X.1 X.2.1 hd ht (fun h => kt h ls H locs hl hP hD hS) (fun h => kf h ls H locs hl hP hD hS)
theorem z_icmp_ne (X : zX E own cc nL rm D t l) {x y : Int32} {off : Int} {tgt : Nat} (hd : decode cc pc = .ok (.if_icmp .ne off, 3)) (ht : (pc : Int) + off = (tgt : Int)) (kt : ¬ x = y → Wz E k n tgt lv st ws) (kf : x = y → Wz E k n (pc + 3) lv st ws) : Wz E k n pc lv (.int y :: .int x :: st) ws :=
  fun ls H locs hl hP hD hS => lv_icmp_ne X.1 X.2.1 hd ht (fun h => kt h ls H locs hl hP hD hS) (fun h => kf h ls H locs hl hP hD hS)
theorem z_icmp_lt (X : zX E own cc nL rm D t l) {x y : Int32} {off : Int} {tgt : Nat} (hd : decode cc pc = .ok (.if_icmp .lt off, 3)) (ht : (pc : Int) + off = (tgt : Int)) (kt : x < y → Wz E k n tgt lv st ws) (kf : ¬ (x < y) → Wz E k n (pc + 3) lv st ws) : Wz E k n pc lv (.int y :: .int x :: st) ws :=
  fun ls H locs hl hP hD hS => lv_icmp_lt X.1 X.2.1 hd ht (fun h => kt h ls H locs hl hP hD hS) (fun h => kf h ls H locs hl hP hD hS)
theorem z_icmp_ge (X : zX E own cc nL rm D t l) {x y : Int32} {off : Int} {tgt : Nat} (hd : decode cc pc = .ok (.if_icmp .ge off, 3)) (ht : (pc : Int) + off = (tgt : Int)) (kt : y ≤ x → Wz E k n tgt lv st ws) (kf : ¬ (y ≤ x) → Wz E k n (pc + 3) lv st ws) : Wz E k n pc lv (.int y :: .int x :: st) ws :=
  fun ls H locs hl hP hD hS => lv_icmp_ge X.1 X.2.1 hd ht (fun h => kt h ls H locs hl hP hD hS) (fun h => kf h ls H locs hl hP hD hS)
theorem z_icmp_gt (X : zX E own cc nL rm D t l) {x y : Int32} {off : Int} {tgt : Nat} (hd : decode cc pc = .ok (.if_icmp .gt off, 3)) (ht : (pc : Int) + off = (tgt : Int)) (kt : y < x → Wz E k n tgt lv st ws) (kf : ¬ (y < x) → Wz E k n (pc + 3) lv st ws) : Wz E k n pc lv (.int y :: .int x :: st) ws :=
  fun ls H locs hl hP hD hS => lv_icmp_gt X.1 X.2.1 hd ht (fun h => kt h ls H locs hl hP hD hS) (fun h => kf h ls H locs hl hP hD hS)
theorem z_icmp_le (X : zX E own cc nL rm D t l) {x y : Int32} {off : Int} {tgt : Nat} (hd : decode cc pc = .ok (.if_icmp .le off, 3)) (ht : (pc : Int) + off = (tgt : Int)) (kt : x ≤ y → Wz E k n tgt lv st ws) (kf : ¬ (x ≤ y) → Wz E k n (pc + 3) lv st ws) : Wz E k n pc lv (.int y :: .int x :: st) ws :=
  fun ls H locs hl hP hD hS => lv_icmp_le X.1 X.2.1 hd ht (fun h => kt h ls H locs hl hP hD hS) (fun h => kf h ls H locs hl hP hD hS)
theorem zX.K (X : zX E own cc nL rm D t l) : va_K (zD E) vwCl (zTy t) (zs E) := by
  obtain ⟨-, -, -, -, hK, -, -, hD, -⟩ := X
  rw [hD]; exact hK.1
theorem zX.w (X : zX E own cc nL rm D t l) {w : Cond} (h : w ∈ zTs) : w.before (zargs E) (zs E) = true := X.2.2.2.2.2.2.1 w h
theorem zWr.dd {L : List Nat} (Y : zWr E L) (hL : ws.map (fun x => x.1) = L) (hD : va_D (fun _ => True) ws) : va_D (zA E) ws := ⟨hD.1, fun k q hq => Y q.1 (by rw [← hL]; exact List.mem_map.mpr ⟨q, List.mem_of_getElem? hq, rfl⟩)⟩
theorem z_get (X : zX E own cc nL rm D t l) {C ref : String} {T : u_T} {N ci i a : Nat} {fs : List Value} {v : Value} (hin : ∀ w ∈ u_ws C T N, w ∈ zTs) (q0 j : Nat) (he : ws[q0]? = some (a, .inr (ci, fs))) (hc : vwCl[ci]? = some (C, T, N)) (hj : j < N) (hw : Cond.fieldLink own i ref (T j).2.1 (T j).2.2.1 ∈ zTs) (hsame : ref = (T j).1) (hv : fs[j]? = some v) (hd : decode cc pc = .ok (.getfield i, 3)) (kk : Wz E k n (pc + 3) lv (v :: st) ws) : Wz E k n pc lv (.ref a :: st) ws :=
  fun ls H locs hl hP hD hS => va_get X.1 X.2.1 X.2.2.2.2.2.2.1 hin X.2.2.2.1 X.K hP q0 he hc j hj (X.w hw) (fun x h => by rw [hsame]; exact h) hv hd (kk ls H locs hl hP hD hS)
theorem z_put (X : zX E own cc nL rm D t l) {L : List Nat} (Y : zWr E L) {C ref : String} {T : u_T} {N ci i a : Nat} {fs : List Value} {v : Value} {ty : FieldType} (hin : ∀ w ∈ u_ws C T N, w ∈ zTs) (ty0 : Nat → FieldType) (hty : ∀ k, k < N → parseFieldDescriptor (T k).2.2.1 = some (ty0 k)) (hnm : ∀ a, a < N → ∀ b, b < N → a ≠ b → (T a).2.1 ≠ (T b).2.1) (q0 j : Nat) (hL : ws.map (fun x => x.1) = L) (he : ws[q0]? = some (a, .inr (ci, fs))) (hc : vwCl[ci]? = some (C, T, N)) (hj : j < N) (hw : Cond.fieldLink own i ref (T j).2.1 (T j).2.2.1 ∈ zTs) (hsame : ref = (T j).1) (hfin : (T j).2.2.2 = false) (hdd : parseFieldDescriptor (T j).2.2.1 = some ty) (hn : narrow ty v = v) (hfit : fits ty v = true) (hlen : j < fs.length) (hd : decode cc pc = .ok (.putfield i, 3)) (kk : Wz E k n (pc + 3) lv st (ws.set q0 (a, .inr (ci, fs.set j v)))) : Wz E k n pc lv (v :: .ref a :: st) ws :=
  fun ls H locs hl hP hD hS => va_put X.1 X.2.1 X.2.2.2.2.2.2.1 hin ty0 hty hnm X.2.2.2.1 X.K hP (Y.dd hL hD) hS q0 he hc j hj (X.w hw) (fun x h => by rw [hsame]; exact h) hfin hdd hn hfit hlen hd (fun H1 locs1 hP1 hD1 hS1 => kk ls H1 locs1 hl hP1 (hD1.weaken fun _ _ _ _ => trivial) hS1)
theorem z_iald (X : zX E own cc nL rm D t l) {a m : Nat} {f : Nat → Int32} {i : Int32} (q0 : Nat) (ha : ws[q0]? = some (a, .inl (t.1, m, .inl f))) (hi : vp_in i m) (hd : decode cc pc = .ok (.iaload, 1)) (kk : Wz E k n (pc + 1) lv (.int (f i.toNatClampNeg) :: st) ws) : Wz E k n pc lv (.int i :: .ref a :: st) ws :=
  fun ls H locs hl hP hD hS => va_iald X.1 X.2.1 X.K hP q0 0 ha rfl hi hd (kk ls H locs hl hP hD hS)
theorem z_zald (X : zX E own cc nL rm D t l) {a m : Nat} {f : Nat → Int32} {i : Int32} (q0 : Nat) (ha : ws[q0]? = some (a, .inl (t.2.1, m, .inl f))) (hi : vp_in i m) (hd : decode cc pc = .ok (.baload, 1)) (kk : Wz E k n (pc + 1) lv (.int (f i.toNatClampNeg) :: st) ws) : Wz E k n pc lv (.int i :: .ref a :: st) ws :=
  fun ls H locs hl hP hD hS => va_zald X.1 X.2.1 X.K hP q0 1 ha rfl hi hd (kk ls H locs hl hP hD hS)
theorem z_lald (X : zX E own cc nL rm D t l) {a m : Nat} {f : Nat → Int64} {i : Int32} (q0 : Nat) (ha : ws[q0]? = some (a, .inl (t.2.2, m, .inr (.inl f)))) (hi : vp_in i m) (hd : decode cc pc = .ok (.laload, 1)) (kk : Wz E k n (pc + 1) lv (.long (f i.toNatClampNeg) :: st) ws) : Wz E k n pc lv (.int i :: .ref a :: st) ws :=
  fun ls H locs hl hP hD hS => va_lald X.1 X.2.1 X.K hP q0 2 ha rfl hi hd (kk ls H locs hl hP hD hS)
theorem z_iast (X : zX E own cc nL rm D t l) {L : List Nat} (Y : zWr E L) {a m : Nat} {f : Nat → Int32} {i x : Int32} (q0 : Nat) (hL : ws.map (fun x => x.1) = L) (ha : ws[q0]? = some (a, .inl (t.1, m, .inl f))) (hi : vp_in i m) (hd : decode cc pc = .ok (.iastore, 1)) (kk : Wz E k n (pc + 1) lv st (ws.set q0 (a, .inl (t.1, m, .inl (upd f i.toNatClampNeg x))))) : Wz E k n pc lv (.int x :: .int i :: .ref a :: st) ws :=
  fun ls H locs hl hP hD hS => va_iast X.1 X.2.1 X.K hP (Y.dd hL hD) hS q0 0 ha rfl hi hd (fun H1 locs1 hP1 hD1 hS1 => kk ls H1 locs1 hl hP1 (hD1.weaken fun _ _ _ _ => trivial) hS1)
theorem z_zast (X : zX E own cc nL rm D t l) {L : List Nat} (Y : zWr E L) {a m : Nat} {f : Nat → Int32} {i x : Int32} (q0 : Nat) (hL : ws.map (fun x => x.1) = L) (ha : ws[q0]? = some (a, .inl (t.2.1, m, .inl f))) (hi : vp_in i m) (hd : decode cc pc = .ok (.bastore, 1)) (kk : Wz E k n (pc + 1) lv st (ws.set q0 (a, .inl (t.2.1, m, .inl (upd f i.toNatClampNeg (vp_nar .boolean x)))))) : Wz E k n pc lv (.int x :: .int i :: .ref a :: st) ws :=
  fun ls H locs hl hP hD hS => va_zast X.1 X.2.1 X.K hP (Y.dd hL hD) hS q0 1 ha rfl hi hd (fun H1 locs1 hP1 hD1 hS1 => kk ls H1 locs1 hl hP1 (hD1.weaken fun _ _ _ _ => trivial) hS1)
theorem z_last (X : zX E own cc nL rm D t l) {L : List Nat} (Y : zWr E L) {a m : Nat} {f : Nat → Int64} {i : Int32} {x : Int64} (q0 : Nat) (hL : ws.map (fun x => x.1) = L) (ha : ws[q0]? = some (a, .inl (t.2.2, m, .inr (.inl f)))) (hi : vp_in i m) (hd : decode cc pc = .ok (.lastore, 1)) (kk : Wz E k n (pc + 1) lv st (ws.set q0 (a, .inl (t.2.2, m, .inr (.inl (vp_updL f i.toNatClampNeg x)))))) : Wz E k n pc lv (.long x :: .int i :: .ref a :: st) ws :=
  fun ls H locs hl hP hD hS => va_last X.1 X.2.1 X.K hP (Y.dd hL hD) hS q0 2 ha rfl hi hd (fun H1 locs1 hP1 hD1 hS1 => kk ls H1 locs1 hl hP1 (hD1.weaken fun _ _ _ _ => trivial) hS1)
theorem z_alen (X : zX E own cc nL rm D t l) {a : Nat} {x : vp_A} {v : Int32} (q0 : Nat) (ha : ws[q0]? = some (a, .inl (t.1, x))) (hv : Int32.ofNat x.1 = v) (hd : decode cc pc = .ok (.arraylength, 1)) (kk : Wz E k n (pc + 1) lv (.int v :: st) ws) : Wz E k n pc lv (.ref a :: st) ws :=
  fun ls H locs hl hP hD hS => va_alen X.1 X.2.1 X.K hP q0 0 ha rfl hv hd (kk ls H locs hl hP hD hS)
end ZR
/-! ends -/
def zEnd (E : zE) (ret : Option FieldType) (Qc : Array Value → State → Outcome → State → Prop) (mc ms : Nat) : Prop := (zh E).sig.returnType = ret ∧ (zh E).locks = false ∧ zQ E = MQ (zb E) Qc (zargs E) (zs E) mc ms (zA E)
section ZE
variable {E : zE} {k n pc : Nat} {lv : List (Option Value)} {ws : va_W} {own : String} {cc : ByteArray} {nL : Nat} {rm : Room} {D : va_G} {t : ClassId × ClassId × ClassId} {l : Launch} {S : Type}
theorem z_iret {post : Int32 → S → Prop} {B : S → State → Prop} {ty : FieldType} {v : Int32} (X : zX E own cc nL rm D t l) (Z : zEnd E (some ty) (va_Qi post B (zA E)) k n) (hn : narrow ty (.int v) = .int v) (hd : decode cc pc = .ok (.ireturn, 1)) (h : ∃ u, post v u ∧ ∀ q : State, va_P D vwCl ws q.heap → B u q) : Wz E k n pc lv [.int v] ws := by
  intro ls H locs hl hP hD hS
  obtain ⟨hr, hlocks, hQ⟩ := Z
  obtain ⟨u, h1, h2⟩ := h
  rw [hQ]
  have hDD : zD E = D := X.2.2.2.2.2.2.2.1
  exact W.zret X.1 X.2.1 hr hn (fun q hq hW => ⟨⟨v, u, rfl, h1, h2 q (by rw [hq, ← hDD]; exact hP)⟩, hS.F hq⟩) hS.2.2 hd hlocks
theorem z_vret {post : S → Prop} {B : S → State → Prop} (X : zX E own cc nL rm D t l) (Z : zEnd E none (va_Qv post B (zA E)) k n) (hd : decode cc pc = .ok (.return_, 1)) (h : ∃ u, post u ∧ ∀ q : State, va_P D vwCl ws q.heap → B u q) : Wz E k n pc lv [] ws := by
  intro ls H locs hl hP hD hS
  obtain ⟨hr, hlocks, hQ⟩ := Z
  obtain ⟨u, h1, h2⟩ := h
  rw [hQ]
  have hDD : zD E = D := X.2.2.2.2.2.2.2.1
  exact W.vret X.1 X.2.1 hr (fun q hq hW => ⟨⟨u, rfl, h1, h2 q (by rw [hq, ← hDD]; exact hP)⟩, hS.F hq⟩) hS.2.2 hd hlocks
end ZE
/-! contracts: what a method's start has -/
def zPc (D : va_G) (t : ClassId × ClassId × ClassId) (As : List Value) (w : va_W) : Array Value → State → Prop := va_Pc As (fun U => va_P D vwCl w U.heap ∧ zKp D t U ∧ va_D (fun _ => True) w)
/-- the words of a method: its code, and the table -/
abbrev zWs (y : MethodName) (c : ByteArray) (n : Nat) (ret : Option FieldType) : List Cond := .code y c n ret :: zTs
/-- a method that only reads: its answer satisfies φ -/
def zM1 (l : Launch) (y : MethodName) (c : ByteArray) (n : Nat) (ret : Option FieldType) (h : Nat) (D : va_G) (t : ClassId × ClassId × ClassId) (As : List Value) (w : va_W) (φ : Int32 → Prop) : Prop :=
  Met l y (zWs y c n ret) (zR h) (zPc D t As w) (va_Qi (fun r (_ : Unit) => φ r) (fun _ _ => True) (fun _ => False)) 0 0 (fun _ => False)
/-- a method that answers r and leaves the cells w' u, where φ r u -/
def zM2 {S : Type} (l : Launch) (y : MethodName) (c : ByteArray) (n : Nat) (ret : Option FieldType) (h : Nat) (D : va_G) (t : ClassId × ClassId × ClassId) (As : List Value) (w : va_W) (φ : Int32 → S → Prop) (w' : S → va_W) : Prop :=
  Met l y (zWs y c n ret) (zR h) (zPc D t As w) (va_Qi φ (fun u q => va_P D vwCl (w' u) q.heap) (zin w)) 0 0 (zin w)
/-- a method that answers nothing -/
def zM3 {S : Type} (l : Launch) (y : MethodName) (c : ByteArray) (n : Nat) (h : Nat) (D : va_G) (t : ClassId × ClassId × ClassId) (As : List Value) (w : va_W) (φ : S → Prop) (w' : S → va_W) : Prop :=
  Met l y (zWs y c n none) (zR h) (zPc D t As w) (va_Qv φ (fun u q => va_P D vwCl (w' u) q.heap) (zin w)) 0 0 (zin w)
theorem z_entry {As : List Value} {n : Nat} (hc : ∀ v ∈ As, v.category = 1) (hn : As.length ≤ n) : zHas ((As.map Slot.val ++ List.replicate (n - As.length) Slot.unset).toArray) (As.map some ++ List.replicate (n - As.length) none) := by
  have hsl : lg_sl As = As.map Slot.val := by
    clear hn
    induction As with
    | nil => rfl
    | cons a l ih =>
      have ha : a.category = 1 := hc a List.mem_cons_self
      have hl := ih (fun v hv => hc v (List.mem_cons_of_mem _ hv))
      simp only [lg_sl, List.flatMap_cons, List.map_cons] at hl ⊢
      rw [hl, if_neg (by omega)]
      rfl
  have h0 := lv_entry As (n := n) (by rw [hsl]; simpa using hn)
  rw [hsl, List.length_map] at h0
  have hargs : ∀ (As : List Value) (b i : Nat) (v : Value), (∀ v ∈ As, v.category = 1) → b ≤ i → As[i - b]? = some v → (i, v) ∈ lv_args b As := by
    intro As
    induction As with
    | nil => intro b i v _ _ h; simp at h
    | cons a l ih =>
      intro b i v hc hb h
      have ha : a.category = 1 := hc a List.mem_cons_self
      rcases Nat.eq_or_lt_of_le hb with e | e
      · subst e
        simp at h
        subst h
        simp [lv_args]
      · rw [show i - b = (i - (b + 1)) + 1 by omega, List.getElem?_cons_succ] at h
        have := ih (b + 1) i v (fun v hv => hc v (List.mem_cons_of_mem _ hv)) e h
        simp only [lv_args, ha]
        exact List.mem_cons_of_mem _ this
  refine zHas.of h0 (by simp; omega) (fun v hv => ?_) (fun i v hi => ?_)
  · rcases List.mem_append.mp hv with h | h
    · obtain ⟨w, hw, e⟩ := List.mem_map.mp h
      cases e
      exact hc _ hw
    · have := List.eq_of_mem_replicate h
      cases this
  · refine hargs As 0 i v hc (Nat.zero_le _) ?_
    by_cases hl : i < As.length
    · rw [List.getElem?_append_left (by simpa using hl)] at hi
      simpa using hi
    · rw [List.getElem?_append_right (by simpa using hl)] at hi
      have := List.eq_of_mem_replicate (List.mem_of_getElem? hi)
      cases this
/-- a body's contract, also where the class has native methods beside this one -/
theorem z_metW {l : Launch} {y : MethodName} {ws ws' : List Cond} {rm : Room} {Pc : Array Value → State → Prop} {Qc : Array Value → State → Outcome → State → Prop} {mc ms : Nat} {free : Addr → Prop} {cc : ByteArray} {maxL : Nat} {ret : Option FieldType}
    (hy : plainFor y = true) (hw : ws = Cond.code y cc maxL ret :: ws')
    (body : ∀ p e s m args below meth c s₁, BodyLoose p l y (headSpec ws rm) cc maxL ret e s m args below meth c s₁ → c.maxLocals = maxL → Pc args s →
      W p l e (headSpec ws rm).room s m args below meth c s.heap [] 0 0 (MQ below Qc args s mc ms free) (entryFrame m args maxL)) : Met l y ws rm Pc Qc mc ms free := by
  refine MetFree.of_bodySF (code := cc) (maxLocals := maxL) (ret := ret) hy ?_ ?_
  · intro args s m h hn
    obtain ⟨meth, c, h1, h2, h3, h4, h5, h6, -, -⟩ := Cond.code_spec hn (atoms_spec (ws := ws) h _ (by rw [hw]; exact List.mem_cons_self))
    exact ⟨meth, c, h1, h2, h3, h4, h5, h6⟩
  · intro p e s m args below meth c s₁ B hml hP _
    have hh0 : s₁.heap = s.heap := by rw [B.state]; rfl
    obtain ⟨t, a1, o, b1, b2, b3⟩ := body p e s m args below meth c s₁ B hml hP s₁ hh0 (Stand.of_body B)
    exact ⟨t, o, a1, b1, b2, ⟨b3.1, b3.2⟩⟩
/-- a body -/
theorem z_ofW {l : Launch} {y : MethodName} {c : ByteArray} {n : Nat} {ret : Option FieldType} {h : Nat} {D : va_G} {t : ClassId × ClassId × ClassId} {As : List Value} {w : va_W} {Qc : Array Value → State → Outcome → State → Prop} {free : Addr → Prop}
    (hy : plainFor y = true) (hn : As.length ≤ n) (hc : ∀ v ∈ As, v.category = 1)
    (body : ∀ E : zE, zX E y.cls c n (zR h) D t l → zEnd E ret Qc 0 0 → zA E = free → Wz E 0 0 0 (As.map some ++ List.replicate (n - As.length) none) [] w) :
    Met l y (zWs y c n ret) (zR h) (zPc D t As w) Qc 0 0 free := by
  refine z_metW (cc := c) (maxL := n) (ret := ret) hy rfl ?_
  intro p e s m args below meth c0 s₁ B hml hv
  obtain ⟨rfl, hP, hK, hD⟩ := hv
  have hts := atoms_spec (ws := zWs y c n ret) B.pre
  rw [entry_eq m As hc n]
  exact body (p, l, e, zR h, s, m, As.toArray, below, meth, c0, D, free, MQ below Qc As.toArray s 0 0 free, t)
    ⟨B.exec, B.bytes, hml, findClass_of_methodNamed B.named, hK, rfl, fun w hw => hts w (List.mem_cons_of_mem _ hw), rfl, rfl, rfl⟩
    ⟨B.returns, B.notSynchronized, rfl⟩ rfl _ s.heap [] (z_entry hc hn) hP hD va_S.rf
theorem z_m1 {l : Launch} {y : MethodName} {c : ByteArray} {n : Nat} {ret : Option FieldType} {h : Nat} {D : va_G} {t : ClassId × ClassId × ClassId} {As : List Value} {w : va_W} {φ : Int32 → Prop}
    (hy : plainFor y = true) (hn : As.length ≤ n) (hc : ∀ v ∈ As, v.category = 1)
    (body : ∀ E : zE, zX E y.cls c n (zR h) D t l → zEnd E ret (va_Qi (fun r (_ : Unit) => φ r) (fun _ _ => True) (zA E)) 0 0 → Wz E 0 0 0 (As.map some ++ List.replicate (n - As.length) none) [] w) : zM1 l y c n ret h D t As w φ :=
  z_ofW hy hn hc (fun E X Z hA => body E X (by rw [hA]; exact Z))
theorem z_m2 {S : Type} {l : Launch} {y : MethodName} {c : ByteArray} {n : Nat} {ret : Option FieldType} {h : Nat} {D : va_G} {t : ClassId × ClassId × ClassId} {As : List Value} {w : va_W} {φ : Int32 → S → Prop} {w' : S → va_W}
    (hy : plainFor y = true) (hn : As.length ≤ n) (hc : ∀ v ∈ As, v.category = 1)
    (body : ∀ E : zE, zX E y.cls c n (zR h) D t l → zEnd E ret (va_Qi φ (fun u q => va_P D vwCl (w' u) q.heap) (zA E)) 0 0 → zWr E (w.map (fun x => x.1)) → Wz E 0 0 0 (As.map some ++ List.replicate (n - As.length) none) [] w) : zM2 l y c n ret h D t As w φ w' :=
  z_ofW hy hn hc (fun E X Z hA => body E X (by rw [hA]; exact Z) (fun q hq => by rw [hA]; exact hq))
theorem z_m3 {S : Type} {l : Launch} {y : MethodName} {c : ByteArray} {n : Nat} {h : Nat} {D : va_G} {t : ClassId × ClassId × ClassId} {As : List Value} {w : va_W} {φ : S → Prop} {w' : S → va_W}
    (hy : plainFor y = true) (hn : As.length ≤ n) (hc : ∀ v ∈ As, v.category = 1)
    (body : ∀ E : zE, zX E y.cls c n (zR h) D t l → zEnd E none (va_Qv φ (fun u q => va_P D vwCl (w' u) q.heap) (zA E)) 0 0 → zWr E (w.map (fun x => x.1)) → Wz E 0 0 0 (As.map some ++ List.replicate (n - As.length) none) [] w) : zM3 l y c n h D t As w φ w' :=
  z_ofW hy hn hc (fun E X Z hA => body E X (by rw [hA]; exact Z) (fun q hq => by rw [hA]; exact hq))
/-! calls -/
def zPkS (y : MethodName) (c : ByteArray) (n : Nat) (ret : Option FieldType) (np : Nat) : Prop := Cond.static y ∈ zTs ∧ Cond.initialized y.cls ∈ zTs ∧ Cond.code y c n ret ∈ zTs ∧ (y.cls ≠ "java/lang/invoke/MethodHandle" ∧ y.cls ≠ "java/lang/invoke/VarHandle" ∧ (parseMethodDescriptor y.desc).map (fun d => d.parameters.length) = some np) ∧ n ≤ 13
def zPkV (y : MethodName) (c : ByteArray) (n : Nat) (ret : Option FieldType) (np : Nat) : Prop := Cond.instanceMethod y ∈ zTs ∧ Cond.selects y.cls y y ∈ zTs ∧ Cond.initialized y.cls ∈ zTs ∧ Cond.code y c n ret ∈ zTs ∧ (y.cls ≠ "java/lang/invoke/MethodHandle" ∧ y.cls ≠ "java/lang/invoke/VarHandle" ∧ (parseMethodDescriptor y.desc).map (fun d => d.parameters.length) = some np) ∧ n ≤ 13
theorem zGood {ws : List Cond} (h : ∀ w ∈ ws, w ∈ zTs) : GoodIn zTs ws := fun w hw => ⟨h w hw, good_of_word (zTs_good w (h w hw))⟩
theorem zGoodW {y : MethodName} {c : ByteArray} {n : Nat} {ret : Option FieldType} (h : Cond.code y c n ret ∈ zTs) : GoodIn zTs (zWs y c n ret) := zGood (fun w hw => (List.mem_cons.mp hw).elim (fun e => by rw [e]; exact h) id)
theorem zKp.moved {D : va_G} {t : ClassId × ClassId × ClassId} {s U : State} (h : zKp D t s) (hW : s.WarmedH U.vm) : zKp D t U := ⟨va_K.moved hW.alike h.1, va_Nw.warmM hW h.2⟩
theorem zPc.blind {D : va_G} {t : ClassId × ClassId × ClassId} {As : List Value} {w : va_W} : FrameBlind (zPc D t As w) := fun a U g mk q => by
  obtain ⟨h1, h2, h3, h4⟩ := q
  exact ⟨h1, h2, ⟨va_K.moved (u := U) (U := U.calling g mk a) (Vm.Alike.refl U.vm) h3.1, va_Nw.same rfl rfl h3.2⟩, h4⟩
/-- the places of a part of the cells -/
def zPart (ws : va_W) (is : List Nat) (w : va_W) : Prop := va_nd is = true ∧ is.map (fun i => ws[i]?) = w.map some
theorem zPart.P {ws w : va_W} {is : List Nat} {D : va_G} {H : Heap} (h : zPart ws is w) (hP : va_P D vwCl ws H) : va_P D vwCl w H := by
  intro k q hq
  have h1 : (is.map (fun i => ws[i]?))[k]? = some (some q) := by rw [h.2, List.getElem?_map, hq]; rfl
  rw [List.getElem?_map] at h1
  cases hi : is[k]? with
  | none => rw [hi] at h1; cases h1
  | some i => rw [hi] at h1; exact hP i q (Option.some.inj h1)
theorem zPart.D {ws w : va_W} {is : List Nat} {A : Nat → Prop} (h : zPart ws is w) (hD : va_D A ws) : va_D A w := hD.sub is h.1 h.2
/-- a part of the cells changes, the others stay -/
def zMask (is : List Nat) (b : Nat) : va_W → List (Option (Nat × va_E))
  | [] => []
  | x :: l => (if is.contains b then none else some x) :: zMask is (b + 1) l
theorem zMask_get (is : List Nat) : ∀ (l : va_W) (b i : Nat), (zMask is b l)[i]? = (l[i]?).map (fun x => if is.contains (b + i) then none else some x)
  | [], b, i => by simp [zMask]
  | x :: l, b, i => by
    cases i with
    | zero => simp [zMask]
    | succ i =>
      rw [zMask, List.getElem?_cons_succ, zMask_get is l (b + 1) i, List.getElem?_cons_succ, show b + 1 + i = b + (i + 1) by omega]
def zSwap (ws : va_W) (is : List Nat) (w w' ws' : va_W) : Prop := zPart ws is w ∧ zPart ws' is w' ∧ ws'.map (fun x => x.1) = ws.map (fun x => x.1) ∧ zMask is 0 ws = zMask is 0 ws'
theorem zD_addr {A : Nat → Prop} {ws ws' : va_W} (h : ws'.map (fun x => x.1) = ws.map (fun x => x.1)) (hD : va_D A ws) : va_D A ws' := by
  have key : ∀ (k : Nat) (q : Nat × va_E), ws'[k]? = some q → ∃ q0, ws[k]? = some q0 ∧ q0.1 = q.1 := by
    intro k q hq
    have h1 : (ws'.map (fun x => x.1))[k]? = some q.1 := by rw [List.getElem?_map, hq]; rfl
    rw [h, List.getElem?_map] at h1
    cases hk : ws[k]? with
    | none => rw [hk] at h1; cases h1
    | some q0 => rw [hk] at h1; exact ⟨q0, rfl, Option.some.inj h1⟩
  refine ⟨fun i j p q hi hj e => ?_, fun k q hq => ?_⟩
  · obtain ⟨p0, a1, a2⟩ := key i p hi
    obtain ⟨q0, b1, b2⟩ := key j q hj
    exact hD.1 i j p0 q0 a1 b1 (a2.trans (e.trans b2.symm))
  · obtain ⟨q0, a1, a2⟩ := key k q hq
    rw [← a2]
    exact hD.2 k q0 a1
theorem zSwap.P {ws w w' ws' : va_W} {is : List Nat} {D : va_G} {H H1 : Heap} (h : zSwap ws is w w' ws') (hP : va_P D vwCl ws H) (hD : va_D (fun _ => True) ws) (hk : ∀ q : Nat, q < H.size → ¬ zin w q → H1[q]? = H[q]?) (hP1 : va_P D vwCl w' H1) : va_P D vwCl ws' H1 := by
  obtain ⟨h1, h2, h3, h4⟩ := h
  intro i q hq
  by_cases hi : i ∈ is
  · obtain ⟨k, hk1⟩ := List.getElem?_of_mem hi
    have e1 : (is.map (fun i => ws'[i]?))[k]? = some (some q) := by rw [List.getElem?_map, hk1]; show some (ws'[i]?) = _; rw [hq]
    rw [h2.2, List.getElem?_map] at e1
    cases hw : w'[k]? with
    | none => rw [hw] at e1; cases e1
    | some z =>
      rw [hw] at e1
      cases e1
      exact hP1 k q hw
  · have hc : is.contains i = false := by
      cases hcc : is.contains i with
      | false => rfl
      | true => exact absurd (by simpa using hcc) hi
    have e1 : (zMask is 0 ws)[i]? = some (some q) := by rw [h4, zMask_get, hq]; simp [hi]
    rw [zMask_get] at e1
    cases hw : ws[i]? with
    | none => rw [hw] at e1; cases e1
    | some z =>
      rw [hw] at e1
      simp [hi] at e1
      subst e1
      have hz := hP i z hw
      refine hz.kept (hk z.1 hz.lt (fun hin => ?_))
      obtain ⟨x, hx, ex⟩ := List.mem_map.mp hin
      obtain ⟨k, hk1⟩ := List.getElem?_of_mem hx
      have e2 : (is.map (fun i => ws[i]?))[k]? = some (some x) := by rw [h1.2, List.getElem?_map, hk1]; rfl
      rw [List.getElem?_map] at e2
      cases hik : is[k]? with
      | none => rw [hik] at e2; cases e2
      | some j =>
        rw [hik] at e2
        have hj : ws[j]? = some x := Option.some.inj e2
        have := hD.1 i j z x hw hj ex.symm
        subst this
        exact hi (List.mem_of_getElem? hik)
section ZC
variable {E : zE} {k n pc : Nat} {lv : List (Option Value)} {st st0 : List Value} {ws : va_W} {own : String} {cc : ByteArray} {nL : Nat} {D : va_G} {t : ClassId × ClassId × ClassId} {l : Launch}
variable {y : MethodName} {c0 : ByteArray} {n0 : Nat} {ret0 : Option FieldType} {h h0 np i : Nat} {As : List Value} {w : va_W} {φ : Int32 → Prop} {rc rs : Nat}
abbrev zRm (h rc rs : Nat) : Room := { frames := h, cells := rc, slots := rs, locals := 32 * h }
theorem z_preS (X : zX E own cc nL (zRm h rc rs) D t l) {is : List Nat} (hp : zPart ws is w) {H : Heap} (hP : va_P (zD E) vwCl ws H) (hD : va_D (fun _ => True) ws) : PreS (zs E) H (zPc D t As w) As := by
  refine ⟨zPc.blind, fun U hU hW => ⟨rfl, ?_, X.2.2.2.2.1.moved hW, hp.D hD⟩⟩
  rw [hU, ← X.2.2.2.2.2.2.2.1]
  exact hp.P hP
theorem z_runS {Qc : Array Value → State → Outcome → State → Prop} {free : Addr → Prop} (X : zX E own cc nL (zRm h rc rs) D t l) (hM : Met l y (zWs y c0 n0 ret0) (zR h0) (zPc D t As w) Qc 0 0 free) (pk : zPkS y c0 n0 ret0 np) (hml : Cond.methodLink own i y ∈ zTs) {is : List Nat} (hp : zPart ws is w) (hh : h0 < h) (hnp : As.length = np) (hnl : lv.length = nL) (hst : (st.map fun v => v.category).sum ≤ 8) (hd : decode cc pc = .ok (.invokestatic i, 3)) {ls : Array Slot} {H : Heap} {locs : List Loc} (hl : zHas ls lv) (hP : va_P (zD E) vwCl ws H) (hD : va_D (fun _ => True) ws) (hcs : k ≤ rc ∧ n ≤ rs) :
    va_Run E.1 E.2.1 E.2.2.1 E.2.2.2.1 (zs E) (zm E) (zargs E) (zb E) (zh E) (zc E) H locs k n 0 0 (F0 (zm E) pc ls (As.reverse ++ st)) st (Qc As.toArray) free := by
  obtain ⟨p1, p2, p3, p4, p5⟩ := pk
  have hl2 : E.2.1 = l := X.2.2.2.2.2.2.2.2.2
  have hR : E.2.2.2.1 = zRm h rc rs := X.2.2.2.2.2.1
  rw [hl2]
  refine va_runS (nL := nL) (n := np) (own := own) (bytes := c0) (maxL := n0) (ret := ret0) ⟨X.1, X.2.1, X.2.2.1, X.2.2.2.1, X.2.2.2.2.2.2.1⟩ hM ⟨callB_of np X.2.2.2.2.2.2.1 (zGoodW p3) rfl rfl rfl (X.w p2) (X.w hml) p4 ?_, X.w p1⟩ (z_preS X hp hP hD) rfl hnp ?_ rfl (lv_room hst) hd ?_
  · rw [hR]; exact ⟨hh, by show 8 + (n0 + 11) + 32 * h0 ≤ 32 * h; omega⟩
  · exact hl.1.1.trans hnl
  · rw [hR]; exact hcs
theorem z_runV {Qc : Array Value → State → Outcome → State → Prop} {free : Addr → Prop} {b : Nat} (X : zX E own cc nL (zRm h rc rs) D t l) (hM : Met l y (zWs y c0 n0 ret0) (zR h0) (zPc D t (.ref b :: As) w) Qc 0 0 free) (pk : zPkV y c0 n0 ret0 np) (hml : Cond.methodLink own i y ∈ zTs) {is : List Nat} (hp : zPart ws is w) {q0 ci : Nat} {fs : List Value} {T : u_T} {N : Nat} (he : ws[q0]? = some (b, .inr (ci, fs))) (hc : vwCl[ci]? = some (y.cls, T, N)) (hh : h0 < h) (hnp : As.length = np) (hnl : lv.length = nL) (hst : (st.map fun v => v.category).sum ≤ 8) (hd : decode cc pc = .ok (.invokevirtual i, 3)) {ls : Array Slot} {H : Heap} {locs : List Loc} (hl : zHas ls lv) (hP : va_P (zD E) vwCl ws H) (hD : va_D (fun _ => True) ws) (hcs : k ≤ rc ∧ n ≤ rs) :
    va_Run E.1 E.2.1 E.2.2.1 E.2.2.2.1 (zs E) (zm E) (zargs E) (zb E) (zh E) (zc E) H locs k n 0 0 (F0 (zm E) pc ls (As.reverse ++ .ref b :: st)) st (Qc (Value.ref b :: As).toArray) free := by
  obtain ⟨p1, p2, p3, p4, p5, p6⟩ := pk
  have hl2 : E.2.1 = l := X.2.2.2.2.2.2.2.2.2
  have hR : E.2.2.2.1 = zRm h rc rs := X.2.2.2.2.2.1
  rw [hl2]
  have hpre := z_preS (As := .ref b :: As) X hp hP hD
  refine va_runV (nL := nL) (n := np) (own := own) (C := y.cls) (bytes := c0) (maxL := n0) (ret := ret0) ⟨X.1, X.2.1, X.2.2.1, X.2.2.2.1, X.2.2.2.2.2.2.1⟩ hM ⟨callB_of np X.2.2.2.2.2.2.1 (zGoodW p4) rfl rfl rfl (X.w p3) (X.w hml) p5 ?_, X.w p1, X.w p2⟩ ⟨hpre.1, va_recv X.K hP hc he, hpre.2⟩ rfl hnp ?_ rfl (lv_room hst) hd ?_
  · rw [hR]; exact ⟨hh, by show 8 + (n0 + 11) + 32 * h0 ≤ 32 * h; omega⟩
  · exact hl.1.1.trans hnl
  · rw [hR]; exact hcs
/-- a static method that only reads -/
theorem z_callS1 (X : zX E own cc nL (zRm h rc rs) D t l) (hM : zM1 l y c0 n0 ret0 h0 D t As w φ) (pk : zPkS y c0 n0 ret0 np) (hml : Cond.methodLink own i y ∈ zTs) (is : List Nat) (hp : zPart ws is w) (hh : h0 < h) (hnp : As.length = np) (hnl : lv.length = nL) (hs0 : st0 = As.reverse ++ st) (hst : (st.map fun v => v.category).sum ≤ 8) (hcs : k ≤ rc ∧ n ≤ rs) (hd : decode cc pc = .ok (.invokestatic i, 3)) (kk : ∀ r, φ r → Wz E k n (pc + 3) lv (.int r :: st) ws) : Wz E k n pc lv st0 ws := by
  intro ls H locs hl hP hD hS
  subst hs0
  refine va_calli (z_runS X hM pk hml hp hh hnp hnl hst hd hl hP hD hcs) hS (fun q _ z => z.elim) (fun q z => z.elim) (fun r u T H1 locs1 hT _ hφ _ hz hk hS1 => ?_)
  exact kk r hφ ls H1 locs1 hl (hP.kept fun j q hq => hk q.1 (hP j q hq).lt id) hD hS1
/-- an instance method that only reads -/
theorem z_callV1 {b : Nat} (X : zX E own cc nL (zRm h rc rs) D t l) (hM : zM1 l y c0 n0 ret0 h0 D t (.ref b :: As) w φ) (pk : zPkV y c0 n0 ret0 np) (hml : Cond.methodLink own i y ∈ zTs) (is : List Nat) (hp : zPart ws is w) (q0 ci : Nat) {fs : List Value} {T : u_T} {N : Nat} (he : ws[q0]? = some (b, .inr (ci, fs))) (hc : vwCl[ci]? = some (y.cls, T, N)) (hh : h0 < h) (hnp : As.length = np) (hnl : lv.length = nL) (hs0 : st0 = As.reverse ++ .ref b :: st) (hst : (st.map fun v => v.category).sum ≤ 8) (hcs : k ≤ rc ∧ n ≤ rs) (hd : decode cc pc = .ok (.invokevirtual i, 3)) (kk : ∀ r, φ r → Wz E k n (pc + 3) lv (.int r :: st) ws) : Wz E k n pc lv st0 ws := by
  intro ls H locs hl hP hD hS
  subst hs0
  refine va_calli (z_runV X hM pk hml hp he hc hh hnp hnl hst hd hl hP hD hcs) hS (fun q _ z => z.elim) (fun q z => z.elim) (fun r u T H1 locs1 hT _ hφ _ hz hk hS1 => ?_)
  exact kk r hφ ls H1 locs1 hl (hP.kept fun j q hq => hk q.1 (hP j q hq).lt id) hD hS1
theorem zWr.in {L : List Nat} (Y : zWr E L) (hL : ws.map (fun x => x.1) = L) {is : List Nat} (hp : zPart ws is w) : ∀ q, zin w q → zA E q := by
  intro q hq
  obtain ⟨x, hx, rfl⟩ := List.mem_map.mp hq
  obtain ⟨j, hj⟩ := List.getElem?_of_mem hx
  have e2 : (is.map (fun i => ws[i]?))[j]? = some (some x) := by rw [hp.2, List.getElem?_map, hj]; rfl
  rw [List.getElem?_map] at e2
  cases hik : is[j]? with
  | none => rw [hik] at e2; cases e2
  | some z =>
    rw [hik] at e2
    have hx2 : ws[z]? = some x := Option.some.inj e2
    exact Y x.1 (by rw [← hL]; exact List.mem_map.mpr ⟨x, List.mem_of_getElem? hx2, rfl⟩)
section
variable {S : Type} {ψ : Int32 → S → Prop} {ξ : S → Prop} {w' : S → va_W}
theorem z_callV2 {b : Nat} {L : List Nat} (X : zX E own cc nL (zRm h rc rs) D t l) (Y : zWr E L) (hL : ws.map (fun x => x.1) = L) (hM : zM2 l y c0 n0 ret0 h0 D t (.ref b :: As) w ψ w') (pk : zPkV y c0 n0 ret0 np) (hml : Cond.methodLink own i y ∈ zTs) (is : List Nat) (ws' : S → va_W) (hp : ∀ u, zSwap ws is w (w' u) (ws' u)) (hpp : zPart ws is w) (q0 ci : Nat) {fs : List Value} {T : u_T} {N : Nat} (he : ws[q0]? = some (b, .inr (ci, fs))) (hc : vwCl[ci]? = some (y.cls, T, N)) (hh : h0 < h) (hnp : As.length = np) (hnl : lv.length = nL) (hs0 : st0 = As.reverse ++ .ref b :: st) (hst : (st.map fun v => v.category).sum ≤ 8) (hcs : k ≤ rc ∧ n ≤ rs) (hd : decode cc pc = .ok (.invokevirtual i, 3)) (kk : ∀ r u, ψ r u → Wz E k n (pc + 3) lv (.int r :: st) (ws' u)) : Wz E k n pc lv st0 ws := by
  intro ls H locs hl hP hD hS
  subst hs0
  have hDD : zD E = D := X.2.2.2.2.2.2.2.1
  refine va_calli (z_runV X hM pk hml hpp he hc hh hnp hnl hst hd hl hP hD hcs) hS (fun q _ z => Y.in hL hpp q z) (fun q z => Y.in hL hpp q z) (fun r u T H1 locs1 hT _ hφ hB hz hk hS1 => ?_)
  exact kk r u hφ ls H1 locs1 hl ((hp u).P hP hD hk (by rw [hDD, ← hT]; exact hB)) (zD_addr (hp u).2.2.1 hD) hS1
theorem z_callV3 {b : Nat} {L : List Nat} (X : zX E own cc nL (zRm h rc rs) D t l) (Y : zWr E L) (hL : ws.map (fun x => x.1) = L) (hM : zM3 l y c0 n0 h0 D t (.ref b :: As) w ξ w') (pk : zPkV y c0 n0 none np) (hml : Cond.methodLink own i y ∈ zTs) (is : List Nat) (ws' : S → va_W) (hp : ∀ u, zSwap ws is w (w' u) (ws' u)) (hpp : zPart ws is w) (q0 ci : Nat) {fs : List Value} {T : u_T} {N : Nat} (he : ws[q0]? = some (b, .inr (ci, fs))) (hc : vwCl[ci]? = some (y.cls, T, N)) (hh : h0 < h) (hnp : As.length = np) (hnl : lv.length = nL) (hs0 : st0 = As.reverse ++ .ref b :: st) (hst : (st.map fun v => v.category).sum ≤ 8) (hcs : k ≤ rc ∧ n ≤ rs) (hd : decode cc pc = .ok (.invokevirtual i, 3)) (kk : ∀ u, ξ u → Wz E k n (pc + 3) lv st (ws' u)) : Wz E k n pc lv st0 ws := by
  intro ls H locs hl hP hD hS
  subst hs0
  have hDD : zD E = D := X.2.2.2.2.2.2.2.1
  refine va_callv (z_runV X hM pk hml hpp he hc hh hnp hnl hst hd hl hP hD hcs) hS (fun q _ z => Y.in hL hpp q z) (fun q z => Y.in hL hpp q z) (fun u T H1 locs1 hT _ hφ hB hz hk hS1 => ?_)
  exact kk u hφ ls H1 locs1 hl ((hp u).P hP hD hk (by rw [hDD, ← hT]; exact hB)) (zD_addr (hp u).2.2.1 hD) hS1
theorem z_callS3 {L : List Nat} (X : zX E own cc nL (zRm h rc rs) D t l) (Y : zWr E L) (hL : ws.map (fun x => x.1) = L) (hM : zM3 l y c0 n0 h0 D t As w ξ w') (pk : zPkS y c0 n0 none np) (hml : Cond.methodLink own i y ∈ zTs) (is : List Nat) (ws' : S → va_W) (hp : ∀ u, zSwap ws is w (w' u) (ws' u)) (hpp : zPart ws is w) (hh : h0 < h) (hnp : As.length = np) (hnl : lv.length = nL) (hs0 : st0 = As.reverse ++ st) (hst : (st.map fun v => v.category).sum ≤ 8) (hcs : k ≤ rc ∧ n ≤ rs) (hd : decode cc pc = .ok (.invokestatic i, 3)) (kk : ∀ u, ξ u → Wz E k n (pc + 3) lv st (ws' u)) : Wz E k n pc lv st0 ws := by
  intro ls H locs hl hP hD hS
  subst hs0
  have hDD : zD E = D := X.2.2.2.2.2.2.2.1
  refine va_callv (z_runS X hM pk hml hpp hh hnp hnl hst hd hl hP hD hcs) hS (fun q _ z => Y.in hL hpp q z) (fun q z => Y.in hL hpp q z) (fun u T H1 locs1 hT _ hφ hB hz hk hS1 => ?_)
  exact kk u hφ ls H1 locs1 hl ((hp u).P hP hD hk (by rw [hDD, ← hT]; exact hB)) (zD_addr (hp u).2.2.1 hD) hS1
end
end ZC
end
section
/-! rows over small numbers: nI a is the int a -/
theorem zn_and (a b : Nat) : nI a &&& nI b = nI (a &&& b) := by
  apply Int32.toBitVec_inj.1
  show BitVec.ofNat 32 a &&& BitVec.ofNat 32 b = BitVec.ofNat 32 (a &&& b)
  apply BitVec.eq_of_getLsbD_eq
  intro i hi
  simp [hi]
theorem zn_or (a b : Nat) : nI a ||| nI b = nI (a ||| b) := by
  apply Int32.toBitVec_inj.1
  show BitVec.ofNat 32 a ||| BitVec.ofNat 32 b = BitVec.ofNat 32 (a ||| b)
  apply BitVec.eq_of_getLsbD_eq
  intro i hi
  simp [hi]
theorem zn_s : ∀ n, n < 32 → ((nI n &&& 31).toBitVec.smod 32).toNat = n := by decide +kernel
theorem zn_shr {a j : Nat} (h : a < 2 ^ 31) (hj : j < 32) : nI a >>> (nI j &&& 31) = nI (a / 2 ^ j) := pk_shrN h _ j (zn_s j hj)
theorem zn_shl {a j : Nat} (hj : j < 32) (h : a * 2 ^ j < 2 ^ 32) : nI a <<< (nI j &&& 31) = nI (a * 2 ^ j) := pk_shlN _ j (zn_s j hj) h
theorem zn_inj {a b : Nat} (ha : a < 2 ^ 31) (hb : b < 2 ^ 31) (h : nI a = nI b) : a = b := (nI_eq ha hb).mp h
theorem zn_m1 (a : Nat) (h : a < 2 ^ 31) : ¬ nI a = -1 := fun e => by
  have h1 := nI_toInt h
  rw [e] at h1
  have h2 : (-1 : Int32).toInt = -1 := by decide
  omega
theorem zn_m1lt (a : Nat) (h : a < 2 ^ 31) : (-1 : Int32) < nI a := by
  rw [Int32.lt_iff_toInt_lt, nI_toInt h]
  have h2 : (-1 : Int32).toInt = -1 := by decide
  omega
section ZN
variable {E : zE} {k n pc : Nat} {lv : List (Option Value)} {st : List Value} {ws : va_W} {own : String} {cc : ByteArray} {nL : Nat} {rm : Room} {D : va_G} {t : ClassId × ClassId × ClassId} {l : Launch} {a b : Nat}
theorem n_iadd (X : zX E own cc nL rm D t l) (hd : decode cc pc = .ok (.iadd, 1)) (kk : Wz E k n (pc + 1) lv (.int (nI (a + b)) :: st) ws) : Wz E k n pc lv (.int (nI b) :: .int (nI a) :: st) ws := z_iadd X hd (by rw [nI_add]; exact kk)
theorem n_isub (X : zX E own cc nL rm D t l) (hd : decode cc pc = .ok (.isub, 1)) (h : b ≤ a) (kk : Wz E k n (pc + 1) lv (.int (nI (a - b)) :: st) ws) : Wz E k n pc lv (.int (nI b) :: .int (nI a) :: st) ws := z_isub X hd (by rw [pk_sub h]; exact kk)
theorem n_imul (X : zX E own cc nL rm D t l) (hd : decode cc pc = .ok (.imul, 1)) (kk : Wz E k n (pc + 1) lv (.int (nI (a * b)) :: st) ws) : Wz E k n pc lv (.int (nI b) :: .int (nI a) :: st) ws := z_imul X hd (by rw [pk_mul]; exact kk)
theorem n_idiv (X : zX E own cc nL rm D t l) (hd : decode cc pc = .ok (.idiv, 1)) (ha : a < 2 ^ 31) (h0 : 0 < b) (hb : b < 2 ^ 31) (kk : Wz E k n (pc + 1) lv (.int (nI (a / b)) :: st) ws) : Wz E k n pc lv (.int (nI b) :: .int (nI a) :: st) ws := z_idiv X hd (nI_ne0 h0 hb) (by rw [pk_div ha h0 hb]; exact kk)
theorem n_irem (X : zX E own cc nL rm D t l) (hd : decode cc pc = .ok (.irem, 1)) (ha : a < 2 ^ 31) (h0 : 0 < b) (hb : b < 2 ^ 31) (kk : Wz E k n (pc + 1) lv (.int (nI (a % b)) :: st) ws) : Wz E k n pc lv (.int (nI b) :: .int (nI a) :: st) ws := z_irem X hd (nI_ne0 h0 hb) (by rw [pk_rem ha h0 hb]; exact kk)
theorem n_iand (X : zX E own cc nL rm D t l) (hd : decode cc pc = .ok (.iand, 1)) (kk : Wz E k n (pc + 1) lv (.int (nI (a &&& b)) :: st) ws) : Wz E k n pc lv (.int (nI b) :: .int (nI a) :: st) ws := z_iand X hd (by rw [zn_and]; exact kk)
theorem n_ior (X : zX E own cc nL rm D t l) (hd : decode cc pc = .ok (.ior, 1)) (kk : Wz E k n (pc + 1) lv (.int (nI (a ||| b)) :: st) ws) : Wz E k n pc lv (.int (nI b) :: .int (nI a) :: st) ws := z_ior X hd (by rw [zn_or]; exact kk)
theorem n_ishr (X : zX E own cc nL rm D t l) (hd : decode cc pc = .ok (.ishr, 1)) (ha : a < 2 ^ 31) (hb : b < 32) (kk : Wz E k n (pc + 1) lv (.int (nI (a / 2 ^ b)) :: st) ws) : Wz E k n pc lv (.int (nI b) :: .int (nI a) :: st) ws := z_ishr X hd (by rw [zn_shr ha hb]; exact kk)
theorem n_ishl1 (X : zX E own cc nL rm D t l) (hd : decode cc pc = .ok (.ishl, 1)) (hb : b < 32) (kk : Wz E k n (pc + 1) lv (.int (nI (2 ^ b)) :: st) ws) : Wz E k n pc lv (.int (nI b) :: .int (nI 1) :: st) ws := z_ishl X hd (by rw [zn_shl hb (by rw [Nat.one_mul]; exact Nat.pow_lt_pow_right (by decide) hb), Nat.one_mul]; exact kk)
theorem n_if_eq (X : zX E own cc nL rm D t l) {off : Int} {tgt : Nat} (hd : decode cc pc = .ok (.ifCond .eq off, 3)) (ht : (pc : Int) + off = (tgt : Int)) (ha : a < 2 ^ 31) (kt : a = 0 → Wz E k n tgt lv st ws) (kf : ¬ a = 0 → Wz E k n (pc + 3) lv st ws) : Wz E k n pc lv (.int (nI a) :: st) ws :=
  z_if_eq X hd ht (fun h => kt (zn_inj ha (by decide) (h.trans nI_0.symm))) (fun h => kf (fun e => h (by rw [e]; rfl)))
theorem n_if_ne (X : zX E own cc nL rm D t l) {off : Int} {tgt : Nat} (hd : decode cc pc = .ok (.ifCond .ne off, 3)) (ht : (pc : Int) + off = (tgt : Int)) (ha : a < 2 ^ 31) (kt : ¬ a = 0 → Wz E k n tgt lv st ws) (kf : a = 0 → Wz E k n (pc + 3) lv st ws) : Wz E k n pc lv (.int (nI a) :: st) ws :=
  z_if_ne X hd ht (fun h => kt (fun e => h (by rw [e]; rfl))) (fun h => kf (zn_inj ha (by decide) (h.trans nI_0.symm)))
theorem n_if_lt (X : zX E own cc nL rm D t l) {off : Int} {tgt : Nat} (hd : decode cc pc = .ok (.ifCond .lt off, 3)) (ht : (pc : Int) + off = (tgt : Int)) (ha : a < 2 ^ 31) (kf : Wz E k n (pc + 3) lv st ws) : Wz E k n pc lv (.int (nI a) :: st) ws :=
  z_if_lt X hd ht (fun h => absurd h (nI_pos ha)) (fun _ => kf)
theorem n_if_ge (X : zX E own cc nL rm D t l) {off : Int} {tgt : Nat} (hd : decode cc pc = .ok (.ifCond .ge off, 3)) (ht : (pc : Int) + off = (tgt : Int)) (ha : a < 2 ^ 31) (kt : Wz E k n tgt lv st ws) : Wz E k n pc lv (.int (nI a) :: st) ws :=
  z_if_ge X hd ht (fun _ => kt) (fun h => absurd (nI_pos' ha) h)
theorem n_if_le (X : zX E own cc nL rm D t l) {off : Int} {tgt : Nat} (hd : decode cc pc = .ok (.ifCond .le off, 3)) (ht : (pc : Int) + off = (tgt : Int)) (ha : a < 2 ^ 31) (kt : a = 0 → Wz E k n tgt lv st ws) (kf : 0 < a → Wz E k n (pc + 3) lv st ws) : Wz E k n pc lv (.int (nI a) :: st) ws :=
  z_if_le X hd ht (fun h => kt (by rcases Nat.eq_zero_or_pos a with e | e; exact e; exact absurd h (nI_nle e ha))) (fun h => kf (by rcases Nat.eq_zero_or_pos a with e | e; exact absurd (by rw [e]; decide) h; exact e))
theorem n_if_gt (X : zX E own cc nL rm D t l) {off : Int} {tgt : Nat} (hd : decode cc pc = .ok (.ifCond .gt off, 3)) (ht : (pc : Int) + off = (tgt : Int)) (ha : a < 2 ^ 31) (kt : 0 < a → Wz E k n tgt lv st ws) (kf : a = 0 → Wz E k n (pc + 3) lv st ws) : Wz E k n pc lv (.int (nI a) :: st) ws :=
  z_if_gt X hd ht (fun h => kt (by rcases Nat.eq_zero_or_pos a with e | e; rw [e] at h; exact absurd h (by decide); exact e)) (fun h => kf (by rcases Nat.eq_zero_or_pos a with e | e; exact e; exact absurd ((nI_ltI (by decide) ha).mpr e) h))
theorem n_icmp_eq (X : zX E own cc nL rm D t l) {off : Int} {tgt : Nat} (hd : decode cc pc = .ok (.if_icmp .eq off, 3)) (ht : (pc : Int) + off = (tgt : Int)) (ha : a < 2 ^ 31) (hb : b < 2 ^ 31) (kt : a = b → Wz E k n tgt lv st ws) (kf : ¬ a = b → Wz E k n (pc + 3) lv st ws) : Wz E k n pc lv (.int (nI b) :: .int (nI a) :: st) ws :=
  z_icmp_eq X hd ht (fun h => kt (zn_inj ha hb h)) (fun h => kf (fun e => h (by rw [e])))
theorem n_icmp_ne (X : zX E own cc nL rm D t l) {off : Int} {tgt : Nat} (hd : decode cc pc = .ok (.if_icmp .ne off, 3)) (ht : (pc : Int) + off = (tgt : Int)) (ha : a < 2 ^ 31) (hb : b < 2 ^ 31) (kt : ¬ a = b → Wz E k n tgt lv st ws) (kf : a = b → Wz E k n (pc + 3) lv st ws) : Wz E k n pc lv (.int (nI b) :: .int (nI a) :: st) ws :=
  z_icmp_ne X hd ht (fun h => kt (fun e => h (by rw [e]))) (fun h => kf (zn_inj ha hb h))
theorem n_icmp_lt (X : zX E own cc nL rm D t l) {off : Int} {tgt : Nat} (hd : decode cc pc = .ok (.if_icmp .lt off, 3)) (ht : (pc : Int) + off = (tgt : Int)) (ha : a < 2 ^ 31) (hb : b < 2 ^ 31) (kt : a < b → Wz E k n tgt lv st ws) (kf : b ≤ a → Wz E k n (pc + 3) lv st ws) : Wz E k n pc lv (.int (nI b) :: .int (nI a) :: st) ws :=
  z_icmp_lt X hd ht (fun h => kt ((nI_ltI ha hb).mp h)) (fun h => kf (Nat.not_lt.mp (fun e => h ((nI_ltI ha hb).mpr e))))
theorem n_icmp_ge (X : zX E own cc nL rm D t l) {off : Int} {tgt : Nat} (hd : decode cc pc = .ok (.if_icmp .ge off, 3)) (ht : (pc : Int) + off = (tgt : Int)) (ha : a < 2 ^ 31) (hb : b < 2 ^ 31) (kt : b ≤ a → Wz E k n tgt lv st ws) (kf : a < b → Wz E k n (pc + 3) lv st ws) : Wz E k n pc lv (.int (nI b) :: .int (nI a) :: st) ws :=
  z_icmp_ge X hd ht (fun h => kt ((nI_leI hb ha).mp h)) (fun h => kf (Nat.not_le.mp (fun e => h ((nI_leI hb ha).mpr e))))
theorem n_icmp_gt (X : zX E own cc nL rm D t l) {off : Int} {tgt : Nat} (hd : decode cc pc = .ok (.if_icmp .gt off, 3)) (ht : (pc : Int) + off = (tgt : Int)) (ha : a < 2 ^ 31) (hb : b < 2 ^ 31) (kt : b < a → Wz E k n tgt lv st ws) (kf : a ≤ b → Wz E k n (pc + 3) lv st ws) : Wz E k n pc lv (.int (nI b) :: .int (nI a) :: st) ws :=
  z_icmp_gt X hd ht (fun h => kt ((nI_ltI hb ha).mp h)) (fun h => kf (Nat.not_lt.mp (fun e => h ((nI_ltI hb ha).mpr e))))
theorem n_icmp_le (X : zX E own cc nL rm D t l) {off : Int} {tgt : Nat} (hd : decode cc pc = .ok (.if_icmp .le off, 3)) (ht : (pc : Int) + off = (tgt : Int)) (ha : a < 2 ^ 31) (hb : b < 2 ^ 31) (kt : a ≤ b → Wz E k n tgt lv st ws) (kf : b < a → Wz E k n (pc + 3) lv st ws) : Wz E k n pc lv (.int (nI b) :: .int (nI a) :: st) ws :=
  z_icmp_le X hd ht (fun h => kt ((nI_leI ha hb).mp h)) (fun h => kf (Nat.not_le.mp (fun e => h ((nI_leI ha hb).mpr e))))
theorem n_iald (X : zX E own cc nL rm D t l) {q m : Nat} {f : Nat → Int32} (q0 : Nat) (ha : ws[q0]? = some (q, .inl (t.1, m, .inl f))) (hi : a < m) (hm : m < 2 ^ 31) (hd : decode cc pc = .ok (.iaload, 1)) (kk : Wz E k n (pc + 1) lv (.int (f a) :: st) ws) : Wz E k n pc lv (.int (nI a) :: .ref q :: st) ws :=
  z_iald X q0 ha (vp_in_nI hi hm) hd (by rw [nI_clamp (Nat.lt_trans hi hm)]; exact kk)
theorem n_zald (X : zX E own cc nL rm D t l) {q m : Nat} {f : Nat → Int32} (q0 : Nat) (ha : ws[q0]? = some (q, .inl (t.2.1, m, .inl f))) (hi : a < m) (hm : m < 2 ^ 31) (hd : decode cc pc = .ok (.baload, 1)) (kk : Wz E k n (pc + 1) lv (.int (f a) :: st) ws) : Wz E k n pc lv (.int (nI a) :: .ref q :: st) ws :=
  z_zald X q0 ha (vp_in_nI hi hm) hd (by rw [nI_clamp (Nat.lt_trans hi hm)]; exact kk)
theorem n_iast (X : zX E own cc nL rm D t l) {L : List Nat} (Y : zWr E L) {q m : Nat} {f : Nat → Int32} {x : Int32} (q0 : Nat) (hL : ws.map (fun x => x.1) = L) (ha : ws[q0]? = some (q, .inl (t.1, m, .inl f))) (hi : a < m) (hm : m < 2 ^ 31) (hd : decode cc pc = .ok (.iastore, 1)) (kk : Wz E k n (pc + 1) lv st (ws.set q0 (q, .inl (t.1, m, .inl (upd f a x))))) : Wz E k n pc lv (.int x :: .int (nI a) :: .ref q :: st) ws :=
  z_iast X Y q0 hL ha (vp_in_nI hi hm) hd (by rw [nI_clamp (Nat.lt_trans hi hm)]; exact kk)
theorem n_zast (X : zX E own cc nL rm D t l) {L : List Nat} (Y : zWr E L) {q m : Nat} {f : Nat → Int32} (q0 : Nat) (hL : ws.map (fun x => x.1) = L) (ha : ws[q0]? = some (q, .inl (t.2.1, m, .inl f))) (hi : a < m) (hm : m < 2 ^ 31) (hb : b < 2) (hd : decode cc pc = .ok (.bastore, 1)) (kk : Wz E k n (pc + 1) lv st (ws.set q0 (q, .inl (t.2.1, m, .inl (upd f a (nI b)))))) : Wz E k n pc lv (.int (nI b) :: .int (nI a) :: .ref q :: st) ws := by
  refine z_zast X Y q0 hL ha (vp_in_nI hi hm) hd ?_
  rw [nI_clamp (Nat.lt_trans hi hm), show vp_nar .boolean (nI b) = nI b from by rcases (show b = 0 ∨ b = 1 by omega) with rfl | rfl <;> decide +kernel]
  exact kk
/-- a name for what stands on the stack -/
theorem z_top {x y : Int32} (h : x = y) (kk : Wz E k n pc lv (.int y :: st) ws) : Wz E k n pc lv (.int x :: st) ws := h ▸ kk
theorem z_lv {lv' : List (Option Value)} (h : lv = lv') (kk : Wz E k n pc lv' st ws) : Wz E k n pc lv st ws := h ▸ kk
theorem z_pc {pc' : Nat} (h : pc = pc') (kk : Wz E k n pc' lv st ws) : Wz E k n pc lv st ws := h ▸ kk
end ZN
/-- a boolean answer -/
def bz (r : Int32) (P : Prop) : Prop := (r = nI 1 ∧ P) ∨ (r = nI 0 ∧ ¬ P)
theorem bz_t {P : Prop} (h : P) : bz (nI 1) P := Or.inl ⟨rfl, h⟩
theorem bz_f {P : Prop} (h : ¬ P) : bz (nI 0) P := Or.inr ⟨rfl, h⟩
theorem bz.iff {r : Int32} {P Q : Prop} (h : bz r P) (e : P ↔ Q) : bz r Q := by
  rcases h with ⟨h1, h2⟩ | ⟨h1, h2⟩
  · exact Or.inl ⟨h1, e.mp h2⟩
  · exact Or.inr ⟨h1, fun q => h2 (e.mpr q)⟩
theorem bz.eq {r s : Int32} {P : Prop} (h : bz r P) (h' : bz s P) : r = s := by
  rcases h with ⟨h1, h2⟩ | ⟨h1, h2⟩ <;> rcases h' with ⟨h3, h4⟩ | ⟨h3, h4⟩
  · rw [h1, h3]
  · exact absurd h2 h4
  · exact absurd h4 h2
  · rw [h1, h3]
theorem bz.bool {r : Int32} {P : Prop} (h : bz r P) : narrow .boolean (.int r) = .int r := by
  rcases h with ⟨rfl, -⟩ | ⟨rfl, -⟩ <;> decide +kernel
theorem bz.c {r : Int32} {P : Prop} (h : bz r P) : r = nI 1 ∧ P ∨ r = nI 0 ∧ ¬ P := h
/-- a loop that counts up -/
theorem zl_up (N : Nat) (F : Nat → Prop) (hN : F N) (hs : ∀ i, i < N → F (i + 1) → F i) : ∀ i, i ≤ N → F i := by
  have key : ∀ d i, i + d = N → F i := by
    intro d
    induction d with
    | zero => intro i h; rw [show i = N by omega]; exact hN
    | succ d ih => intro i h; exact hs i (by omega) (ih (i + 1) (by omega))
  exact fun i h => key (N - i) i (by omega)
/-- an int that is none or a place -/
def zo (v : Int32) (m : Nat) : Prop := v = -1 ∨ ∃ k, k < m ∧ v = nI k
end
section
/-! the state: S k j is place j of field k: 0 ability 1 score 2 calling 3 level 4 other 5 barCalling 6 barLevel 7 bonusValue 8 bonusKind 9 bonusAmount (gifts); 10 base 11 ability 12 calling 13 other (values); 14 scores 15 levels 16 taken 17 how many levels 18 gifts held; 19 20 the trial's levels and gifts, 21 endings (the class alone); 22 leads 23 thrown (the reference alone) -/
abbrev zS : Type := Nat → Nat → Int32
def wR (t : ClassId × ClassId × ClassId) (a : Nat → Nat) (S : zS) : va_W := [(a 0, .inr (3, [.ref (a 1), .ref (a 2), .ref (a 3), .ref (a 4), .ref (a 5), .int (S 17 0), .ref (a 6), .ref (a 7)])), (a 1, .inr (1, [.ref (a 8), .ref (a 9), .ref (a 10), .ref (a 11), .ref (a 12), .ref (a 13), .ref (a 14), .ref (a 15), .ref (a 16), .ref (a 17)])), (a 2, .inr (2, [.ref (a 18), .ref (a 19), .ref (a 20), .ref (a 21)])), (a 3, .inl (t.1, 4, .inl (S 14))), (a 4, .inr (0, [.ref (a 22), .int (S 18 0)])), (a 5, .inl (t.1, 8, .inl (S 16))), (a 6, .inr (0, [.ref (a 23), .int (S 20 0)])), (a 7, .inl (t.1, 384, .inl (S 21))), (a 8, .inl (t.1, 8, .inl (S 0))), (a 9, .inl (t.1, 8, .inl (S 1))), (a 10, .inl (t.1, 8, .inl (S 2))), (a 11, .inl (t.1, 8, .inl (S 3))), (a 12, .inl (t.1, 8, .inl (S 4))), (a 13, .inl (t.1, 8, .inl (S 5))), (a 14, .inl (t.1, 8, .inl (S 6))), (a 15, .inl (t.1, 8, .inl (S 7))), (a 16, .inl (t.1, 8, .inl (S 8))), (a 17, .inl (t.1, 8, .inl (S 9))), (a 18, .inl (t.1, 6, .inl (S 10))), (a 19, .inl (t.1, 6, .inl (S 11))), (a 20, .inl (t.1, 6, .inl (S 12))), (a 21, .inl (t.1, 6, .inl (S 13))), (a 22, .inl (t.1, 3, .inl (S 15))), (a 23, .inl (t.1, 3, .inl (S 19)))]
def wM (t : ClassId × ClassId × ClassId) (b : Nat → Nat) (S : zS) : va_W := [(b 0, .inr (4, [.ref (b 1), .ref (b 2), .ref (b 3), .int (S 17 0), .int (S 18 0), .ref (b 4), .ref (b 5), .ref (b 6), .ref (b 7), .ref (b 8), .ref (b 9), .ref (b 10), .ref (b 11), .ref (b 12), .ref (b 13), .ref (b 14), .ref (b 15), .ref (b 16), .ref (b 17), .ref (b 18), .int (S 23 0)])), (b 1, .inl (t.1, 4, .inl (S 14))), (b 2, .inl (t.1, 8, .inl (S 16))), (b 3, .inl (t.1, 3, .inl (S 15))), (b 4, .inl (t.1, 8, .inl (S 0))), (b 5, .inl (t.1, 8, .inl (S 1))), (b 6, .inl (t.1, 8, .inl (S 2))), (b 7, .inl (t.1, 8, .inl (S 3))), (b 8, .inl (t.1, 8, .inl (S 4))), (b 9, .inl (t.1, 8, .inl (S 5))), (b 10, .inl (t.1, 8, .inl (S 6))), (b 11, .inl (t.1, 8, .inl (S 7))), (b 12, .inl (t.1, 8, .inl (S 8))), (b 13, .inl (t.1, 8, .inl (S 9))), (b 14, .inl (t.1, 6, .inl (S 10))), (b 15, .inl (t.1, 6, .inl (S 11))), (b 16, .inl (t.1, 6, .inl (S 12))), (b 17, .inl (t.1, 6, .inl (S 13))), (b 18, .inl (t.2.1, 12288, .inl (S 22)))]
abbrev aR (a : Nat → Nat) : List Nat := [a 0, a 1, a 2, a 3, a 4, a 5, a 6, a 7, a 8, a 9, a 10, a 11, a 12, a 13, a 14, a 15, a 16, a 17, a 18, a 19, a 20, a 21, a 22, a 23]
abbrev aM (b : Nat → Nat) : List Nat := [b 0, b 1, b 2, b 3, b 4, b 5, b 6, b 7, b 8, b 9, b 10, b 11, b 12, b 13, b 14, b 15, b 16, b 17, b 18]
section
variable {t : ClassId × ClassId × ClassId} {a b : Nat → Nat} {S : zS} {f : Nat → Int32} {v : Int32}
theorem aR_eq : (wR t a S).map (fun x => x.1) = aR a := rfl
theorem aM_eq : (wM t b S).map (fun x => x.1) = aM b := rfl
theorem uR_0 : (wR t a S).set 8 (a 8, .inl (t.1, 8, .inl f)) = wR t a (va_up S 0 f) := rfl
theorem uR_1 : (wR t a S).set 9 (a 9, .inl (t.1, 8, .inl f)) = wR t a (va_up S 1 f) := rfl
theorem uR_2 : (wR t a S).set 10 (a 10, .inl (t.1, 8, .inl f)) = wR t a (va_up S 2 f) := rfl
theorem uR_3 : (wR t a S).set 11 (a 11, .inl (t.1, 8, .inl f)) = wR t a (va_up S 3 f) := rfl
theorem uR_4 : (wR t a S).set 12 (a 12, .inl (t.1, 8, .inl f)) = wR t a (va_up S 4 f) := rfl
theorem uR_5 : (wR t a S).set 13 (a 13, .inl (t.1, 8, .inl f)) = wR t a (va_up S 5 f) := rfl
theorem uR_6 : (wR t a S).set 14 (a 14, .inl (t.1, 8, .inl f)) = wR t a (va_up S 6 f) := rfl
theorem uR_7 : (wR t a S).set 15 (a 15, .inl (t.1, 8, .inl f)) = wR t a (va_up S 7 f) := rfl
theorem uR_8 : (wR t a S).set 16 (a 16, .inl (t.1, 8, .inl f)) = wR t a (va_up S 8 f) := rfl
theorem uR_9 : (wR t a S).set 17 (a 17, .inl (t.1, 8, .inl f)) = wR t a (va_up S 9 f) := rfl
theorem uR_10 : (wR t a S).set 18 (a 18, .inl (t.1, 6, .inl f)) = wR t a (va_up S 10 f) := rfl
theorem uR_11 : (wR t a S).set 19 (a 19, .inl (t.1, 6, .inl f)) = wR t a (va_up S 11 f) := rfl
theorem uR_12 : (wR t a S).set 20 (a 20, .inl (t.1, 6, .inl f)) = wR t a (va_up S 12 f) := rfl
theorem uR_13 : (wR t a S).set 21 (a 21, .inl (t.1, 6, .inl f)) = wR t a (va_up S 13 f) := rfl
theorem uR_14 : (wR t a S).set 3 (a 3, .inl (t.1, 4, .inl f)) = wR t a (va_up S 14 f) := rfl
theorem uR_15 : (wR t a S).set 22 (a 22, .inl (t.1, 3, .inl f)) = wR t a (va_up S 15 f) := rfl
theorem uR_16 : (wR t a S).set 5 (a 5, .inl (t.1, 8, .inl f)) = wR t a (va_up S 16 f) := rfl
theorem uR_19 : (wR t a S).set 23 (a 23, .inl (t.1, 3, .inl f)) = wR t a (va_up S 19 f) := rfl
theorem uR_21 : (wR t a S).set 7 (a 7, .inl (t.1, 384, .inl f)) = wR t a (va_up S 21 f) := rfl
theorem uR_17 : (wR t a S).set 0 (a 0, .inr (3, [.ref (a 1), .ref (a 2), .ref (a 3), .ref (a 4), .ref (a 5), .int v, .ref (a 6), .ref (a 7)])) = wR t a (va_up S 17 (fun _ => v)) := rfl
theorem uR_18 : (wR t a S).set 4 (a 4, .inr (0, [.ref (a 22), .int v])) = wR t a (va_up S 18 (fun _ => v)) := rfl
theorem uR_20 : (wR t a S).set 6 (a 6, .inr (0, [.ref (a 23), .int v])) = wR t a (va_up S 20 (fun _ => v)) := rfl
theorem uM_0 : (wM t b S).set 4 (b 4, .inl (t.1, 8, .inl f)) = wM t b (va_up S 0 f) := rfl
theorem uM_1 : (wM t b S).set 5 (b 5, .inl (t.1, 8, .inl f)) = wM t b (va_up S 1 f) := rfl
theorem uM_2 : (wM t b S).set 6 (b 6, .inl (t.1, 8, .inl f)) = wM t b (va_up S 2 f) := rfl
theorem uM_3 : (wM t b S).set 7 (b 7, .inl (t.1, 8, .inl f)) = wM t b (va_up S 3 f) := rfl
theorem uM_4 : (wM t b S).set 8 (b 8, .inl (t.1, 8, .inl f)) = wM t b (va_up S 4 f) := rfl
theorem uM_5 : (wM t b S).set 9 (b 9, .inl (t.1, 8, .inl f)) = wM t b (va_up S 5 f) := rfl
theorem uM_6 : (wM t b S).set 10 (b 10, .inl (t.1, 8, .inl f)) = wM t b (va_up S 6 f) := rfl
theorem uM_7 : (wM t b S).set 11 (b 11, .inl (t.1, 8, .inl f)) = wM t b (va_up S 7 f) := rfl
theorem uM_8 : (wM t b S).set 12 (b 12, .inl (t.1, 8, .inl f)) = wM t b (va_up S 8 f) := rfl
theorem uM_9 : (wM t b S).set 13 (b 13, .inl (t.1, 8, .inl f)) = wM t b (va_up S 9 f) := rfl
theorem uM_10 : (wM t b S).set 14 (b 14, .inl (t.1, 6, .inl f)) = wM t b (va_up S 10 f) := rfl
theorem uM_11 : (wM t b S).set 15 (b 15, .inl (t.1, 6, .inl f)) = wM t b (va_up S 11 f) := rfl
theorem uM_12 : (wM t b S).set 16 (b 16, .inl (t.1, 6, .inl f)) = wM t b (va_up S 12 f) := rfl
theorem uM_13 : (wM t b S).set 17 (b 17, .inl (t.1, 6, .inl f)) = wM t b (va_up S 13 f) := rfl
theorem uM_14 : (wM t b S).set 1 (b 1, .inl (t.1, 4, .inl f)) = wM t b (va_up S 14 f) := rfl
theorem uM_15 : (wM t b S).set 3 (b 3, .inl (t.1, 3, .inl f)) = wM t b (va_up S 15 f) := rfl
theorem uM_16 : (wM t b S).set 2 (b 2, .inl (t.1, 8, .inl f)) = wM t b (va_up S 16 f) := rfl
theorem uM_22 : (wM t b S).set 18 (b 18, .inl (t.2.1, 12288, .inl f)) = wM t b (va_up S 22 f) := rfl
theorem uM_17 : (wM t b S).set 0 (b 0, .inr (4, [.ref (b 1), .ref (b 2), .ref (b 3), .int (v), .int (S 18 0), .ref (b 4), .ref (b 5), .ref (b 6), .ref (b 7), .ref (b 8), .ref (b 9), .ref (b 10), .ref (b 11), .ref (b 12), .ref (b 13), .ref (b 14), .ref (b 15), .ref (b 16), .ref (b 17), .ref (b 18), .int (S 23 0)])) = wM t b (va_up S 17 (fun _ => v)) := rfl
theorem uM_18 : (wM t b S).set 0 (b 0, .inr (4, [.ref (b 1), .ref (b 2), .ref (b 3), .int (S 17 0), .int (v), .ref (b 4), .ref (b 5), .ref (b 6), .ref (b 7), .ref (b 8), .ref (b 9), .ref (b 10), .ref (b 11), .ref (b 12), .ref (b 13), .ref (b 14), .ref (b 15), .ref (b 16), .ref (b 17), .ref (b 18), .int (S 23 0)])) = wM t b (va_up S 18 (fun _ => v)) := rfl
theorem uM_23 : (wM t b S).set 0 (b 0, .inr (4, [.ref (b 1), .ref (b 2), .ref (b 3), .int (S 17 0), .int (S 18 0), .ref (b 4), .ref (b 5), .ref (b 6), .ref (b 7), .ref (b 8), .ref (b 9), .ref (b 10), .ref (b 11), .ref (b 12), .ref (b 13), .ref (b 14), .ref (b 15), .ref (b 16), .ref (b 17), .ref (b 18), .int (v)])) = wM t b (va_up S 23 (fun _ => v)) := rfl
end
theorem up_s {S : zS} {k : Nat} {f : Nat → Int32} : va_up S k f k = f := va_up_self _ _ _
theorem up_n {S : zS} {k j : Nat} {f : Nat → Int32} (h : j ≠ k) : va_up S k f j = S j := va_up_ne _ _ h
/-- levels in the three callings -/
def l3 (x y z : Nat) : Nat → Int32 := fun i => if i = 0 then nI x else if i = 1 then nI y else nI z
theorem l3_0 {x y z : Nat} : l3 x y z 0 = nI x := rfl
theorem l3_1 {x y z : Nat} : l3 x y z 1 = nI y := rfl
theorem l3_2 {x y z : Nat} : l3 x y z 2 = nI z := rfl
/-- how many bits of the low i ones are set -/
def pcN (s : Nat) : Nat → Nat
  | 0 => 0
  | i + 1 => pcN s i + s / 2 ^ i % 2
abbrev p8 (s : Nat) : Nat := pcN s 8
theorem p8_le : ∀ s, s < 256 → p8 s ≤ 8 := by decide +kernel
/-- scores, levels, the other gift, the bar -/
def pS (S : zS) (j : Nat) : Prop := S 0 j = -1 ∨ S 1 j ≤ S 14 (S 0 j).toNatClampNeg
def pL (S : zS) (f : Nat → Int32) (j : Nat) : Prop := S 2 j = -1 ∨ S 3 j ≤ f (S 2 j).toNatClampNeg
def pO (S : zS) (s j : Nat) : Prop := S 4 j = -1 ∨ s.testBit (S 4 j).toNatClampNeg = true
def pB (S : zS) (f : Nat → Int32) (j : Nat) : Prop := S 5 j = -1 ∨ f (S 5 j).toNatClampNeg ≤ S 6 j
/-- a gift may be taken -/
def mt (S : zS) (x y z s j : Nat) : Prop := s.testBit j = false ∧ p8 s < 1 + (x + y + z) / 2 ∧ pS S j ∧ pL S (l3 x y z) j ∧ pO S s j ∧ pB S (l3 x y z) j
/-- the rules are in their ranges -/
def zI (S : zS) : Prop := (∀ j, j < 8 → zo (S 0 j) 4) ∧ (∀ j, j < 8 → zo (S 2 j) 3) ∧ (∀ j, j < 8 → zo (S 4 j) 8) ∧ (∀ j, j < 8 → zo (S 5 j) 3) ∧ (∀ j, j < 8 → zo (S 7 j) 6) ∧ (∀ j, j < 6 → zo (S 11 j) 4) ∧ (∀ j, j < 6 → zo (S 12 j) 3) ∧ (∀ j, j < 6 → zo (S 13 j) 6)
noncomputable def zif {α : Type} (P : Prop) (x y : α) : α := @ite α P (Classical.propDecidable P) x y
theorem zif_t {α : Type} {P : Prop} {x y : α} (h : P) : zif P x y = x := @if_pos P (Classical.propDecidable P) h α x y
theorem zif_f {α : Type} {P : Prop} {x y : α} (h : ¬ P) : zif P x y = y := @if_neg P (Classical.propDecidable P) h α x y
theorem zt_bit {s j : Nat} : s / 2 ^ j % 2 = 1 ↔ s.testBit j = true := by
  rw [Nat.testBit_eq_decide_div_mod_eq]; simp
theorem zt_bit1 {s j : Nat} : (s / 2 ^ j) &&& 1 = s / 2 ^ j % 2 := Nat.and_one_is_mod _
theorem zt_b2 {s j : Nat} (h : s / 2 ^ j % 2 = 0) : s.testBit j = false := by
  rw [Nat.testBit_eq_decide_div_mod_eq]; simp [h]
theorem zt_b1 {s j : Nat} (h : ¬ s / 2 ^ j % 2 = 0) : s.testBit j = true := zt_bit.mp (by omega)
theorem i_nle {x y : Int32} (h : y < x) : ¬ x ≤ y := Int32.not_le.mpr h
theorem i_le {x y : Int32} (h : ¬ y < x) : x ≤ y := Int32.not_lt.mp h
end
section
/-! what a call of each method needs of the words -/
theorem k_J6_bitCount_0f7a4 : zPkS yJ6_bitCount_0f7a4 cJ6_bitCount_0f7a4 1 (some .int) 1 := ⟨q_st_J6_bitCount_0f7a4, q_in_J6, q_co_J6_bitCount_0f7a4, by decide +kernel, by decide⟩
theorem k_J7_fill_53178 : zPkS yJ7_fill_53178 cJ7_fill_53178 4 none 2 := ⟨q_st_J7_fill_53178, q_in_J7, q_co_J7_fill_53178, by decide +kernel, by decide⟩
theorem k_J9_floorDiv_7cf53 : zPkS yJ9_floorDiv_7cf53 cJ9_floorDiv_7cf53 3 (some .int) 2 := ⟨q_st_J9_floorDiv_7cf53, q_in_J9, q_co_J9_floorDiv_7cf53, by decide +kernel, by decide⟩
theorem k_J9_max_7cf53 : zPkS yJ9_max_7cf53 cJ9_max_7cf53 2 (some .int) 2 := ⟨q_st_J9_max_7cf53, q_in_J9, q_co_J9_max_7cf53, by decide +kernel, by decide⟩
theorem k_X0_changeLevel : zPkV yX0_changeLevel cX0_changeLevel 3 none 2 := ⟨q_im_X0_changeLevel, q_se_X0_changeLevel, q_in_X0, q_co_X0_changeLevel, by decide +kernel, by decide⟩
theorem k_X0_empty : zPkV yX0_empty cX0_empty 1 none 0 := ⟨q_im_X0_empty, q_se_X0_empty, q_in_X0, q_co_X0_empty, by decide +kernel, by decide⟩
theorem k_X0_goBack : zPkV yX0_goBack cX0_goBack 2 none 1 := ⟨q_im_X0_goBack, q_se_X0_goBack, q_in_X0, q_co_X0_goBack, by decide +kernel, by decide⟩
theorem k_X0_goOn : zPkV yX0_goOn cX0_goOn 2 none 1 := ⟨q_im_X0_goOn, q_se_X0_goOn, q_in_X0, q_co_X0_goOn, by decide +kernel, by decide⟩
theorem k_X0_has : zPkV yX0_has cX0_has 2 (some .boolean) 1 := ⟨q_im_X0_has, q_se_X0_has, q_in_X0, q_co_X0_has, by decide +kernel, by decide⟩
theorem k_X0_heldCount : zPkV yX0_heldCount cX0_heldCount 1 (some .int) 0 := ⟨q_im_X0_heldCount, q_se_X0_heldCount, q_in_X0, q_co_X0_heldCount, by decide +kernel, by decide⟩
theorem k_X0_levelIn : zPkV yX0_levelIn cX0_levelIn 2 (some .int) 1 := ⟨q_im_X0_levelIn, q_se_X0_levelIn, q_in_X0, q_co_X0_levelIn, by decide +kernel, by decide⟩
theorem k_X0_levelInAll : zPkV yX0_levelInAll cX0_levelInAll 3 (some .int) 0 := ⟨q_im_X0_levelInAll, q_se_X0_levelInAll, q_in_X0, q_co_X0_levelInAll, by decide +kernel, by decide⟩
theorem k_X3_attack : zPkV yX3_attack cX3_attack 5 (some .int) 0 := ⟨q_im_X3_attack, q_se_X3_attack, q_in_X3, q_co_X3_attack, by decide +kernel, by decide⟩
theorem k_X3_bar : zPkV yX3_bar cX3_bar 4 none 3 := ⟨q_im_X3_bar, q_se_X3_bar, q_in_X3, q_co_X3_bar, by decide +kernel, by decide⟩
theorem k_X3_bitOfTrial : zPkV yX3_bitOfTrial cX3_bitOfTrial 1 (some .int) 0 := ⟨q_im_X3_bitOfTrial, q_se_X3_bitOfTrial, q_in_X3, q_co_X3_bitOfTrial, by decide +kernel, by decide⟩
theorem k_X3_bonus : zPkV yX3_bonus cX3_bonus 3 (some .int) 2 := ⟨q_im_X3_bonus, q_se_X3_bonus, q_in_X3, q_co_X3_bonus, by decide +kernel, by decide⟩
theorem k_X3_bonusFrom : zPkV yX3_bonusFrom cX3_bonusFrom 8 (some .int) 3 := ⟨q_im_X3_bonusFrom, q_se_X3_bonusFrom, q_in_X3, q_co_X3_bonusFrom, by decide +kernel, by decide⟩
theorem k_X3_canReach : zPkV yX3_canReach cX3_canReach 5 (some .boolean) 1 := ⟨q_im_X3_canReach, q_se_X3_canReach, q_in_X3, q_co_X3_canReach, by decide +kernel, by decide⟩
theorem k_X3_clear : zPkV yX3_clear cX3_clear 2 (some .int) 0 := ⟨q_im_X3_clear, q_se_X3_clear, q_in_X3, q_co_X3_clear, by decide +kernel, by decide⟩
theorem k_X3_costOf : zPkS yX3_costOf cX3_costOf 1 (some .int) 1 := ⟨q_st_X3_costOf, q_in_X3, q_co_X3_costOf, by decide +kernel, by decide⟩
theorem k_X3_exchange : zPkV yX3_exchange cX3_exchange 5 (some .int) 2 := ⟨q_im_X3_exchange, q_se_X3_exchange, q_in_X3, q_co_X3_exchange, by decide +kernel, by decide⟩
theorem k_X3_firstStepTowards : zPkV yX3_firstStepTowards cX3_firstStepTowards 4 (some .int) 1 := ⟨q_im_X3_firstStepTowards, q_se_X3_firstStepTowards, q_in_X3, q_co_X3_firstStepTowards, by decide +kernel, by decide⟩
theorem k_X3_gifts : zPkV yX3_gifts cX3_gifts 1 (some .int) 0 := ⟨q_im_X3_gifts, q_se_X3_gifts, q_in_X3, q_co_X3_gifts, by decide +kernel, by decide⟩
theorem k_X3_hasLevelFor : zPkV yX3_hasLevelFor cX3_hasLevelFor 4 (some .boolean) 2 := ⟨q_im_X3_hasLevelFor, q_se_X3_hasLevelFor, q_in_X3, q_co_X3_hasLevelFor, by decide +kernel, by decide⟩
theorem k_X3_hasScoreFor : zPkV yX3_hasScoreFor cX3_hasScoreFor 3 (some .boolean) 1 := ⟨q_im_X3_hasScoreFor, q_se_X3_hasScoreFor, q_in_X3, q_co_X3_hasScoreFor, by decide +kernel, by decide⟩
theorem k_X3_isAmong : zPkS yX3_isAmong cX3_isAmong 2 (some .boolean) 2 := ⟨q_st_X3_isAmong, q_in_X3, q_co_X3_isAmong, by decide +kernel, by decide⟩
theorem k_X3_isAmongOrNone : zPkS yX3_isAmongOrNone cX3_isAmongOrNone 2 (some .boolean) 2 := ⟨q_st_X3_isAmongOrNone, q_in_X3, q_co_X3_isAmongOrNone, by decide +kernel, by decide⟩
theorem k_X3_isBarred : zPkV yX3_isBarred cX3_isBarred 4 (some .boolean) 2 := ⟨q_im_X3_isBarred, q_se_X3_isBarred, q_in_X3, q_co_X3_isBarred, by decide +kernel, by decide⟩
theorem k_X3_isFromTo : zPkS yX3_isFromTo cX3_isFromTo 3 (some .boolean) 3 := ⟨q_st_X3_isFromTo, q_in_X3, q_co_X3_isFromTo, by decide +kernel, by decide⟩
theorem k_X3_isLawful : zPkV yX3_isLawful cX3_isLawful 1 (some .boolean) 0 := ⟨q_im_X3_isLawful, q_se_X3_isLawful, q_in_X3, q_co_X3_isLawful, by decide +kernel, by decide⟩
theorem k_X3_isLawfulByOrders : zPkV yX3_isLawfulByOrders cX3_isLawfulByOrders 2 (some .boolean) 0 := ⟨q_im_X3_isLawfulByOrders, q_se_X3_isLawfulByOrders, q_in_X3, q_co_X3_isLawfulByOrders, by decide +kernel, by decide⟩
theorem k_X3_isMarked : zPkV yX3_isMarked cX3_isMarked 2 (some .boolean) 0 := ⟨q_im_X3_isMarked, q_se_X3_isMarked, q_in_X3, q_co_X3_isMarked, by decide +kernel, by decide⟩
theorem k_X3_isOtherIn : zPkV yX3_isOtherIn cX3_isOtherIn 4 (some .boolean) 2 := ⟨q_im_X3_isOtherIn, q_se_X3_isOtherIn, q_in_X3, q_co_X3_isOtherIn, by decide +kernel, by decide⟩
theorem k_X3_isRing : zPkV yX3_isRing cX3_isRing 2 (some .boolean) 1 := ⟨q_im_X3_isRing, q_se_X3_isRing, q_in_X3, q_co_X3_isRing, by decide +kernel, by decide⟩
theorem k_X3_isStepTowards : zPkV yX3_isStepTowards cX3_isStepTowards 4 (some .boolean) 2 := ⟨q_im_X3_isStepTowards, q_se_X3_isStepTowards, q_in_X3, q_co_X3_isStepTowards, by decide +kernel, by decide⟩
theorem k_X3_leadsIntoRing : zPkV yX3_leadsIntoRing cX3_leadsIntoRing 4 (some .boolean) 1 := ⟨q_im_X3_leadsIntoRing, q_se_X3_leadsIntoRing, q_in_X3, q_co_X3_leadsIntoRing, by decide +kernel, by decide⟩
theorem k_X3_level : zPkV yX3_level cX3_level 2 (some .int) 1 := ⟨q_im_X3_level, q_se_X3_level, q_in_X3, q_co_X3_level, by decide +kernel, by decide⟩
theorem k_X3_loseLevel : zPkV yX3_loseLevel cX3_loseLevel 2 (some .int) 0 := ⟨q_im_X3_loseLevel, q_se_X3_loseLevel, q_in_X3, q_co_X3_loseLevel, by decide +kernel, by decide⟩
theorem k_X3_mark : zPkV yX3_mark cX3_mark 2 none 0 := ⟨q_im_X3_mark, q_se_X3_mark, q_in_X3, q_co_X3_mark, by decide +kernel, by decide⟩
theorem k_X3_markSets : zPkV yX3_markSets cX3_markSets 4 none 1 := ⟨q_im_X3_markSets, q_se_X3_markSets, q_in_X3, q_co_X3_markSets, by decide +kernel, by decide⟩
theorem k_X3_mayTake : zPkV yX3_mayTake cX3_mayTake 3 (some .boolean) 2 := ⟨q_im_X3_mayTake, q_se_X3_mayTake, q_in_X3, q_co_X3_mayTake, by decide +kernel, by decide⟩
theorem k_X3_modifierOf : zPkV yX3_modifierOf cX3_modifierOf 2 (some .int) 1 := ⟨q_im_X3_modifierOf, q_se_X3_modifierOf, q_in_X3, q_co_X3_modifierOf, by decide +kernel, by decide⟩
theorem k_X3_open : zPkV yX3_open cX3_open 3 (some .int) 0 := ⟨q_im_X3_open, q_se_X3_open, q_in_X3, q_co_X3_open, by decide +kernel, by decide⟩
theorem k_X3_places : zPkV yX3_places cX3_places 1 (some .int) 0 := ⟨q_im_X3_places, q_se_X3_places, q_in_X3, q_co_X3_places, by decide +kernel, by decide⟩
theorem k_X3_placesAt : zPkS yX3_placesAt cX3_placesAt 1 (some .int) 1 := ⟨q_st_X3_placesAt, q_in_X3, q_co_X3_placesAt, by decide +kernel, by decide⟩
theorem k_X3_points : zPkV yX3_points cX3_points 1 (some .int) 0 := ⟨q_im_X3_points, q_se_X3_points, q_in_X3, q_co_X3_points, by decide +kernel, by decide⟩
theorem k_X3_pointsLeft : zPkV yX3_pointsLeft cX3_pointsLeft 3 (some .int) 0 := ⟨q_im_X3_pointsLeft, q_se_X3_pointsLeft, q_in_X3, q_co_X3_pointsLeft, by decide +kernel, by decide⟩
theorem k_X3_setBonus : zPkV yX3_setBonus cX3_setBonus 5 none 4 := ⟨q_im_X3_setBonus, q_se_X3_setBonus, q_in_X3, q_co_X3_setBonus, by decide +kernel, by decide⟩
theorem k_X3_setNeeds : zPkV yX3_setNeeds cX3_setNeeds 7 none 6 := ⟨q_im_X3_setNeeds, q_se_X3_setNeeds, q_in_X3, q_co_X3_setNeeds, by decide +kernel, by decide⟩
theorem k_X3_setScore : zPkV yX3_setScore cX3_setScore 4 (some .int) 2 := ⟨q_im_X3_setScore, q_se_X3_setScore, q_in_X3, q_co_X3_setScore, by decide +kernel, by decide⟩
theorem k_X3_setValue : zPkV yX3_setValue cX3_setValue 6 none 5 := ⟨q_im_X3_setValue, q_se_X3_setValue, q_in_X3, q_co_X3_setValue, by decide +kernel, by decide⟩
theorem k_X3_someOrderEnds : zPkV yX3_someOrderEnds cX3_someOrderEnds 4 (some .boolean) 1 := ⟨q_im_X3_someOrderEnds, q_se_X3_someOrderEnds, q_in_X3, q_co_X3_someOrderEnds, by decide +kernel, by decide⟩
theorem k_X3_stepAt : zPkV yX3_stepAt cX3_stepAt 2 (some .int) 1 := ⟨q_im_X3_stepAt, q_se_X3_stepAt, q_in_X3, q_co_X3_stepAt, by decide +kernel, by decide⟩
theorem k_X3_stepCount : zPkV yX3_stepCount cX3_stepCount 1 (some .int) 0 := ⟨q_im_X3_stepCount, q_se_X3_stepCount, q_in_X3, q_co_X3_stepCount, by decide +kernel, by decide⟩
theorem k_X3_stepOfFirstOrder : zPkV yX3_stepOfFirstOrder cX3_stepOfFirstOrder 4 (some .int) 1 := ⟨q_im_X3_stepOfFirstOrder, q_se_X3_stepOfFirstOrder, q_in_X3, q_co_X3_stepOfFirstOrder, by decide +kernel, by decide⟩
theorem k_X3_sumOf : zPkV yX3_sumOf cX3_sumOf 6 (some .int) 3 := ⟨q_im_X3_sumOf, q_se_X3_sumOf, q_in_X3, q_co_X3_sumOf, by decide +kernel, by decide⟩
theorem k_X3_takeGift : zPkV yX3_takeGift cX3_takeGift 2 (some .int) 1 := ⟨q_im_X3_takeGift, q_se_X3_takeGift, q_in_X3, q_co_X3_takeGift, by decide +kernel, by decide⟩
theorem k_X3_takeLevel : zPkV yX3_takeLevel cX3_takeLevel 2 (some .int) 1 := ⟨q_im_X3_takeLevel, q_se_X3_takeLevel, q_in_X3, q_co_X3_takeLevel, by decide +kernel, by decide⟩
theorem k_X3_value : zPkV yX3_value cX3_value 2 (some .int) 1 := ⟨q_im_X3_value, q_se_X3_value, q_in_X3, q_co_X3_value, by decide +kernel, by decide⟩
theorem k_X3_wordOfTrial : zPkV yX3_wordOfTrial cX3_wordOfTrial 3 (some .int) 0 := ⟨q_im_X3_wordOfTrial, q_se_X3_wordOfTrial, q_in_X3, q_co_X3_wordOfTrial, by decide +kernel, by decide⟩
theorem k_X3_working : zPkV yX3_working cX3_working 1 (some .int) 0 := ⟨q_im_X3_working, q_se_X3_working, q_in_X3, q_co_X3_working, by decide +kernel, by decide⟩
theorem k_X3_workingAmong : zPkV yX3_workingAmong cX3_workingAmong 5 (some .int) 1 := ⟨q_im_X3_workingAmong, q_se_X3_workingAmong, q_in_X3, q_co_X3_workingAmong, by decide +kernel, by decide⟩
theorem k_X4_alone : zPkV yX4_alone cX4_alone 4 (some .int) 1 := ⟨q_im_X4_alone, q_se_X4_alone, q_in_X4, q_co_X4_alone, by decide +kernel, by decide⟩
theorem k_X4_areScores : zPkV yX4_areScores cX4_areScores 2 (some .boolean) 1 := ⟨q_im_X4_areScores, q_se_X4_areScores, q_in_X4, q_co_X4_areScores, by decide +kernel, by decide⟩
theorem k_X4_attack : zPkV yX4_attack cX4_attack 4 (some .int) 0 := ⟨q_im_X4_attack, q_se_X4_attack, q_in_X4, q_co_X4_attack, by decide +kernel, by decide⟩
theorem k_X4_bar : zPkV yX4_bar cX4_bar 4 none 3 := ⟨q_im_X4_bar, q_se_X4_bar, q_in_X4, q_co_X4_bar, by decide +kernel, by decide⟩
theorem k_X4_bonus : zPkV yX4_bonus cX4_bonus 3 (some .int) 2 := ⟨q_im_X4_bonus, q_se_X4_bonus, q_in_X4, q_co_X4_bonus, by decide +kernel, by decide⟩
theorem k_X4_bonusOf : zPkV yX4_bonusOf cX4_bonusOf 8 (some .int) 2 := ⟨q_im_X4_bonusOf, q_se_X4_bonusOf, q_in_X4, q_co_X4_bonusOf, by decide +kernel, by decide⟩
theorem k_X4_clear : zPkV yX4_clear cX4_clear 3 (some .int) 0 := ⟨q_im_X4_clear, q_se_X4_clear, q_in_X4, q_co_X4_clear, by decide +kernel, by decide⟩
theorem k_X4_cost : zPkV yX4_cost cX4_cost 3 (some .int) 0 := ⟨q_im_X4_cost, q_se_X4_cost, q_in_X4, q_co_X4_cost, by decide +kernel, by decide⟩
theorem k_X4_costOf : zPkS yX4_costOf cX4_costOf 1 (some .int) 1 := ⟨q_st_X4_costOf, q_in_X4, q_co_X4_costOf, by decide +kernel, by decide⟩
theorem k_X4_exchange : zPkV yX4_exchange cX4_exchange 7 (some .int) 2 := ⟨q_im_X4_exchange, q_se_X4_exchange, q_in_X4, q_co_X4_exchange, by decide +kernel, by decide⟩
theorem k_X4_firstStep : zPkV yX4_firstStep cX4_firstStep 8 (some .int) 4 := ⟨q_im_X4_firstStep, q_se_X4_firstStep, q_in_X4, q_co_X4_firstStep, by decide +kernel, by decide⟩
theorem k_X4_gifts : zPkV yX4_gifts cX4_gifts 1 (some .int) 0 := ⟨q_im_X4_gifts, q_se_X4_gifts, q_in_X4, q_co_X4_gifts, by decide +kernel, by decide⟩
theorem k_X4_goes : zPkV yX4_goes cX4_goes 4 (some .boolean) 3 := ⟨q_im_X4_goes, q_se_X4_goes, q_in_X4, q_co_X4_goes, by decide +kernel, by decide⟩
theorem k_X4_half : zPkS yX4_half cX4_half 1 (some .int) 1 := ⟨q_st_X4_half, q_in_X4, q_co_X4_half, by decide +kernel, by decide⟩
theorem k_X4_has : zPkS yX4_has cX4_has 2 (some .boolean) 2 := ⟨q_st_X4_has, q_in_X4, q_co_X4_has, by decide +kernel, by decide⟩
theorem k_X4_in : zPkS yX4_in cX4_in 3 (some .boolean) 3 := ⟨q_st_X4_in, q_in_X4, q_co_X4_in, by decide +kernel, by decide⟩
theorem k_X4_isCalling : zPkS yX4_isCalling cX4_isCalling 1 (some .boolean) 1 := ⟨q_st_X4_isCalling, q_in_X4, q_co_X4_isCalling, by decide +kernel, by decide⟩
theorem k_X4_isEndless : zPkV yX4_isEndless cX4_isEndless 4 (some .boolean) 1 := ⟨q_im_X4_isEndless, q_se_X4_isEndless, q_in_X4, q_co_X4_isEndless, by decide +kernel, by decide⟩
theorem k_X4_isGift : zPkS yX4_isGift cX4_isGift 1 (some .boolean) 1 := ⟨q_st_X4_isGift, q_in_X4, q_co_X4_isGift, by decide +kernel, by decide⟩
theorem k_X4_isLawful : zPkV yX4_isLawful cX4_isLawful 1 (some .boolean) 0 := ⟨q_im_X4_isLawful, q_se_X4_isLawful, q_in_X4, q_co_X4_isLawful, by decide +kernel, by decide⟩
theorem k_X4_isLawfulByOrders : zPkV yX4_isLawfulByOrders cX4_isLawfulByOrders 1 (some .boolean) 0 := ⟨q_im_X4_isLawfulByOrders, q_se_X4_isLawfulByOrders, q_in_X4, q_co_X4_isLawfulByOrders, by decide +kernel, by decide⟩
theorem k_X4_isLawfulWith : zPkV yX4_isLawfulWith cX4_isLawfulWith 6 (some .boolean) 1 := ⟨q_im_X4_isLawfulWith, q_se_X4_isLawfulWith, q_in_X4, q_co_X4_isLawfulWith, by decide +kernel, by decide⟩
theorem k_X4_isRing : zPkV yX4_isRing cX4_isRing 2 (some .boolean) 1 := ⟨q_im_X4_isRing, q_se_X4_isRing, q_in_X4, q_co_X4_isRing, by decide +kernel, by decide⟩
theorem k_X4_isValue : zPkS yX4_isValue cX4_isValue 1 (some .boolean) 1 := ⟨q_st_X4_isValue, q_in_X4, q_co_X4_isValue, by decide +kernel, by decide⟩
theorem k_X4_leadsOn : zPkV yX4_leadsOn cX4_leadsOn 8 (some .boolean) 5 := ⟨q_im_X4_leadsOn, q_se_X4_leadsOn, q_in_X4, q_co_X4_leadsOn, by decide +kernel, by decide⟩
theorem k_X4_level : zPkV yX4_level cX4_level 2 (some .int) 1 := ⟨q_im_X4_level, q_se_X4_level, q_in_X4, q_co_X4_level, by decide +kernel, by decide⟩
theorem k_X4_loseLevel : zPkV yX4_loseLevel cX4_loseLevel 1 (some .int) 0 := ⟨q_im_X4_loseLevel, q_se_X4_loseLevel, q_in_X4, q_co_X4_loseLevel, by decide +kernel, by decide⟩
theorem k_X4_many : zPkS yX4_many cX4_many 3 (some .int) 1 := ⟨q_st_X4_many, q_in_X4, q_co_X4_many, by decide +kernel, by decide⟩
theorem k_X4_mayTake : zPkV yX4_mayTake cX4_mayTake 12 (some .boolean) 5 := ⟨q_im_X4_mayTake, q_se_X4_mayTake, q_in_X4, q_co_X4_mayTake, by decide +kernel, by decide⟩
theorem k_X4_mayTakeNow : zPkV yX4_mayTakeNow cX4_mayTakeNow 2 (some .boolean) 1 := ⟨q_im_X4_mayTakeNow, q_se_X4_mayTakeNow, q_in_X4, q_co_X4_mayTakeNow, by decide +kernel, by decide⟩
theorem k_X4_open : zPkV yX4_open cX4_open 3 (some .int) 0 := ⟨q_im_X4_open, q_se_X4_open, q_in_X4, q_co_X4_open, by decide +kernel, by decide⟩
theorem k_X4_place : zPkV yX4_place cX4_place 5 (some .int) 4 := ⟨q_im_X4_place, q_se_X4_place, q_in_X4, q_co_X4_place, by decide +kernel, by decide⟩
theorem k_X4_places : zPkV yX4_places cX4_places 1 (some .int) 0 := ⟨q_im_X4_places, q_se_X4_places, q_in_X4, q_co_X4_places, by decide +kernel, by decide⟩
theorem k_X4_points : zPkV yX4_points cX4_points 1 (some .int) 0 := ⟨q_im_X4_points, q_se_X4_points, q_in_X4, q_co_X4_points, by decide +kernel, by decide⟩
theorem k_X4_setBonus : zPkV yX4_setBonus cX4_setBonus 5 none 4 := ⟨q_im_X4_setBonus, q_se_X4_setBonus, q_in_X4, q_co_X4_setBonus, by decide +kernel, by decide⟩
theorem k_X4_setNeeds : zPkV yX4_setNeeds cX4_setNeeds 9 none 6 := ⟨q_im_X4_setNeeds, q_se_X4_setNeeds, q_in_X4, q_co_X4_setNeeds, by decide +kernel, by decide⟩
theorem k_X4_setScore : zPkV yX4_setScore cX4_setScore 5 (some .int) 2 := ⟨q_im_X4_setScore, q_se_X4_setScore, q_in_X4, q_co_X4_setScore, by decide +kernel, by decide⟩
theorem k_X4_setValue : zPkV yX4_setValue cX4_setValue 7 none 5 := ⟨q_im_X4_setValue, q_se_X4_setValue, q_in_X4, q_co_X4_setValue, by decide +kernel, by decide⟩
theorem k_X4_stepAt : zPkV yX4_stepAt cX4_stepAt 8 (some .int) 1 := ⟨q_im_X4_stepAt, q_se_X4_stepAt, q_in_X4, q_co_X4_stepAt, by decide +kernel, by decide⟩
theorem k_X4_takeGift : zPkV yX4_takeGift cX4_takeGift 3 (some .int) 1 := ⟨q_im_X4_takeGift, q_se_X4_takeGift, q_in_X4, q_co_X4_takeGift, by decide +kernel, by decide⟩
theorem k_X4_takeLevel : zPkV yX4_takeLevel cX4_takeLevel 2 (some .int) 1 := ⟨q_im_X4_takeLevel, q_se_X4_takeLevel, q_in_X4, q_co_X4_takeLevel, by decide +kernel, by decide⟩
theorem k_X4_thrown : zPkV yX4_thrown cX4_thrown 1 (some .int) 0 := ⟨q_im_X4_thrown, q_se_X4_thrown, q_in_X4, q_co_X4_thrown, by decide +kernel, by decide⟩
theorem k_X4_told : zPkV yX4_told cX4_told 2 (some .int) 1 := ⟨q_im_X4_told, q_se_X4_told, q_in_X4, q_co_X4_told, by decide +kernel, by decide⟩
theorem k_X4_value : zPkV yX4_value cX4_value 7 (some .int) 1 := ⟨q_im_X4_value, q_se_X4_value, q_in_X4, q_co_X4_value, by decide +kernel, by decide⟩
theorem k_X4_working : zPkV yX4_working cX4_working 1 (some .int) 0 := ⟨q_im_X4_working, q_se_X4_working, q_in_X4, q_co_X4_working, by decide +kernel, by decide⟩
theorem k_X4_workingOf : zPkV yX4_workingOf cX4_workingOf 6 (some .int) 1 := ⟨q_im_X4_workingOf, q_se_X4_workingOf, q_in_X4, q_co_X4_workingOf, by decide +kernel, by decide⟩
end
section
/-! the JDK's four methods -/
theorem zcell {D : va_G} {cA : ClassId} {q m : Nat} {f g : Nat → Int32} {H : Heap} (h : ∀ j, j < m → f j = g j) (hP : va_P D vwCl [(q, .inl (cA, m, .inl f))] H) : va_P D vwCl [(q, .inl (cA, m, .inl g))] H := by
  intro k x hx
  cases k with
  | succ k => simp at hx
  | zero =>
    simp at hx
    subst hx
    have h0 := hP 0 _ rfl
    show H[q]? = some (vp_cell cA (m, .inl g))
    rw [show vp_cell cA (m, .inl g) = vp_cell cA (m, .inl f) from ?_]
    · exact h0
    · rw [vp_cell_i, vp_cell_i]
      unfold arrV
      congr 1
      apply Array.ext
      · simp
      · intro i h1 h2
        simp at h1
        simp [h i h1]
def flN (f : Nat → Int32) (v : Int32) (i : Nat) : Nat → Int32 := fun j => if j < i then v else f j
theorem flN_0 {f : Nat → Int32} {v : Int32} : flN f v 0 = f := by funext j; simp [flN]
theorem flN_s {f : Nat → Int32} {v : Int32} {i : Nat} : upd (flN f v i) i v = flN f v (i + 1) := by
  funext j
  unfold upd flN
  by_cases h : j = i
  · simp [h]
  · by_cases h2 : j < i
    · simp [h, h2, Nat.lt_succ_of_lt h2]
    · simp [h, h2, show ¬ j < i + 1 by omega]
set_option maxHeartbeats 4000000 in
set_option maxRecDepth 100000 in
theorem c_J7_fill_53178 (l : Launch) (D : va_G) (t : ClassId × ClassId × ClassId) (q m : Nat) (f : Nat → Int32) (v : Int32) (hm : m < 2 ^ 31) : zM3 l yJ7_fill_53178 cJ7_fill_53178 4 0 D t [.ref q, .int v] ([(q, .inl (t.1, m, .inl f))]) (fun _ : Unit => True) (fun _ => [(q, .inl (t.1, m, .inl (fun _ => v)))]) := by
  refine z_m3 (by decide +kernel) (Nat.le_of_ble_eq_true rfl) (by simp [Value.category]) ?_
  intro E X Z Y
  refine z_lv (lv' := [some (.ref q), some (.int v), none, none]) rfl ?_
  refine z_iconst (v := nI 0) X dJ7_fill_53178_0 (by decide) ?_
  refine z_istore_n X dJ7_fill_53178_1 rfl (Nat.le_of_ble_eq_true rfl) ?_
  refine z_lv (lv' := [some (.ref q), some (.int v), some (.int (nI 0)), none]) rfl ?_
  refine z_aload_n X dJ7_fill_53178_2 rfl rfl ?_
  refine z_alen X (v := nI m) 0 rfl rfl dJ7_fill_53178_3 ?_
  refine z_istore_n X dJ7_fill_53178_4 rfl (Nat.le_of_ble_eq_true rfl) ?_
  refine z_lv (lv' := [some (.ref q), some (.int v), some (.int (nI 0)), some (.int (nI m))]) rfl ?_
  rw [show f = flN f v 0 from flN_0.symm]
  refine zl_up m (fun i => Wz E 0 0 5 [some (.ref q), some (.int v), some (.int (nI i)), some (.int (nI m))] [] ([(q, .inl (t.1, m, .inl (flN f v i)))])) ?_ ?_ 0 (by omega)
  ·
    refine z_iload_n X dJ7_fill_53178_5 rfl rfl ?_
    refine z_iload_n X dJ7_fill_53178_6 rfl rfl ?_
    refine n_icmp_ge (tgt := 20) X dJ7_fill_53178_7 (by decide) (by omega) (by omega) (fun _ => ?_) (fun c7 => absurd c7 (by omega))
    refine z_vret X Z dJ7_fill_53178_20 ?_
    exact ⟨(), trivial, fun q hq => zcell (fun j hj => by simp [flN, hj]) hq⟩
  ·
    intro i hi ih
    refine z_iload_n X dJ7_fill_53178_5 rfl rfl ?_
    refine z_iload_n X dJ7_fill_53178_6 rfl rfl ?_
    refine n_icmp_ge (tgt := 20) X dJ7_fill_53178_7 (by decide) (by omega) (by omega) (fun c7 => absurd c7 (by omega)) (fun _ => ?_)
    refine z_aload_n X dJ7_fill_53178_10 rfl rfl ?_
    refine z_iload_n X dJ7_fill_53178_11 rfl rfl ?_
    refine z_iload_n X dJ7_fill_53178_12 rfl rfl ?_
    refine n_iast X Y 0 rfl rfl (by omega) (by omega) dJ7_fill_53178_13 ?_
    rw [flN_s]
    refine Wz.eq (ws' := [(q, .inl (t.1, m, .inl (flN f v (i + 1))))]) rfl ?_
    refine z_iinc (v := nI (i + 1)) X dJ7_fill_53178_14 rfl (nI_add i 1) ?_
    refine z_lv (lv' := [some (.ref q), some (.int v), some (.int (nI (i + 1))), some (.int (nI m))]) rfl ?_
    refine z_goto (tgt := 5) X dJ7_fill_53178_17 (by decide) ?_
    exact ih
set_option maxHeartbeats 4000000 in
set_option maxRecDepth 100000 in
theorem c_J6_bitCount_0f7a4 (l : Launch) (D : va_G) (t : ClassId × ClassId × ClassId) (s : Nat) (hs : s < 256) : zM1 l yJ6_bitCount_0f7a4 cJ6_bitCount_0f7a4 1 (some .int) 0 D t [.int (nI s)] ([]) (fun r => r = nI (p8 s)) := by
  refine z_m1 (by decide +kernel) (Nat.le_of_ble_eq_true rfl) (by simp [Value.category]) ?_
  intro E X Z
  refine z_lv (lv' := [some (.int (nI s))]) rfl ?_
  refine z_iload_n X dJ6_bitCount_0f7a4_0 rfl rfl ?_
  refine z_iload_n X dJ6_bitCount_0f7a4_1 rfl rfl ?_
  refine z_iconst (v := nI 1) X dJ6_bitCount_0f7a4_2 (by decide) ?_
  refine z_iushr X dJ6_bitCount_0f7a4_3 ?_
  refine z_ldcw X q_k_J6_265 dJ6_bitCount_0f7a4_4 ?_
  refine z_iand X dJ6_bitCount_0f7a4_7 ?_
  refine z_isub X dJ6_bitCount_0f7a4_8 ?_
  refine z_istore_n X dJ6_bitCount_0f7a4_9 rfl (Nat.le_of_ble_eq_true rfl) ?_
  refine z_lv (lv' := [some (.int ((nI s) - ((((nI s).toUInt32 >>> ((nI 1).toUInt32 &&& Int32.toUInt32 31)).toInt32) &&& (1431655765))))]) rfl ?_
  refine z_iload_n X dJ6_bitCount_0f7a4_10 rfl rfl ?_
  refine z_ldcw X q_k_J6_266 dJ6_bitCount_0f7a4_11 ?_
  refine z_iand X dJ6_bitCount_0f7a4_14 ?_
  refine z_iload_n X dJ6_bitCount_0f7a4_15 rfl rfl ?_
  refine z_iconst (v := nI 2) X dJ6_bitCount_0f7a4_16 (by decide) ?_
  refine z_iushr X dJ6_bitCount_0f7a4_17 ?_
  refine z_ldcw X q_k_J6_266 dJ6_bitCount_0f7a4_18 ?_
  refine z_iand X dJ6_bitCount_0f7a4_21 ?_
  refine z_iadd X dJ6_bitCount_0f7a4_22 ?_
  refine z_istore_n X dJ6_bitCount_0f7a4_23 rfl (Nat.le_of_ble_eq_true rfl) ?_
  refine z_lv (lv' := [some (.int ((((nI s) - ((((nI s).toUInt32 >>> ((nI 1).toUInt32 &&& Int32.toUInt32 31)).toInt32) &&& (1431655765))) &&& (858993459)) + (((((nI s) - ((((nI s).toUInt32 >>> ((nI 1).toUInt32 &&& Int32.toUInt32 31)).toInt32) &&& (1431655765))).toUInt32 >>> ((nI 2).toUInt32 &&& Int32.toUInt32 31)).toInt32) &&& (858993459))))]) rfl ?_
  refine z_iload_n X dJ6_bitCount_0f7a4_24 rfl rfl ?_
  refine z_iload_n X dJ6_bitCount_0f7a4_25 rfl rfl ?_
  refine z_iconst (v := nI 4) X dJ6_bitCount_0f7a4_26 (by decide) ?_
  refine z_iushr X dJ6_bitCount_0f7a4_27 ?_
  refine z_iadd X dJ6_bitCount_0f7a4_28 ?_
  refine z_ldcw X q_k_J6_267 dJ6_bitCount_0f7a4_29 ?_
  refine z_iand X dJ6_bitCount_0f7a4_32 ?_
  refine z_istore_n X dJ6_bitCount_0f7a4_33 rfl (Nat.le_of_ble_eq_true rfl) ?_
  refine z_lv (lv' := [some (.int ((((((nI s) - ((((nI s).toUInt32 >>> ((nI 1).toUInt32 &&& Int32.toUInt32 31)).toInt32) &&& (1431655765))) &&& (858993459)) + (((((nI s) - ((((nI s).toUInt32 >>> ((nI 1).toUInt32 &&& Int32.toUInt32 31)).toInt32) &&& (1431655765))).toUInt32 >>> ((nI 2).toUInt32 &&& Int32.toUInt32 31)).toInt32) &&& (858993459))) + ((((((nI s) - ((((nI s).toUInt32 >>> ((nI 1).toUInt32 &&& Int32.toUInt32 31)).toInt32) &&& (1431655765))) &&& (858993459)) + (((((nI s) - ((((nI s).toUInt32 >>> ((nI 1).toUInt32 &&& Int32.toUInt32 31)).toInt32) &&& (1431655765))).toUInt32 >>> ((nI 2).toUInt32 &&& Int32.toUInt32 31)).toInt32) &&& (858993459))).toUInt32 >>> ((nI 4).toUInt32 &&& Int32.toUInt32 31)).toInt32)) &&& (252645135)))]) rfl ?_
  refine z_iload_n X dJ6_bitCount_0f7a4_34 rfl rfl ?_
  refine z_iload_n X dJ6_bitCount_0f7a4_35 rfl rfl ?_
  refine z_bipush (v := nI 8) X dJ6_bitCount_0f7a4_36 (by decide) ?_
  refine z_iushr X dJ6_bitCount_0f7a4_38 ?_
  refine z_iadd X dJ6_bitCount_0f7a4_39 ?_
  refine z_istore_n X dJ6_bitCount_0f7a4_40 rfl (Nat.le_of_ble_eq_true rfl) ?_
  refine z_lv (lv' := [some (.int (((((((nI s) - ((((nI s).toUInt32 >>> ((nI 1).toUInt32 &&& Int32.toUInt32 31)).toInt32) &&& (1431655765))) &&& (858993459)) + (((((nI s) - ((((nI s).toUInt32 >>> ((nI 1).toUInt32 &&& Int32.toUInt32 31)).toInt32) &&& (1431655765))).toUInt32 >>> ((nI 2).toUInt32 &&& Int32.toUInt32 31)).toInt32) &&& (858993459))) + ((((((nI s) - ((((nI s).toUInt32 >>> ((nI 1).toUInt32 &&& Int32.toUInt32 31)).toInt32) &&& (1431655765))) &&& (858993459)) + (((((nI s) - ((((nI s).toUInt32 >>> ((nI 1).toUInt32 &&& Int32.toUInt32 31)).toInt32) &&& (1431655765))).toUInt32 >>> ((nI 2).toUInt32 &&& Int32.toUInt32 31)).toInt32) &&& (858993459))).toUInt32 >>> ((nI 4).toUInt32 &&& Int32.toUInt32 31)).toInt32)) &&& (252645135)) + ((((((((nI s) - ((((nI s).toUInt32 >>> ((nI 1).toUInt32 &&& Int32.toUInt32 31)).toInt32) &&& (1431655765))) &&& (858993459)) + (((((nI s) - ((((nI s).toUInt32 >>> ((nI 1).toUInt32 &&& Int32.toUInt32 31)).toInt32) &&& (1431655765))).toUInt32 >>> ((nI 2).toUInt32 &&& Int32.toUInt32 31)).toInt32) &&& (858993459))) + ((((((nI s) - ((((nI s).toUInt32 >>> ((nI 1).toUInt32 &&& Int32.toUInt32 31)).toInt32) &&& (1431655765))) &&& (858993459)) + (((((nI s) - ((((nI s).toUInt32 >>> ((nI 1).toUInt32 &&& Int32.toUInt32 31)).toInt32) &&& (1431655765))).toUInt32 >>> ((nI 2).toUInt32 &&& Int32.toUInt32 31)).toInt32) &&& (858993459))).toUInt32 >>> ((nI 4).toUInt32 &&& Int32.toUInt32 31)).toInt32)) &&& (252645135)).toUInt32 >>> ((nI 8).toUInt32 &&& Int32.toUInt32 31)).toInt32)))]) rfl ?_
  refine z_iload_n X dJ6_bitCount_0f7a4_41 rfl rfl ?_
  refine z_iload_n X dJ6_bitCount_0f7a4_42 rfl rfl ?_
  refine z_bipush (v := nI 16) X dJ6_bitCount_0f7a4_43 (by decide) ?_
  refine z_iushr X dJ6_bitCount_0f7a4_45 ?_
  refine z_iadd X dJ6_bitCount_0f7a4_46 ?_
  refine z_istore_n X dJ6_bitCount_0f7a4_47 rfl (Nat.le_of_ble_eq_true rfl) ?_
  refine z_lv (lv' := [some (.int ((((((((nI s) - ((((nI s).toUInt32 >>> ((nI 1).toUInt32 &&& Int32.toUInt32 31)).toInt32) &&& (1431655765))) &&& (858993459)) + (((((nI s) - ((((nI s).toUInt32 >>> ((nI 1).toUInt32 &&& Int32.toUInt32 31)).toInt32) &&& (1431655765))).toUInt32 >>> ((nI 2).toUInt32 &&& Int32.toUInt32 31)).toInt32) &&& (858993459))) + ((((((nI s) - ((((nI s).toUInt32 >>> ((nI 1).toUInt32 &&& Int32.toUInt32 31)).toInt32) &&& (1431655765))) &&& (858993459)) + (((((nI s) - ((((nI s).toUInt32 >>> ((nI 1).toUInt32 &&& Int32.toUInt32 31)).toInt32) &&& (1431655765))).toUInt32 >>> ((nI 2).toUInt32 &&& Int32.toUInt32 31)).toInt32) &&& (858993459))).toUInt32 >>> ((nI 4).toUInt32 &&& Int32.toUInt32 31)).toInt32)) &&& (252645135)) + ((((((((nI s) - ((((nI s).toUInt32 >>> ((nI 1).toUInt32 &&& Int32.toUInt32 31)).toInt32) &&& (1431655765))) &&& (858993459)) + (((((nI s) - ((((nI s).toUInt32 >>> ((nI 1).toUInt32 &&& Int32.toUInt32 31)).toInt32) &&& (1431655765))).toUInt32 >>> ((nI 2).toUInt32 &&& Int32.toUInt32 31)).toInt32) &&& (858993459))) + ((((((nI s) - ((((nI s).toUInt32 >>> ((nI 1).toUInt32 &&& Int32.toUInt32 31)).toInt32) &&& (1431655765))) &&& (858993459)) + (((((nI s) - ((((nI s).toUInt32 >>> ((nI 1).toUInt32 &&& Int32.toUInt32 31)).toInt32) &&& (1431655765))).toUInt32 >>> ((nI 2).toUInt32 &&& Int32.toUInt32 31)).toInt32) &&& (858993459))).toUInt32 >>> ((nI 4).toUInt32 &&& Int32.toUInt32 31)).toInt32)) &&& (252645135)).toUInt32 >>> ((nI 8).toUInt32 &&& Int32.toUInt32 31)).toInt32)) + (((((((((nI s) - ((((nI s).toUInt32 >>> ((nI 1).toUInt32 &&& Int32.toUInt32 31)).toInt32) &&& (1431655765))) &&& (858993459)) + (((((nI s) - ((((nI s).toUInt32 >>> ((nI 1).toUInt32 &&& Int32.toUInt32 31)).toInt32) &&& (1431655765))).toUInt32 >>> ((nI 2).toUInt32 &&& Int32.toUInt32 31)).toInt32) &&& (858993459))) + ((((((nI s) - ((((nI s).toUInt32 >>> ((nI 1).toUInt32 &&& Int32.toUInt32 31)).toInt32) &&& (1431655765))) &&& (858993459)) + (((((nI s) - ((((nI s).toUInt32 >>> ((nI 1).toUInt32 &&& Int32.toUInt32 31)).toInt32) &&& (1431655765))).toUInt32 >>> ((nI 2).toUInt32 &&& Int32.toUInt32 31)).toInt32) &&& (858993459))).toUInt32 >>> ((nI 4).toUInt32 &&& Int32.toUInt32 31)).toInt32)) &&& (252645135)) + ((((((((nI s) - ((((nI s).toUInt32 >>> ((nI 1).toUInt32 &&& Int32.toUInt32 31)).toInt32) &&& (1431655765))) &&& (858993459)) + (((((nI s) - ((((nI s).toUInt32 >>> ((nI 1).toUInt32 &&& Int32.toUInt32 31)).toInt32) &&& (1431655765))).toUInt32 >>> ((nI 2).toUInt32 &&& Int32.toUInt32 31)).toInt32) &&& (858993459))) + ((((((nI s) - ((((nI s).toUInt32 >>> ((nI 1).toUInt32 &&& Int32.toUInt32 31)).toInt32) &&& (1431655765))) &&& (858993459)) + (((((nI s) - ((((nI s).toUInt32 >>> ((nI 1).toUInt32 &&& Int32.toUInt32 31)).toInt32) &&& (1431655765))).toUInt32 >>> ((nI 2).toUInt32 &&& Int32.toUInt32 31)).toInt32) &&& (858993459))).toUInt32 >>> ((nI 4).toUInt32 &&& Int32.toUInt32 31)).toInt32)) &&& (252645135)).toUInt32 >>> ((nI 8).toUInt32 &&& Int32.toUInt32 31)).toInt32)).toUInt32 >>> ((nI 16).toUInt32 &&& Int32.toUInt32 31)).toInt32)))]) rfl ?_
  refine z_iload_n X dJ6_bitCount_0f7a4_48 rfl rfl ?_
  refine z_bipush (v := nI 63) X dJ6_bitCount_0f7a4_49 (by decide) ?_
  refine z_iand X dJ6_bitCount_0f7a4_51 ?_
  refine z_iret X Z rfl dJ6_bitCount_0f7a4_52 ?_
  exact ⟨(), (by decide +kernel : ∀ s, s < 256 → ((((((((nI s) - ((((nI s).toUInt32 >>> ((nI 1).toUInt32 &&& Int32.toUInt32 31)).toInt32) &&& (1431655765))) &&& (858993459)) + (((((nI s) - ((((nI s).toUInt32 >>> ((nI 1).toUInt32 &&& Int32.toUInt32 31)).toInt32) &&& (1431655765))).toUInt32 >>> ((nI 2).toUInt32 &&& Int32.toUInt32 31)).toInt32) &&& (858993459))) + ((((((nI s) - ((((nI s).toUInt32 >>> ((nI 1).toUInt32 &&& Int32.toUInt32 31)).toInt32) &&& (1431655765))) &&& (858993459)) + (((((nI s) - ((((nI s).toUInt32 >>> ((nI 1).toUInt32 &&& Int32.toUInt32 31)).toInt32) &&& (1431655765))).toUInt32 >>> ((nI 2).toUInt32 &&& Int32.toUInt32 31)).toInt32) &&& (858993459))).toUInt32 >>> ((nI 4).toUInt32 &&& Int32.toUInt32 31)).toInt32)) &&& (252645135)) + ((((((((nI s) - ((((nI s).toUInt32 >>> ((nI 1).toUInt32 &&& Int32.toUInt32 31)).toInt32) &&& (1431655765))) &&& (858993459)) + (((((nI s) - ((((nI s).toUInt32 >>> ((nI 1).toUInt32 &&& Int32.toUInt32 31)).toInt32) &&& (1431655765))).toUInt32 >>> ((nI 2).toUInt32 &&& Int32.toUInt32 31)).toInt32) &&& (858993459))) + ((((((nI s) - ((((nI s).toUInt32 >>> ((nI 1).toUInt32 &&& Int32.toUInt32 31)).toInt32) &&& (1431655765))) &&& (858993459)) + (((((nI s) - ((((nI s).toUInt32 >>> ((nI 1).toUInt32 &&& Int32.toUInt32 31)).toInt32) &&& (1431655765))).toUInt32 >>> ((nI 2).toUInt32 &&& Int32.toUInt32 31)).toInt32) &&& (858993459))).toUInt32 >>> ((nI 4).toUInt32 &&& Int32.toUInt32 31)).toInt32)) &&& (252645135)).toUInt32 >>> ((nI 8).toUInt32 &&& Int32.toUInt32 31)).toInt32)) + (((((((((nI s) - ((((nI s).toUInt32 >>> ((nI 1).toUInt32 &&& Int32.toUInt32 31)).toInt32) &&& (1431655765))) &&& (858993459)) + (((((nI s) - ((((nI s).toUInt32 >>> ((nI 1).toUInt32 &&& Int32.toUInt32 31)).toInt32) &&& (1431655765))).toUInt32 >>> ((nI 2).toUInt32 &&& Int32.toUInt32 31)).toInt32) &&& (858993459))) + ((((((nI s) - ((((nI s).toUInt32 >>> ((nI 1).toUInt32 &&& Int32.toUInt32 31)).toInt32) &&& (1431655765))) &&& (858993459)) + (((((nI s) - ((((nI s).toUInt32 >>> ((nI 1).toUInt32 &&& Int32.toUInt32 31)).toInt32) &&& (1431655765))).toUInt32 >>> ((nI 2).toUInt32 &&& Int32.toUInt32 31)).toInt32) &&& (858993459))).toUInt32 >>> ((nI 4).toUInt32 &&& Int32.toUInt32 31)).toInt32)) &&& (252645135)) + ((((((((nI s) - ((((nI s).toUInt32 >>> ((nI 1).toUInt32 &&& Int32.toUInt32 31)).toInt32) &&& (1431655765))) &&& (858993459)) + (((((nI s) - ((((nI s).toUInt32 >>> ((nI 1).toUInt32 &&& Int32.toUInt32 31)).toInt32) &&& (1431655765))).toUInt32 >>> ((nI 2).toUInt32 &&& Int32.toUInt32 31)).toInt32) &&& (858993459))) + ((((((nI s) - ((((nI s).toUInt32 >>> ((nI 1).toUInt32 &&& Int32.toUInt32 31)).toInt32) &&& (1431655765))) &&& (858993459)) + (((((nI s) - ((((nI s).toUInt32 >>> ((nI 1).toUInt32 &&& Int32.toUInt32 31)).toInt32) &&& (1431655765))).toUInt32 >>> ((nI 2).toUInt32 &&& Int32.toUInt32 31)).toInt32) &&& (858993459))).toUInt32 >>> ((nI 4).toUInt32 &&& Int32.toUInt32 31)).toInt32)) &&& (252645135)).toUInt32 >>> ((nI 8).toUInt32 &&& Int32.toUInt32 31)).toInt32)).toUInt32 >>> ((nI 16).toUInt32 &&& Int32.toUInt32 31)).toInt32)) &&& (nI 63) = nI (p8 s)) s hs, fun _ _ => trivial⟩
set_option maxHeartbeats 4000000 in
set_option maxRecDepth 100000 in
theorem c_J9_max_7cf53 (l : Launch) (D : va_G) (t : ClassId × ClassId × ClassId) (x y : Int32) : zM1 l yJ9_max_7cf53 cJ9_max_7cf53 2 (some .int) 0 D t [.int x, .int y] ([]) (fun r => r = if x < y then y else x) := by
  refine z_m1 (by decide +kernel) (Nat.le_of_ble_eq_true rfl) (by simp [Value.category]) ?_
  intro E X Z
  refine z_lv (lv' := [some (.int x), some (.int y)]) rfl ?_
  refine z_iload_n X dJ9_max_7cf53_0 rfl rfl ?_
  refine z_iload_n X dJ9_max_7cf53_1 rfl rfl ?_
  refine z_icmp_lt (tgt := 9) X dJ9_max_7cf53_2 (by decide) (fun c2 => ?_) (fun c2 => ?_)
  ·
    refine z_iload_n X dJ9_max_7cf53_9 rfl rfl ?_
    refine z_iret X Z rfl dJ9_max_7cf53_10 ?_
    exact ⟨(), (if_pos c2).symm, fun _ _ => trivial⟩
  ·
    refine z_iload_n X dJ9_max_7cf53_5 rfl rfl ?_
    refine z_goto (tgt := 10) X dJ9_max_7cf53_6 (by decide) ?_
    refine z_iret X Z rfl dJ9_max_7cf53_10 ?_
    exact ⟨(), (if_neg c2).symm, fun _ _ => trivial⟩
/-- half, rounded down -/
def hlf (x : Int32) : Int32 := x >>> (nI 1 &&& 31)
theorem hlf_toInt (x : Int32) : (hlf x).toInt = x.toInt / 2 := by
  unfold hlf
  rw [pk_shr x _ 1 (by decide), Int.shiftRight_eq_div_pow]
  rfl
theorem hlf_neg (x : Int32) : x ^^^ 2 < 0 ↔ x.toInt < 0 := by
  rw [Int32.lt_iff_toInt_lt, show (0 : Int32).toInt = 0 from rfl]
  have e : ∀ y : Int32, y.toInt < 0 ↔ y.toBitVec.msb = true := by
    intro y
    rw [BitVec.msb_eq_toInt]
    show y.toInt < 0 ↔ decide (y.toInt < 0) = true
    simp
  rw [e, e, Int32.toBitVec_xor, BitVec.msb_xor]
  have : (2 : Int32).toBitVec.msb = false := by decide
  rw [this]
  simp
theorem hlf_div (x : Int32) : (x / 2).toInt = x.toInt.tdiv 2 := by
  have h1 := x.le_toInt
  have h2 := x.toInt_lt
  rw [Int32.toInt_div, show (2 : Int32).toInt = 2 from rfl]
  have h3 : x.toInt.tdiv 2 = x.toInt / 2 ∨ (x.toInt.tdiv 2 = x.toInt / 2 + 1 ∧ x.toInt < 0) := by
    rw [Int.tdiv_eq_ediv]
    split
    · left; omega
    · rename_i hc
      right; exact ⟨rfl, by omega⟩
  apply Int.bmod_eq_of_le <;> omega
theorem hlf_mul (x : Int32) : (x / 2 * 2).toInt = x.toInt.tdiv 2 * 2 := by
  have h1 := x.le_toInt
  have h2 := x.toInt_lt
  rw [Int32.toInt_mul, hlf_div, show (2 : Int32).toInt = 2 from rfl]
  have h3 : x.toInt.tdiv 2 = x.toInt / 2 ∨ (x.toInt.tdiv 2 = x.toInt / 2 + 1 ∧ x.toInt < 0) := by
    rw [Int.tdiv_eq_ediv]
    split
    · left; omega
    · rename_i hc
      right; exact ⟨rfl, by omega⟩
  apply Int.bmod_eq_of_le <;> omega
theorem hlf_1 (x : Int32) (h : 0 ≤ x ^^^ 2) : x / 2 = hlf x := by
  apply Int32.toInt_inj.mp
  rw [hlf_div, hlf_toInt]
  have h0 : ¬ x.toInt < 0 := fun h1 => Int32.not_lt.mpr h ((hlf_neg x).mpr h1)
  rw [Int.tdiv_eq_ediv_of_nonneg (by omega)]
theorem hlf_2 (x : Int32) (h : x / 2 * 2 = x) : x / 2 = hlf x := by
  apply Int32.toInt_inj.mp
  have h1 := hlf_mul x
  rw [h] at h1
  rw [hlf_div, hlf_toInt]
  omega
theorem hlf_3 (x : Int32) (h : ¬ 0 ≤ x ^^^ 2) (h2 : ¬ x / 2 * 2 = x) : x / 2 - 1 = hlf x := by
  apply Int32.toInt_inj.mp
  have hn : x.toInt < 0 := (hlf_neg x).mp (Int32.not_le.mp h)
  have h3 : ¬ x.toInt.tdiv 2 * 2 = x.toInt := fun e => h2 (Int32.toInt_inj.mp ((hlf_mul x).trans e))
  have h4 := x.le_toInt
  have h5 := x.toInt_lt
  have h6 : x.toInt.tdiv 2 = x.toInt / 2 + 1 := by
    rw [Int.tdiv_eq_ediv] at h3 ⊢
    by_cases hc : 0 ≤ x.toInt ∨ 2 ∣ x.toInt
    · rw [if_pos hc] at h3
      omega
    · rw [if_neg hc]
      rfl
  rw [hlf_toInt, Int32.toInt_sub, hlf_div, show (1 : Int32).toInt = 1 from rfl, h6]
  apply (Int.bmod_eq_of_le _ _).trans <;> omega
set_option maxHeartbeats 4000000 in
set_option maxRecDepth 100000 in
theorem c_J9_floorDiv_7cf53 (l : Launch) (D : va_G) (t : ClassId × ClassId × ClassId) (x : Int32) : zM1 l yJ9_floorDiv_7cf53 cJ9_floorDiv_7cf53 3 (some .int) 0 D t [.int x, .int 2] ([]) (fun r => r = hlf x) := by
  refine z_m1 (by decide +kernel) (Nat.le_of_ble_eq_true rfl) (by simp [Value.category]) ?_
  intro E X Z
  refine z_lv (lv' := [some (.int x), some (.int 2), none]) rfl ?_
  refine z_iload_n X dJ9_floorDiv_7cf53_0 rfl rfl ?_
  refine z_iload_n X dJ9_floorDiv_7cf53_1 rfl rfl ?_
  refine z_idiv X dJ9_floorDiv_7cf53_2 (by decide) ?_
  refine z_istore_n X dJ9_floorDiv_7cf53_3 rfl (Nat.le_of_ble_eq_true rfl) ?_
  refine z_lv (lv' := [some (.int x), some (.int 2), some (.int (x / 2))]) rfl ?_
  refine z_iload_n X dJ9_floorDiv_7cf53_4 rfl rfl ?_
  refine z_iload_n X dJ9_floorDiv_7cf53_5 rfl rfl ?_
  refine z_ixor X dJ9_floorDiv_7cf53_6 ?_
  refine z_if_ge (tgt := 21) X dJ9_floorDiv_7cf53_7 (by decide) (fun c7 => ?_) (fun c7 => ?_)
  ·
    refine z_iload_n X dJ9_floorDiv_7cf53_21 rfl rfl ?_
    refine z_iret X Z rfl dJ9_floorDiv_7cf53_22 ?_
    exact ⟨(), hlf_1 x c7, fun _ _ => trivial⟩
  ·
    refine z_iload_n X dJ9_floorDiv_7cf53_10 rfl rfl ?_
    refine z_iload_n X dJ9_floorDiv_7cf53_11 rfl rfl ?_
    refine z_imul X dJ9_floorDiv_7cf53_12 ?_
    refine z_iload_n X dJ9_floorDiv_7cf53_13 rfl rfl ?_
    refine z_icmp_eq (tgt := 21) X dJ9_floorDiv_7cf53_14 (by decide) (fun c14 => ?_) (fun c14 => ?_)
    ·
      refine z_iload_n X dJ9_floorDiv_7cf53_21 rfl rfl ?_
      refine z_iret X Z rfl dJ9_floorDiv_7cf53_22 ?_
      exact ⟨(), hlf_2 x c14, fun _ _ => trivial⟩
    ·
      refine z_iload_n X dJ9_floorDiv_7cf53_17 rfl rfl ?_
      refine z_iconst (v := nI 1) X dJ9_floorDiv_7cf53_18 (by decide) ?_
      refine z_isub X dJ9_floorDiv_7cf53_19 ?_
      refine z_iret X Z rfl dJ9_floorDiv_7cf53_20 ?_
      exact ⟨(), hlf_3 x c7 c14, fun _ _ => trivial⟩
end
section
/-! ranges of ints -/
theorem zr_pl {x : Int32} {m : Nat} (hm : m < 2 ^ 31) : (0 ≤ x ∧ x < nI m) ↔ ∃ k, k < m ∧ x = nI k := by
  constructor
  · rintro ⟨h1, h2⟩
    obtain ⟨j, hj, rfl⟩ := nI_of (Int32.not_lt.mpr h1)
    exact ⟨j, (nI_ltI hj hm).mp h2, rfl⟩
  · rintro ⟨k, hk, rfl⟩
    exact ⟨nI_pos' (by omega), (nI_ltI (by omega) hm).mpr hk⟩
theorem zr_no {x : Int32} {m : Nat} (hm : m < 2 ^ 31) : (x = -1 ∨ (0 ≤ x ∧ x < nI m)) ↔ zo x m := by
  rw [zr_pl hm]; rfl
theorem zr_ft {x : Int32} {a b : Nat} (ha : a < 2 ^ 31) (hb : b < 2 ^ 31) : (nI a ≤ x ∧ x ≤ nI b) ↔ ∃ k, a ≤ k ∧ k ≤ b ∧ x = nI k := by
  constructor
  · rintro ⟨h1, h2⟩
    obtain ⟨j, hj, rfl⟩ := nI_of (x := x) (fun h => by
      have h3 := nI_pos' ha
      exact Int32.lt_irrefl (Int32.lt_of_le_of_lt (Int32.le_trans h3 h1) h))
    exact ⟨j, (nI_leI ha hj).mp h1, (nI_leI hj hb).mp h2, rfl⟩
  · rintro ⟨k, h1, h2, rfl⟩
    exact ⟨(nI_leI ha (by omega)).mpr h1, (nI_leI (by omega) hb).mpr h2⟩
theorem zr_m1 {x : Int32} {b : Nat} (hb : b + 1 < 2 ^ 31) : (-1 ≤ x ∧ x ≤ nI b) ↔ zo x (b + 1) := by
  constructor
  · rintro ⟨h1, h2⟩
    by_cases h : x < 0
    · left
      apply Int32.toInt_inj.mp
      rw [Int32.le_iff_toInt_le] at h1
      rw [Int32.lt_iff_toInt_lt] at h
      have e1 : (-1 : Int32).toInt = -1 := by decide
      have e2 : (0 : Int32).toInt = 0 := by decide
      omega
    · right
      obtain ⟨j, hj, rfl⟩ := nI_of h
      exact ⟨j, by have := (nI_leI hj (by omega)).mp h2; omega, rfl⟩
  · rintro (rfl | ⟨k, hk, rfl⟩)
    · exact ⟨by decide, Int32.le_of_lt (zn_m1lt b (by omega))⟩
    · exact ⟨Int32.le_of_lt (zn_m1lt k (by omega)), (nI_leI (by omega) (by omega)).mpr (by omega)⟩
theorem pt_0 {P : Nat → Prop} (h : True) : True := h
theorem zPart_nil {ws : va_W} : zPart ws [] [] := ⟨rfl, rfl⟩
set_option maxHeartbeats 4000000 in
set_option maxRecDepth 100000 in
theorem c_X3_isAmong_g (l : Launch) (D : va_G) (t : ClassId × ClassId × ClassId) (x : Int32) (m : Nat) (hm : m < 2 ^ 31) : zM1 l yX3_isAmong cX3_isAmong 2 (some .boolean) 0 D t [.int x, .int (nI m)] ([]) (fun r => bz r (∃ k, k < m ∧ x = nI k)) := by
  refine z_m1 (by decide +kernel) (Nat.le_of_ble_eq_true rfl) (by simp [Value.category]) ?_
  intro E X Z
  refine z_lv (lv' := [some (.int x), some (.int (nI m))]) rfl ?_
  refine z_iload_n X dX3_isAmong_0 rfl rfl ?_
  refine z_if_lt (tgt := 13) X dX3_isAmong_1 (by decide) (fun c1 => ?_) (fun c1 => ?_)
  ·
    refine z_iconst (v := nI 0) X dX3_isAmong_13 (by decide) ?_
    refine z_iret X Z (by decide +kernel) dX3_isAmong_14 ?_
    exact ⟨(), bz_f (fun h => Int32.not_lt.mpr ((zr_pl hm).mpr h).1 c1), fun _ _ => trivial⟩
  ·
    refine z_iload_n X dX3_isAmong_4 rfl rfl ?_
    refine z_iload_n X dX3_isAmong_5 rfl rfl ?_
    refine z_icmp_ge (tgt := 13) X dX3_isAmong_6 (by decide) (fun c6 => ?_) (fun c6 => ?_)
    ·
      refine z_iconst (v := nI 0) X dX3_isAmong_13 (by decide) ?_
      refine z_iret X Z (by decide +kernel) dX3_isAmong_14 ?_
      exact ⟨(), bz_f (fun h => Int32.not_lt.mpr c6 ((zr_pl hm).mpr h).2), fun _ _ => trivial⟩
    ·
      refine z_iconst (v := nI 1) X dX3_isAmong_9 (by decide) ?_
      refine z_goto (tgt := 14) X dX3_isAmong_10 (by decide) ?_
      refine z_iret X Z (by decide +kernel) dX3_isAmong_14 ?_
      exact ⟨(), bz_t ((zr_pl hm).mp ⟨Int32.not_lt.mp c1, Int32.not_le.mp c6⟩), fun _ _ => trivial⟩
set_option maxHeartbeats 4000000 in
set_option maxRecDepth 100000 in
theorem c_X3_isAmong (l : Launch) (D : va_G) (t : ClassId × ClassId × ClassId) (k m : Nat) (hk : k < 2 ^ 31) (hm : m < 2 ^ 31) : zM1 l yX3_isAmong cX3_isAmong 2 (some .boolean) 0 D t [.int (nI k), .int (nI m)] ([]) (fun r => bz r (k < m)) := by
  refine z_m1 (by decide +kernel) (Nat.le_of_ble_eq_true rfl) (by simp [Value.category]) ?_
  intro E X Z
  refine z_lv (lv' := [some (.int (nI k)), some (.int (nI m))]) rfl ?_
  refine z_iload_n X dX3_isAmong_0 rfl rfl ?_
  refine n_if_lt (tgt := 13) X dX3_isAmong_1 (by decide) (by omega) ?_
  refine z_iload_n X dX3_isAmong_4 rfl rfl ?_
  refine z_iload_n X dX3_isAmong_5 rfl rfl ?_
  refine n_icmp_ge (tgt := 13) X dX3_isAmong_6 (by decide) (by omega) (by omega) (fun c6 => ?_) (fun c6 => ?_)
  ·
    refine z_iconst (v := nI 0) X dX3_isAmong_13 (by decide) ?_
    refine z_iret X Z (by decide +kernel) dX3_isAmong_14 ?_
    exact ⟨(), bz_f (by omega), fun _ _ => trivial⟩
  ·
    refine z_iconst (v := nI 1) X dX3_isAmong_9 (by decide) ?_
    refine z_goto (tgt := 14) X dX3_isAmong_10 (by decide) ?_
    refine z_iret X Z (by decide +kernel) dX3_isAmong_14 ?_
    exact ⟨(), bz_t (by omega), fun _ _ => trivial⟩
set_option maxHeartbeats 4000000 in
set_option maxRecDepth 100000 in
theorem c_X3_isAmong_m (l : Launch) (D : va_G) (t : ClassId × ClassId × ClassId) (m : Nat) : zM1 l yX3_isAmong cX3_isAmong 2 (some .boolean) 0 D t [.int (-1), .int (nI m)] ([]) (fun r => r = nI 0) := by
  refine z_m1 (by decide +kernel) (Nat.le_of_ble_eq_true rfl) (by simp [Value.category]) ?_
  intro E X Z
  refine z_lv (lv' := [some (.int (-1)), some (.int (nI m))]) rfl ?_
  refine z_iload_n X dX3_isAmong_0 rfl rfl ?_
  refine z_if_lt (tgt := 13) X dX3_isAmong_1 (by decide) (fun _ => ?_) (fun c1 => absurd c1 (by decide))
  refine z_iconst (v := nI 0) X dX3_isAmong_13 (by decide) ?_
  refine z_iret X Z (by decide +kernel) dX3_isAmong_14 ?_
  exact ⟨(), rfl, fun _ _ => trivial⟩
set_option maxHeartbeats 4000000 in
set_option maxRecDepth 100000 in
theorem c_X3_isAmongOrNone (l : Launch) (D : va_G) (t : ClassId × ClassId × ClassId) (x : Int32) (m : Nat) (hm : m < 2 ^ 31) : zM1 l yX3_isAmongOrNone cX3_isAmongOrNone 2 (some .boolean) 1 D t [.int x, .int (nI m)] ([]) (fun r => bz r (zo x m)) := by
  refine z_m1 (by decide +kernel) (Nat.le_of_ble_eq_true rfl) (by simp [Value.category]) ?_
  intro E X Z
  refine z_lv (lv' := [some (.int x), some (.int (nI m))]) rfl ?_
  refine z_iload_n X dX3_isAmongOrNone_0 rfl rfl ?_
  refine z_iconst (v := (-1)) X dX3_isAmongOrNone_1 (by decide) ?_
  refine z_icmp_eq (tgt := 13) X dX3_isAmongOrNone_2 (by decide) (fun c2 => ?_) (fun c2 => ?_)
  ·
    refine z_iconst (v := nI 1) X dX3_isAmongOrNone_13 (by decide) ?_
    refine z_goto (tgt := 18) X dX3_isAmongOrNone_14 (by decide) ?_
    refine z_iret X Z (by decide +kernel) dX3_isAmongOrNone_18 ?_
    exact ⟨(), bz_t (Or.inl c2), fun _ _ => trivial⟩
  ·
    refine z_iload_n X dX3_isAmongOrNone_5 rfl rfl ?_
    refine z_iload_n X dX3_isAmongOrNone_6 rfl rfl ?_
    refine z_callS1 (k := 0) (n := 0) (st := []) X (c_X3_isAmong_g l D t x m hm) k_X3_isAmong q_ml_X3_53 [] ⟨by decide, rfl⟩ (by decide) rfl rfl rfl (Nat.le_of_ble_eq_true rfl) ⟨Nat.zero_le _, Nat.zero_le _⟩ dX3_isAmongOrNone_7 (fun r7 h7 => ?_)
    rcases h7 with ⟨rfl, h7⟩ | ⟨rfl, h7⟩
    ·
      refine n_if_eq (tgt := 17) X dX3_isAmongOrNone_10 (by decide) (by omega) (fun c10 => absurd c10 (by decide)) (fun _ => ?_)
      refine z_iconst (v := nI 1) X dX3_isAmongOrNone_13 (by decide) ?_
      refine z_goto (tgt := 18) X dX3_isAmongOrNone_14 (by decide) ?_
      refine z_iret X Z (by decide +kernel) dX3_isAmongOrNone_18 ?_
      exact ⟨(), bz_t (Or.inr h7), fun _ _ => trivial⟩
    ·
      refine n_if_eq (tgt := 17) X dX3_isAmongOrNone_10 (by decide) (by omega) (fun _ => ?_) (fun c10 => absurd c10 (by decide))
      refine z_iconst (v := nI 0) X dX3_isAmongOrNone_17 (by decide) ?_
      refine z_iret X Z (by decide +kernel) dX3_isAmongOrNone_18 ?_
      exact ⟨(), bz_f (fun h => h.elim c2 h7), fun _ _ => trivial⟩
set_option maxHeartbeats 4000000 in
set_option maxRecDepth 100000 in
theorem c_X3_isFromTo (l : Launch) (D : va_G) (t : ClassId × ClassId × ClassId) (x a b : Int32) : zM1 l yX3_isFromTo cX3_isFromTo 3 (some .boolean) 0 D t [.int x, .int a, .int b] ([]) (fun r => bz r (a ≤ x ∧ x ≤ b)) := by
  refine z_m1 (by decide +kernel) (Nat.le_of_ble_eq_true rfl) (by simp [Value.category]) ?_
  intro E X Z
  refine z_lv (lv' := [some (.int x), some (.int a), some (.int b)]) rfl ?_
  refine z_iload_n X dX3_isFromTo_0 rfl rfl ?_
  refine z_iload_n X dX3_isFromTo_1 rfl rfl ?_
  refine z_icmp_lt (tgt := 14) X dX3_isFromTo_2 (by decide) (fun c2 => ?_) (fun c2 => ?_)
  ·
    refine z_iconst (v := nI 0) X dX3_isFromTo_14 (by decide) ?_
    refine z_iret X Z (by decide +kernel) dX3_isFromTo_15 ?_
    exact ⟨(), bz_f (fun h => Int32.not_lt.mpr h.1 c2), fun _ _ => trivial⟩
  ·
    refine z_iload_n X dX3_isFromTo_5 rfl rfl ?_
    refine z_iload_n X dX3_isFromTo_6 rfl rfl ?_
    refine z_icmp_gt (tgt := 14) X dX3_isFromTo_7 (by decide) (fun c7 => ?_) (fun c7 => ?_)
    ·
      refine z_iconst (v := nI 0) X dX3_isFromTo_14 (by decide) ?_
      refine z_iret X Z (by decide +kernel) dX3_isFromTo_15 ?_
      exact ⟨(), bz_f (fun h => Int32.not_lt.mpr h.2 c7), fun _ _ => trivial⟩
    ·
      refine z_iconst (v := nI 1) X dX3_isFromTo_10 (by decide) ?_
      refine z_goto (tgt := 15) X dX3_isFromTo_11 (by decide) ?_
      refine z_iret X Z (by decide +kernel) dX3_isFromTo_15 ?_
      exact ⟨(), bz_t ⟨Int32.not_lt.mp c2, Int32.not_lt.mp c7⟩, fun _ _ => trivial⟩
/-- what a score costs -/
def cst (k : Nat) : Nat := k - 8 + (k - 12)
set_option maxHeartbeats 4000000 in
set_option maxRecDepth 100000 in
theorem c_X3_costOf (l : Launch) (D : va_G) (t : ClassId × ClassId × ClassId) (k : Nat) (h8 : 8 ≤ k) (h16 : k ≤ 16) : zM1 l yX3_costOf cX3_costOf 1 (some .int) 1 D t [.int (nI k)] ([]) (fun r => r = nI (cst k)) := by
  refine z_m1 (by decide +kernel) (Nat.le_of_ble_eq_true rfl) (by simp [Value.category]) ?_
  intro E X Z
  refine z_lv (lv' := [some (.int (nI k))]) rfl ?_
  refine z_iload_n X dX3_costOf_0 rfl rfl ?_
  refine z_bipush (v := nI 8) X dX3_costOf_1 (by decide) ?_
  refine z_isub X dX3_costOf_3 ?_
  refine z_iconst (v := nI 0) X dX3_costOf_4 (by decide) ?_
  refine z_iload_n X dX3_costOf_5 rfl rfl ?_
  refine z_bipush (v := nI 12) X dX3_costOf_6 (by decide) ?_
  refine z_isub X dX3_costOf_8 ?_
  refine z_callS1 (k := 0) (n := 0) (st := [.int (nI k - nI 8)]) X (c_J9_max_7cf53 l D t (nI 0) (nI k - nI 12)) k_J9_max_7cf53 q_ml_X3_227 [] ⟨by decide, rfl⟩ (by decide) rfl rfl rfl (Nat.le_of_ble_eq_true rfl) ⟨Nat.zero_le _, Nat.zero_le _⟩ dX3_costOf_9 (fun r9 h9 => ?_)
  subst h9
  refine z_iadd X dX3_costOf_12 ?_
  refine z_iret X Z rfl dX3_costOf_13 ?_
  exact ⟨(), (by decide +kernel : ∀ k, k < 17 → 8 ≤ k → (nI k - nI 8) + (if nI 0 < nI k - nI 12 then nI k - nI 12 else nI 0) = nI (cst k)) k (by omega) h8, fun _ _ => trivial⟩
set_option maxHeartbeats 4000000 in
set_option maxRecDepth 100000 in
theorem c_X3_placesAt (l : Launch) (D : va_G) (t : ClassId × ClassId × ClassId) (k : Nat) (hk : k < 2 ^ 31) : zM1 l yX3_placesAt cX3_placesAt 1 (some .int) 0 D t [.int (nI k)] ([]) (fun r => r = nI (1 + k / 2)) := by
  refine z_m1 (by decide +kernel) (Nat.le_of_ble_eq_true rfl) (by simp [Value.category]) ?_
  intro E X Z
  refine z_lv (lv' := [some (.int (nI k))]) rfl ?_
  refine z_iconst (v := nI 1) X dX3_placesAt_0 (by decide) ?_
  refine z_iload_n X dX3_placesAt_1 rfl rfl ?_
  refine z_iconst (v := nI 2) X dX3_placesAt_2 (by decide) ?_
  refine n_idiv X dX3_placesAt_3 (by omega) (by decide) (by decide) ?_
  refine n_iadd X dX3_placesAt_4 ?_
  refine z_iret X Z rfl dX3_placesAt_5 ?_
  exact ⟨(), rfl, fun _ _ => trivial⟩
set_option maxHeartbeats 4000000 in
set_option maxRecDepth 100000 in
theorem c_X0_has (l : Launch) (D : va_G) (t : ClassId × ClassId × ClassId) (b q h j : Nat) (x : Int32) (f : Nat → Int32) (hx : x = nI h) (hh : h < 2 ^ 31) (hj : j < 32) : zM1 l yX0_has cX0_has 2 (some .boolean) 0 D t [.ref b, .int (nI j)] ([(b, .inr (0, [.ref q, .int x])), (q, .inl (t.1, 3, .inl f))]) (fun r => bz r (h.testBit j = true)) := by
  refine z_m1 (by decide +kernel) (Nat.le_of_ble_eq_true rfl) (by simp [Value.category]) ?_
  intro E X Z
  refine z_lv (lv' := [some (.ref b), some (.int (nI j))]) rfl ?_
  refine z_aload_n X dX0_has_0 rfl rfl ?_
  refine z_get X (C := RX0) (T := TX0) (N := 2) (ci := 0) (v := .int x) inZ0 0 1 rfl rfl (by decide) q_fl_X0_15 rfl rfl dX0_has_1 ?_
  refine z_top (y := nI h) (hx) ?_
  refine z_iload_n X dX0_has_4 rfl rfl ?_
  refine n_ishr X dX0_has_5 (by omega) (by omega) ?_
  refine z_iconst (v := nI 1) X dX0_has_6 (by decide) ?_
  refine n_iand X dX0_has_7 ?_
  rw [zt_bit1]
  refine n_if_eq (tgt := 15) X dX0_has_8 (by decide) (by omega) (fun c8 => ?_) (fun c8 => ?_)
  ·
    refine z_iconst (v := nI 0) X dX0_has_15 (by decide) ?_
    refine z_iret X Z (by decide +kernel) dX0_has_16 ?_
    exact ⟨(), bz_f (by rw [zt_b2 c8]; decide), fun _ _ => trivial⟩
  ·
    refine z_iconst (v := nI 1) X dX0_has_11 (by decide) ?_
    refine z_goto (tgt := 16) X dX0_has_12 (by decide) ?_
    refine z_iret X Z (by decide +kernel) dX0_has_16 ?_
    exact ⟨(), bz_t (zt_b1 c8), fun _ _ => trivial⟩
set_option maxHeartbeats 4000000 in
set_option maxRecDepth 100000 in
theorem c_X0_heldCount (l : Launch) (D : va_G) (t : ClassId × ClassId × ClassId) (b q h : Nat) (x : Int32) (f : Nat → Int32) (hx : x = nI h) (hh : h < 256) : zM1 l yX0_heldCount cX0_heldCount 1 (some .int) 1 D t [.ref b] ([(b, .inr (0, [.ref q, .int x])), (q, .inl (t.1, 3, .inl f))]) (fun r => r = nI (p8 h)) := by
  refine z_m1 (by decide +kernel) (Nat.le_of_ble_eq_true rfl) (by simp [Value.category]) ?_
  intro E X Z
  refine z_lv (lv' := [some (.ref b)]) rfl ?_
  refine z_aload_n X dX0_heldCount_0 rfl rfl ?_
  refine z_get X (C := RX0) (T := TX0) (N := 2) (ci := 0) (v := .int x) inZ0 0 1 rfl rfl (by decide) q_fl_X0_15 rfl rfl dX0_heldCount_1 ?_
  refine z_top (y := nI h) (hx) ?_
  refine z_callS1 (k := 0) (n := 0) (st := []) X (c_J6_bitCount_0f7a4 l D t h (by omega)) k_J6_bitCount_0f7a4 q_ml_X0_25 [] ⟨by decide, rfl⟩ (by decide) rfl rfl rfl (Nat.le_of_ble_eq_true rfl) ⟨Nat.zero_le _, Nat.zero_le _⟩ dX0_heldCount_4 (fun r4 h4 => ?_)
  subst h4
  refine z_iret X Z rfl dX0_heldCount_7 ?_
  exact ⟨(), rfl, fun _ _ => trivial⟩
set_option maxHeartbeats 4000000 in
set_option maxRecDepth 100000 in
theorem c_X0_levelIn (l : Launch) (D : va_G) (t : ClassId × ClassId × ClassId) (b q : Nat) (c x : Int32) (f : Nat → Int32) (hc : zo c 3) : zM1 l yX0_levelIn cX0_levelIn 2 (some .int) 0 D t [.ref b, .int c] ([(b, .inr (0, [.ref q, .int x])), (q, .inl (t.1, 3, .inl f))]) (fun r => r = if c = -1 then 0 else f c.toNatClampNeg) := by
  refine z_m1 (by decide +kernel) (Nat.le_of_ble_eq_true rfl) (by simp [Value.category]) ?_
  intro E X Z
  refine z_lv (lv' := [some (.ref b), some (.int c)]) rfl ?_
  rcases hc with rfl | ⟨k, hk, rfl⟩
  ·
    refine z_iload_n X dX0_levelIn_0 rfl rfl ?_
    refine z_if_lt (tgt := 18) X dX0_levelIn_1 (by decide) (fun _ => ?_) (fun c1 => absurd c1 (by decide))
    refine z_iconst (v := nI 0) X dX0_levelIn_18 (by decide) ?_
    refine z_iret X Z rfl dX0_levelIn_19 ?_
    exact ⟨(), (if_pos rfl).symm, fun _ _ => trivial⟩
  ·
    refine z_iload_n X dX0_levelIn_0 rfl rfl ?_
    refine n_if_lt (tgt := 18) X dX0_levelIn_1 (by decide) (by omega) ?_
    refine z_iload_n X dX0_levelIn_4 rfl rfl ?_
    refine z_iconst (v := nI 3) X dX0_levelIn_5 (by decide) ?_
    refine n_icmp_ge (tgt := 18) X dX0_levelIn_6 (by decide) (by omega) (by omega) (fun c6 => absurd c6 (by omega)) (fun c6 => ?_)
    refine z_aload_n X dX0_levelIn_9 rfl rfl ?_
    refine z_get X (C := RX0) (T := TX0) (N := 2) (ci := 0) (v := .ref q) inZ0 0 0 rfl rfl (by decide) q_fl_X0_9 rfl rfl dX0_levelIn_10 ?_
    refine z_iload_n X dX0_levelIn_13 rfl rfl ?_
    refine n_iald (f := f) X 1 rfl (by omega) (by decide) dX0_levelIn_14 ?_
    refine z_goto (tgt := 19) X dX0_levelIn_15 (by decide) ?_
    refine z_iret X Z rfl dX0_levelIn_19 ?_
    exact ⟨(), by rw [if_neg (zn_m1 k (by omega)), nI_clamp (by omega)], fun _ _ => trivial⟩
set_option maxHeartbeats 4000000 in
set_option maxRecDepth 100000 in
theorem c_X0_levelInAll (l : Launch) (D : va_G) (t : ClassId × ClassId × ClassId) (b q x y z : Nat) (v : Int32) (f : Nat → Int32) (hf : f = l3 x y z) : zM1 l yX0_levelInAll cX0_levelInAll 3 (some .int) 0 D t [.ref b] ([(b, .inr (0, [.ref q, .int v])), (q, .inl (t.1, 3, .inl f))]) (fun r => r = nI (x + y + z)) := by
  refine z_m1 (by decide +kernel) (Nat.le_of_ble_eq_true rfl) (by simp [Value.category]) ?_
  intro E X Z
  refine z_lv (lv' := [some (.ref b), none, none]) rfl ?_
  refine z_iconst (v := nI 0) X dX0_levelInAll_0 (by decide) ?_
  refine z_istore_n X dX0_levelInAll_1 rfl (Nat.le_of_ble_eq_true rfl) ?_
  refine z_lv (lv' := [some (.ref b), some (.int (nI 0)), none]) rfl ?_
  refine z_iconst (v := nI 0) X dX0_levelInAll_2 (by decide) ?_
  refine z_istore_n X dX0_levelInAll_3 rfl (Nat.le_of_ble_eq_true rfl) ?_
  refine z_lv (lv' := [some (.ref b), some (.int (nI 0)), some (.int (nI 0))]) rfl ?_
  refine z_iload_n X dX0_levelInAll_4 rfl rfl ?_
  refine z_iconst (v := nI 3) X dX0_levelInAll_5 (by decide) ?_
  refine n_icmp_ge (tgt := 24) X dX0_levelInAll_6 (by decide) (by omega) (by omega) (fun c6 => absurd c6 (by decide)) (fun _ => ?_)
  refine z_iload_n X dX0_levelInAll_9 rfl rfl ?_
  refine z_aload_n X dX0_levelInAll_10 rfl rfl ?_
  refine z_get X (C := RX0) (T := TX0) (N := 2) (ci := 0) (v := .ref q) inZ0 0 0 rfl rfl (by decide) q_fl_X0_9 rfl rfl dX0_levelInAll_11 ?_
  refine z_iload_n X dX0_levelInAll_14 rfl rfl ?_
  refine n_iald (f := f) X 1 rfl (by omega) (by decide) dX0_levelInAll_15 ?_
  refine z_top (y := nI x) (by rw [hf]; rfl) ?_
  refine n_iadd X dX0_levelInAll_16 ?_
  refine z_istore_n X dX0_levelInAll_17 rfl (Nat.le_of_ble_eq_true rfl) ?_
  refine z_lv (lv' := [some (.ref b), some (.int (nI (0 + x))), some (.int (nI 0))]) rfl ?_
  refine z_iinc (v := nI 1) X dX0_levelInAll_18 rfl (by decide) ?_
  refine z_lv (lv' := [some (.ref b), some (.int (nI (0 + x))), some (.int (nI 1))]) rfl ?_
  refine z_goto (tgt := 4) X dX0_levelInAll_21 (by decide) ?_
  refine z_iload_n X dX0_levelInAll_4 rfl rfl ?_
  refine z_iconst (v := nI 3) X dX0_levelInAll_5 (by decide) ?_
  refine n_icmp_ge (tgt := 24) X dX0_levelInAll_6 (by decide) (by omega) (by omega) (fun c6 => absurd c6 (by decide)) (fun _ => ?_)
  refine z_iload_n X dX0_levelInAll_9 rfl rfl ?_
  refine z_aload_n X dX0_levelInAll_10 rfl rfl ?_
  refine z_get X (C := RX0) (T := TX0) (N := 2) (ci := 0) (v := .ref q) inZ0 0 0 rfl rfl (by decide) q_fl_X0_9 rfl rfl dX0_levelInAll_11 ?_
  refine z_iload_n X dX0_levelInAll_14 rfl rfl ?_
  refine n_iald (f := f) X 1 rfl (by omega) (by decide) dX0_levelInAll_15 ?_
  refine z_top (y := nI y) (by rw [hf]; rfl) ?_
  refine n_iadd X dX0_levelInAll_16 ?_
  refine z_istore_n X dX0_levelInAll_17 rfl (Nat.le_of_ble_eq_true rfl) ?_
  refine z_lv (lv' := [some (.ref b), some (.int (nI ((0 + x) + y))), some (.int (nI 1))]) rfl ?_
  refine z_iinc (v := nI 2) X dX0_levelInAll_18 rfl (by decide) ?_
  refine z_lv (lv' := [some (.ref b), some (.int (nI ((0 + x) + y))), some (.int (nI 2))]) rfl ?_
  refine z_goto (tgt := 4) X dX0_levelInAll_21 (by decide) ?_
  refine z_iload_n X dX0_levelInAll_4 rfl rfl ?_
  refine z_iconst (v := nI 3) X dX0_levelInAll_5 (by decide) ?_
  refine n_icmp_ge (tgt := 24) X dX0_levelInAll_6 (by decide) (by omega) (by omega) (fun c6 => absurd c6 (by decide)) (fun _ => ?_)
  refine z_iload_n X dX0_levelInAll_9 rfl rfl ?_
  refine z_aload_n X dX0_levelInAll_10 rfl rfl ?_
  refine z_get X (C := RX0) (T := TX0) (N := 2) (ci := 0) (v := .ref q) inZ0 0 0 rfl rfl (by decide) q_fl_X0_9 rfl rfl dX0_levelInAll_11 ?_
  refine z_iload_n X dX0_levelInAll_14 rfl rfl ?_
  refine n_iald (f := f) X 1 rfl (by omega) (by decide) dX0_levelInAll_15 ?_
  refine z_top (y := nI z) (by rw [hf]; rfl) ?_
  refine n_iadd X dX0_levelInAll_16 ?_
  refine z_istore_n X dX0_levelInAll_17 rfl (Nat.le_of_ble_eq_true rfl) ?_
  refine z_lv (lv' := [some (.ref b), some (.int (nI (((0 + x) + y) + z))), some (.int (nI 2))]) rfl ?_
  refine z_iinc (v := nI 3) X dX0_levelInAll_18 rfl (by decide) ?_
  refine z_lv (lv' := [some (.ref b), some (.int (nI (((0 + x) + y) + z))), some (.int (nI 3))]) rfl ?_
  refine z_goto (tgt := 4) X dX0_levelInAll_21 (by decide) ?_
  refine z_iload_n X dX0_levelInAll_4 rfl rfl ?_
  refine z_iconst (v := nI 3) X dX0_levelInAll_5 (by decide) ?_
  refine n_icmp_ge (tgt := 24) X dX0_levelInAll_6 (by decide) (by omega) (by omega) (fun _ => ?_) (fun c6 => absurd c6 (by decide))
  refine z_iload_n X dX0_levelInAll_24 rfl rfl ?_
  refine z_iret X Z rfl dX0_levelInAll_25 ?_
  exact ⟨(), by rw [Nat.zero_add], fun _ _ => trivial⟩
theorem z_callSN1 {E : zE} {k n pc : Nat} {lv : List (Option Value)} {st st0 : List Value} {ws : va_W} {cc : ByteArray} {nL : Nat} {D : va_G} {t : ClassId × ClassId × ClassId} {l : Launch} {h : Nat} {As : List Value} {φ : Int32 → Prop} {rc rs : Nat} (X : zX E RX0 cc nL (zRm h rc rs) D t l) (hM : zM1 l yX3_isAmong cX3_isAmong 2 (some .boolean) 0 D t As [] φ) (hh : 0 < h) (hnp : As.length = 2) (hnl : lv.length = nL) (hs0 : st0 = As.reverse ++ st) (hst : (st.map fun v => v.category).sum ≤ 8) (hcs : k ≤ rc ∧ n ≤ rs) (hd : decode cc pc = .ok (.invokestatic 31, 3)) (kk : ∀ r, φ r → Wz E k n (pc + 3) lv (.int r :: st) ws) : Wz E k n pc lv st0 ws := by
  intro ls H locs hl hP hD hS
  subst hs0
  obtain ⟨p1, p2, p3, p4, p5⟩ := k_X3_isAmong
  have hl2 : E.2.1 = l := X.2.2.2.2.2.2.2.2.2
  have hR : E.2.2.2.1 = zRm h rc rs := X.2.2.2.2.2.1
  have hrun : va_Run E.1 E.2.1 E.2.2.1 E.2.2.2.1 (zs E) (zm E) (zargs E) (zb E) (zh E) (zc E) H locs k n 0 0 (F0 (zm E) pc ls (As.reverse ++ st)) st (va_Qi (fun r (_ : Unit) => φ r) (fun _ _ => True) (fun _ => False) As.toArray) (fun _ => False) := by
    rw [hl2]
    refine va_runSN (host := "Rulesheet") (nL := nL) (n := 2) (own := RX0) (bytes := cX3_isAmong) (maxL := 2) (ret := some .boolean) ⟨X.1, X.2.1, X.2.2.1, X.2.2.2.1, X.2.2.2.2.2.2.1⟩ hM ⟨va_cnB 2 X.2.2.2.2.2.2.1 (zGoodW p3) rfl rfl rfl X.2.2.2.2.1.2 (X.w p2) p4 ?_, X.w p1, trivial⟩ (z_preS X (zPart_nil (ws := ws)) hP hD) rfl hnp ?_ rfl (lv_room hst) hd ?_
    · rw [hR]; exact ⟨hh, by show 8 + (2 + 11) + 32 * 0 ≤ 32 * h; omega⟩
    · exact hl.1.1.trans hnl
    · rw [hR]; exact hcs
  refine va_calli hrun hS (fun q _ z => z.elim) (fun q z => z.elim) (fun r u T H1 locs1 hT _ hφ _ hz hk hS1 => ?_)
  exact kk r hφ ls H1 locs1 hl (hP.kept fun j q hq => hk q.1 (hP j q hq).lt id) hD hS1
set_option maxHeartbeats 4000000 in
set_option maxRecDepth 100000 in
theorem c_X0_changeLevel (l : Launch) (D : va_G) (t : ClassId × ClassId × ClassId) (b q k : Nat) (x c : Int32) (f : Nat → Int32) (hk : k < 3) : zM3 l yX0_changeLevel cX0_changeLevel 3 1 D t [.ref b, .int (nI k), .int c] ([(b, .inr (0, [.ref q, .int x])), (q, .inl (t.1, 3, .inl f))]) (fun _ : Unit => True) (fun _ => [(b, .inr (0, [.ref q, .int x])), (q, .inl (t.1, 3, .inl (upd f k (f k + c))))]) := by
  refine z_m3 (by decide +kernel) (Nat.le_of_ble_eq_true rfl) (by simp [Value.category]) ?_
  intro E X Z Y
  refine z_lv (lv' := [some (.ref b), some (.int (nI k)), some (.int c)]) rfl ?_
  refine z_iload_n X dX0_changeLevel_0 rfl rfl ?_
  refine z_iconst (v := nI 3) X dX0_changeLevel_1 (by decide) ?_
  refine z_callSN1 (k := 0) (n := 0) (st := []) X (c_X3_isAmong l D t k 3 (by omega) (by decide)) (by decide) rfl rfl rfl (Nat.le_of_ble_eq_true rfl) ⟨Nat.zero_le _, Nat.zero_le _⟩ dX0_changeLevel_2 (fun r2 h2 => ?_)
  rcases h2 with ⟨rfl, h2⟩ | ⟨rfl, h2⟩
  rotate_left
  · exact absurd hk h2
  refine n_if_eq (tgt := 18) X dX0_changeLevel_5 (by decide) (by omega) (fun c5 => absurd c5 (by decide)) (fun _ => ?_)
  refine z_aload_n X dX0_changeLevel_8 rfl rfl ?_
  refine z_get X (C := RX0) (T := TX0) (N := 2) (ci := 0) (v := .ref q) inZ0 0 0 rfl rfl (by decide) q_fl_X0_9 rfl rfl dX0_changeLevel_9 ?_
  refine z_iload_n X dX0_changeLevel_12 rfl rfl ?_
  refine z_dup2 X dX0_changeLevel_13 rfl rfl ?_
  refine n_iald (f := f) X 1 rfl (by omega) (by decide) dX0_changeLevel_14 ?_
  refine z_iload_n X dX0_changeLevel_15 rfl rfl ?_
  refine z_iadd X dX0_changeLevel_16 ?_
  refine n_iast X Y 1 rfl rfl (by omega) (by decide) dX0_changeLevel_17 ?_
  refine Wz.eq (ws' := [(b, .inr (0, [.ref q, .int x])), (q, .inl (t.1, 3, .inl (upd f k (f k + c))))]) rfl ?_
  refine z_vret X Z dX0_changeLevel_18 ?_
  exact ⟨(), trivial, fun q hq => hq⟩
end
section
theorem zn_clr : ∀ h, h < 256 → ∀ j, j < 8 → h.testBit j = false → nI (h ||| 2 ^ j) &&& (nI (2 ^ j) ^^^ (-1)) = nI h := by decide +kernel
theorem zn_or8 : ∀ h, h < 256 → ∀ j, j < 8 → h ||| 2 ^ j < 256 := by decide +kernel
section
variable {t : ClassId × ClassId × ClassId} {a b : Nat → Nat} {S S' : zS} {f : Nat → Int32} {v : Int32}
abbrev is24 : List Nat := [0, 1, 2, 3, 4, 5, 6, 7, 8, 9, 10, 11, 12, 13, 14, 15, 16, 17, 18, 19, 20, 21, 22, 23]
abbrev is19 : List Nat := [0, 1, 2, 3, 4, 5, 6, 7, 8, 9, 10, 11, 12, 13, 14, 15, 16, 17, 18]
theorem ppR : zPart (wR t a S) is24 (wR t a S) := ⟨by decide, rfl⟩
theorem ppM : zPart (wM t b S) is19 (wM t b S) := ⟨by decide, rfl⟩
theorem swR : zSwap (wR t a S) is24 (wR t a S) (wR t a S') (wR t a S') := ⟨ppR, ppR, rfl, rfl⟩
theorem swM : zSwap (wM t b S) is19 (wM t b S) (wM t b S') (wM t b S') := ⟨ppM, ppM, rfl, rfl⟩
abbrev wC (t : ClassId × ClassId × ClassId) (a : Nat → Nat) (x : Int32) (f : Nat → Int32) : va_W := [(a 4, .inr (0, [.ref (a 22), .int x])), (a 22, .inl (t.1, 3, .inl f))]
abbrev wT (t : ClassId × ClassId × ClassId) (a : Nat → Nat) (x : Int32) (f : Nat → Int32) : va_W := [(a 6, .inr (0, [.ref (a 23), .int x])), (a 23, .inl (t.1, 3, .inl f))]
theorem ppC : zPart (wR t a S) [4, 22] (wC t a (S 18 0) (S 15)) := ⟨by decide, rfl⟩
theorem ppT : zPart (wR t a S) [6, 23] (wT t a (S 20 0) (S 19)) := ⟨by decide, rfl⟩
theorem swC_f : zSwap (wR t a S) [4, 22] (wC t a (S 18 0) (S 15)) (wC t a (S 18 0) f) (wR t a (va_up S 15 f)) := ⟨ppC, ⟨by decide, rfl⟩, rfl, rfl⟩
theorem swC_xf : zSwap (wR t a S) [4, 22] (wC t a (S 18 0) (S 15)) (wC t a v f) (wR t a (va_up (va_up S 18 (fun _ => v)) 15 f)) := ⟨ppC, ⟨by decide, rfl⟩, rfl, rfl⟩
theorem swT_f : zSwap (wR t a S) [6, 23] (wT t a (S 20 0) (S 19)) (wT t a (S 20 0) f) (wR t a (va_up S 19 f)) := ⟨ppT, ⟨by decide, rfl⟩, rfl, rfl⟩
theorem swT_x : zSwap (wR t a S) [6, 23] (wT t a (S 20 0) (S 19)) (wT t a v (S 19)) (wR t a (va_up S 20 (fun _ => v))) := ⟨ppT, ⟨by decide, rfl⟩, rfl, rfl⟩
theorem swT_xf : zSwap (wR t a S) [6, 23] (wT t a (S 20 0) (S 19)) (wT t a v f) (wR t a (va_up (va_up S 20 (fun _ => v)) 19 f)) := ⟨ppT, ⟨by decide, rfl⟩, rfl, rfl⟩
theorem ppE : zPart (wR t a S) [7] [(a 7, .inl (t.1, 384, .inl (S 21)))] := ⟨by decide, rfl⟩
theorem swE : zSwap (wR t a S) [7] [(a 7, .inl (t.1, 384, .inl (S 21)))] [(a 7, .inl (t.1, 384, .inl f))] (wR t a (va_up S 21 f)) := ⟨ppE, ⟨by decide, rfl⟩, rfl, rfl⟩
end
set_option maxHeartbeats 4000000 in
set_option maxRecDepth 100000 in
theorem c_X0_goOnG (l : Launch) (D : va_G) (t : ClassId × ClassId × ClassId) (b q h j : Nat) (x : Int32) (f : Nat → Int32) (hh : h < 256) (hj : j < 8) (hx : x = nI h) : zM3 l yX0_goOn cX0_goOn 2 2 D t [.ref b, .int (nI (j + 3))] ([(b, .inr (0, [.ref q, .int x])), (q, .inl (t.1, 3, .inl f))]) (fun _ : Unit => True) (fun _ => [(b, .inr (0, [.ref q, .int (nI (h ||| 2 ^ j))])), (q, .inl (t.1, 3, .inl f))]) := by
  refine z_m3 (by decide +kernel) (Nat.le_of_ble_eq_true rfl) (by simp [Value.category]) ?_
  intro E X Z Y
  refine z_lv (lv' := [some (.ref b), some (.int (nI (j + 3)))]) rfl ?_
  refine z_iload_n X dX0_goOn_0 rfl rfl ?_
  refine z_iconst (v := nI 3) X dX0_goOn_1 (by decide) ?_
  refine n_icmp_lt (tgt := 22) X dX0_goOn_2 (by decide) (by omega) (by omega) (fun c2 => absurd c2 (by omega)) (fun c2 => ?_)
  refine z_aload_n X dX0_goOn_5 rfl rfl ?_
  refine z_dup X dX0_goOn_6 rfl ?_
  refine z_get X (C := RX0) (T := TX0) (N := 2) (ci := 0) (v := .int x) inZ0 0 1 rfl rfl (by decide) q_fl_X0_15 rfl rfl dX0_goOn_7 ?_
  refine z_top (y := nI h) (hx) ?_
  refine z_iconst (v := nI 1) X dX0_goOn_10 (by decide) ?_
  refine z_iload_n X dX0_goOn_11 rfl rfl ?_
  refine z_iconst (v := nI 3) X dX0_goOn_12 (by decide) ?_
  refine n_isub X dX0_goOn_13 (by omega) ?_
  refine z_top (y := nI j) (by rw [Nat.add_sub_cancel]) ?_
  refine n_ishl1 X dX0_goOn_14 (by omega) ?_
  refine n_ior X dX0_goOn_15 ?_
  refine z_put X Y (C := RX0) (T := TX0) (N := 2) (ci := 0) (ty := .int) inZ0 tyX0 tyX0_ok nmX0 0 1 rfl rfl rfl (by decide) q_fl_X0_15 rfl rfl (by decide +kernel) rfl rfl (Nat.le_of_ble_eq_true rfl) dX0_goOn_16 ?_
  refine Wz.eq (ws' := [(b, .inr (0, [.ref q, .int (nI (h ||| 2 ^ j))])), (q, .inl (t.1, 3, .inl f))]) rfl ?_
  refine z_goto (tgt := 28) X dX0_goOn_19 (by decide) ?_
  refine z_vret X Z dX0_goOn_28 ?_
  exact ⟨(), trivial, fun q hq => hq⟩
set_option maxHeartbeats 4000000 in
set_option maxRecDepth 100000 in
theorem c_X0_goOnL (l : Launch) (D : va_G) (t : ClassId × ClassId × ClassId) (b q k : Nat) (x : Int32) (f : Nat → Int32) (hk : k < 3) : zM3 l yX0_goOn cX0_goOn 2 2 D t [.ref b, .int (nI k)] ([(b, .inr (0, [.ref q, .int x])), (q, .inl (t.1, 3, .inl f))]) (fun _ : Unit => True) (fun _ => [(b, .inr (0, [.ref q, .int x])), (q, .inl (t.1, 3, .inl (upd f k (f k + nI 1))))]) := by
  refine z_m3 (by decide +kernel) (Nat.le_of_ble_eq_true rfl) (by simp [Value.category]) ?_
  intro E X Z Y
  refine z_lv (lv' := [some (.ref b), some (.int (nI k))]) rfl ?_
  refine z_iload_n X dX0_goOn_0 rfl rfl ?_
  refine z_iconst (v := nI 3) X dX0_goOn_1 (by decide) ?_
  refine n_icmp_lt (tgt := 22) X dX0_goOn_2 (by decide) (by omega) (by omega) (fun _ => ?_) (fun c2 => absurd c2 (by omega))
  refine z_aload_n X dX0_goOn_22 rfl rfl ?_
  refine z_iload_n X dX0_goOn_23 rfl rfl ?_
  refine z_iconst (v := nI 1) X dX0_goOn_24 (by decide) ?_
  refine z_callV3 (k := 0) (n := 0) (st := []) X Y rfl (c_X0_changeLevel l D t b q k x (nI 1) f hk) k_X0_changeLevel q_ml_X0_35 [0, 1] (fun _ => [(b, .inr (0, [.ref q, .int x])), (q, .inl (t.1, 3, .inl (upd f k (f k + nI 1))))]) (fun _ => ⟨⟨by decide, rfl⟩, ⟨by decide, rfl⟩, rfl, rfl⟩) ⟨by decide, rfl⟩ 0 0 rfl rfl (by decide) rfl rfl rfl (Nat.le_of_ble_eq_true rfl) ⟨Nat.zero_le _, Nat.zero_le _⟩ dX0_goOn_25 (fun _ _ => ?_)
  refine z_vret X Z dX0_goOn_28 ?_
  exact ⟨(), trivial, fun q hq => hq⟩
set_option maxHeartbeats 4000000 in
set_option maxRecDepth 100000 in
theorem c_X0_goBackG (l : Launch) (D : va_G) (t : ClassId × ClassId × ClassId) (b q h j : Nat) (x : Int32) (f : Nat → Int32) (hh : h < 256) (hj : j < 8) (hb : h.testBit j = false) (hx : x = nI (h ||| 2 ^ j)) : zM3 l yX0_goBack cX0_goBack 2 2 D t [.ref b, .int (nI (j + 3))] ([(b, .inr (0, [.ref q, .int x])), (q, .inl (t.1, 3, .inl f))]) (fun _ : Unit => True) (fun _ => [(b, .inr (0, [.ref q, .int (nI h)])), (q, .inl (t.1, 3, .inl f))]) := by
  refine z_m3 (by decide +kernel) (Nat.le_of_ble_eq_true rfl) (by simp [Value.category]) ?_
  intro E X Z Y
  refine z_lv (lv' := [some (.ref b), some (.int (nI (j + 3)))]) rfl ?_
  refine z_iload_n X dX0_goBack_0 rfl rfl ?_
  refine z_iconst (v := nI 3) X dX0_goBack_1 (by decide) ?_
  refine n_icmp_lt (tgt := 24) X dX0_goBack_2 (by decide) (by omega) (by omega) (fun c2 => absurd c2 (by omega)) (fun c2 => ?_)
  refine z_aload_n X dX0_goBack_5 rfl rfl ?_
  refine z_dup X dX0_goBack_6 rfl ?_
  refine z_get X (C := RX0) (T := TX0) (N := 2) (ci := 0) (v := .int x) inZ0 0 1 rfl rfl (by decide) q_fl_X0_15 rfl rfl dX0_goBack_7 ?_
  refine z_top (y := nI (h ||| 2 ^ j)) (hx) ?_
  refine z_iconst (v := nI 1) X dX0_goBack_10 (by decide) ?_
  refine z_iload_n X dX0_goBack_11 rfl rfl ?_
  refine z_iconst (v := nI 3) X dX0_goBack_12 (by decide) ?_
  refine n_isub X dX0_goBack_13 (by omega) ?_
  refine z_top (y := nI j) (by rw [Nat.add_sub_cancel]) ?_
  refine n_ishl1 X dX0_goBack_14 (by omega) ?_
  refine z_iconst (v := (-1)) X dX0_goBack_15 (by decide) ?_
  refine z_ixor X dX0_goBack_16 ?_
  refine z_iand X dX0_goBack_17 ?_
  refine z_top (y := nI h) (zn_clr h hh j hj hb) ?_
  refine z_put X Y (C := RX0) (T := TX0) (N := 2) (ci := 0) (ty := .int) inZ0 tyX0 tyX0_ok nmX0 0 1 rfl rfl rfl (by decide) q_fl_X0_15 rfl rfl (by decide +kernel) rfl rfl (Nat.le_of_ble_eq_true rfl) dX0_goBack_18 ?_
  refine Wz.eq (ws' := [(b, .inr (0, [.ref q, .int (nI h)])), (q, .inl (t.1, 3, .inl f))]) rfl ?_
  refine z_goto (tgt := 30) X dX0_goBack_21 (by decide) ?_
  refine z_vret X Z dX0_goBack_30 ?_
  exact ⟨(), trivial, fun q hq => hq⟩
set_option maxHeartbeats 4000000 in
set_option maxRecDepth 100000 in
theorem c_X0_goBackL (l : Launch) (D : va_G) (t : ClassId × ClassId × ClassId) (b q k : Nat) (x : Int32) (f : Nat → Int32) (hk : k < 3) : zM3 l yX0_goBack cX0_goBack 2 2 D t [.ref b, .int (nI k)] ([(b, .inr (0, [.ref q, .int x])), (q, .inl (t.1, 3, .inl f))]) (fun _ : Unit => True) (fun _ => [(b, .inr (0, [.ref q, .int x])), (q, .inl (t.1, 3, .inl (upd f k (f k + (-1)))))]) := by
  refine z_m3 (by decide +kernel) (Nat.le_of_ble_eq_true rfl) (by simp [Value.category]) ?_
  intro E X Z Y
  refine z_lv (lv' := [some (.ref b), some (.int (nI k))]) rfl ?_
  refine z_iload_n X dX0_goBack_0 rfl rfl ?_
  refine z_iconst (v := nI 3) X dX0_goBack_1 (by decide) ?_
  refine n_icmp_lt (tgt := 24) X dX0_goBack_2 (by decide) (by omega) (by omega) (fun _ => ?_) (fun c2 => absurd c2 (by omega))
  refine z_aload_n X dX0_goBack_24 rfl rfl ?_
  refine z_iload_n X dX0_goBack_25 rfl rfl ?_
  refine z_iconst (v := (-1)) X dX0_goBack_26 (by decide) ?_
  refine z_callV3 (k := 0) (n := 0) (st := []) X Y rfl (c_X0_changeLevel l D t b q k x (-1) f hk) k_X0_changeLevel q_ml_X0_35 [0, 1] (fun _ => [(b, .inr (0, [.ref q, .int x])), (q, .inl (t.1, 3, .inl (upd f k (f k + (-1)))))]) (fun _ => ⟨⟨by decide, rfl⟩, ⟨by decide, rfl⟩, rfl, rfl⟩) ⟨by decide, rfl⟩ 0 0 rfl rfl (by decide) rfl rfl rfl (Nat.le_of_ble_eq_true rfl) ⟨Nat.zero_le _, Nat.zero_le _⟩ dX0_goBack_27 (fun _ _ => ?_)
  refine z_vret X Z dX0_goBack_30 ?_
  exact ⟨(), trivial, fun q hq => hq⟩
set_option maxHeartbeats 4000000 in
set_option maxRecDepth 100000 in
theorem c_X0_empty (l : Launch) (D : va_G) (t : ClassId × ClassId × ClassId) (b q : Nat) (x : Int32) (f : Nat → Int32) : zM3 l yX0_empty cX0_empty 1 1 D t [.ref b] ([(b, .inr (0, [.ref q, .int x])), (q, .inl (t.1, 3, .inl f))]) (fun _ : Unit => True) (fun _ => [(b, .inr (0, [.ref q, .int (nI 0)])), (q, .inl (t.1, 3, .inl (fun _ => nI 0)))]) := by
  refine z_m3 (by decide +kernel) (Nat.le_of_ble_eq_true rfl) (by simp [Value.category]) ?_
  intro E X Z Y
  refine z_lv (lv' := [some (.ref b)]) rfl ?_
  refine z_aload_n X dX0_empty_0 rfl rfl ?_
  refine z_get X (C := RX0) (T := TX0) (N := 2) (ci := 0) (v := .ref q) inZ0 0 0 rfl rfl (by decide) q_fl_X0_9 rfl rfl dX0_empty_1 ?_
  refine z_iconst (v := nI 0) X dX0_empty_4 (by decide) ?_
  refine z_callS3 (k := 0) (n := 0) (st := []) X Y rfl (c_J7_fill_53178 l D t q 3 f (nI 0) (by decide)) k_J7_fill_53178 q_ml_X0_19 [1] (fun _ => [(b, .inr (0, [.ref q, .int x])), (q, .inl (t.1, 3, .inl (fun _ => nI 0)))]) (fun _ => ⟨⟨by decide, rfl⟩, ⟨by decide, rfl⟩, rfl, rfl⟩) ⟨by decide, rfl⟩ (by decide) rfl rfl rfl (Nat.le_of_ble_eq_true rfl) ⟨Nat.zero_le _, Nat.zero_le _⟩ dX0_empty_5 (fun _ _ => ?_)
  refine z_aload_n X dX0_empty_8 rfl rfl ?_
  refine z_iconst (v := nI 0) X dX0_empty_9 (by decide) ?_
  refine z_put X Y (C := RX0) (T := TX0) (N := 2) (ci := 0) (ty := .int) inZ0 tyX0 tyX0_ok nmX0 0 1 rfl rfl rfl (by decide) q_fl_X0_15 rfl rfl (by decide +kernel) rfl rfl (Nat.le_of_ble_eq_true rfl) dX0_empty_10 ?_
  refine Wz.eq (ws' := [(b, .inr (0, [.ref q, .int (nI 0)])), (q, .inl (t.1, 3, .inl (fun _ => nI 0)))]) rfl ?_
  refine z_vret X Z dX0_empty_13 ?_
  exact ⟨(), trivial, fun q hq => hq⟩
end
section
section
variable {S : zS} {f : Nat → Int32} {j k s : Nat}
theorem pS_k (h : S 0 j = nI k) (hk : k < 2 ^ 31) : pS S j ↔ S 1 j ≤ S 14 k := by
  unfold pS; rw [h, nI_clamp hk]
  exact ⟨fun q => q.elim (fun e => absurd e (zn_m1 k hk)) id, Or.inr⟩
theorem pL_k (h : S 2 j = nI k) (hk : k < 2 ^ 31) : pL S f j ↔ S 3 j ≤ f k := by
  unfold pL; rw [h, nI_clamp hk]
  exact ⟨fun q => q.elim (fun e => absurd e (zn_m1 k hk)) id, Or.inr⟩
theorem pO_k (h : S 4 j = nI k) (hk : k < 2 ^ 31) : pO S s j ↔ s.testBit k = true := by
  unfold pO; rw [h, nI_clamp hk]
  exact ⟨fun q => q.elim (fun e => absurd e (zn_m1 k hk)) id, Or.inr⟩
theorem pB_k (h : S 5 j = nI k) (hk : k < 2 ^ 31) : pB S f j ↔ f k ≤ S 6 j := by
  unfold pB; rw [h, nI_clamp hk]
  exact ⟨fun q => q.elim (fun e => absurd e (zn_m1 k hk)) id, Or.inr⟩
end
/-- what all scores cost -/
def cs4 (sc : Nat → Nat) : Nat := cst (sc 0) + cst (sc 1) + cst (sc 2) + cst (sc 3)
/-- the scores are sc -/
def zSc (S : zS) (sc : Nat → Nat) : Prop := ∀ j, j < 4 → S 14 j = nI (sc j) ∧ 8 ≤ sc j ∧ sc j ≤ 16
set_option maxHeartbeats 4000000 in
set_option maxRecDepth 100000 in
theorem c_X3_pointsLeft (l : Launch) (D : va_G) (t : ClassId × ClassId × ClassId) (a : Nat → Nat) (S : zS) (sc : Nat → Nat) (hsc : zSc S sc) (hc : cs4 sc ≤ 20) : zM1 l yX3_pointsLeft cX3_pointsLeft 3 (some .int) 2 D t [.ref (a 0)] (wR t a S) (fun r => r = nI (20 - cs4 sc)) := by
  refine z_m1 (by decide +kernel) (Nat.le_of_ble_eq_true rfl) (by simp [Value.category]) ?_
  intro E X Z
  refine z_lv (lv' := [some (.ref (a 0)), none, none]) rfl ?_
  obtain ⟨e0, l0, u0⟩ := hsc 0 (by decide)
  obtain ⟨e1, l1, u1⟩ := hsc 1 (by decide)
  obtain ⟨e2, l2, u2⟩ := hsc 2 (by decide)
  obtain ⟨e3, l3, u3⟩ := hsc 3 (by decide)
  unfold cs4 at hc
  refine z_bipush (v := nI 20) X dX3_pointsLeft_0 (by decide) ?_
  refine z_istore_n X dX3_pointsLeft_2 rfl (Nat.le_of_ble_eq_true rfl) ?_
  refine z_lv (lv' := [some (.ref (a 0)), some (.int (nI 20)), none]) rfl ?_
  refine z_iconst (v := nI 0) X dX3_pointsLeft_3 (by decide) ?_
  refine z_istore_n X dX3_pointsLeft_4 rfl (Nat.le_of_ble_eq_true rfl) ?_
  refine z_lv (lv' := [some (.ref (a 0)), some (.int (nI 20)), some (.int (nI 0))]) rfl ?_
  refine z_iload_n X dX3_pointsLeft_5 rfl rfl ?_
  refine z_iconst (v := nI 4) X dX3_pointsLeft_6 (by decide) ?_
  refine n_icmp_ge (tgt := 28) X dX3_pointsLeft_7 (by decide) (by omega) (by omega) (fun c7 => absurd c7 (by decide)) (fun _ => ?_)
  refine z_iload_n X dX3_pointsLeft_10 rfl rfl ?_
  refine z_aload_n X dX3_pointsLeft_11 rfl rfl ?_
  refine z_get X (C := RX3) (T := TX3) (N := 8) (ci := 3) (v := .ref (a 3)) inZ3 0 2 rfl rfl (by decide) q_fl_X3_23 rfl rfl dX3_pointsLeft_12 ?_
  refine z_iload_n X dX3_pointsLeft_15 rfl rfl ?_
  refine n_iald (f := S 14) X 3 rfl (by omega) (by decide) dX3_pointsLeft_16 ?_
  refine z_top (y := nI (sc 0)) (e0) ?_
  refine z_callS1 (k := 0) (n := 0) (st := [.int (nI 20)]) X (c_X3_costOf l D t (sc 0) (by omega) (by omega)) k_X3_costOf q_ml_X3_130 [] ⟨by decide, rfl⟩ (by decide) rfl rfl rfl (Nat.le_of_ble_eq_true rfl) ⟨Nat.zero_le _, Nat.zero_le _⟩ dX3_pointsLeft_17 (fun r17 h17 => ?_)
  subst h17
  refine n_isub X dX3_pointsLeft_20 (by omega) ?_
  refine z_istore_n X dX3_pointsLeft_21 rfl (Nat.le_of_ble_eq_true rfl) ?_
  refine z_lv (lv' := [some (.ref (a 0)), some (.int (nI (20 - (cst (sc 0))))), some (.int (nI 0))]) rfl ?_
  refine z_iinc (v := nI 1) X dX3_pointsLeft_22 rfl (by decide) ?_
  refine z_lv (lv' := [some (.ref (a 0)), some (.int (nI (20 - (cst (sc 0))))), some (.int (nI 1))]) rfl ?_
  refine z_goto (tgt := 5) X dX3_pointsLeft_25 (by decide) ?_
  refine z_iload_n X dX3_pointsLeft_5 rfl rfl ?_
  refine z_iconst (v := nI 4) X dX3_pointsLeft_6 (by decide) ?_
  refine n_icmp_ge (tgt := 28) X dX3_pointsLeft_7 (by decide) (by omega) (by omega) (fun c7 => absurd c7 (by decide)) (fun _ => ?_)
  refine z_iload_n X dX3_pointsLeft_10 rfl rfl ?_
  refine z_aload_n X dX3_pointsLeft_11 rfl rfl ?_
  refine z_get X (C := RX3) (T := TX3) (N := 8) (ci := 3) (v := .ref (a 3)) inZ3 0 2 rfl rfl (by decide) q_fl_X3_23 rfl rfl dX3_pointsLeft_12 ?_
  refine z_iload_n X dX3_pointsLeft_15 rfl rfl ?_
  refine n_iald (f := S 14) X 3 rfl (by omega) (by decide) dX3_pointsLeft_16 ?_
  refine z_top (y := nI (sc 1)) (e1) ?_
  refine z_callS1 (k := 0) (n := 0) (st := [.int (nI (20 - (cst (sc 0))))]) X (c_X3_costOf l D t (sc 1) (by omega) (by omega)) k_X3_costOf q_ml_X3_130 [] ⟨by decide, rfl⟩ (by decide) rfl rfl rfl (Nat.le_of_ble_eq_true rfl) ⟨Nat.zero_le _, Nat.zero_le _⟩ dX3_pointsLeft_17 (fun r17 h17 => ?_)
  subst h17
  refine n_isub X dX3_pointsLeft_20 (by omega) ?_
  refine z_istore_n X dX3_pointsLeft_21 rfl (Nat.le_of_ble_eq_true rfl) ?_
  refine z_lv (lv' := [some (.ref (a 0)), some (.int (nI ((20 - (cst (sc 0))) - (cst (sc 1))))), some (.int (nI 1))]) rfl ?_
  refine z_iinc (v := nI 2) X dX3_pointsLeft_22 rfl (by decide) ?_
  refine z_lv (lv' := [some (.ref (a 0)), some (.int (nI ((20 - (cst (sc 0))) - (cst (sc 1))))), some (.int (nI 2))]) rfl ?_
  refine z_goto (tgt := 5) X dX3_pointsLeft_25 (by decide) ?_
  refine z_iload_n X dX3_pointsLeft_5 rfl rfl ?_
  refine z_iconst (v := nI 4) X dX3_pointsLeft_6 (by decide) ?_
  refine n_icmp_ge (tgt := 28) X dX3_pointsLeft_7 (by decide) (by omega) (by omega) (fun c7 => absurd c7 (by decide)) (fun _ => ?_)
  refine z_iload_n X dX3_pointsLeft_10 rfl rfl ?_
  refine z_aload_n X dX3_pointsLeft_11 rfl rfl ?_
  refine z_get X (C := RX3) (T := TX3) (N := 8) (ci := 3) (v := .ref (a 3)) inZ3 0 2 rfl rfl (by decide) q_fl_X3_23 rfl rfl dX3_pointsLeft_12 ?_
  refine z_iload_n X dX3_pointsLeft_15 rfl rfl ?_
  refine n_iald (f := S 14) X 3 rfl (by omega) (by decide) dX3_pointsLeft_16 ?_
  refine z_top (y := nI (sc 2)) (e2) ?_
  refine z_callS1 (k := 0) (n := 0) (st := [.int (nI ((20 - (cst (sc 0))) - (cst (sc 1))))]) X (c_X3_costOf l D t (sc 2) (by omega) (by omega)) k_X3_costOf q_ml_X3_130 [] ⟨by decide, rfl⟩ (by decide) rfl rfl rfl (Nat.le_of_ble_eq_true rfl) ⟨Nat.zero_le _, Nat.zero_le _⟩ dX3_pointsLeft_17 (fun r17 h17 => ?_)
  subst h17
  refine n_isub X dX3_pointsLeft_20 (by omega) ?_
  refine z_istore_n X dX3_pointsLeft_21 rfl (Nat.le_of_ble_eq_true rfl) ?_
  refine z_lv (lv' := [some (.ref (a 0)), some (.int (nI (((20 - (cst (sc 0))) - (cst (sc 1))) - (cst (sc 2))))), some (.int (nI 2))]) rfl ?_
  refine z_iinc (v := nI 3) X dX3_pointsLeft_22 rfl (by decide) ?_
  refine z_lv (lv' := [some (.ref (a 0)), some (.int (nI (((20 - (cst (sc 0))) - (cst (sc 1))) - (cst (sc 2))))), some (.int (nI 3))]) rfl ?_
  refine z_goto (tgt := 5) X dX3_pointsLeft_25 (by decide) ?_
  refine z_iload_n X dX3_pointsLeft_5 rfl rfl ?_
  refine z_iconst (v := nI 4) X dX3_pointsLeft_6 (by decide) ?_
  refine n_icmp_ge (tgt := 28) X dX3_pointsLeft_7 (by decide) (by omega) (by omega) (fun c7 => absurd c7 (by decide)) (fun _ => ?_)
  refine z_iload_n X dX3_pointsLeft_10 rfl rfl ?_
  refine z_aload_n X dX3_pointsLeft_11 rfl rfl ?_
  refine z_get X (C := RX3) (T := TX3) (N := 8) (ci := 3) (v := .ref (a 3)) inZ3 0 2 rfl rfl (by decide) q_fl_X3_23 rfl rfl dX3_pointsLeft_12 ?_
  refine z_iload_n X dX3_pointsLeft_15 rfl rfl ?_
  refine n_iald (f := S 14) X 3 rfl (by omega) (by decide) dX3_pointsLeft_16 ?_
  refine z_top (y := nI (sc 3)) (e3) ?_
  refine z_callS1 (k := 0) (n := 0) (st := [.int (nI (((20 - (cst (sc 0))) - (cst (sc 1))) - (cst (sc 2))))]) X (c_X3_costOf l D t (sc 3) (by omega) (by omega)) k_X3_costOf q_ml_X3_130 [] ⟨by decide, rfl⟩ (by decide) rfl rfl rfl (Nat.le_of_ble_eq_true rfl) ⟨Nat.zero_le _, Nat.zero_le _⟩ dX3_pointsLeft_17 (fun r17 h17 => ?_)
  subst h17
  refine n_isub X dX3_pointsLeft_20 (by omega) ?_
  refine z_istore_n X dX3_pointsLeft_21 rfl (Nat.le_of_ble_eq_true rfl) ?_
  refine z_lv (lv' := [some (.ref (a 0)), some (.int (nI ((((20 - (cst (sc 0))) - (cst (sc 1))) - (cst (sc 2))) - (cst (sc 3))))), some (.int (nI 3))]) rfl ?_
  refine z_iinc (v := nI 4) X dX3_pointsLeft_22 rfl (by decide) ?_
  refine z_lv (lv' := [some (.ref (a 0)), some (.int (nI ((((20 - (cst (sc 0))) - (cst (sc 1))) - (cst (sc 2))) - (cst (sc 3))))), some (.int (nI 4))]) rfl ?_
  refine z_goto (tgt := 5) X dX3_pointsLeft_25 (by decide) ?_
  refine z_iload_n X dX3_pointsLeft_5 rfl rfl ?_
  refine z_iconst (v := nI 4) X dX3_pointsLeft_6 (by decide) ?_
  refine n_icmp_ge (tgt := 28) X dX3_pointsLeft_7 (by decide) (by omega) (by omega) (fun _ => ?_) (fun c7 => absurd c7 (by decide))
  refine z_iload_n X dX3_pointsLeft_28 rfl rfl ?_
  refine z_iret X Z rfl dX3_pointsLeft_29 ?_
  exact ⟨(), by unfold cs4; congr 1; omega, fun _ _ => trivial⟩
/-- the modifier of an ability, or of none -/
def md (S : zS) (c : Int32) : Int32 := if c = -1 then 0 else hlf (S 14 c.toNatClampNeg - nI 10)
theorem md_k {S : zS} {k : Nat} (hk : k < 2 ^ 31) : md S (nI k) = hlf (S 14 k - nI 10) := by unfold md; rw [if_neg (zn_m1 k hk), nI_clamp hk]
set_option maxHeartbeats 4000000 in
set_option maxRecDepth 100000 in
theorem c_X3_modifierOf (l : Launch) (D : va_G) (t : ClassId × ClassId × ClassId) (a : Nat → Nat) (S : zS) (c : Int32) (hc : zo c 4) : zM1 l yX3_modifierOf cX3_modifierOf 2 (some .int) 1 D t [.ref (a 0), .int c] (wR t a S) (fun r => r = md S c) := by
  refine z_m1 (by decide +kernel) (Nat.le_of_ble_eq_true rfl) (by simp [Value.category]) ?_
  intro E X Z
  refine z_lv (lv' := [some (.ref (a 0)), some (.int c)]) rfl ?_
  rcases hc with rfl | ⟨k, hk, rfl⟩
  ·
    refine z_iload_n X dX3_modifierOf_0 rfl rfl ?_
    refine z_iconst (v := nI 4) X dX3_modifierOf_1 (by decide) ?_
    refine z_callS1 (k := 0) (n := 0) (st := []) X (c_X3_isAmong_m l D t 4) k_X3_isAmong q_ml_X3_53 [] ⟨by decide, rfl⟩ (by decide) rfl rfl rfl (Nat.le_of_ble_eq_true rfl) ⟨Nat.zero_le _, Nat.zero_le _⟩ dX3_modifierOf_2 (fun r2 h2 => ?_)
    subst h2
    refine n_if_eq (tgt := 24) X dX3_modifierOf_5 (by decide) (by omega) (fun _ => ?_) (fun c5 => absurd c5 (by decide))
    refine z_iconst (v := nI 0) X dX3_modifierOf_24 (by decide) ?_
    refine z_iret X Z rfl dX3_modifierOf_25 ?_
    exact ⟨(), rfl, fun _ _ => trivial⟩
  ·
    refine z_iload_n X dX3_modifierOf_0 rfl rfl ?_
    refine z_iconst (v := nI 4) X dX3_modifierOf_1 (by decide) ?_
    refine z_callS1 (k := 0) (n := 0) (st := []) X (c_X3_isAmong l D t k 4 (by omega) (by decide)) k_X3_isAmong q_ml_X3_53 [] ⟨by decide, rfl⟩ (by decide) rfl rfl rfl (Nat.le_of_ble_eq_true rfl) ⟨Nat.zero_le _, Nat.zero_le _⟩ dX3_modifierOf_2 (fun r2 h2 => ?_)
    rcases h2 with ⟨rfl, h2⟩ | ⟨rfl, h2⟩
    rotate_left
    · exact absurd (by omega) h2
    refine n_if_eq (tgt := 24) X dX3_modifierOf_5 (by decide) (by omega) (fun c5 => absurd c5 (by decide)) (fun _ => ?_)
    refine z_aload_n X dX3_modifierOf_8 rfl rfl ?_
    refine z_get X (C := RX3) (T := TX3) (N := 8) (ci := 3) (v := .ref (a 3)) inZ3 0 2 rfl rfl (by decide) q_fl_X3_23 rfl rfl dX3_modifierOf_9 ?_
    refine z_iload_n X dX3_modifierOf_12 rfl rfl ?_
    refine n_iald (f := S 14) X 3 rfl (by omega) (by decide) dX3_modifierOf_13 ?_
    refine z_bipush (v := nI 10) X dX3_modifierOf_14 (by decide) ?_
    refine z_isub X dX3_modifierOf_16 ?_
    refine z_iconst (v := nI 2) X dX3_modifierOf_17 (by decide) ?_
    refine z_callS1 (k := 0) (n := 0) (st := []) X (c_J9_floorDiv_7cf53 l D t ((S 14 k) - (nI 10))) k_J9_floorDiv_7cf53 q_ml_X3_233 [] ⟨by decide, rfl⟩ (by decide) rfl rfl rfl (Nat.le_of_ble_eq_true rfl) ⟨Nat.zero_le _, Nat.zero_le _⟩ dX3_modifierOf_18 (fun r18 h18 => ?_)
    subst h18
    refine z_goto (tgt := 25) X dX3_modifierOf_21 (by decide) ?_
    refine z_iret X Z rfl dX3_modifierOf_25 ?_
    exact ⟨(), (md_k (by omega)).symm, fun _ _ => trivial⟩
set_option maxHeartbeats 4000000 in
set_option maxRecDepth 100000 in
theorem c_X3_hasScoreFor (l : Launch) (D : va_G) (t : ClassId × ClassId × ClassId) (a : Nat → Nat) (S : zS) (j : Nat) (hj : j < 8) (hI : zI S) : zM1 l yX3_hasScoreFor cX3_hasScoreFor 3 (some .boolean) 0 D t [.ref (a 0), .int (nI j)] (wR t a S) (fun r => bz r (pS S j)) := by
  refine z_m1 (by decide +kernel) (Nat.le_of_ble_eq_true rfl) (by simp [Value.category]) ?_
  intro E X Z
  refine z_lv (lv' := [some (.ref (a 0)), some (.int (nI j)), none]) rfl ?_
  refine z_aload_n X dX3_hasScoreFor_0 rfl rfl ?_
  refine z_get X (C := RX3) (T := TX3) (N := 8) (ci := 3) (v := .ref (a 1)) inZ3 0 0 rfl rfl (by decide) q_fl_X3_12 rfl rfl dX3_hasScoreFor_1 ?_
  refine z_get X (C := RX1) (T := TX1) (N := 10) (ci := 1) (v := .ref (a 8)) inZ1 1 0 rfl rfl (by decide) q_fl_X3_78 rfl rfl dX3_hasScoreFor_4 ?_
  refine z_iload_n X dX3_hasScoreFor_7 rfl rfl ?_
  refine n_iald (f := S 0) X 8 rfl (by omega) (by decide) dX3_hasScoreFor_8 ?_
  rcases hI.1 j hj with h0 | ⟨k, hk, h0⟩
  ·
    rw [h0]
    refine z_istore_n X dX3_hasScoreFor_9 rfl (Nat.le_of_ble_eq_true rfl) ?_
    refine z_lv (lv' := [some (.ref (a 0)), some (.int (nI j)), some (.int (-1))]) rfl ?_
    refine z_iload_n X dX3_hasScoreFor_10 rfl rfl ?_
    refine z_if_lt (tgt := 37) X dX3_hasScoreFor_11 (by decide) (fun _ => ?_) (fun c11 => absurd c11 (by decide))
    refine z_iconst (v := nI 1) X dX3_hasScoreFor_37 (by decide) ?_
    refine z_goto (tgt := 42) X dX3_hasScoreFor_38 (by decide) ?_
    refine z_iret X Z (by decide +kernel) dX3_hasScoreFor_42 ?_
    exact ⟨(), bz_t (Or.inl h0), fun _ _ => trivial⟩
  ·
    rw [h0]
    refine z_istore_n X dX3_hasScoreFor_9 rfl (Nat.le_of_ble_eq_true rfl) ?_
    refine z_lv (lv' := [some (.ref (a 0)), some (.int (nI j)), some (.int (nI k))]) rfl ?_
    refine z_iload_n X dX3_hasScoreFor_10 rfl rfl ?_
    refine n_if_lt (tgt := 37) X dX3_hasScoreFor_11 (by decide) (by omega) ?_
    refine z_iload_n X dX3_hasScoreFor_14 rfl rfl ?_
    refine z_iconst (v := nI 4) X dX3_hasScoreFor_15 (by decide) ?_
    refine n_icmp_ge (tgt := 37) X dX3_hasScoreFor_16 (by decide) (by omega) (by omega) (fun c16 => absurd c16 (by omega)) (fun _ => ?_)
    refine z_aload_n X dX3_hasScoreFor_19 rfl rfl ?_
    refine z_get X (C := RX3) (T := TX3) (N := 8) (ci := 3) (v := .ref (a 3)) inZ3 0 2 rfl rfl (by decide) q_fl_X3_23 rfl rfl dX3_hasScoreFor_20 ?_
    refine z_iload_n X dX3_hasScoreFor_23 rfl rfl ?_
    refine n_iald (f := S 14) X 3 rfl (by omega) (by decide) dX3_hasScoreFor_24 ?_
    refine z_aload_n X dX3_hasScoreFor_25 rfl rfl ?_
    refine z_get X (C := RX3) (T := TX3) (N := 8) (ci := 3) (v := .ref (a 1)) inZ3 0 0 rfl rfl (by decide) q_fl_X3_12 rfl rfl dX3_hasScoreFor_26 ?_
    refine z_get X (C := RX1) (T := TX1) (N := 10) (ci := 1) (v := .ref (a 9)) inZ1 1 1 rfl rfl (by decide) q_fl_X3_81 rfl rfl dX3_hasScoreFor_29 ?_
    refine z_iload_n X dX3_hasScoreFor_32 rfl rfl ?_
    refine n_iald (f := S 1) X 9 rfl (by omega) (by decide) dX3_hasScoreFor_33 ?_
    refine z_icmp_lt (tgt := 41) X dX3_hasScoreFor_34 (by decide) (fun c34 => ?_) (fun c34 => ?_)
    ·
      refine z_iconst (v := nI 0) X dX3_hasScoreFor_41 (by decide) ?_
      refine z_iret X Z (by decide +kernel) dX3_hasScoreFor_42 ?_
      exact ⟨(), bz_f (fun h => i_nle c34 ((pS_k h0 (by omega)).mp h)), fun _ _ => trivial⟩
    ·
      refine z_iconst (v := nI 1) X dX3_hasScoreFor_37 (by decide) ?_
      refine z_goto (tgt := 42) X dX3_hasScoreFor_38 (by decide) ?_
      refine z_iret X Z (by decide +kernel) dX3_hasScoreFor_42 ?_
      exact ⟨(), bz_t ((pS_k h0 (by omega)).mpr (i_le c34)), fun _ _ => trivial⟩
set_option maxHeartbeats 4000000 in
set_option maxRecDepth 100000 in
theorem c_X3_hasLevelForC (l : Launch) (D : va_G) (t : ClassId × ClassId × ClassId) (a : Nat → Nat) (S : zS) (j : Nat) (hj : j < 8) (hI : zI S) : zM1 l yX3_hasLevelFor cX3_hasLevelFor 4 (some .boolean) 0 D t [.ref (a 0), .ref (a 4), .int (nI j)] (wR t a S) (fun r => bz r (pL S (S 15) j)) := by
  refine z_m1 (by decide +kernel) (Nat.le_of_ble_eq_true rfl) (by simp [Value.category]) ?_
  intro E X Z
  refine z_lv (lv' := [some (.ref (a 0)), some (.ref (a 4)), some (.int (nI j)), none]) rfl ?_
  refine z_aload_n X dX3_hasLevelFor_0 rfl rfl ?_
  refine z_get X (C := RX3) (T := TX3) (N := 8) (ci := 3) (v := .ref (a 1)) inZ3 0 0 rfl rfl (by decide) q_fl_X3_12 rfl rfl dX3_hasLevelFor_1 ?_
  refine z_get X (C := RX1) (T := TX1) (N := 10) (ci := 1) (v := .ref (a 10)) inZ1 1 2 rfl rfl (by decide) q_fl_X3_84 rfl rfl dX3_hasLevelFor_4 ?_
  refine z_iload_n X dX3_hasLevelFor_7 rfl rfl ?_
  refine n_iald (f := S 2) X 10 rfl (by omega) (by decide) dX3_hasLevelFor_8 ?_
  rcases hI.2.1 j hj with h0 | ⟨k, hk, h0⟩
  ·
    rw [h0]
    refine z_istore_n X dX3_hasLevelFor_9 rfl (Nat.le_of_ble_eq_true rfl) ?_
    refine z_lv (lv' := [some (.ref (a 0)), some (.ref (a 4)), some (.int (nI j)), some (.int (-1))]) rfl ?_
    refine z_iload_n X dX3_hasLevelFor_10 rfl rfl ?_
    refine z_if_lt (tgt := 37) X dX3_hasLevelFor_11 (by decide) (fun _ => ?_) (fun c11 => absurd c11 (by decide))
    refine z_iconst (v := nI 1) X dX3_hasLevelFor_37 (by decide) ?_
    refine z_goto (tgt := 42) X dX3_hasLevelFor_38 (by decide) ?_
    refine z_iret X Z (by decide +kernel) dX3_hasLevelFor_42 ?_
    exact ⟨(), bz_t (Or.inl h0), fun _ _ => trivial⟩
  ·
    rw [h0]
    refine z_istore_n X dX3_hasLevelFor_9 rfl (Nat.le_of_ble_eq_true rfl) ?_
    refine z_lv (lv' := [some (.ref (a 0)), some (.ref (a 4)), some (.int (nI j)), some (.int (nI k))]) rfl ?_
    refine z_iload_n X dX3_hasLevelFor_10 rfl rfl ?_
    refine n_if_lt (tgt := 37) X dX3_hasLevelFor_11 (by decide) (by omega) ?_
    refine z_iload_n X dX3_hasLevelFor_14 rfl rfl ?_
    refine z_iconst (v := nI 3) X dX3_hasLevelFor_15 (by decide) ?_
    refine n_icmp_ge (tgt := 37) X dX3_hasLevelFor_16 (by decide) (by omega) (by omega) (fun c16 => absurd c16 (by omega)) (fun _ => ?_)
    refine z_aload_n X dX3_hasLevelFor_19 rfl rfl ?_
    refine z_get X (C := RX0) (T := TX0) (N := 2) (ci := 0) (v := .ref (a 22)) inZ0 4 0 rfl rfl (by decide) q_fl_X3_236 rfl rfl dX3_hasLevelFor_20 ?_
    refine z_iload_n X dX3_hasLevelFor_23 rfl rfl ?_
    refine n_iald (f := S 15) X 22 rfl (by omega) (by decide) dX3_hasLevelFor_24 ?_
    refine z_aload_n X dX3_hasLevelFor_25 rfl rfl ?_
    refine z_get X (C := RX3) (T := TX3) (N := 8) (ci := 3) (v := .ref (a 1)) inZ3 0 0 rfl rfl (by decide) q_fl_X3_12 rfl rfl dX3_hasLevelFor_26 ?_
    refine z_get X (C := RX1) (T := TX1) (N := 10) (ci := 1) (v := .ref (a 11)) inZ1 1 3 rfl rfl (by decide) q_fl_X3_87 rfl rfl dX3_hasLevelFor_29 ?_
    refine z_iload_n X dX3_hasLevelFor_32 rfl rfl ?_
    refine n_iald (f := S 3) X 11 rfl (by omega) (by decide) dX3_hasLevelFor_33 ?_
    refine z_icmp_lt (tgt := 41) X dX3_hasLevelFor_34 (by decide) (fun c34 => ?_) (fun c34 => ?_)
    ·
      refine z_iconst (v := nI 0) X dX3_hasLevelFor_41 (by decide) ?_
      refine z_iret X Z (by decide +kernel) dX3_hasLevelFor_42 ?_
      exact ⟨(), bz_f (fun h => i_nle c34 ((pL_k h0 (by omega)).mp h)), fun _ _ => trivial⟩
    ·
      refine z_iconst (v := nI 1) X dX3_hasLevelFor_37 (by decide) ?_
      refine z_goto (tgt := 42) X dX3_hasLevelFor_38 (by decide) ?_
      refine z_iret X Z (by decide +kernel) dX3_hasLevelFor_42 ?_
      exact ⟨(), bz_t ((pL_k h0 (by omega)).mpr (i_le c34)), fun _ _ => trivial⟩
set_option maxHeartbeats 4000000 in
set_option maxRecDepth 100000 in
theorem c_X3_isBarredC (l : Launch) (D : va_G) (t : ClassId × ClassId × ClassId) (a : Nat → Nat) (S : zS) (j : Nat) (hj : j < 8) (hI : zI S) : zM1 l yX3_isBarred cX3_isBarred 4 (some .boolean) 0 D t [.ref (a 0), .ref (a 4), .int (nI j)] (wR t a S) (fun r => bz r (¬ pB S (S 15) j)) := by
  refine z_m1 (by decide +kernel) (Nat.le_of_ble_eq_true rfl) (by simp [Value.category]) ?_
  intro E X Z
  refine z_lv (lv' := [some (.ref (a 0)), some (.ref (a 4)), some (.int (nI j)), none]) rfl ?_
  refine z_aload_n X dX3_isBarred_0 rfl rfl ?_
  refine z_get X (C := RX3) (T := TX3) (N := 8) (ci := 3) (v := .ref (a 1)) inZ3 0 0 rfl rfl (by decide) q_fl_X3_12 rfl rfl dX3_isBarred_1 ?_
  refine z_get X (C := RX1) (T := TX1) (N := 10) (ci := 1) (v := .ref (a 13)) inZ1 1 5 rfl rfl (by decide) q_fl_X3_95 rfl rfl dX3_isBarred_4 ?_
  refine z_iload_n X dX3_isBarred_7 rfl rfl ?_
  refine n_iald (f := S 5) X 13 rfl (by omega) (by decide) dX3_isBarred_8 ?_
  rcases hI.2.2.2.1 j hj with h0 | ⟨k, hk, h0⟩
  ·
    rw [h0]
    refine z_istore_n X dX3_isBarred_9 rfl (Nat.le_of_ble_eq_true rfl) ?_
    refine z_lv (lv' := [some (.ref (a 0)), some (.ref (a 4)), some (.int (nI j)), some (.int (-1))]) rfl ?_
    refine z_iload_n X dX3_isBarred_10 rfl rfl ?_
    refine z_if_lt (tgt := 41) X dX3_isBarred_11 (by decide) (fun _ => ?_) (fun c11 => absurd c11 (by decide))
    refine z_iconst (v := nI 0) X dX3_isBarred_41 (by decide) ?_
    refine z_iret X Z (by decide +kernel) dX3_isBarred_42 ?_
    exact ⟨(), bz_f (fun h => h (Or.inl h0)), fun _ _ => trivial⟩
  ·
    rw [h0]
    refine z_istore_n X dX3_isBarred_9 rfl (Nat.le_of_ble_eq_true rfl) ?_
    refine z_lv (lv' := [some (.ref (a 0)), some (.ref (a 4)), some (.int (nI j)), some (.int (nI k))]) rfl ?_
    refine z_iload_n X dX3_isBarred_10 rfl rfl ?_
    refine n_if_lt (tgt := 41) X dX3_isBarred_11 (by decide) (by omega) ?_
    refine z_iload_n X dX3_isBarred_14 rfl rfl ?_
    refine z_iconst (v := nI 3) X dX3_isBarred_15 (by decide) ?_
    refine n_icmp_ge (tgt := 41) X dX3_isBarred_16 (by decide) (by omega) (by omega) (fun c16 => absurd c16 (by omega)) (fun _ => ?_)
    refine z_aload_n X dX3_isBarred_19 rfl rfl ?_
    refine z_get X (C := RX0) (T := TX0) (N := 2) (ci := 0) (v := .ref (a 22)) inZ0 4 0 rfl rfl (by decide) q_fl_X3_236 rfl rfl dX3_isBarred_20 ?_
    refine z_iload_n X dX3_isBarred_23 rfl rfl ?_
    refine n_iald (f := S 15) X 22 rfl (by omega) (by decide) dX3_isBarred_24 ?_
    refine z_aload_n X dX3_isBarred_25 rfl rfl ?_
    refine z_get X (C := RX3) (T := TX3) (N := 8) (ci := 3) (v := .ref (a 1)) inZ3 0 0 rfl rfl (by decide) q_fl_X3_12 rfl rfl dX3_isBarred_26 ?_
    refine z_get X (C := RX1) (T := TX1) (N := 10) (ci := 1) (v := .ref (a 14)) inZ1 1 6 rfl rfl (by decide) q_fl_X3_98 rfl rfl dX3_isBarred_29 ?_
    refine z_iload_n X dX3_isBarred_32 rfl rfl ?_
    refine n_iald (f := S 6) X 14 rfl (by omega) (by decide) dX3_isBarred_33 ?_
    refine z_icmp_le (tgt := 41) X dX3_isBarred_34 (by decide) (fun c34 => ?_) (fun c34 => ?_)
    ·
      refine z_iconst (v := nI 0) X dX3_isBarred_41 (by decide) ?_
      refine z_iret X Z (by decide +kernel) dX3_isBarred_42 ?_
      exact ⟨(), bz_f (fun h => h ((pB_k h0 (by omega)).mpr c34)), fun _ _ => trivial⟩
    ·
      refine z_iconst (v := nI 1) X dX3_isBarred_37 (by decide) ?_
      refine z_goto (tgt := 42) X dX3_isBarred_38 (by decide) ?_
      refine z_iret X Z (by decide +kernel) dX3_isBarred_42 ?_
      exact ⟨(), bz_t (fun h => i_nle (Int32.not_le.mp c34) ((pB_k h0 (by omega)).mp h)), fun _ _ => trivial⟩
set_option maxHeartbeats 4000000 in
set_option maxRecDepth 100000 in
theorem c_X3_hasLevelForT (l : Launch) (D : va_G) (t : ClassId × ClassId × ClassId) (a : Nat → Nat) (S : zS) (j : Nat) (hj : j < 8) (hI : zI S) : zM1 l yX3_hasLevelFor cX3_hasLevelFor 4 (some .boolean) 0 D t [.ref (a 0), .ref (a 6), .int (nI j)] (wR t a S) (fun r => bz r (pL S (S 19) j)) := by
  refine z_m1 (by decide +kernel) (Nat.le_of_ble_eq_true rfl) (by simp [Value.category]) ?_
  intro E X Z
  refine z_lv (lv' := [some (.ref (a 0)), some (.ref (a 6)), some (.int (nI j)), none]) rfl ?_
  refine z_aload_n X dX3_hasLevelFor_0 rfl rfl ?_
  refine z_get X (C := RX3) (T := TX3) (N := 8) (ci := 3) (v := .ref (a 1)) inZ3 0 0 rfl rfl (by decide) q_fl_X3_12 rfl rfl dX3_hasLevelFor_1 ?_
  refine z_get X (C := RX1) (T := TX1) (N := 10) (ci := 1) (v := .ref (a 10)) inZ1 1 2 rfl rfl (by decide) q_fl_X3_84 rfl rfl dX3_hasLevelFor_4 ?_
  refine z_iload_n X dX3_hasLevelFor_7 rfl rfl ?_
  refine n_iald (f := S 2) X 10 rfl (by omega) (by decide) dX3_hasLevelFor_8 ?_
  rcases hI.2.1 j hj with h0 | ⟨k, hk, h0⟩
  ·
    rw [h0]
    refine z_istore_n X dX3_hasLevelFor_9 rfl (Nat.le_of_ble_eq_true rfl) ?_
    refine z_lv (lv' := [some (.ref (a 0)), some (.ref (a 6)), some (.int (nI j)), some (.int (-1))]) rfl ?_
    refine z_iload_n X dX3_hasLevelFor_10 rfl rfl ?_
    refine z_if_lt (tgt := 37) X dX3_hasLevelFor_11 (by decide) (fun _ => ?_) (fun c11 => absurd c11 (by decide))
    refine z_iconst (v := nI 1) X dX3_hasLevelFor_37 (by decide) ?_
    refine z_goto (tgt := 42) X dX3_hasLevelFor_38 (by decide) ?_
    refine z_iret X Z (by decide +kernel) dX3_hasLevelFor_42 ?_
    exact ⟨(), bz_t (Or.inl h0), fun _ _ => trivial⟩
  ·
    rw [h0]
    refine z_istore_n X dX3_hasLevelFor_9 rfl (Nat.le_of_ble_eq_true rfl) ?_
    refine z_lv (lv' := [some (.ref (a 0)), some (.ref (a 6)), some (.int (nI j)), some (.int (nI k))]) rfl ?_
    refine z_iload_n X dX3_hasLevelFor_10 rfl rfl ?_
    refine n_if_lt (tgt := 37) X dX3_hasLevelFor_11 (by decide) (by omega) ?_
    refine z_iload_n X dX3_hasLevelFor_14 rfl rfl ?_
    refine z_iconst (v := nI 3) X dX3_hasLevelFor_15 (by decide) ?_
    refine n_icmp_ge (tgt := 37) X dX3_hasLevelFor_16 (by decide) (by omega) (by omega) (fun c16 => absurd c16 (by omega)) (fun _ => ?_)
    refine z_aload_n X dX3_hasLevelFor_19 rfl rfl ?_
    refine z_get X (C := RX0) (T := TX0) (N := 2) (ci := 0) (v := .ref (a 23)) inZ0 6 0 rfl rfl (by decide) q_fl_X3_236 rfl rfl dX3_hasLevelFor_20 ?_
    refine z_iload_n X dX3_hasLevelFor_23 rfl rfl ?_
    refine n_iald (f := S 19) X 23 rfl (by omega) (by decide) dX3_hasLevelFor_24 ?_
    refine z_aload_n X dX3_hasLevelFor_25 rfl rfl ?_
    refine z_get X (C := RX3) (T := TX3) (N := 8) (ci := 3) (v := .ref (a 1)) inZ3 0 0 rfl rfl (by decide) q_fl_X3_12 rfl rfl dX3_hasLevelFor_26 ?_
    refine z_get X (C := RX1) (T := TX1) (N := 10) (ci := 1) (v := .ref (a 11)) inZ1 1 3 rfl rfl (by decide) q_fl_X3_87 rfl rfl dX3_hasLevelFor_29 ?_
    refine z_iload_n X dX3_hasLevelFor_32 rfl rfl ?_
    refine n_iald (f := S 3) X 11 rfl (by omega) (by decide) dX3_hasLevelFor_33 ?_
    refine z_icmp_lt (tgt := 41) X dX3_hasLevelFor_34 (by decide) (fun c34 => ?_) (fun c34 => ?_)
    ·
      refine z_iconst (v := nI 0) X dX3_hasLevelFor_41 (by decide) ?_
      refine z_iret X Z (by decide +kernel) dX3_hasLevelFor_42 ?_
      exact ⟨(), bz_f (fun h => i_nle c34 ((pL_k h0 (by omega)).mp h)), fun _ _ => trivial⟩
    ·
      refine z_iconst (v := nI 1) X dX3_hasLevelFor_37 (by decide) ?_
      refine z_goto (tgt := 42) X dX3_hasLevelFor_38 (by decide) ?_
      refine z_iret X Z (by decide +kernel) dX3_hasLevelFor_42 ?_
      exact ⟨(), bz_t ((pL_k h0 (by omega)).mpr (i_le c34)), fun _ _ => trivial⟩
set_option maxHeartbeats 4000000 in
set_option maxRecDepth 100000 in
theorem c_X3_isBarredT (l : Launch) (D : va_G) (t : ClassId × ClassId × ClassId) (a : Nat → Nat) (S : zS) (j : Nat) (hj : j < 8) (hI : zI S) : zM1 l yX3_isBarred cX3_isBarred 4 (some .boolean) 0 D t [.ref (a 0), .ref (a 6), .int (nI j)] (wR t a S) (fun r => bz r (¬ pB S (S 19) j)) := by
  refine z_m1 (by decide +kernel) (Nat.le_of_ble_eq_true rfl) (by simp [Value.category]) ?_
  intro E X Z
  refine z_lv (lv' := [some (.ref (a 0)), some (.ref (a 6)), some (.int (nI j)), none]) rfl ?_
  refine z_aload_n X dX3_isBarred_0 rfl rfl ?_
  refine z_get X (C := RX3) (T := TX3) (N := 8) (ci := 3) (v := .ref (a 1)) inZ3 0 0 rfl rfl (by decide) q_fl_X3_12 rfl rfl dX3_isBarred_1 ?_
  refine z_get X (C := RX1) (T := TX1) (N := 10) (ci := 1) (v := .ref (a 13)) inZ1 1 5 rfl rfl (by decide) q_fl_X3_95 rfl rfl dX3_isBarred_4 ?_
  refine z_iload_n X dX3_isBarred_7 rfl rfl ?_
  refine n_iald (f := S 5) X 13 rfl (by omega) (by decide) dX3_isBarred_8 ?_
  rcases hI.2.2.2.1 j hj with h0 | ⟨k, hk, h0⟩
  ·
    rw [h0]
    refine z_istore_n X dX3_isBarred_9 rfl (Nat.le_of_ble_eq_true rfl) ?_
    refine z_lv (lv' := [some (.ref (a 0)), some (.ref (a 6)), some (.int (nI j)), some (.int (-1))]) rfl ?_
    refine z_iload_n X dX3_isBarred_10 rfl rfl ?_
    refine z_if_lt (tgt := 41) X dX3_isBarred_11 (by decide) (fun _ => ?_) (fun c11 => absurd c11 (by decide))
    refine z_iconst (v := nI 0) X dX3_isBarred_41 (by decide) ?_
    refine z_iret X Z (by decide +kernel) dX3_isBarred_42 ?_
    exact ⟨(), bz_f (fun h => h (Or.inl h0)), fun _ _ => trivial⟩
  ·
    rw [h0]
    refine z_istore_n X dX3_isBarred_9 rfl (Nat.le_of_ble_eq_true rfl) ?_
    refine z_lv (lv' := [some (.ref (a 0)), some (.ref (a 6)), some (.int (nI j)), some (.int (nI k))]) rfl ?_
    refine z_iload_n X dX3_isBarred_10 rfl rfl ?_
    refine n_if_lt (tgt := 41) X dX3_isBarred_11 (by decide) (by omega) ?_
    refine z_iload_n X dX3_isBarred_14 rfl rfl ?_
    refine z_iconst (v := nI 3) X dX3_isBarred_15 (by decide) ?_
    refine n_icmp_ge (tgt := 41) X dX3_isBarred_16 (by decide) (by omega) (by omega) (fun c16 => absurd c16 (by omega)) (fun _ => ?_)
    refine z_aload_n X dX3_isBarred_19 rfl rfl ?_
    refine z_get X (C := RX0) (T := TX0) (N := 2) (ci := 0) (v := .ref (a 23)) inZ0 6 0 rfl rfl (by decide) q_fl_X3_236 rfl rfl dX3_isBarred_20 ?_
    refine z_iload_n X dX3_isBarred_23 rfl rfl ?_
    refine n_iald (f := S 19) X 23 rfl (by omega) (by decide) dX3_isBarred_24 ?_
    refine z_aload_n X dX3_isBarred_25 rfl rfl ?_
    refine z_get X (C := RX3) (T := TX3) (N := 8) (ci := 3) (v := .ref (a 1)) inZ3 0 0 rfl rfl (by decide) q_fl_X3_12 rfl rfl dX3_isBarred_26 ?_
    refine z_get X (C := RX1) (T := TX1) (N := 10) (ci := 1) (v := .ref (a 14)) inZ1 1 6 rfl rfl (by decide) q_fl_X3_98 rfl rfl dX3_isBarred_29 ?_
    refine z_iload_n X dX3_isBarred_32 rfl rfl ?_
    refine n_iald (f := S 6) X 14 rfl (by omega) (by decide) dX3_isBarred_33 ?_
    refine z_icmp_le (tgt := 41) X dX3_isBarred_34 (by decide) (fun c34 => ?_) (fun c34 => ?_)
    ·
      refine z_iconst (v := nI 0) X dX3_isBarred_41 (by decide) ?_
      refine z_iret X Z (by decide +kernel) dX3_isBarred_42 ?_
      exact ⟨(), bz_f (fun h => h ((pB_k h0 (by omega)).mpr c34)), fun _ _ => trivial⟩
    ·
      refine z_iconst (v := nI 1) X dX3_isBarred_37 (by decide) ?_
      refine z_goto (tgt := 42) X dX3_isBarred_38 (by decide) ?_
      refine z_iret X Z (by decide +kernel) dX3_isBarred_42 ?_
      exact ⟨(), bz_t (fun h => i_nle (Int32.not_le.mp c34) ((pB_k h0 (by omega)).mp h)), fun _ _ => trivial⟩
set_option maxHeartbeats 4000000 in
set_option maxRecDepth 100000 in
theorem c_X3_isOtherIn (l : Launch) (D : va_G) (t : ClassId × ClassId × ClassId) (a : Nat → Nat) (S : zS) (s j : Nat) (hs : s < 2 ^ 31) (hj : j < 8) (hI : zI S) : zM1 l yX3_isOtherIn cX3_isOtherIn 4 (some .boolean) 0 D t [.ref (a 0), .int (nI s), .int (nI j)] (wR t a S) (fun r => bz r (pO S s j)) := by
  refine z_m1 (by decide +kernel) (Nat.le_of_ble_eq_true rfl) (by simp [Value.category]) ?_
  intro E X Z
  refine z_lv (lv' := [some (.ref (a 0)), some (.int (nI s)), some (.int (nI j)), none]) rfl ?_
  refine z_aload_n X dX3_isOtherIn_0 rfl rfl ?_
  refine z_get X (C := RX3) (T := TX3) (N := 8) (ci := 3) (v := .ref (a 1)) inZ3 0 0 rfl rfl (by decide) q_fl_X3_12 rfl rfl dX3_isOtherIn_1 ?_
  refine z_get X (C := RX1) (T := TX1) (N := 10) (ci := 1) (v := .ref (a 12)) inZ1 1 4 rfl rfl (by decide) q_fl_X3_90 rfl rfl dX3_isOtherIn_4 ?_
  refine z_iload_n X dX3_isOtherIn_7 rfl rfl ?_
  refine n_iald (f := S 4) X 12 rfl (by omega) (by decide) dX3_isOtherIn_8 ?_
  rcases hI.2.2.1 j hj with h0 | ⟨k, hk, h0⟩
  ·
    rw [h0]
    refine z_istore_n X dX3_isOtherIn_9 rfl (Nat.le_of_ble_eq_true rfl) ?_
    refine z_lv (lv' := [some (.ref (a 0)), some (.int (nI s)), some (.int (nI j)), some (.int (-1))]) rfl ?_
    refine z_iload_n X dX3_isOtherIn_10 rfl rfl ?_
    refine z_iconst (v := (-1)) X dX3_isOtherIn_11 (by decide) ?_
    refine z_icmp_eq (tgt := 23) X dX3_isOtherIn_12 (by decide) (fun _ => ?_) (fun c12 => absurd c12 (by decide))
    refine z_iconst (v := nI 1) X dX3_isOtherIn_23 (by decide) ?_
    refine z_goto (tgt := 28) X dX3_isOtherIn_24 (by decide) ?_
    refine z_iret X Z (by decide +kernel) dX3_isOtherIn_28 ?_
    exact ⟨(), bz_t (Or.inl h0), fun _ _ => trivial⟩
  ·
    rw [h0]
    refine z_istore_n X dX3_isOtherIn_9 rfl (Nat.le_of_ble_eq_true rfl) ?_
    refine z_lv (lv' := [some (.ref (a 0)), some (.int (nI s)), some (.int (nI j)), some (.int (nI k))]) rfl ?_
    refine z_iload_n X dX3_isOtherIn_10 rfl rfl ?_
    refine z_iconst (v := (-1)) X dX3_isOtherIn_11 (by decide) ?_
    refine z_icmp_eq (tgt := 23) X dX3_isOtherIn_12 (by decide) (fun c12 => absurd c12 (zn_m1 k (by omega))) (fun c12 => ?_)
    refine z_iload_n X dX3_isOtherIn_15 rfl rfl ?_
    refine z_iload_n X dX3_isOtherIn_16 rfl rfl ?_
    refine n_ishr X dX3_isOtherIn_17 (by omega) (by omega) ?_
    refine z_iconst (v := nI 1) X dX3_isOtherIn_18 (by decide) ?_
    refine n_iand X dX3_isOtherIn_19 ?_
    rw [zt_bit1]
    refine n_if_eq (tgt := 27) X dX3_isOtherIn_20 (by decide) (by omega) (fun c20 => ?_) (fun c20 => ?_)
    ·
      refine z_iconst (v := nI 0) X dX3_isOtherIn_27 (by decide) ?_
      refine z_iret X Z (by decide +kernel) dX3_isOtherIn_28 ?_
      exact ⟨(), bz_f (fun h => by rw [(pO_k h0 (by omega)), zt_b2 c20] at h; cases h), fun _ _ => trivial⟩
    ·
      refine z_iconst (v := nI 1) X dX3_isOtherIn_23 (by decide) ?_
      refine z_goto (tgt := 28) X dX3_isOtherIn_24 (by decide) ?_
      refine z_iret X Z (by decide +kernel) dX3_isOtherIn_28 ?_
      exact ⟨(), bz_t ((pO_k h0 (by omega)).mpr (zt_b1 c20)), fun _ _ => trivial⟩
end
section
set_option maxHeartbeats 4000000 in
set_option maxRecDepth 100000 in
theorem c_X3_mayTakeC (l : Launch) (D : va_G) (t : ClassId × ClassId × ClassId) (a : Nat → Nat) (S : zS) (x y z s j : Nat) (hl : S 15 = l3 x y z) (hh : S 18 0 = nI s) (hs : s < 256) (hx : x + y + z ≤ 8) (hj : j < 8) (hI : zI S) : zM1 l yX3_mayTake cX3_mayTake 3 (some .boolean) 2 D t [.ref (a 0), .ref (a 4), .int (nI j)] (wR t a S) (fun r => bz r (mt S x y z s j)) := by
  refine z_m1 (by decide +kernel) (Nat.le_of_ble_eq_true rfl) (by simp [Value.category]) ?_
  intro E X Z
  refine z_lv (lv' := [some (.ref (a 0)), some (.ref (a 4)), some (.int (nI j))]) rfl ?_
  refine z_aload_n X dX3_mayTake_0 rfl rfl ?_
  refine z_iload_n X dX3_mayTake_1 rfl rfl ?_
  refine z_callV1 (k := 0) (n := 0) (st := []) X (c_X0_has l D t (a 4) (a 22) s j (S 18 0) (S 15) hh (by omega) (by omega)) k_X0_has q_ml_X3_165 [4, 22] ⟨by decide, rfl⟩ 4 0 rfl rfl (by decide) rfl rfl rfl (Nat.le_of_ble_eq_true rfl) ⟨Nat.zero_le _, Nat.zero_le _⟩ dX3_mayTake_2 (fun r2 h2 => ?_)
  rcases h2 with ⟨rfl, h2⟩ | ⟨rfl, h2⟩
  ·
    refine n_if_ne (tgt := 67) X dX3_mayTake_5 (by decide) (by omega) (fun _ => ?_) (fun c5 => absurd c5 (by decide))
    refine z_iconst (v := nI 0) X dX3_mayTake_67 (by decide) ?_
    refine z_iret X Z (by decide +kernel) dX3_mayTake_68 ?_
    first
      | exact ⟨(), bz_f (fun h => h27 h.2.2.1), fun _ _ => trivial⟩
      | exact ⟨(), bz_f (fun h => h36 (by rw [hl]; exact h.2.2.2.1)), fun _ _ => trivial⟩
      | exact ⟨(), bz_f (fun h => h48 h.2.2.2.2.1), fun _ _ => trivial⟩
      | exact ⟨(), bz_f (fun h => h57 (by rw [hl]; exact h.2.2.2.2.2)), fun _ _ => trivial⟩
      | exact ⟨(), bz_f (fun h => absurd h.2.1 (by omega)), fun _ _ => trivial⟩
      | exact ⟨(), bz_f (fun h => by rw [h.1] at h2; cases h2), fun _ _ => trivial⟩
  ·
    refine n_if_ne (tgt := 67) X dX3_mayTake_5 (by decide) (by omega) (fun c5 => absurd c5 (by decide)) (fun _ => ?_)
    refine z_aload_n X dX3_mayTake_8 rfl rfl ?_
    refine z_get X (C := RX0) (T := TX0) (N := 2) (ci := 0) (v := .int (S 18 0)) inZ0 4 1 rfl rfl (by decide) q_fl_X3_155 rfl rfl dX3_mayTake_9 ?_
    refine z_top (y := nI s) (hh) ?_
    have hp8 := p8_le s hs
    refine z_callS1 (k := 0) (n := 0) (st := []) X (c_J6_bitCount_0f7a4 l D t s (by omega)) k_J6_bitCount_0f7a4 q_ml_X3_177 [] ⟨by decide, rfl⟩ (by decide) rfl rfl rfl (Nat.le_of_ble_eq_true rfl) ⟨Nat.zero_le _, Nat.zero_le _⟩ dX3_mayTake_12 (fun r12 h12 => ?_)
    subst h12
    refine z_aload_n X dX3_mayTake_15 rfl rfl ?_
    refine z_callV1 (k := 0) (n := 0) (st := [.int (nI (p8 s))]) X (c_X0_levelInAll l D t (a 4) (a 22) x y z (S 18 0) (S 15) hl) k_X0_levelInAll q_ml_X3_191 [4, 22] ⟨by decide, rfl⟩ 4 0 rfl rfl (by decide) rfl rfl rfl (Nat.le_of_ble_eq_true rfl) ⟨Nat.zero_le _, Nat.zero_le _⟩ dX3_mayTake_16 (fun r16 h16 => ?_)
    subst h16
    refine z_callS1 (k := 0) (n := 0) (st := [.int (nI (p8 s))]) X (c_X3_placesAt l D t (x + y + z) (by omega)) k_X3_placesAt q_ml_X3_194 [] ⟨by decide, rfl⟩ (by decide) rfl rfl rfl (Nat.le_of_ble_eq_true rfl) ⟨Nat.zero_le _, Nat.zero_le _⟩ dX3_mayTake_19 (fun r19 h19 => ?_)
    subst h19
    refine n_icmp_ge (tgt := 67) X dX3_mayTake_22 (by decide) (by omega) (by omega) (fun c22 => ?_) (fun c22 => ?_)
    ·
      refine z_iconst (v := nI 0) X dX3_mayTake_67 (by decide) ?_
      refine z_iret X Z (by decide +kernel) dX3_mayTake_68 ?_
      first
        | exact ⟨(), bz_f (fun h => h27 h.2.2.1), fun _ _ => trivial⟩
        | exact ⟨(), bz_f (fun h => h36 (by rw [hl]; exact h.2.2.2.1)), fun _ _ => trivial⟩
        | exact ⟨(), bz_f (fun h => h48 h.2.2.2.2.1), fun _ _ => trivial⟩
        | exact ⟨(), bz_f (fun h => h57 (by rw [hl]; exact h.2.2.2.2.2)), fun _ _ => trivial⟩
        | exact ⟨(), bz_f (fun h => absurd h.2.1 (by omega)), fun _ _ => trivial⟩
        | exact ⟨(), bz_f (fun h => by rw [h.1] at h2; cases h2), fun _ _ => trivial⟩
    ·
      refine z_aload_n X dX3_mayTake_25 rfl rfl ?_
      refine z_iload_n X dX3_mayTake_26 rfl rfl ?_
      refine z_callV1 (k := 0) (n := 0) (st := []) X (c_X3_hasScoreFor l D t a S j (by omega) hI) k_X3_hasScoreFor q_ml_X3_239 is24 ⟨by decide, rfl⟩ 0 3 rfl rfl (by decide) rfl rfl rfl (Nat.le_of_ble_eq_true rfl) ⟨Nat.zero_le _, Nat.zero_le _⟩ dX3_mayTake_27 (fun r27 h27 => ?_)
      rcases h27 with ⟨rfl, h27⟩ | ⟨rfl, h27⟩
      ·
        refine n_if_eq (tgt := 67) X dX3_mayTake_30 (by decide) (by omega) (fun c30 => absurd c30 (by decide)) (fun _ => ?_)
        refine z_aload_n X dX3_mayTake_33 rfl rfl ?_
        refine z_aload_n X dX3_mayTake_34 rfl rfl ?_
        refine z_iload_n X dX3_mayTake_35 rfl rfl ?_
        refine z_callV1 (k := 0) (n := 0) (st := []) X (c_X3_hasLevelForC l D t a S j (by omega) hI) k_X3_hasLevelFor q_ml_X3_242 is24 ⟨by decide, rfl⟩ 0 3 rfl rfl (by decide) rfl rfl rfl (Nat.le_of_ble_eq_true rfl) ⟨Nat.zero_le _, Nat.zero_le _⟩ dX3_mayTake_36 (fun r36 h36 => ?_)
        rcases h36 with ⟨rfl, h36⟩ | ⟨rfl, h36⟩
        ·
          refine n_if_eq (tgt := 67) X dX3_mayTake_39 (by decide) (by omega) (fun c39 => absurd c39 (by decide)) (fun _ => ?_)
          refine z_aload_n X dX3_mayTake_42 rfl rfl ?_
          refine z_aload_n X dX3_mayTake_43 rfl rfl ?_
          refine z_get X (C := RX0) (T := TX0) (N := 2) (ci := 0) (v := .int (S 18 0)) inZ0 4 1 rfl rfl (by decide) q_fl_X3_155 rfl rfl dX3_mayTake_44 ?_
          refine z_top (y := nI s) (hh) ?_
          refine z_iload_n X dX3_mayTake_47 rfl rfl ?_
          refine z_callV1 (k := 0) (n := 0) (st := []) X (c_X3_isOtherIn l D t a S s j (by omega) (by omega) hI) k_X3_isOtherIn q_ml_X3_245 is24 ⟨by decide, rfl⟩ 0 3 rfl rfl (by decide) rfl rfl rfl (Nat.le_of_ble_eq_true rfl) ⟨Nat.zero_le _, Nat.zero_le _⟩ dX3_mayTake_48 (fun r48 h48 => ?_)
          rcases h48 with ⟨rfl, h48⟩ | ⟨rfl, h48⟩
          ·
            refine n_if_eq (tgt := 67) X dX3_mayTake_51 (by decide) (by omega) (fun c51 => absurd c51 (by decide)) (fun _ => ?_)
            refine z_aload_n X dX3_mayTake_54 rfl rfl ?_
            refine z_aload_n X dX3_mayTake_55 rfl rfl ?_
            refine z_iload_n X dX3_mayTake_56 rfl rfl ?_
            refine z_callV1 (k := 0) (n := 0) (st := []) X (c_X3_isBarredC l D t a S j (by omega) hI) k_X3_isBarred q_ml_X3_248 is24 ⟨by decide, rfl⟩ 0 3 rfl rfl (by decide) rfl rfl rfl (Nat.le_of_ble_eq_true rfl) ⟨Nat.zero_le _, Nat.zero_le _⟩ dX3_mayTake_57 (fun r57 h57 => ?_)
            rcases h57 with ⟨rfl, h57⟩ | ⟨rfl, h57⟩
            ·
              refine n_if_ne (tgt := 67) X dX3_mayTake_60 (by decide) (by omega) (fun _ => ?_) (fun c60 => absurd c60 (by decide))
              refine z_iconst (v := nI 0) X dX3_mayTake_67 (by decide) ?_
              refine z_iret X Z (by decide +kernel) dX3_mayTake_68 ?_
              first
                | exact ⟨(), bz_f (fun h => h27 h.2.2.1), fun _ _ => trivial⟩
                | exact ⟨(), bz_f (fun h => h36 (by rw [hl]; exact h.2.2.2.1)), fun _ _ => trivial⟩
                | exact ⟨(), bz_f (fun h => h48 h.2.2.2.2.1), fun _ _ => trivial⟩
                | exact ⟨(), bz_f (fun h => h57 (by rw [hl]; exact h.2.2.2.2.2)), fun _ _ => trivial⟩
                | exact ⟨(), bz_f (fun h => absurd h.2.1 (by omega)), fun _ _ => trivial⟩
                | exact ⟨(), bz_f (fun h => by rw [h.1] at h2; cases h2), fun _ _ => trivial⟩
            ·
              refine n_if_ne (tgt := 67) X dX3_mayTake_60 (by decide) (by omega) (fun c60 => absurd c60 (by decide)) (fun _ => ?_)
              refine z_iconst (v := nI 1) X dX3_mayTake_63 (by decide) ?_
              refine z_goto (tgt := 68) X dX3_mayTake_64 (by decide) ?_
              refine z_iret X Z (by decide +kernel) dX3_mayTake_68 ?_
              exact ⟨(), bz_t ⟨by simpa using h2, by omega, h27, by rw [← hl]; exact h36, h48, by rw [← hl]; exact Classical.not_not.mp h57⟩, fun _ _ => trivial⟩
          ·
            refine n_if_eq (tgt := 67) X dX3_mayTake_51 (by decide) (by omega) (fun _ => ?_) (fun c51 => absurd c51 (by decide))
            refine z_iconst (v := nI 0) X dX3_mayTake_67 (by decide) ?_
            refine z_iret X Z (by decide +kernel) dX3_mayTake_68 ?_
            first
              | exact ⟨(), bz_f (fun h => h27 h.2.2.1), fun _ _ => trivial⟩
              | exact ⟨(), bz_f (fun h => h36 (by rw [hl]; exact h.2.2.2.1)), fun _ _ => trivial⟩
              | exact ⟨(), bz_f (fun h => h48 h.2.2.2.2.1), fun _ _ => trivial⟩
              | exact ⟨(), bz_f (fun h => h57 (by rw [hl]; exact h.2.2.2.2.2)), fun _ _ => trivial⟩
              | exact ⟨(), bz_f (fun h => absurd h.2.1 (by omega)), fun _ _ => trivial⟩
              | exact ⟨(), bz_f (fun h => by rw [h.1] at h2; cases h2), fun _ _ => trivial⟩
        ·
          refine n_if_eq (tgt := 67) X dX3_mayTake_39 (by decide) (by omega) (fun _ => ?_) (fun c39 => absurd c39 (by decide))
          refine z_iconst (v := nI 0) X dX3_mayTake_67 (by decide) ?_
          refine z_iret X Z (by decide +kernel) dX3_mayTake_68 ?_
          first
            | exact ⟨(), bz_f (fun h => h27 h.2.2.1), fun _ _ => trivial⟩
            | exact ⟨(), bz_f (fun h => h36 (by rw [hl]; exact h.2.2.2.1)), fun _ _ => trivial⟩
            | exact ⟨(), bz_f (fun h => h48 h.2.2.2.2.1), fun _ _ => trivial⟩
            | exact ⟨(), bz_f (fun h => h57 (by rw [hl]; exact h.2.2.2.2.2)), fun _ _ => trivial⟩
            | exact ⟨(), bz_f (fun h => absurd h.2.1 (by omega)), fun _ _ => trivial⟩
            | exact ⟨(), bz_f (fun h => by rw [h.1] at h2; cases h2), fun _ _ => trivial⟩
      ·
        refine n_if_eq (tgt := 67) X dX3_mayTake_30 (by decide) (by omega) (fun _ => ?_) (fun c30 => absurd c30 (by decide))
        refine z_iconst (v := nI 0) X dX3_mayTake_67 (by decide) ?_
        refine z_iret X Z (by decide +kernel) dX3_mayTake_68 ?_
        first
          | exact ⟨(), bz_f (fun h => h27 h.2.2.1), fun _ _ => trivial⟩
          | exact ⟨(), bz_f (fun h => h36 (by rw [hl]; exact h.2.2.2.1)), fun _ _ => trivial⟩
          | exact ⟨(), bz_f (fun h => h48 h.2.2.2.2.1), fun _ _ => trivial⟩
          | exact ⟨(), bz_f (fun h => h57 (by rw [hl]; exact h.2.2.2.2.2)), fun _ _ => trivial⟩
          | exact ⟨(), bz_f (fun h => absurd h.2.1 (by omega)), fun _ _ => trivial⟩
          | exact ⟨(), bz_f (fun h => by rw [h.1] at h2; cases h2), fun _ _ => trivial⟩
set_option maxHeartbeats 4000000 in
set_option maxRecDepth 100000 in
theorem c_X3_mayTakeT (l : Launch) (D : va_G) (t : ClassId × ClassId × ClassId) (a : Nat → Nat) (S : zS) (x y z s j : Nat) (hl : S 19 = l3 x y z) (hh : S 20 0 = nI s) (hs : s < 256) (hx : x + y + z ≤ 8) (hj : j < 8) (hI : zI S) : zM1 l yX3_mayTake cX3_mayTake 3 (some .boolean) 2 D t [.ref (a 0), .ref (a 6), .int (nI j)] (wR t a S) (fun r => bz r (mt S x y z s j)) := by
  refine z_m1 (by decide +kernel) (Nat.le_of_ble_eq_true rfl) (by simp [Value.category]) ?_
  intro E X Z
  refine z_lv (lv' := [some (.ref (a 0)), some (.ref (a 6)), some (.int (nI j))]) rfl ?_
  refine z_aload_n X dX3_mayTake_0 rfl rfl ?_
  refine z_iload_n X dX3_mayTake_1 rfl rfl ?_
  refine z_callV1 (k := 0) (n := 0) (st := []) X (c_X0_has l D t (a 6) (a 23) s j (S 20 0) (S 19) hh (by omega) (by omega)) k_X0_has q_ml_X3_165 [6, 23] ⟨by decide, rfl⟩ 6 0 rfl rfl (by decide) rfl rfl rfl (Nat.le_of_ble_eq_true rfl) ⟨Nat.zero_le _, Nat.zero_le _⟩ dX3_mayTake_2 (fun r2 h2 => ?_)
  rcases h2 with ⟨rfl, h2⟩ | ⟨rfl, h2⟩
  ·
    refine n_if_ne (tgt := 67) X dX3_mayTake_5 (by decide) (by omega) (fun _ => ?_) (fun c5 => absurd c5 (by decide))
    refine z_iconst (v := nI 0) X dX3_mayTake_67 (by decide) ?_
    refine z_iret X Z (by decide +kernel) dX3_mayTake_68 ?_
    first
      | exact ⟨(), bz_f (fun h => h27 h.2.2.1), fun _ _ => trivial⟩
      | exact ⟨(), bz_f (fun h => h36 (by rw [hl]; exact h.2.2.2.1)), fun _ _ => trivial⟩
      | exact ⟨(), bz_f (fun h => h48 h.2.2.2.2.1), fun _ _ => trivial⟩
      | exact ⟨(), bz_f (fun h => h57 (by rw [hl]; exact h.2.2.2.2.2)), fun _ _ => trivial⟩
      | exact ⟨(), bz_f (fun h => absurd h.2.1 (by omega)), fun _ _ => trivial⟩
      | exact ⟨(), bz_f (fun h => by rw [h.1] at h2; cases h2), fun _ _ => trivial⟩
  ·
    refine n_if_ne (tgt := 67) X dX3_mayTake_5 (by decide) (by omega) (fun c5 => absurd c5 (by decide)) (fun _ => ?_)
    refine z_aload_n X dX3_mayTake_8 rfl rfl ?_
    refine z_get X (C := RX0) (T := TX0) (N := 2) (ci := 0) (v := .int (S 20 0)) inZ0 6 1 rfl rfl (by decide) q_fl_X3_155 rfl rfl dX3_mayTake_9 ?_
    refine z_top (y := nI s) (hh) ?_
    have hp8 := p8_le s hs
    refine z_callS1 (k := 0) (n := 0) (st := []) X (c_J6_bitCount_0f7a4 l D t s (by omega)) k_J6_bitCount_0f7a4 q_ml_X3_177 [] ⟨by decide, rfl⟩ (by decide) rfl rfl rfl (Nat.le_of_ble_eq_true rfl) ⟨Nat.zero_le _, Nat.zero_le _⟩ dX3_mayTake_12 (fun r12 h12 => ?_)
    subst h12
    refine z_aload_n X dX3_mayTake_15 rfl rfl ?_
    refine z_callV1 (k := 0) (n := 0) (st := [.int (nI (p8 s))]) X (c_X0_levelInAll l D t (a 6) (a 23) x y z (S 20 0) (S 19) hl) k_X0_levelInAll q_ml_X3_191 [6, 23] ⟨by decide, rfl⟩ 6 0 rfl rfl (by decide) rfl rfl rfl (Nat.le_of_ble_eq_true rfl) ⟨Nat.zero_le _, Nat.zero_le _⟩ dX3_mayTake_16 (fun r16 h16 => ?_)
    subst h16
    refine z_callS1 (k := 0) (n := 0) (st := [.int (nI (p8 s))]) X (c_X3_placesAt l D t (x + y + z) (by omega)) k_X3_placesAt q_ml_X3_194 [] ⟨by decide, rfl⟩ (by decide) rfl rfl rfl (Nat.le_of_ble_eq_true rfl) ⟨Nat.zero_le _, Nat.zero_le _⟩ dX3_mayTake_19 (fun r19 h19 => ?_)
    subst h19
    refine n_icmp_ge (tgt := 67) X dX3_mayTake_22 (by decide) (by omega) (by omega) (fun c22 => ?_) (fun c22 => ?_)
    ·
      refine z_iconst (v := nI 0) X dX3_mayTake_67 (by decide) ?_
      refine z_iret X Z (by decide +kernel) dX3_mayTake_68 ?_
      first
        | exact ⟨(), bz_f (fun h => h27 h.2.2.1), fun _ _ => trivial⟩
        | exact ⟨(), bz_f (fun h => h36 (by rw [hl]; exact h.2.2.2.1)), fun _ _ => trivial⟩
        | exact ⟨(), bz_f (fun h => h48 h.2.2.2.2.1), fun _ _ => trivial⟩
        | exact ⟨(), bz_f (fun h => h57 (by rw [hl]; exact h.2.2.2.2.2)), fun _ _ => trivial⟩
        | exact ⟨(), bz_f (fun h => absurd h.2.1 (by omega)), fun _ _ => trivial⟩
        | exact ⟨(), bz_f (fun h => by rw [h.1] at h2; cases h2), fun _ _ => trivial⟩
    ·
      refine z_aload_n X dX3_mayTake_25 rfl rfl ?_
      refine z_iload_n X dX3_mayTake_26 rfl rfl ?_
      refine z_callV1 (k := 0) (n := 0) (st := []) X (c_X3_hasScoreFor l D t a S j (by omega) hI) k_X3_hasScoreFor q_ml_X3_239 is24 ⟨by decide, rfl⟩ 0 3 rfl rfl (by decide) rfl rfl rfl (Nat.le_of_ble_eq_true rfl) ⟨Nat.zero_le _, Nat.zero_le _⟩ dX3_mayTake_27 (fun r27 h27 => ?_)
      rcases h27 with ⟨rfl, h27⟩ | ⟨rfl, h27⟩
      ·
        refine n_if_eq (tgt := 67) X dX3_mayTake_30 (by decide) (by omega) (fun c30 => absurd c30 (by decide)) (fun _ => ?_)
        refine z_aload_n X dX3_mayTake_33 rfl rfl ?_
        refine z_aload_n X dX3_mayTake_34 rfl rfl ?_
        refine z_iload_n X dX3_mayTake_35 rfl rfl ?_
        refine z_callV1 (k := 0) (n := 0) (st := []) X (c_X3_hasLevelForT l D t a S j (by omega) hI) k_X3_hasLevelFor q_ml_X3_242 is24 ⟨by decide, rfl⟩ 0 3 rfl rfl (by decide) rfl rfl rfl (Nat.le_of_ble_eq_true rfl) ⟨Nat.zero_le _, Nat.zero_le _⟩ dX3_mayTake_36 (fun r36 h36 => ?_)
        rcases h36 with ⟨rfl, h36⟩ | ⟨rfl, h36⟩
        ·
          refine n_if_eq (tgt := 67) X dX3_mayTake_39 (by decide) (by omega) (fun c39 => absurd c39 (by decide)) (fun _ => ?_)
          refine z_aload_n X dX3_mayTake_42 rfl rfl ?_
          refine z_aload_n X dX3_mayTake_43 rfl rfl ?_
          refine z_get X (C := RX0) (T := TX0) (N := 2) (ci := 0) (v := .int (S 20 0)) inZ0 6 1 rfl rfl (by decide) q_fl_X3_155 rfl rfl dX3_mayTake_44 ?_
          refine z_top (y := nI s) (hh) ?_
          refine z_iload_n X dX3_mayTake_47 rfl rfl ?_
          refine z_callV1 (k := 0) (n := 0) (st := []) X (c_X3_isOtherIn l D t a S s j (by omega) (by omega) hI) k_X3_isOtherIn q_ml_X3_245 is24 ⟨by decide, rfl⟩ 0 3 rfl rfl (by decide) rfl rfl rfl (Nat.le_of_ble_eq_true rfl) ⟨Nat.zero_le _, Nat.zero_le _⟩ dX3_mayTake_48 (fun r48 h48 => ?_)
          rcases h48 with ⟨rfl, h48⟩ | ⟨rfl, h48⟩
          ·
            refine n_if_eq (tgt := 67) X dX3_mayTake_51 (by decide) (by omega) (fun c51 => absurd c51 (by decide)) (fun _ => ?_)
            refine z_aload_n X dX3_mayTake_54 rfl rfl ?_
            refine z_aload_n X dX3_mayTake_55 rfl rfl ?_
            refine z_iload_n X dX3_mayTake_56 rfl rfl ?_
            refine z_callV1 (k := 0) (n := 0) (st := []) X (c_X3_isBarredT l D t a S j (by omega) hI) k_X3_isBarred q_ml_X3_248 is24 ⟨by decide, rfl⟩ 0 3 rfl rfl (by decide) rfl rfl rfl (Nat.le_of_ble_eq_true rfl) ⟨Nat.zero_le _, Nat.zero_le _⟩ dX3_mayTake_57 (fun r57 h57 => ?_)
            rcases h57 with ⟨rfl, h57⟩ | ⟨rfl, h57⟩
            ·
              refine n_if_ne (tgt := 67) X dX3_mayTake_60 (by decide) (by omega) (fun _ => ?_) (fun c60 => absurd c60 (by decide))
              refine z_iconst (v := nI 0) X dX3_mayTake_67 (by decide) ?_
              refine z_iret X Z (by decide +kernel) dX3_mayTake_68 ?_
              first
                | exact ⟨(), bz_f (fun h => h27 h.2.2.1), fun _ _ => trivial⟩
                | exact ⟨(), bz_f (fun h => h36 (by rw [hl]; exact h.2.2.2.1)), fun _ _ => trivial⟩
                | exact ⟨(), bz_f (fun h => h48 h.2.2.2.2.1), fun _ _ => trivial⟩
                | exact ⟨(), bz_f (fun h => h57 (by rw [hl]; exact h.2.2.2.2.2)), fun _ _ => trivial⟩
                | exact ⟨(), bz_f (fun h => absurd h.2.1 (by omega)), fun _ _ => trivial⟩
                | exact ⟨(), bz_f (fun h => by rw [h.1] at h2; cases h2), fun _ _ => trivial⟩
            ·
              refine n_if_ne (tgt := 67) X dX3_mayTake_60 (by decide) (by omega) (fun c60 => absurd c60 (by decide)) (fun _ => ?_)
              refine z_iconst (v := nI 1) X dX3_mayTake_63 (by decide) ?_
              refine z_goto (tgt := 68) X dX3_mayTake_64 (by decide) ?_
              refine z_iret X Z (by decide +kernel) dX3_mayTake_68 ?_
              exact ⟨(), bz_t ⟨by simpa using h2, by omega, h27, by rw [← hl]; exact h36, h48, by rw [← hl]; exact Classical.not_not.mp h57⟩, fun _ _ => trivial⟩
          ·
            refine n_if_eq (tgt := 67) X dX3_mayTake_51 (by decide) (by omega) (fun _ => ?_) (fun c51 => absurd c51 (by decide))
            refine z_iconst (v := nI 0) X dX3_mayTake_67 (by decide) ?_
            refine z_iret X Z (by decide +kernel) dX3_mayTake_68 ?_
            first
              | exact ⟨(), bz_f (fun h => h27 h.2.2.1), fun _ _ => trivial⟩
              | exact ⟨(), bz_f (fun h => h36 (by rw [hl]; exact h.2.2.2.1)), fun _ _ => trivial⟩
              | exact ⟨(), bz_f (fun h => h48 h.2.2.2.2.1), fun _ _ => trivial⟩
              | exact ⟨(), bz_f (fun h => h57 (by rw [hl]; exact h.2.2.2.2.2)), fun _ _ => trivial⟩
              | exact ⟨(), bz_f (fun h => absurd h.2.1 (by omega)), fun _ _ => trivial⟩
              | exact ⟨(), bz_f (fun h => by rw [h.1] at h2; cases h2), fun _ _ => trivial⟩
        ·
          refine n_if_eq (tgt := 67) X dX3_mayTake_39 (by decide) (by omega) (fun _ => ?_) (fun c39 => absurd c39 (by decide))
          refine z_iconst (v := nI 0) X dX3_mayTake_67 (by decide) ?_
          refine z_iret X Z (by decide +kernel) dX3_mayTake_68 ?_
          first
            | exact ⟨(), bz_f (fun h => h27 h.2.2.1), fun _ _ => trivial⟩
            | exact ⟨(), bz_f (fun h => h36 (by rw [hl]; exact h.2.2.2.1)), fun _ _ => trivial⟩
            | exact ⟨(), bz_f (fun h => h48 h.2.2.2.2.1), fun _ _ => trivial⟩
            | exact ⟨(), bz_f (fun h => h57 (by rw [hl]; exact h.2.2.2.2.2)), fun _ _ => trivial⟩
            | exact ⟨(), bz_f (fun h => absurd h.2.1 (by omega)), fun _ _ => trivial⟩
            | exact ⟨(), bz_f (fun h => by rw [h.1] at h2; cases h2), fun _ _ => trivial⟩
      ·
        refine n_if_eq (tgt := 67) X dX3_mayTake_30 (by decide) (by omega) (fun _ => ?_) (fun c30 => absurd c30 (by decide))
        refine z_iconst (v := nI 0) X dX3_mayTake_67 (by decide) ?_
        refine z_iret X Z (by decide +kernel) dX3_mayTake_68 ?_
        first
          | exact ⟨(), bz_f (fun h => h27 h.2.2.1), fun _ _ => trivial⟩
          | exact ⟨(), bz_f (fun h => h36 (by rw [hl]; exact h.2.2.2.1)), fun _ _ => trivial⟩
          | exact ⟨(), bz_f (fun h => h48 h.2.2.2.2.1), fun _ _ => trivial⟩
          | exact ⟨(), bz_f (fun h => h57 (by rw [hl]; exact h.2.2.2.2.2)), fun _ _ => trivial⟩
          | exact ⟨(), bz_f (fun h => absurd h.2.1 (by omega)), fun _ _ => trivial⟩
          | exact ⟨(), bz_f (fun h => by rw [h.1] at h2; cases h2), fun _ _ => trivial⟩
end
section
/-- one look at a gift, while what works grows -/
noncomputable def wks (S : zS) (f : Nat → Int32) (s w j : Nat) : Nat := zif (s.testBit j = true ∧ pS S j ∧ pL S f j ∧ pO S w j) (w ||| 2 ^ j) w
noncomputable def wkN (S : zS) (f : Nat → Int32) (s : Nat) : Nat → Nat
  | 0 => 0
  | k + 1 => wks S f s (wkN S f s k) (k % 8)
/-- the gifts that work among s -/
noncomputable abbrev wk (S : zS) (f : Nat → Int32) (s : Nat) : Nat := wkN S f s 64
section
variable {S : zS} {f : Nat → Int32} {s : Nat}
theorem wkN_lt (k : Nat) : wkN S f s k < 256 := by
  induction k with
  | zero => exact (by decide : (0 : Nat) < 256)
  | succ k ih =>
    unfold wkN wks
    by_cases h : s.testBit (k % 8) = true ∧ pS S (k % 8) ∧ pL S f (k % 8) ∧ pO S (wkN S f s k) (k % 8)
    · rw [zif_t h]; exact zn_or8 _ ih _ (Nat.mod_lt _ (by decide))
    · rw [zif_f h]; exact ih
theorem wk_m (r j : Nat) (hj : j < 8) : (8 * r + j) % 8 = j := by omega
theorem wk_t {r j : Nat} (hj : j < 8) (h : s.testBit j = true ∧ pS S j ∧ pL S f j ∧ pO S (wkN S f s (8 * r + j)) j) : wkN S f s (8 * r + (j + 1)) = wkN S f s (8 * r + j) ||| 2 ^ j := by
  show wks S f s (wkN S f s (8 * r + j)) ((8 * r + j) % 8) = _
  rw [wk_m r j hj]; exact zif_t h
theorem wk_f {r j : Nat} (hj : j < 8) (h : ¬ (s.testBit j = true ∧ pS S j ∧ pL S f j ∧ pO S (wkN S f s (8 * r + j)) j)) : wkN S f s (8 * r + (j + 1)) = wkN S f s (8 * r + j) := by
  show wks S f s (wkN S f s (8 * r + j)) ((8 * r + j) % 8) = _
  rw [wk_m r j hj]; exact zif_f h
end
/-- a gift's bonus is of this value and kind -/
def bnC (S : zS) (w : Nat) (v k : Int32) (j : Nat) : Prop := w.testBit j = true ∧ S 7 j = v ∧ S 8 j = k
noncomputable def bnS (S : zS) (w : Nat) (v k : Int32) : Nat → Int32
  | 0 => nI 0
  | j + 1 => zif (bnC S w v k j ∧ (k = 0 ∨ S 9 j < 0)) (bnS S w v k j + S 9 j) (bnS S w v k j)
noncomputable def bnG (S : zS) (w : Nat) (v k : Int32) : Nat → Int32
  | 0 => nI 0
  | j + 1 => zif (bnC S w v k j ∧ ¬ (k = 0 ∨ S 9 j < 0)) (if bnG S w v k j < S 9 j then S 9 j else bnG S w v k j) (bnG S w v k j)
/-- the sum of the bonuses of a kind that count -/
noncomputable def bn (S : zS) (w : Nat) (v k : Int32) : Int32 := bnS S w v k 8 + bnG S w v k 8
/-- the value that is reached after k links -/
def ch (S : zS) (v : Int32) : Nat → Int32
  | 0 => v
  | k + 1 => if ch S v k = -1 then -1 else S 13 (ch S v k).toNatClampNeg
theorem ch_zo {S : zS} {v : Int32} (hI : ∀ j, j < 6 → zo (S 13 j) 6) (hv : zo v 6) : ∀ k, zo (ch S v k) 6
  | 0 => hv
  | k + 1 => by
    unfold ch
    split
    · exact Or.inl rfl
    · rcases ch_zo hI hv k with h | ⟨j, hj, h⟩
      · contradiction
      · rw [h, nI_clamp (by omega)]; exact hI j hj
theorem ch_m {S : zS} {v : Int32} {k : Nat} (h : ch S v k = -1) : ∀ i, ch S v (k + i) = -1
  | 0 => h
  | i + 1 => by show (if ch S v (k + i) = -1 then -1 else _) = _; rw [if_pos (ch_m h i)]
theorem ch_s {S : zS} {v : Int32} {k j : Nat} (h : ch S v k = nI j) (hj : j < 2 ^ 31) : ch S v (k + 1) = S 13 j := by
  show (if ch S v k = -1 then -1 else _) = _
  rw [h, if_neg (zn_m1 j hj), nI_clamp hj]
/-- the level in a value's calling -/
def lvv (f : Nat → Int32) (c : Int32) : Int32 := if c = -1 then 0 else f c.toNatClampNeg
/-- a value, with so many links to go -/
noncomputable def vl (S : zS) (f : Nat → Int32) (w : Nat) : Nat → Int32 → Int32
  | 0, _ => nI 0
  | m + 1, c => if c = -1 then nI 0 else S 10 c.toNatClampNeg + md S (S 11 c.toNatClampNeg) + lvv f (S 12 c.toNatClampNeg) + hlf (vl S f w m (S 13 c.toNatClampNeg)) + bn S w c (nI 0) + bn S w c (nI 1) + bn S w c (nI 2) + bn S w c (nI 3)
set_option maxHeartbeats 4000000 in
set_option maxRecDepth 100000 in
theorem c_X3_workingAmong (l : Launch) (D : va_G) (t : ClassId × ClassId × ClassId) (a : Nat → Nat) (S : zS) (s : Nat) (hs : s < 256) (hI : zI S) : zM1 l yX3_workingAmong cX3_workingAmong 5 (some .int) 1 D t [.ref (a 0), .int (nI s)] (wR t a S) (fun r => r = nI (wk S (S 15) s)) := by
  refine z_m1 (by decide +kernel) (Nat.le_of_ble_eq_true rfl) (by simp [Value.category]) ?_
  intro E X Z
  refine z_lv (lv' := [some (.ref (a 0)), some (.int (nI s)), none, none, none]) rfl ?_
  refine z_iconst (v := nI 0) X dX3_workingAmong_0 (by decide) ?_
  refine z_istore_n X dX3_workingAmong_1 rfl (Nat.le_of_ble_eq_true rfl) ?_
  refine z_lv (lv' := [some (.ref (a 0)), some (.int (nI s)), some (.int (nI 0)), none, none]) rfl ?_
  refine z_iconst (v := nI 0) X dX3_workingAmong_2 (by decide) ?_
  refine z_istore_n X dX3_workingAmong_3 rfl (Nat.le_of_ble_eq_true rfl) ?_
  refine z_lv (lv' := [some (.ref (a 0)), some (.int (nI s)), some (.int (nI 0)), some (.int (nI 0)), none]) rfl ?_
  refine Wz.less (lv' := [some (.ref (a 0)), some (.int (nI s)), some (.int (nI (wkN S (S 15) s (8 * (0))))), some (.int (nI 0)), none]) (by simp [zle] <;> rfl) ?_
  refine zl_up 8 (fun r => Wz E 0 0 4 [some (.ref (a 0)), some (.int (nI s)), some (.int (nI (wkN S (S 15) s (8 * (r))))), some (.int (nI r)), none] [] (wR t a S)) ?_ ?_ 0 (by omega)
  ·
    refine z_iload_n X dX3_workingAmong_4 rfl rfl ?_
    refine z_bipush (v := nI 8) X dX3_workingAmong_5 (by decide) ?_
    refine n_icmp_ge (tgt := 80) X dX3_workingAmong_7 (by decide) (by omega) (by omega) (fun _ => ?_) (fun c7 => absurd c7 (by decide))
    refine z_iload_n X dX3_workingAmong_80 rfl rfl ?_
    refine z_iret X Z rfl dX3_workingAmong_81 ?_
    exact ⟨(), rfl, fun _ _ => trivial⟩
  ·
    intro r hr ihr
    refine z_iload_n X dX3_workingAmong_4 rfl rfl ?_
    refine z_bipush (v := nI 8) X dX3_workingAmong_5 (by decide) ?_
    refine n_icmp_ge (tgt := 80) X dX3_workingAmong_7 (by decide) (by omega) (by omega) (fun c7 => absurd c7 (by omega)) (fun _ => ?_)
    refine z_iconst (v := nI 0) X dX3_workingAmong_10 (by decide) ?_
    refine z_istore X dX3_workingAmong_11 (Nat.le_of_ble_eq_true rfl) ?_
    refine z_lv (lv' := [some (.ref (a 0)), some (.int (nI s)), some (.int (nI (wkN S (S 15) s (8 * (r))))), some (.int (nI r)), some (.int (nI 0))]) rfl ?_
    refine Wz.less (lv' := [some (.ref (a 0)), some (.int (nI s)), some (.int (nI (wkN S (S 15) s (8 * r + (0))))), some (.int (nI r)), some (.int (nI 0))]) (by simp [zle] <;> rfl) ?_
    refine zl_up 8 (fun j => Wz E 0 0 13 [some (.ref (a 0)), some (.int (nI s)), some (.int (nI (wkN S (S 15) s (8 * r + (j))))), some (.int (nI r)), some (.int (nI j))] [] (wR t a S)) ?_ ?_ 0 (by omega)
    ·
      refine z_iload X dX3_workingAmong_13 rfl ?_
      refine z_bipush (v := nI 8) X dX3_workingAmong_15 (by decide) ?_
      refine n_icmp_ge (tgt := 74) X dX3_workingAmong_17 (by decide) (by omega) (by omega) (fun _ => ?_) (fun c17 => absurd c17 (by decide))
      refine z_iinc (v := nI (r + 1)) X dX3_workingAmong_74 rfl (nI_add r 1) ?_
      refine z_lv (lv' := [some (.ref (a 0)), some (.int (nI s)), some (.int (nI (wkN S (S 15) s (8 * r + (8))))), some (.int (nI (r + 1))), some (.int (nI 8))]) rfl ?_
      refine z_goto (tgt := 4) X dX3_workingAmong_77 (by decide) ?_
      refine Wz.less (lv' := [some (.ref (a 0)), some (.int (nI s)), some (.int (nI (wkN S (S 15) s (8 * (r + 1))))), some (.int (nI (r + 1))), none]) (by simp [zle] <;> rfl) ?_
      exact ihr
    ·
      intro j hj ihj
      refine z_iload X dX3_workingAmong_13 rfl ?_
      refine z_bipush (v := nI 8) X dX3_workingAmong_15 (by decide) ?_
      refine n_icmp_ge (tgt := 74) X dX3_workingAmong_17 (by decide) (by omega) (by omega) (fun c17 => absurd c17 (by omega)) (fun _ => ?_)
      have hw := wkN_lt (S := S) (f := S 15) (s := s) (8 * r + j)
      refine z_iload_n X dX3_workingAmong_20 rfl rfl ?_
      refine z_iload X dX3_workingAmong_21 rfl ?_
      refine n_ishr X dX3_workingAmong_23 (by omega) (by omega) ?_
      refine z_iconst (v := nI 1) X dX3_workingAmong_24 (by decide) ?_
      refine n_iand X dX3_workingAmong_25 ?_
      rw [zt_bit1]
      refine n_if_eq (tgt := 68) X dX3_workingAmong_26 (by decide) (by omega) (fun c26 => ?_) (fun c26 => ?_)
      ·
        refine z_iinc (v := nI (j + 1)) X dX3_workingAmong_68 rfl (nI_add j 1) ?_
        refine z_lv (lv' := [some (.ref (a 0)), some (.int (nI s)), some (.int (nI (wkN S (S 15) s (8 * r + (j))))), some (.int (nI r)), some (.int (nI (j + 1)))]) rfl ?_
        refine z_goto (tgt := 13) X dX3_workingAmong_71 (by decide) ?_
        have e9 : wkN S (S 15) s (8 * r + (j + 1)) = wkN S (S 15) s (8 * r + (j)) := by
          first
            | exact wk_t hj ⟨zt_b1 c26, h32, h45, h55⟩
            | exact wk_f hj (fun h => by rw [zt_b2 c26] at h; cases h.1)
            | exact wk_f hj (fun h => h32 h.2.1)
            | exact wk_f hj (fun h => h45 h.2.2.1)
            | exact wk_f hj (fun h => h55 h.2.2.2)
        rw [← e9]
        exact ihj
      ·
        refine z_aload_n X dX3_workingAmong_29 rfl rfl ?_
        refine z_iload X dX3_workingAmong_30 rfl ?_
        refine z_callV1 (k := 0) (n := 0) (st := []) X (c_X3_hasScoreFor l D t a S j (by omega) hI) k_X3_hasScoreFor q_ml_X3_239 is24 ⟨by decide, rfl⟩ 0 3 rfl rfl (by decide) rfl rfl rfl (Nat.le_of_ble_eq_true rfl) ⟨Nat.zero_le _, Nat.zero_le _⟩ dX3_workingAmong_32 (fun r32 h32 => ?_)
        rcases h32 with ⟨rfl, h32⟩ | ⟨rfl, h32⟩
        ·
          refine n_if_eq (tgt := 68) X dX3_workingAmong_35 (by decide) (by omega) (fun c35 => absurd c35 (by decide)) (fun _ => ?_)
          refine z_aload_n X dX3_workingAmong_38 rfl rfl ?_
          refine z_aload_n X dX3_workingAmong_39 rfl rfl ?_
          refine z_get X (C := RX3) (T := TX3) (N := 8) (ci := 3) (v := .ref (a 4)) inZ3 0 3 rfl rfl (by decide) q_fl_X3_30 rfl rfl dX3_workingAmong_40 ?_
          refine z_iload X dX3_workingAmong_43 rfl ?_
          refine z_callV1 (k := 0) (n := 0) (st := []) X (c_X3_hasLevelForC l D t a S j (by omega) hI) k_X3_hasLevelFor q_ml_X3_242 is24 ⟨by decide, rfl⟩ 0 3 rfl rfl (by decide) rfl rfl rfl (Nat.le_of_ble_eq_true rfl) ⟨Nat.zero_le _, Nat.zero_le _⟩ dX3_workingAmong_45 (fun r45 h45 => ?_)
          rcases h45 with ⟨rfl, h45⟩ | ⟨rfl, h45⟩
          ·
            refine n_if_eq (tgt := 68) X dX3_workingAmong_48 (by decide) (by omega) (fun c48 => absurd c48 (by decide)) (fun _ => ?_)
            refine z_aload_n X dX3_workingAmong_51 rfl rfl ?_
            refine z_iload_n X dX3_workingAmong_52 rfl rfl ?_
            refine z_iload X dX3_workingAmong_53 rfl ?_
            refine z_callV1 (k := 0) (n := 0) (st := []) X (c_X3_isOtherIn l D t a S (wkN S (S 15) s (8 * r + (j))) j (by omega) (by omega) hI) k_X3_isOtherIn q_ml_X3_245 is24 ⟨by decide, rfl⟩ 0 3 rfl rfl (by decide) rfl rfl rfl (Nat.le_of_ble_eq_true rfl) ⟨Nat.zero_le _, Nat.zero_le _⟩ dX3_workingAmong_55 (fun r55 h55 => ?_)
            rcases h55 with ⟨rfl, h55⟩ | ⟨rfl, h55⟩
            ·
              refine n_if_eq (tgt := 68) X dX3_workingAmong_58 (by decide) (by omega) (fun c58 => absurd c58 (by decide)) (fun _ => ?_)
              refine z_iload_n X dX3_workingAmong_61 rfl rfl ?_
              refine z_iconst (v := nI 1) X dX3_workingAmong_62 (by decide) ?_
              refine z_iload X dX3_workingAmong_63 rfl ?_
              refine n_ishl1 X dX3_workingAmong_65 (by omega) ?_
              refine n_ior X dX3_workingAmong_66 ?_
              refine z_istore_n X dX3_workingAmong_67 rfl (Nat.le_of_ble_eq_true rfl) ?_
              refine z_lv (lv' := [some (.ref (a 0)), some (.int (nI s)), some (.int (nI ((wkN S (S 15) s (8 * r + (j))) ||| (2 ^ j)))), some (.int (nI r)), some (.int (nI j))]) rfl ?_
              refine z_iinc (v := nI (j + 1)) X dX3_workingAmong_68 rfl (nI_add j 1) ?_
              refine z_lv (lv' := [some (.ref (a 0)), some (.int (nI s)), some (.int (nI ((wkN S (S 15) s (8 * r + (j))) ||| (2 ^ j)))), some (.int (nI r)), some (.int (nI (j + 1)))]) rfl ?_
              refine z_goto (tgt := 13) X dX3_workingAmong_71 (by decide) ?_
              have e9 : wkN S (S 15) s (8 * r + (j + 1)) = (wkN S (S 15) s (8 * r + (j))) ||| (2 ^ j) := by
                first
                  | exact wk_t hj ⟨zt_b1 c26, h32, h45, h55⟩
                  | exact wk_f hj (fun h => by rw [zt_b2 c26] at h; cases h.1)
                  | exact wk_f hj (fun h => h32 h.2.1)
                  | exact wk_f hj (fun h => h45 h.2.2.1)
                  | exact wk_f hj (fun h => h55 h.2.2.2)
              rw [← e9]
              exact ihj
            ·
              refine n_if_eq (tgt := 68) X dX3_workingAmong_58 (by decide) (by omega) (fun _ => ?_) (fun c58 => absurd c58 (by decide))
              refine z_iinc (v := nI (j + 1)) X dX3_workingAmong_68 rfl (nI_add j 1) ?_
              refine z_lv (lv' := [some (.ref (a 0)), some (.int (nI s)), some (.int (nI (wkN S (S 15) s (8 * r + (j))))), some (.int (nI r)), some (.int (nI (j + 1)))]) rfl ?_
              refine z_goto (tgt := 13) X dX3_workingAmong_71 (by decide) ?_
              have e9 : wkN S (S 15) s (8 * r + (j + 1)) = wkN S (S 15) s (8 * r + (j)) := by
                first
                  | exact wk_t hj ⟨zt_b1 c26, h32, h45, h55⟩
                  | exact wk_f hj (fun h => by rw [zt_b2 c26] at h; cases h.1)
                  | exact wk_f hj (fun h => h32 h.2.1)
                  | exact wk_f hj (fun h => h45 h.2.2.1)
                  | exact wk_f hj (fun h => h55 h.2.2.2)
              rw [← e9]
              exact ihj
          ·
            refine n_if_eq (tgt := 68) X dX3_workingAmong_48 (by decide) (by omega) (fun _ => ?_) (fun c48 => absurd c48 (by decide))
            refine z_iinc (v := nI (j + 1)) X dX3_workingAmong_68 rfl (nI_add j 1) ?_
            refine z_lv (lv' := [some (.ref (a 0)), some (.int (nI s)), some (.int (nI (wkN S (S 15) s (8 * r + (j))))), some (.int (nI r)), some (.int (nI (j + 1)))]) rfl ?_
            refine z_goto (tgt := 13) X dX3_workingAmong_71 (by decide) ?_
            have e9 : wkN S (S 15) s (8 * r + (j + 1)) = wkN S (S 15) s (8 * r + (j)) := by
              first
                | exact wk_t hj ⟨zt_b1 c26, h32, h45, h55⟩
                | exact wk_f hj (fun h => by rw [zt_b2 c26] at h; cases h.1)
                | exact wk_f hj (fun h => h32 h.2.1)
                | exact wk_f hj (fun h => h45 h.2.2.1)
                | exact wk_f hj (fun h => h55 h.2.2.2)
            rw [← e9]
            exact ihj
        ·
          refine n_if_eq (tgt := 68) X dX3_workingAmong_35 (by decide) (by omega) (fun _ => ?_) (fun c35 => absurd c35 (by decide))
          refine z_iinc (v := nI (j + 1)) X dX3_workingAmong_68 rfl (nI_add j 1) ?_
          refine z_lv (lv' := [some (.ref (a 0)), some (.int (nI s)), some (.int (nI (wkN S (S 15) s (8 * r + (j))))), some (.int (nI r)), some (.int (nI (j + 1)))]) rfl ?_
          refine z_goto (tgt := 13) X dX3_workingAmong_71 (by decide) ?_
          have e9 : wkN S (S 15) s (8 * r + (j + 1)) = wkN S (S 15) s (8 * r + (j)) := by
            first
              | exact wk_t hj ⟨zt_b1 c26, h32, h45, h55⟩
              | exact wk_f hj (fun h => by rw [zt_b2 c26] at h; cases h.1)
              | exact wk_f hj (fun h => h32 h.2.1)
              | exact wk_f hj (fun h => h45 h.2.2.1)
              | exact wk_f hj (fun h => h55 h.2.2.2)
          rw [← e9]
          exact ihj
set_option maxHeartbeats 4000000 in
set_option maxRecDepth 100000 in
theorem c_X3_bonusFrom (l : Launch) (D : va_G) (t : ClassId × ClassId × ClassId) (a : Nat → Nat) (S : zS) (w : Nat) (v k : Int32) (hw : w < 256) : zM1 l yX3_bonusFrom cX3_bonusFrom 8 (some .int) 1 D t [.ref (a 0), .int (nI w), .int v, .int k] (wR t a S) (fun r => r = bn S w v k) := by
  refine z_m1 (by decide +kernel) (Nat.le_of_ble_eq_true rfl) (by simp [Value.category]) ?_
  intro E X Z
  refine z_lv (lv' := [some (.ref (a 0)), some (.int (nI w)), some (.int v), some (.int k), none, none, none, none]) rfl ?_
  refine z_iconst (v := nI 0) X dX3_bonusFrom_0 (by decide) ?_
  refine z_istore X dX3_bonusFrom_1 (Nat.le_of_ble_eq_true rfl) ?_
  refine z_lv (lv' := [some (.ref (a 0)), some (.int (nI w)), some (.int v), some (.int k), some (.int (nI 0)), none, none, none]) rfl ?_
  refine z_iconst (v := nI 0) X dX3_bonusFrom_3 (by decide) ?_
  refine z_istore X dX3_bonusFrom_4 (Nat.le_of_ble_eq_true rfl) ?_
  refine z_lv (lv' := [some (.ref (a 0)), some (.int (nI w)), some (.int v), some (.int k), some (.int (nI 0)), some (.int (nI 0)), none, none]) rfl ?_
  refine z_iconst (v := nI 0) X dX3_bonusFrom_6 (by decide) ?_
  refine z_istore X dX3_bonusFrom_7 (Nat.le_of_ble_eq_true rfl) ?_
  refine z_lv (lv' := [some (.ref (a 0)), some (.int (nI w)), some (.int v), some (.int k), some (.int (nI 0)), some (.int (nI 0)), some (.int (nI 0)), none]) rfl ?_
  refine z_lv (lv' := [some (.ref (a 0)), some (.int (nI w)), some (.int v), some (.int k), some (.int (bnS S w v k 0)), some (.int (bnG S w v k 0)), some (.int (nI 0)), none]) rfl ?_
  refine zl_up 8 (fun j => Wz E 0 0 9 [some (.ref (a 0)), some (.int (nI w)), some (.int v), some (.int k), some (.int (bnS S w v k j)), some (.int (bnG S w v k j)), some (.int (nI j)), none] [] (wR t a S)) ?_ ?_ 0 (by omega)
  ·
    refine z_iload X dX3_bonusFrom_9 rfl ?_
    refine z_bipush (v := nI 8) X dX3_bonusFrom_11 (by decide) ?_
    refine n_icmp_ge (tgt := 99) X dX3_bonusFrom_13 (by decide) (by omega) (by omega) (fun _ => ?_) (fun c13 => absurd c13 (by decide))
    refine z_iload X dX3_bonusFrom_99 rfl ?_
    refine z_iload X dX3_bonusFrom_101 rfl ?_
    refine z_iadd X dX3_bonusFrom_103 ?_
    refine z_iret X Z rfl dX3_bonusFrom_104 ?_
    exact ⟨(), rfl, fun _ _ => trivial⟩
  ·
    intro j hj ihj
    refine z_iload X dX3_bonusFrom_9 rfl ?_
    refine z_bipush (v := nI 8) X dX3_bonusFrom_11 (by decide) ?_
    refine n_icmp_ge (tgt := 99) X dX3_bonusFrom_13 (by decide) (by omega) (by omega) (fun c13 => absurd c13 (by omega)) (fun _ => ?_)
    refine z_iload_n X dX3_bonusFrom_16 rfl rfl ?_
    refine z_iload X dX3_bonusFrom_17 rfl ?_
    refine n_ishr X dX3_bonusFrom_19 (by omega) (by omega) ?_
    refine z_iconst (v := nI 1) X dX3_bonusFrom_20 (by decide) ?_
    refine n_iand X dX3_bonusFrom_21 ?_
    rw [zt_bit1]
    refine n_if_eq (tgt := 93) X dX3_bonusFrom_22 (by decide) (by omega) (fun c22 => ?_) (fun c22 => ?_)
    ·
      refine z_iinc (v := nI (j + 1)) X dX3_bonusFrom_93 rfl (nI_add j 1) ?_
      refine z_lv (lv' := [some (.ref (a 0)), some (.int (nI w)), some (.int v), some (.int k), some (.int (bnS S w v k j)), some (.int (bnG S w v k j)), some (.int (nI (j + 1))), none]) rfl ?_
      refine z_goto (tgt := 9) X dX3_bonusFrom_96 (by decide) ?_
      have e9 : bnS S w v k (j + 1) = bnS S w v k j ∧ bnG S w v k (j + 1) = bnG S w v k j := by
        first
          | exact ⟨zif_t ⟨⟨zt_b1 c22, Classical.not_not.mp c36, Classical.not_not.mp c50⟩, Or.inl c66⟩, zif_f (fun h => h.2 (Or.inl c66))⟩
          | exact ⟨zif_t ⟨⟨zt_b1 c22, c36, c50⟩, Or.inl c66⟩, zif_f (fun h => h.2 (Or.inl c66))⟩
          | exact ⟨zif_t ⟨⟨zt_b1 c22, c36, c50⟩, Or.inr (Int32.not_le.mp c71)⟩, zif_f (fun h => h.2 (Or.inr (Int32.not_le.mp c71)))⟩
          | exact ⟨zif_f (fun h => h.2.elim c66 (Int32.not_lt.mpr c71)), zif_t ⟨⟨zt_b1 c22, c36, c50⟩, fun h => h.elim c66 (Int32.not_lt.mpr c71)⟩⟩
          | exact ⟨zif_f (fun h => by have q := h.1.1; rw [zt_b2 c22] at q; cases q), zif_f (fun h => by have q := h.1.1; rw [zt_b2 c22] at q; cases q)⟩
          | exact ⟨zif_f (fun h => c36 h.1.2.1), zif_f (fun h => c36 h.1.2.1)⟩
          | exact ⟨zif_f (fun h => c50 h.1.2.2), zif_f (fun h => c50 h.1.2.2)⟩
      refine Wz.less (lv' := [some (.ref (a 0)), some (.int (nI w)), some (.int v), some (.int k), some (.int (bnS S w v k (j + 1))), some (.int (bnG S w v k (j + 1))), some (.int (nI (j + 1))), none]) (by simp [zle, e9.1, e9.2]) ?_
      exact ihj
    ·
      refine z_aload_n X dX3_bonusFrom_25 rfl rfl ?_
      refine z_get X (C := RX3) (T := TX3) (N := 8) (ci := 3) (v := .ref (a 1)) inZ3 0 0 rfl rfl (by decide) q_fl_X3_12 rfl rfl dX3_bonusFrom_26 ?_
      refine z_get X (C := RX1) (T := TX1) (N := 10) (ci := 1) (v := .ref (a 15)) inZ1 1 7 rfl rfl (by decide) q_fl_X3_105 rfl rfl dX3_bonusFrom_29 ?_
      refine z_iload X dX3_bonusFrom_32 rfl ?_
      refine n_iald (f := S 7) X 15 rfl (by omega) (by decide) dX3_bonusFrom_34 ?_
      refine z_iload_n X dX3_bonusFrom_35 rfl rfl ?_
      refine z_icmp_ne (tgt := 93) X dX3_bonusFrom_36 (by decide) (fun c36 => ?_) (fun c36 => ?_)
      ·
        refine z_iinc (v := nI (j + 1)) X dX3_bonusFrom_93 rfl (nI_add j 1) ?_
        refine z_lv (lv' := [some (.ref (a 0)), some (.int (nI w)), some (.int v), some (.int k), some (.int (bnS S w v k j)), some (.int (bnG S w v k j)), some (.int (nI (j + 1))), none]) rfl ?_
        refine z_goto (tgt := 9) X dX3_bonusFrom_96 (by decide) ?_
        have e9 : bnS S w v k (j + 1) = bnS S w v k j ∧ bnG S w v k (j + 1) = bnG S w v k j := by
          first
            | exact ⟨zif_t ⟨⟨zt_b1 c22, Classical.not_not.mp c36, Classical.not_not.mp c50⟩, Or.inl c66⟩, zif_f (fun h => h.2 (Or.inl c66))⟩
            | exact ⟨zif_t ⟨⟨zt_b1 c22, c36, c50⟩, Or.inl c66⟩, zif_f (fun h => h.2 (Or.inl c66))⟩
            | exact ⟨zif_t ⟨⟨zt_b1 c22, c36, c50⟩, Or.inr (Int32.not_le.mp c71)⟩, zif_f (fun h => h.2 (Or.inr (Int32.not_le.mp c71)))⟩
            | exact ⟨zif_f (fun h => h.2.elim c66 (Int32.not_lt.mpr c71)), zif_t ⟨⟨zt_b1 c22, c36, c50⟩, fun h => h.elim c66 (Int32.not_lt.mpr c71)⟩⟩
            | exact ⟨zif_f (fun h => by have q := h.1.1; rw [zt_b2 c22] at q; cases q), zif_f (fun h => by have q := h.1.1; rw [zt_b2 c22] at q; cases q)⟩
            | exact ⟨zif_f (fun h => c36 h.1.2.1), zif_f (fun h => c36 h.1.2.1)⟩
            | exact ⟨zif_f (fun h => c50 h.1.2.2), zif_f (fun h => c50 h.1.2.2)⟩
        refine Wz.less (lv' := [some (.ref (a 0)), some (.int (nI w)), some (.int v), some (.int k), some (.int (bnS S w v k (j + 1))), some (.int (bnG S w v k (j + 1))), some (.int (nI (j + 1))), none]) (by simp [zle, e9.1, e9.2]) ?_
        exact ihj
      ·
        refine z_aload_n X dX3_bonusFrom_39 rfl rfl ?_
        refine z_get X (C := RX3) (T := TX3) (N := 8) (ci := 3) (v := .ref (a 1)) inZ3 0 0 rfl rfl (by decide) q_fl_X3_12 rfl rfl dX3_bonusFrom_40 ?_
        refine z_get X (C := RX1) (T := TX1) (N := 10) (ci := 1) (v := .ref (a 16)) inZ1 1 8 rfl rfl (by decide) q_fl_X3_108 rfl rfl dX3_bonusFrom_43 ?_
        refine z_iload X dX3_bonusFrom_46 rfl ?_
        refine n_iald (f := S 8) X 16 rfl (by omega) (by decide) dX3_bonusFrom_48 ?_
        refine z_iload_n X dX3_bonusFrom_49 rfl rfl ?_
        refine z_icmp_ne (tgt := 93) X dX3_bonusFrom_50 (by decide) (fun c50 => ?_) (fun c50 => ?_)
        ·
          refine z_iinc (v := nI (j + 1)) X dX3_bonusFrom_93 rfl (nI_add j 1) ?_
          refine z_lv (lv' := [some (.ref (a 0)), some (.int (nI w)), some (.int v), some (.int k), some (.int (bnS S w v k j)), some (.int (bnG S w v k j)), some (.int (nI (j + 1))), none]) rfl ?_
          refine z_goto (tgt := 9) X dX3_bonusFrom_96 (by decide) ?_
          have e9 : bnS S w v k (j + 1) = bnS S w v k j ∧ bnG S w v k (j + 1) = bnG S w v k j := by
            first
              | exact ⟨zif_t ⟨⟨zt_b1 c22, Classical.not_not.mp c36, Classical.not_not.mp c50⟩, Or.inl c66⟩, zif_f (fun h => h.2 (Or.inl c66))⟩
              | exact ⟨zif_t ⟨⟨zt_b1 c22, c36, c50⟩, Or.inl c66⟩, zif_f (fun h => h.2 (Or.inl c66))⟩
              | exact ⟨zif_t ⟨⟨zt_b1 c22, c36, c50⟩, Or.inr (Int32.not_le.mp c71)⟩, zif_f (fun h => h.2 (Or.inr (Int32.not_le.mp c71)))⟩
              | exact ⟨zif_f (fun h => h.2.elim c66 (Int32.not_lt.mpr c71)), zif_t ⟨⟨zt_b1 c22, c36, c50⟩, fun h => h.elim c66 (Int32.not_lt.mpr c71)⟩⟩
              | exact ⟨zif_f (fun h => by have q := h.1.1; rw [zt_b2 c22] at q; cases q), zif_f (fun h => by have q := h.1.1; rw [zt_b2 c22] at q; cases q)⟩
              | exact ⟨zif_f (fun h => c36 h.1.2.1), zif_f (fun h => c36 h.1.2.1)⟩
              | exact ⟨zif_f (fun h => c50 h.1.2.2), zif_f (fun h => c50 h.1.2.2)⟩
          refine Wz.less (lv' := [some (.ref (a 0)), some (.int (nI w)), some (.int v), some (.int k), some (.int (bnS S w v k (j + 1))), some (.int (bnG S w v k (j + 1))), some (.int (nI (j + 1))), none]) (by simp [zle, e9.1, e9.2]) ?_
          exact ihj
        ·
          refine z_aload_n X dX3_bonusFrom_53 rfl rfl ?_
          refine z_get X (C := RX3) (T := TX3) (N := 8) (ci := 3) (v := .ref (a 1)) inZ3 0 0 rfl rfl (by decide) q_fl_X3_12 rfl rfl dX3_bonusFrom_54 ?_
          refine z_get X (C := RX1) (T := TX1) (N := 10) (ci := 1) (v := .ref (a 17)) inZ1 1 9 rfl rfl (by decide) q_fl_X3_111 rfl rfl dX3_bonusFrom_57 ?_
          refine z_iload X dX3_bonusFrom_60 rfl ?_
          refine n_iald (f := S 9) X 17 rfl (by omega) (by decide) dX3_bonusFrom_62 ?_
          refine z_istore X dX3_bonusFrom_63 (Nat.le_of_ble_eq_true rfl) ?_
          refine z_lv (lv' := [some (.ref (a 0)), some (.int (nI w)), some (.int v), some (.int k), some (.int (bnS S w v k j)), some (.int (bnG S w v k j)), some (.int (nI j)), some (.int (S 9 j))]) rfl ?_
          refine z_iload_n X dX3_bonusFrom_65 rfl rfl ?_
          refine z_if_eq (tgt := 74) X dX3_bonusFrom_66 (by decide) (fun c66 => ?_) (fun c66 => ?_)
          ·
            refine z_iload X dX3_bonusFrom_74 rfl ?_
            refine z_iload X dX3_bonusFrom_76 rfl ?_
            refine z_iadd X dX3_bonusFrom_78 ?_
            refine z_istore X dX3_bonusFrom_79 (Nat.le_of_ble_eq_true rfl) ?_
            refine z_lv (lv' := [some (.ref (a 0)), some (.int (nI w)), some (.int v), some (.int k), some (.int ((bnS S w v k j) + (S 9 j))), some (.int (bnG S w v k j)), some (.int (nI j)), some (.int (S 9 j))]) rfl ?_
            refine z_goto (tgt := 93) X dX3_bonusFrom_81 (by decide) ?_
            refine z_iinc (v := nI (j + 1)) X dX3_bonusFrom_93 rfl (nI_add j 1) ?_
            refine z_lv (lv' := [some (.ref (a 0)), some (.int (nI w)), some (.int v), some (.int k), some (.int ((bnS S w v k j) + (S 9 j))), some (.int (bnG S w v k j)), some (.int (nI (j + 1))), some (.int (S 9 j))]) rfl ?_
            refine z_goto (tgt := 9) X dX3_bonusFrom_96 (by decide) ?_
            have e9 : bnS S w v k (j + 1) = (bnS S w v k j) + (S 9 j) ∧ bnG S w v k (j + 1) = bnG S w v k j := by
              first
                | exact ⟨zif_t ⟨⟨zt_b1 c22, Classical.not_not.mp c36, Classical.not_not.mp c50⟩, Or.inl c66⟩, zif_f (fun h => h.2 (Or.inl c66))⟩
                | exact ⟨zif_t ⟨⟨zt_b1 c22, c36, c50⟩, Or.inl c66⟩, zif_f (fun h => h.2 (Or.inl c66))⟩
                | exact ⟨zif_t ⟨⟨zt_b1 c22, c36, c50⟩, Or.inr (Int32.not_le.mp c71)⟩, zif_f (fun h => h.2 (Or.inr (Int32.not_le.mp c71)))⟩
                | exact ⟨zif_f (fun h => h.2.elim c66 (Int32.not_lt.mpr c71)), zif_t ⟨⟨zt_b1 c22, c36, c50⟩, fun h => h.elim c66 (Int32.not_lt.mpr c71)⟩⟩
                | exact ⟨zif_f (fun h => by have q := h.1.1; rw [zt_b2 c22] at q; cases q), zif_f (fun h => by have q := h.1.1; rw [zt_b2 c22] at q; cases q)⟩
                | exact ⟨zif_f (fun h => c36 h.1.2.1), zif_f (fun h => c36 h.1.2.1)⟩
                | exact ⟨zif_f (fun h => c50 h.1.2.2), zif_f (fun h => c50 h.1.2.2)⟩
            refine Wz.less (lv' := [some (.ref (a 0)), some (.int (nI w)), some (.int v), some (.int k), some (.int (bnS S w v k (j + 1))), some (.int (bnG S w v k (j + 1))), some (.int (nI (j + 1))), none]) (by simp [zle, e9.1, e9.2]) ?_
            exact ihj
          ·
            refine z_iload X dX3_bonusFrom_69 rfl ?_
            refine z_if_ge (tgt := 84) X dX3_bonusFrom_71 (by decide) (fun c71 => ?_) (fun c71 => ?_)
            ·
              refine z_iload X dX3_bonusFrom_84 rfl ?_
              refine z_iload X dX3_bonusFrom_86 rfl ?_
              refine z_callS1 (k := 0) (n := 0) (st := []) X (c_J9_max_7cf53 l D t (bnG S w v k j) (S 9 j)) k_J9_max_7cf53 q_ml_X3_227 [] ⟨by decide, rfl⟩ (by decide) rfl rfl rfl (Nat.le_of_ble_eq_true rfl) ⟨Nat.zero_le _, Nat.zero_le _⟩ dX3_bonusFrom_88 (fun r88 h88 => ?_)
              subst h88
              refine z_istore X dX3_bonusFrom_91 (Nat.le_of_ble_eq_true rfl) ?_
              refine z_lv (lv' := [some (.ref (a 0)), some (.int (nI w)), some (.int v), some (.int k), some (.int (bnS S w v k j)), some (.int (if bnG S w v k j < S 9 j then S 9 j else bnG S w v k j)), some (.int (nI j)), some (.int (S 9 j))]) rfl ?_
              refine z_iinc (v := nI (j + 1)) X dX3_bonusFrom_93 rfl (nI_add j 1) ?_
              refine z_lv (lv' := [some (.ref (a 0)), some (.int (nI w)), some (.int v), some (.int k), some (.int (bnS S w v k j)), some (.int (if bnG S w v k j < S 9 j then S 9 j else bnG S w v k j)), some (.int (nI (j + 1))), some (.int (S 9 j))]) rfl ?_
              refine z_goto (tgt := 9) X dX3_bonusFrom_96 (by decide) ?_
              have e9 : bnS S w v k (j + 1) = bnS S w v k j ∧ bnG S w v k (j + 1) = (if bnG S w v k j < S 9 j then S 9 j else bnG S w v k j) := by
                first
                  | exact ⟨zif_t ⟨⟨zt_b1 c22, Classical.not_not.mp c36, Classical.not_not.mp c50⟩, Or.inl c66⟩, zif_f (fun h => h.2 (Or.inl c66))⟩
                  | exact ⟨zif_t ⟨⟨zt_b1 c22, c36, c50⟩, Or.inl c66⟩, zif_f (fun h => h.2 (Or.inl c66))⟩
                  | exact ⟨zif_t ⟨⟨zt_b1 c22, c36, c50⟩, Or.inr (Int32.not_le.mp c71)⟩, zif_f (fun h => h.2 (Or.inr (Int32.not_le.mp c71)))⟩
                  | exact ⟨zif_f (fun h => h.2.elim c66 (Int32.not_lt.mpr c71)), zif_t ⟨⟨zt_b1 c22, c36, c50⟩, fun h => h.elim c66 (Int32.not_lt.mpr c71)⟩⟩
                  | exact ⟨zif_f (fun h => by have q := h.1.1; rw [zt_b2 c22] at q; cases q), zif_f (fun h => by have q := h.1.1; rw [zt_b2 c22] at q; cases q)⟩
                  | exact ⟨zif_f (fun h => c36 h.1.2.1), zif_f (fun h => c36 h.1.2.1)⟩
                  | exact ⟨zif_f (fun h => c50 h.1.2.2), zif_f (fun h => c50 h.1.2.2)⟩
              refine Wz.less (lv' := [some (.ref (a 0)), some (.int (nI w)), some (.int v), some (.int k), some (.int (bnS S w v k (j + 1))), some (.int (bnG S w v k (j + 1))), some (.int (nI (j + 1))), none]) (by simp [zle, e9.1, e9.2]) ?_
              exact ihj
            ·
              refine z_iload X dX3_bonusFrom_74 rfl ?_
              refine z_iload X dX3_bonusFrom_76 rfl ?_
              refine z_iadd X dX3_bonusFrom_78 ?_
              refine z_istore X dX3_bonusFrom_79 (Nat.le_of_ble_eq_true rfl) ?_
              refine z_lv (lv' := [some (.ref (a 0)), some (.int (nI w)), some (.int v), some (.int k), some (.int ((bnS S w v k j) + (S 9 j))), some (.int (bnG S w v k j)), some (.int (nI j)), some (.int (S 9 j))]) rfl ?_
              refine z_goto (tgt := 93) X dX3_bonusFrom_81 (by decide) ?_
              refine z_iinc (v := nI (j + 1)) X dX3_bonusFrom_93 rfl (nI_add j 1) ?_
              refine z_lv (lv' := [some (.ref (a 0)), some (.int (nI w)), some (.int v), some (.int k), some (.int ((bnS S w v k j) + (S 9 j))), some (.int (bnG S w v k j)), some (.int (nI (j + 1))), some (.int (S 9 j))]) rfl ?_
              refine z_goto (tgt := 9) X dX3_bonusFrom_96 (by decide) ?_
              have e9 : bnS S w v k (j + 1) = (bnS S w v k j) + (S 9 j) ∧ bnG S w v k (j + 1) = bnG S w v k j := by
                first
                  | exact ⟨zif_t ⟨⟨zt_b1 c22, Classical.not_not.mp c36, Classical.not_not.mp c50⟩, Or.inl c66⟩, zif_f (fun h => h.2 (Or.inl c66))⟩
                  | exact ⟨zif_t ⟨⟨zt_b1 c22, c36, c50⟩, Or.inl c66⟩, zif_f (fun h => h.2 (Or.inl c66))⟩
                  | exact ⟨zif_t ⟨⟨zt_b1 c22, c36, c50⟩, Or.inr (Int32.not_le.mp c71)⟩, zif_f (fun h => h.2 (Or.inr (Int32.not_le.mp c71)))⟩
                  | exact ⟨zif_f (fun h => h.2.elim c66 (Int32.not_lt.mpr c71)), zif_t ⟨⟨zt_b1 c22, c36, c50⟩, fun h => h.elim c66 (Int32.not_lt.mpr c71)⟩⟩
                  | exact ⟨zif_f (fun h => by have q := h.1.1; rw [zt_b2 c22] at q; cases q), zif_f (fun h => by have q := h.1.1; rw [zt_b2 c22] at q; cases q)⟩
                  | exact ⟨zif_f (fun h => c36 h.1.2.1), zif_f (fun h => c36 h.1.2.1)⟩
                  | exact ⟨zif_f (fun h => c50 h.1.2.2), zif_f (fun h => c50 h.1.2.2)⟩
              refine Wz.less (lv' := [some (.ref (a 0)), some (.int (nI w)), some (.int v), some (.int k), some (.int (bnS S w v k (j + 1))), some (.int (bnG S w v k (j + 1))), some (.int (nI (j + 1))), none]) (by simp [zle, e9.1, e9.2]) ?_
              exact ihj
end
section
set_option maxHeartbeats 4000000 in
set_option maxRecDepth 100000 in
theorem c_X3_sumOf_0 (l : Launch) (D : va_G) (t : ClassId × ClassId × ClassId) (a : Nat → Nat) (S : zS) (w : Nat) (hw : w < 256) (hI : zI S) (c : Int32) (hc : zo c 6) : zM1 l yX3_sumOf cX3_sumOf 6 (some .int) 2 D t [.ref (a 0), .int c, .int (nI w), .int (nI 6)] (wR t a S) (fun r => r = vl S (S 15) w 0 c) := by
  refine z_m1 (by decide +kernel) (Nat.le_of_ble_eq_true rfl) (by simp [Value.category]) ?_
  intro E X Z
  refine z_lv (lv' := [some (.ref (a 0)), some (.int c), some (.int (nI w)), some (.int (nI 6)), none, none]) rfl ?_
  rcases hc with rfl | ⟨k, hk, rfl⟩
  ·
    refine z_iload_n X dX3_sumOf_0 rfl rfl ?_
    refine z_bipush (v := nI 6) X dX3_sumOf_1 (by decide) ?_
    refine z_callS1 (k := 0) (n := 0) (st := []) X (c_X3_isAmong_m l D t 6) k_X3_isAmong q_ml_X3_53 [] ⟨by decide, rfl⟩ (by decide) rfl rfl rfl (Nat.le_of_ble_eq_true rfl) ⟨Nat.zero_le _, Nat.zero_le _⟩ dX3_sumOf_3 (fun r3 h3 => ?_)
    subst h3
    refine n_if_eq (tgt := 15) X dX3_sumOf_6 (by decide) (by omega) (fun _ => ?_) (fun c6 => absurd c6 (by decide))
    refine z_iconst (v := nI 0) X dX3_sumOf_15 (by decide) ?_
    refine z_iret X Z rfl dX3_sumOf_16 ?_
    exact ⟨(), rfl, fun _ _ => trivial⟩
  ·
    refine z_iload_n X dX3_sumOf_0 rfl rfl ?_
    refine z_bipush (v := nI 6) X dX3_sumOf_1 (by decide) ?_
    refine z_callS1 (k := 0) (n := 0) (st := []) X (c_X3_isAmong l D t k 6 (by omega) (by decide)) k_X3_isAmong q_ml_X3_53 [] ⟨by decide, rfl⟩ (by decide) rfl rfl rfl (Nat.le_of_ble_eq_true rfl) ⟨Nat.zero_le _, Nat.zero_le _⟩ dX3_sumOf_3 (fun r3 h3 => ?_)
    rcases h3 with ⟨rfl, h3⟩ | ⟨rfl, h3⟩
    rotate_left
    · exact absurd (by omega) h3
    refine n_if_eq (tgt := 15) X dX3_sumOf_6 (by decide) (by omega) (fun c6 => absurd c6 (by decide)) (fun _ => ?_)
    refine z_iload_n X dX3_sumOf_9 rfl rfl ?_
    refine z_bipush (v := nI 6) X dX3_sumOf_10 (by decide) ?_
    refine n_icmp_lt (tgt := 17) X dX3_sumOf_12 (by decide) (by omega) (by omega) (fun c12 => absurd c12 (by decide)) (fun _ => ?_)
    refine z_iconst (v := nI 0) X dX3_sumOf_15 (by decide) ?_
    refine z_iret X Z rfl dX3_sumOf_16 ?_
    exact ⟨(), rfl, fun _ _ => trivial⟩
set_option maxHeartbeats 4000000 in
set_option maxRecDepth 100000 in
theorem c_X3_sumOf_s (l : Launch) (D : va_G) (t : ClassId × ClassId × ClassId) (a : Nat → Nat) (S : zS) (w : Nat) (hw : w < 256) (hI : zI S) (m : Nat) (hm : m ≤ 5) (ih : ∀ c, zo c 6 → zM1 l yX3_sumOf cX3_sumOf 6 (some .int) (m + 2) D t [.ref (a 0), .int c, .int (nI w), .int (nI (6 - m))] (wR t a S) (fun r => r = vl S (S 15) w m c)) (c : Int32) (hc : zo c 6) : zM1 l yX3_sumOf cX3_sumOf 6 (some .int) (m + 3) D t [.ref (a 0), .int c, .int (nI w), .int (nI (5 - m))] (wR t a S) (fun r => r = vl S (S 15) w (m + 1) c) := by
  refine z_m1 (by decide +kernel) (Nat.le_of_ble_eq_true rfl) (by simp [Value.category]) ?_
  intro E X Z
  refine z_lv (lv' := [some (.ref (a 0)), some (.int c), some (.int (nI w)), some (.int (nI (5 - m))), none, none]) rfl ?_
  rcases hc with rfl | ⟨k, hk, rfl⟩
  ·
    refine z_iload_n X dX3_sumOf_0 rfl rfl ?_
    refine z_bipush (v := nI 6) X dX3_sumOf_1 (by decide) ?_
    refine z_callS1 (k := 0) (n := 0) (st := []) X (c_X3_isAmong_m l D t 6) k_X3_isAmong q_ml_X3_53 [] ⟨by decide, rfl⟩ (by omega) rfl rfl rfl (Nat.le_of_ble_eq_true rfl) ⟨Nat.zero_le _, Nat.zero_le _⟩ dX3_sumOf_3 (fun r3 h3 => ?_)
    subst h3
    refine n_if_eq (tgt := 15) X dX3_sumOf_6 (by decide) (by omega) (fun _ => ?_) (fun c6 => absurd c6 (by decide))
    refine z_iconst (v := nI 0) X dX3_sumOf_15 (by decide) ?_
    refine z_iret X Z rfl dX3_sumOf_16 ?_
    exact ⟨(), rfl, fun _ _ => trivial⟩
  ·
    refine z_iload_n X dX3_sumOf_0 rfl rfl ?_
    refine z_bipush (v := nI 6) X dX3_sumOf_1 (by decide) ?_
    refine z_callS1 (k := 0) (n := 0) (st := []) X (c_X3_isAmong l D t k 6 (by omega) (by decide)) k_X3_isAmong q_ml_X3_53 [] ⟨by decide, rfl⟩ (by omega) rfl rfl rfl (Nat.le_of_ble_eq_true rfl) ⟨Nat.zero_le _, Nat.zero_le _⟩ dX3_sumOf_3 (fun r3 h3 => ?_)
    rcases h3 with ⟨rfl, h3⟩ | ⟨rfl, h3⟩
    rotate_left
    · exact absurd (by omega) h3
    refine n_if_eq (tgt := 15) X dX3_sumOf_6 (by decide) (by omega) (fun c6 => absurd c6 (by decide)) (fun _ => ?_)
    refine z_iload_n X dX3_sumOf_9 rfl rfl ?_
    refine z_bipush (v := nI 6) X dX3_sumOf_10 (by decide) ?_
    refine n_icmp_lt (tgt := 17) X dX3_sumOf_12 (by decide) (by omega) (by omega) (fun c12 => ?_) (fun c12 => absurd c12 (by omega))
    refine z_aload_n X dX3_sumOf_17 rfl rfl ?_
    refine z_get X (C := RX3) (T := TX3) (N := 8) (ci := 3) (v := .ref (a 2)) inZ3 0 1 rfl rfl (by decide) q_fl_X3_19 rfl rfl dX3_sumOf_18 ?_
    refine z_get X (C := RX2) (T := TX2) (N := 4) (ci := 2) (v := .ref (a 18)) inZ2 2 0 rfl rfl (by decide) q_fl_X3_118 rfl rfl dX3_sumOf_21 ?_
    refine z_iload_n X dX3_sumOf_24 rfl rfl ?_
    refine n_iald (f := S 10) X 18 rfl (by omega) (by decide) dX3_sumOf_25 ?_
    refine z_aload_n X dX3_sumOf_26 rfl rfl ?_
    refine z_aload_n X dX3_sumOf_27 rfl rfl ?_
    refine z_get X (C := RX3) (T := TX3) (N := 8) (ci := 3) (v := .ref (a 2)) inZ3 0 1 rfl rfl (by decide) q_fl_X3_19 rfl rfl dX3_sumOf_28 ?_
    refine z_get X (C := RX2) (T := TX2) (N := 4) (ci := 2) (v := .ref (a 19)) inZ2 2 1 rfl rfl (by decide) q_fl_X3_121 rfl rfl dX3_sumOf_31 ?_
    refine z_iload_n X dX3_sumOf_34 rfl rfl ?_
    refine n_iald (f := S 11) X 19 rfl (by omega) (by decide) dX3_sumOf_35 ?_
    refine z_callV1 (k := 0) (n := 0) (st := [.int (S 10 k)]) X (c_X3_modifierOf l D t a S (S 11 k) (hI.2.2.2.2.2.1 k hk)) k_X3_modifierOf q_ml_X3_251 is24 ⟨by decide, rfl⟩ 0 3 rfl rfl (by omega) rfl rfl rfl (Nat.le_of_ble_eq_true rfl) ⟨Nat.zero_le _, Nat.zero_le _⟩ dX3_sumOf_36 (fun r36 h36 => ?_)
    subst h36
    refine z_iadd X dX3_sumOf_39 ?_
    refine z_aload_n X dX3_sumOf_40 rfl rfl ?_
    refine z_get X (C := RX3) (T := TX3) (N := 8) (ci := 3) (v := .ref (a 4)) inZ3 0 3 rfl rfl (by decide) q_fl_X3_30 rfl rfl dX3_sumOf_41 ?_
    refine z_aload_n X dX3_sumOf_44 rfl rfl ?_
    refine z_get X (C := RX3) (T := TX3) (N := 8) (ci := 3) (v := .ref (a 2)) inZ3 0 1 rfl rfl (by decide) q_fl_X3_19 rfl rfl dX3_sumOf_45 ?_
    refine z_get X (C := RX2) (T := TX2) (N := 4) (ci := 2) (v := .ref (a 20)) inZ2 2 2 rfl rfl (by decide) q_fl_X3_122 rfl rfl dX3_sumOf_48 ?_
    refine z_iload_n X dX3_sumOf_51 rfl rfl ?_
    refine n_iald (f := S 12) X 20 rfl (by omega) (by decide) dX3_sumOf_52 ?_
    refine z_callV1 (k := 0) (n := 0) (st := [.int ((S 10 k) + (md S (S 11 k)))]) X (c_X0_levelIn l D t (a 4) (a 22) (S 12 k) (S 18 0) (S 15) (hI.2.2.2.2.2.2.1 k hk)) k_X0_levelIn q_ml_X3_188 [4, 22] ⟨by decide, rfl⟩ 4 0 rfl rfl (by omega) rfl rfl rfl (Nat.le_of_ble_eq_true rfl) ⟨Nat.zero_le _, Nat.zero_le _⟩ dX3_sumOf_53 (fun r53 h53 => ?_)
    subst h53
    refine z_iadd X dX3_sumOf_56 ?_
    refine z_aload_n X dX3_sumOf_57 rfl rfl ?_
    refine z_aload_n X dX3_sumOf_58 rfl rfl ?_
    refine z_get X (C := RX3) (T := TX3) (N := 8) (ci := 3) (v := .ref (a 2)) inZ3 0 1 rfl rfl (by decide) q_fl_X3_19 rfl rfl dX3_sumOf_59 ?_
    refine z_get X (C := RX2) (T := TX2) (N := 4) (ci := 2) (v := .ref (a 21)) inZ2 2 3 rfl rfl (by decide) q_fl_X3_123 rfl rfl dX3_sumOf_62 ?_
    refine z_iload_n X dX3_sumOf_65 rfl rfl ?_
    refine n_iald (f := S 13) X 21 rfl (by omega) (by decide) dX3_sumOf_66 ?_
    refine z_iload_n X dX3_sumOf_67 rfl rfl ?_
    refine z_iload_n X dX3_sumOf_68 rfl rfl ?_
    refine z_iconst (v := nI 1) X dX3_sumOf_69 (by decide) ?_
    refine n_iadd X dX3_sumOf_70 ?_
    refine z_top (y := nI (6 - m)) (by congr 1; omega) ?_
    refine z_callV1 (k := 0) (n := 0) (st := [.int (((S 10 k) + (md S (S 11 k))) + (lvv (S 15) (S 12 k)))]) X (ih (S 13 k) (hI.2.2.2.2.2.2.2 k hk)) k_X3_sumOf q_ml_X3_204 is24 ⟨by decide, rfl⟩ 0 3 rfl rfl (by omega) rfl rfl rfl (Nat.le_of_ble_eq_true rfl) ⟨Nat.zero_le _, Nat.zero_le _⟩ dX3_sumOf_71 (fun r71 h71 => ?_)
    subst h71
    refine z_iconst (v := nI 2) X dX3_sumOf_74 (by decide) ?_
    refine z_callS1 (k := 0) (n := 0) (st := [.int (((S 10 k) + (md S (S 11 k))) + (lvv (S 15) (S 12 k)))]) X (c_J9_floorDiv_7cf53 l D t (vl S (S 15) w m (S 13 k))) k_J9_floorDiv_7cf53 q_ml_X3_233 [] ⟨by decide, rfl⟩ (by omega) rfl rfl rfl (Nat.le_of_ble_eq_true rfl) ⟨Nat.zero_le _, Nat.zero_le _⟩ dX3_sumOf_75 (fun r75 h75 => ?_)
    subst h75
    refine z_iadd X dX3_sumOf_78 ?_
    refine z_istore X dX3_sumOf_79 (Nat.le_of_ble_eq_true rfl) ?_
    refine z_lv (lv' := [some (.ref (a 0)), some (.int (nI k)), some (.int (nI w)), some (.int (nI (5 - m))), some (.int ((((S 10 k) + (md S (S 11 k))) + (lvv (S 15) (S 12 k))) + (hlf (vl S (S 15) w m (S 13 k))))), none]) rfl ?_
    refine z_iconst (v := nI 0) X dX3_sumOf_81 (by decide) ?_
    refine z_istore X dX3_sumOf_82 (Nat.le_of_ble_eq_true rfl) ?_
    refine z_lv (lv' := [some (.ref (a 0)), some (.int (nI k)), some (.int (nI w)), some (.int (nI (5 - m))), some (.int ((((S 10 k) + (md S (S 11 k))) + (lvv (S 15) (S 12 k))) + (hlf (vl S (S 15) w m (S 13 k))))), some (.int (nI 0))]) rfl ?_
    refine z_iload X dX3_sumOf_84 rfl ?_
    refine z_iconst (v := nI 4) X dX3_sumOf_86 (by decide) ?_
    refine n_icmp_ge (tgt := 109) X dX3_sumOf_87 (by decide) (by omega) (by omega) (fun c87 => absurd c87 (by decide)) (fun _ => ?_)
    refine z_iload X dX3_sumOf_90 rfl ?_
    refine z_aload_n X dX3_sumOf_92 rfl rfl ?_
    refine z_iload_n X dX3_sumOf_93 rfl rfl ?_
    refine z_iload_n X dX3_sumOf_94 rfl rfl ?_
    refine z_iload X dX3_sumOf_95 rfl ?_
    refine z_callV1 (k := 0) (n := 0) (st := [.int ((((S 10 k) + (md S (S 11 k))) + (lvv (S 15) (S 12 k))) + (hlf (vl S (S 15) w m (S 13 k))))]) X (c_X3_bonusFrom l D t a S w (nI k) (nI 0) hw) k_X3_bonusFrom q_ml_X3_210 is24 ⟨by decide, rfl⟩ 0 3 rfl rfl (by omega) rfl rfl rfl (Nat.le_of_ble_eq_true rfl) ⟨Nat.zero_le _, Nat.zero_le _⟩ dX3_sumOf_97 (fun r97 h97 => ?_)
    subst h97
    refine z_iadd X dX3_sumOf_100 ?_
    refine z_istore X dX3_sumOf_101 (Nat.le_of_ble_eq_true rfl) ?_
    refine z_lv (lv' := [some (.ref (a 0)), some (.int (nI k)), some (.int (nI w)), some (.int (nI (5 - m))), some (.int (((((S 10 k) + (md S (S 11 k))) + (lvv (S 15) (S 12 k))) + (hlf (vl S (S 15) w m (S 13 k)))) + (bn S w (nI k) (nI 0)))), some (.int (nI 0))]) rfl ?_
    refine z_iinc (v := nI 1) X dX3_sumOf_103 rfl (by decide) ?_
    refine z_lv (lv' := [some (.ref (a 0)), some (.int (nI k)), some (.int (nI w)), some (.int (nI (5 - m))), some (.int (((((S 10 k) + (md S (S 11 k))) + (lvv (S 15) (S 12 k))) + (hlf (vl S (S 15) w m (S 13 k)))) + (bn S w (nI k) (nI 0)))), some (.int (nI 1))]) rfl ?_
    refine z_goto (tgt := 84) X dX3_sumOf_106 (by decide) ?_
    refine z_iload X dX3_sumOf_84 rfl ?_
    refine z_iconst (v := nI 4) X dX3_sumOf_86 (by decide) ?_
    refine n_icmp_ge (tgt := 109) X dX3_sumOf_87 (by decide) (by omega) (by omega) (fun c87 => absurd c87 (by decide)) (fun _ => ?_)
    refine z_iload X dX3_sumOf_90 rfl ?_
    refine z_aload_n X dX3_sumOf_92 rfl rfl ?_
    refine z_iload_n X dX3_sumOf_93 rfl rfl ?_
    refine z_iload_n X dX3_sumOf_94 rfl rfl ?_
    refine z_iload X dX3_sumOf_95 rfl ?_
    refine z_callV1 (k := 0) (n := 0) (st := [.int (((((S 10 k) + (md S (S 11 k))) + (lvv (S 15) (S 12 k))) + (hlf (vl S (S 15) w m (S 13 k)))) + (bn S w (nI k) (nI 0)))]) X (c_X3_bonusFrom l D t a S w (nI k) (nI 1) hw) k_X3_bonusFrom q_ml_X3_210 is24 ⟨by decide, rfl⟩ 0 3 rfl rfl (by omega) rfl rfl rfl (Nat.le_of_ble_eq_true rfl) ⟨Nat.zero_le _, Nat.zero_le _⟩ dX3_sumOf_97 (fun r97 h97 => ?_)
    subst h97
    refine z_iadd X dX3_sumOf_100 ?_
    refine z_istore X dX3_sumOf_101 (Nat.le_of_ble_eq_true rfl) ?_
    refine z_lv (lv' := [some (.ref (a 0)), some (.int (nI k)), some (.int (nI w)), some (.int (nI (5 - m))), some (.int ((((((S 10 k) + (md S (S 11 k))) + (lvv (S 15) (S 12 k))) + (hlf (vl S (S 15) w m (S 13 k)))) + (bn S w (nI k) (nI 0))) + (bn S w (nI k) (nI 1)))), some (.int (nI 1))]) rfl ?_
    refine z_iinc (v := nI 2) X dX3_sumOf_103 rfl (by decide) ?_
    refine z_lv (lv' := [some (.ref (a 0)), some (.int (nI k)), some (.int (nI w)), some (.int (nI (5 - m))), some (.int ((((((S 10 k) + (md S (S 11 k))) + (lvv (S 15) (S 12 k))) + (hlf (vl S (S 15) w m (S 13 k)))) + (bn S w (nI k) (nI 0))) + (bn S w (nI k) (nI 1)))), some (.int (nI 2))]) rfl ?_
    refine z_goto (tgt := 84) X dX3_sumOf_106 (by decide) ?_
    refine z_iload X dX3_sumOf_84 rfl ?_
    refine z_iconst (v := nI 4) X dX3_sumOf_86 (by decide) ?_
    refine n_icmp_ge (tgt := 109) X dX3_sumOf_87 (by decide) (by omega) (by omega) (fun c87 => absurd c87 (by decide)) (fun _ => ?_)
    refine z_iload X dX3_sumOf_90 rfl ?_
    refine z_aload_n X dX3_sumOf_92 rfl rfl ?_
    refine z_iload_n X dX3_sumOf_93 rfl rfl ?_
    refine z_iload_n X dX3_sumOf_94 rfl rfl ?_
    refine z_iload X dX3_sumOf_95 rfl ?_
    refine z_callV1 (k := 0) (n := 0) (st := [.int ((((((S 10 k) + (md S (S 11 k))) + (lvv (S 15) (S 12 k))) + (hlf (vl S (S 15) w m (S 13 k)))) + (bn S w (nI k) (nI 0))) + (bn S w (nI k) (nI 1)))]) X (c_X3_bonusFrom l D t a S w (nI k) (nI 2) hw) k_X3_bonusFrom q_ml_X3_210 is24 ⟨by decide, rfl⟩ 0 3 rfl rfl (by omega) rfl rfl rfl (Nat.le_of_ble_eq_true rfl) ⟨Nat.zero_le _, Nat.zero_le _⟩ dX3_sumOf_97 (fun r97 h97 => ?_)
    subst h97
    refine z_iadd X dX3_sumOf_100 ?_
    refine z_istore X dX3_sumOf_101 (Nat.le_of_ble_eq_true rfl) ?_
    refine z_lv (lv' := [some (.ref (a 0)), some (.int (nI k)), some (.int (nI w)), some (.int (nI (5 - m))), some (.int (((((((S 10 k) + (md S (S 11 k))) + (lvv (S 15) (S 12 k))) + (hlf (vl S (S 15) w m (S 13 k)))) + (bn S w (nI k) (nI 0))) + (bn S w (nI k) (nI 1))) + (bn S w (nI k) (nI 2)))), some (.int (nI 2))]) rfl ?_
    refine z_iinc (v := nI 3) X dX3_sumOf_103 rfl (by decide) ?_
    refine z_lv (lv' := [some (.ref (a 0)), some (.int (nI k)), some (.int (nI w)), some (.int (nI (5 - m))), some (.int (((((((S 10 k) + (md S (S 11 k))) + (lvv (S 15) (S 12 k))) + (hlf (vl S (S 15) w m (S 13 k)))) + (bn S w (nI k) (nI 0))) + (bn S w (nI k) (nI 1))) + (bn S w (nI k) (nI 2)))), some (.int (nI 3))]) rfl ?_
    refine z_goto (tgt := 84) X dX3_sumOf_106 (by decide) ?_
    refine z_iload X dX3_sumOf_84 rfl ?_
    refine z_iconst (v := nI 4) X dX3_sumOf_86 (by decide) ?_
    refine n_icmp_ge (tgt := 109) X dX3_sumOf_87 (by decide) (by omega) (by omega) (fun c87 => absurd c87 (by decide)) (fun _ => ?_)
    refine z_iload X dX3_sumOf_90 rfl ?_
    refine z_aload_n X dX3_sumOf_92 rfl rfl ?_
    refine z_iload_n X dX3_sumOf_93 rfl rfl ?_
    refine z_iload_n X dX3_sumOf_94 rfl rfl ?_
    refine z_iload X dX3_sumOf_95 rfl ?_
    refine z_callV1 (k := 0) (n := 0) (st := [.int (((((((S 10 k) + (md S (S 11 k))) + (lvv (S 15) (S 12 k))) + (hlf (vl S (S 15) w m (S 13 k)))) + (bn S w (nI k) (nI 0))) + (bn S w (nI k) (nI 1))) + (bn S w (nI k) (nI 2)))]) X (c_X3_bonusFrom l D t a S w (nI k) (nI 3) hw) k_X3_bonusFrom q_ml_X3_210 is24 ⟨by decide, rfl⟩ 0 3 rfl rfl (by omega) rfl rfl rfl (Nat.le_of_ble_eq_true rfl) ⟨Nat.zero_le _, Nat.zero_le _⟩ dX3_sumOf_97 (fun r97 h97 => ?_)
    subst h97
    refine z_iadd X dX3_sumOf_100 ?_
    refine z_istore X dX3_sumOf_101 (Nat.le_of_ble_eq_true rfl) ?_
    refine z_lv (lv' := [some (.ref (a 0)), some (.int (nI k)), some (.int (nI w)), some (.int (nI (5 - m))), some (.int ((((((((S 10 k) + (md S (S 11 k))) + (lvv (S 15) (S 12 k))) + (hlf (vl S (S 15) w m (S 13 k)))) + (bn S w (nI k) (nI 0))) + (bn S w (nI k) (nI 1))) + (bn S w (nI k) (nI 2))) + (bn S w (nI k) (nI 3)))), some (.int (nI 3))]) rfl ?_
    refine z_iinc (v := nI 4) X dX3_sumOf_103 rfl (by decide) ?_
    refine z_lv (lv' := [some (.ref (a 0)), some (.int (nI k)), some (.int (nI w)), some (.int (nI (5 - m))), some (.int ((((((((S 10 k) + (md S (S 11 k))) + (lvv (S 15) (S 12 k))) + (hlf (vl S (S 15) w m (S 13 k)))) + (bn S w (nI k) (nI 0))) + (bn S w (nI k) (nI 1))) + (bn S w (nI k) (nI 2))) + (bn S w (nI k) (nI 3)))), some (.int (nI 4))]) rfl ?_
    refine z_goto (tgt := 84) X dX3_sumOf_106 (by decide) ?_
    refine z_iload X dX3_sumOf_84 rfl ?_
    refine z_iconst (v := nI 4) X dX3_sumOf_86 (by decide) ?_
    refine n_icmp_ge (tgt := 109) X dX3_sumOf_87 (by decide) (by omega) (by omega) (fun _ => ?_) (fun c87 => absurd c87 (by decide))
    refine z_iload X dX3_sumOf_109 rfl ?_
    refine z_iret X Z rfl dX3_sumOf_111 ?_
    exact ⟨(), by
        show _ = if nI k = -1 then _ else _
        rw [if_neg (zn_m1 k (by omega)), nI_clamp (by omega)], fun _ _ => trivial⟩
theorem c_X3_sumOf (l : Launch) (D : va_G) (t : ClassId × ClassId × ClassId) (a : Nat → Nat) (S : zS) (w : Nat) (hw : w < 256) (hI : zI S) : ∀ m, m ≤ 6 → ∀ c, zo c 6 → zM1 l yX3_sumOf cX3_sumOf 6 (some .int) (m + 2) D t [.ref (a 0), .int c, .int (nI w), .int (nI (6 - m))] (wR t a S) (fun r => r = vl S (S 15) w m c)
  | 0, _, c, hc => c_X3_sumOf_0 l D t a S w hw hI c hc
  | m + 1, hm, c, hc => by
    have h := c_X3_sumOf_s l D t a S w hw hI m (by omega) (fun c hc => c_X3_sumOf l D t a S w hw hI m (by omega) c hc) c hc
    rw [show 5 - m = 6 - (m + 1) by omega] at h
    exact h
set_option maxHeartbeats 4000000 in
set_option maxRecDepth 100000 in
theorem c_X3_leadsIntoRing (l : Launch) (D : va_G) (t : ClassId × ClassId × ClassId) (a : Nat → Nat) (S : zS) (v : Nat) (hv : v < 6) (hI : zI S) : zM1 l yX3_leadsIntoRing cX3_leadsIntoRing 4 (some .boolean) 1 D t [.ref (a 0), .int (nI v)] (wR t a S) (fun r => bz r (¬ ch S (nI v) 6 = -1)) := by
  refine z_m1 (by decide +kernel) (Nat.le_of_ble_eq_true rfl) (by simp [Value.category]) ?_
  intro E X Z
  refine z_lv (lv' := [some (.ref (a 0)), some (.int (nI v)), none, none]) rfl ?_
  refine z_iload_n X dX3_leadsIntoRing_0 rfl rfl ?_
  refine z_istore_n X dX3_leadsIntoRing_1 rfl (Nat.le_of_ble_eq_true rfl) ?_
  refine z_lv (lv' := [some (.ref (a 0)), some (.int (nI v)), some (.int (nI v)), none]) rfl ?_
  refine z_iconst (v := nI 0) X dX3_leadsIntoRing_2 (by decide) ?_
  refine z_istore_n X dX3_leadsIntoRing_3 rfl (Nat.le_of_ble_eq_true rfl) ?_
  refine z_lv (lv' := [some (.ref (a 0)), some (.int (nI v)), some (.int (nI v)), some (.int (nI 0))]) rfl ?_
  refine z_lv (lv' := [some (.ref (a 0)), some (.int (nI v)), some (.int (ch S (nI v) 0)), some (.int (nI 0))]) rfl ?_
  refine zl_up 6 (fun i => Wz E 0 0 4 [some (.ref (a 0)), some (.int (nI v)), some (.int (ch S (nI v) i)), some (.int (nI i))] [] (wR t a S)) ?_ ?_ 0 (by omega)
  ·
    refine z_iload_n X dX3_leadsIntoRing_4 rfl rfl ?_
    refine z_bipush (v := nI 6) X dX3_leadsIntoRing_5 (by decide) ?_
    refine n_icmp_ge (tgt := 35) X dX3_leadsIntoRing_7 (by decide) (by omega) (by omega) (fun _ => ?_) (fun c7 => absurd c7 (by decide))
    rcases ch_zo hI.2.2.2.2.2.2.2 (Or.inr ⟨v, hv, rfl⟩) 6 with h0 | ⟨k, hk, h0⟩
    ·
      rw [h0]
      refine z_iload_n X dX3_leadsIntoRing_35 rfl rfl ?_
      refine z_bipush (v := nI 6) X dX3_leadsIntoRing_36 (by decide) ?_
      refine z_callS1 (k := 0) (n := 0) (st := []) X (c_X3_isAmong_m l D t 6) k_X3_isAmong q_ml_X3_53 [] ⟨by decide, rfl⟩ (by decide) rfl rfl rfl (Nat.le_of_ble_eq_true rfl) ⟨Nat.zero_le _, Nat.zero_le _⟩ dX3_leadsIntoRing_38 (fun r38 h38 => ?_)
      subst h38
      refine z_iret X Z (by decide +kernel) dX3_leadsIntoRing_41 ?_
      exact ⟨(), bz_f (fun h => h h0), fun _ _ => trivial⟩
    ·
      rw [h0]
      refine z_iload_n X dX3_leadsIntoRing_35 rfl rfl ?_
      refine z_bipush (v := nI 6) X dX3_leadsIntoRing_36 (by decide) ?_
      refine z_callS1 (k := 0) (n := 0) (st := []) X (c_X3_isAmong l D t k 6 (by omega) (by decide)) k_X3_isAmong q_ml_X3_53 [] ⟨by decide, rfl⟩ (by decide) rfl rfl rfl (Nat.le_of_ble_eq_true rfl) ⟨Nat.zero_le _, Nat.zero_le _⟩ dX3_leadsIntoRing_38 (fun r38 h38 => ?_)
      rcases h38 with ⟨rfl, h38⟩ | ⟨rfl, h38⟩
      rotate_left
      · exact absurd (by omega) h38
      refine z_iret X Z (by decide +kernel) dX3_leadsIntoRing_41 ?_
      exact ⟨(), bz_t (by rw [h0]; exact zn_m1 k (by omega)), fun _ _ => trivial⟩
  ·
    intro i hi ih
    refine z_iload_n X dX3_leadsIntoRing_4 rfl rfl ?_
    refine z_bipush (v := nI 6) X dX3_leadsIntoRing_5 (by decide) ?_
    refine n_icmp_ge (tgt := 35) X dX3_leadsIntoRing_7 (by decide) (by omega) (by omega) (fun c7 => absurd c7 (by omega)) (fun _ => ?_)
    rcases ch_zo hI.2.2.2.2.2.2.2 (Or.inr ⟨v, hv, rfl⟩) i with h0 | ⟨k, hk, h0⟩
    ·
      rw [h0]
      refine z_iload_n X dX3_leadsIntoRing_10 rfl rfl ?_
      refine z_bipush (v := nI 6) X dX3_leadsIntoRing_11 (by decide) ?_
      refine z_callS1 (k := 0) (n := 0) (st := []) X (c_X3_isAmong_m l D t 6) k_X3_isAmong q_ml_X3_53 [] ⟨by decide, rfl⟩ (by decide) rfl rfl rfl (Nat.le_of_ble_eq_true rfl) ⟨Nat.zero_le _, Nat.zero_le _⟩ dX3_leadsIntoRing_13 (fun r13 h13 => ?_)
      subst h13
      refine n_if_eq (tgt := 35) X dX3_leadsIntoRing_16 (by decide) (by omega) (fun _ => ?_) (fun c16 => absurd c16 (by decide))
      refine z_iload_n X dX3_leadsIntoRing_35 rfl rfl ?_
      refine z_bipush (v := nI 6) X dX3_leadsIntoRing_36 (by decide) ?_
      refine z_callS1 (k := 0) (n := 0) (st := []) X (c_X3_isAmong_m l D t 6) k_X3_isAmong q_ml_X3_53 [] ⟨by decide, rfl⟩ (by decide) rfl rfl rfl (Nat.le_of_ble_eq_true rfl) ⟨Nat.zero_le _, Nat.zero_le _⟩ dX3_leadsIntoRing_38 (fun r38 h38 => ?_)
      subst h38
      refine z_iret X Z (by decide +kernel) dX3_leadsIntoRing_41 ?_
      exact ⟨(), bz_f (fun h => h (by have q := ch_m h0 (6 - i); rw [show i + (6 - i) = 6 by omega] at q; exact q)), fun _ _ => trivial⟩
    ·
      rw [h0]
      refine z_iload_n X dX3_leadsIntoRing_10 rfl rfl ?_
      refine z_bipush (v := nI 6) X dX3_leadsIntoRing_11 (by decide) ?_
      refine z_callS1 (k := 0) (n := 0) (st := []) X (c_X3_isAmong l D t k 6 (by omega) (by decide)) k_X3_isAmong q_ml_X3_53 [] ⟨by decide, rfl⟩ (by decide) rfl rfl rfl (Nat.le_of_ble_eq_true rfl) ⟨Nat.zero_le _, Nat.zero_le _⟩ dX3_leadsIntoRing_13 (fun r13 h13 => ?_)
      rcases h13 with ⟨rfl, h13⟩ | ⟨rfl, h13⟩
      rotate_left
      · exact absurd (by omega) h13
      refine n_if_eq (tgt := 35) X dX3_leadsIntoRing_16 (by decide) (by omega) (fun c16 => absurd c16 (by decide)) (fun _ => ?_)
      refine z_aload_n X dX3_leadsIntoRing_19 rfl rfl ?_
      refine z_get X (C := RX3) (T := TX3) (N := 8) (ci := 3) (v := .ref (a 2)) inZ3 0 1 rfl rfl (by decide) q_fl_X3_19 rfl rfl dX3_leadsIntoRing_20 ?_
      refine z_get X (C := RX2) (T := TX2) (N := 4) (ci := 2) (v := .ref (a 21)) inZ2 2 3 rfl rfl (by decide) q_fl_X3_123 rfl rfl dX3_leadsIntoRing_23 ?_
      refine z_iload_n X dX3_leadsIntoRing_26 rfl rfl ?_
      refine n_iald (f := S 13) X 21 rfl (by omega) (by decide) dX3_leadsIntoRing_27 ?_
      refine z_top (y := ch S (nI v) (i + 1)) ((ch_s h0 (by omega)).symm) ?_
      refine z_istore_n X dX3_leadsIntoRing_28 rfl (Nat.le_of_ble_eq_true rfl) ?_
      refine z_lv (lv' := [some (.ref (a 0)), some (.int (nI v)), some (.int (ch S (nI v) (i + 1))), some (.int (nI i))]) rfl ?_
      refine z_iinc (v := nI (i + 1)) X dX3_leadsIntoRing_29 rfl (nI_add i 1) ?_
      refine z_lv (lv' := [some (.ref (a 0)), some (.int (nI v)), some (.int (ch S (nI v) (i + 1))), some (.int (nI (i + 1)))]) rfl ?_
      refine z_goto (tgt := 4) X dX3_leadsIntoRing_32 (by decide) ?_
      exact ih
set_option maxHeartbeats 4000000 in
set_option maxRecDepth 100000 in
theorem c_X3_stepCount (l : Launch) (D : va_G) (t : ClassId × ClassId × ClassId) (a : Nat → Nat) (S : zS) (m h : Nat) (h17 : S 17 0 = nI m) (h18 : S 18 0 = nI h) (hh : h < 256) : zM1 l yX3_stepCount cX3_stepCount 1 (some .int) 2 D t [.ref (a 0)] (wR t a S) (fun r => r = nI (m + p8 h)) := by
  refine z_m1 (by decide +kernel) (Nat.le_of_ble_eq_true rfl) (by simp [Value.category]) ?_
  intro E X Z
  refine z_lv (lv' := [some (.ref (a 0))]) rfl ?_
  refine z_aload_n X dX3_stepCount_0 rfl rfl ?_
  refine z_get X (C := RX3) (T := TX3) (N := 8) (ci := 3) (v := .int (S 17 0)) inZ3 0 5 rfl rfl (by decide) q_fl_X3_37 rfl rfl dX3_stepCount_1 ?_
  refine z_top (y := nI m) (h17) ?_
  refine z_aload_n X dX3_stepCount_4 rfl rfl ?_
  refine z_get X (C := RX3) (T := TX3) (N := 8) (ci := 3) (v := .ref (a 4)) inZ3 0 3 rfl rfl (by decide) q_fl_X3_30 rfl rfl dX3_stepCount_5 ?_
  refine z_callV1 (k := 0) (n := 0) (st := [.int (nI m)]) X (c_X0_heldCount l D t (a 4) (a 22) h (S 18 0) (S 15) h18 (by omega)) k_X0_heldCount q_ml_X3_158 [4, 22] ⟨by decide, rfl⟩ 4 0 rfl rfl (by decide) rfl rfl rfl (Nat.le_of_ble_eq_true rfl) ⟨Nat.zero_le _, Nat.zero_le _⟩ dX3_stepCount_8 (fun r8 h8 => ?_)
  subst h8
  refine n_iadd X dX3_stepCount_11 ?_
  refine z_iret X Z rfl dX3_stepCount_12 ?_
  exact ⟨(), rfl, fun _ _ => trivial⟩
end
section
/-! steps, and what can be reached -/
def gx (k x : Nat) : Nat := if k = 0 then x + 1 else x
def gy (k y : Nat) : Nat := if k = 1 then y + 1 else y
def gz (k z : Nat) : Nat := if k = 2 then z + 1 else z
def gs (k s : Nat) : Nat := if 3 ≤ k then s ||| 2 ^ (k - 3) else s
/-- step k may be taken towards levels X Y Z and gifts G -/
def stp (S : zS) (X Y Z G x y z s k : Nat) : Prop := (k = 0 ∧ x < X) ∨ (k = 1 ∧ y < Y) ∨ (k = 2 ∧ z < Z) ∨ (3 ≤ k ∧ k < 11 ∧ G.testBit (k - 3) = true ∧ mt S x y z s (k - 3))
/-- the goal is reached by just n steps -/
def ldn (S : zS) (X Y Z G : Nat) : Nat → Nat → Nat → Nat → Nat → Prop
  | 0, x, y, z, s => x = X ∧ y = Y ∧ z = Z ∧ s = G
  | n + 1, x, y, z, s => ∃ k, k < 11 ∧ stp S X Y Z G x y z s k ∧ ldn S X Y Z G n (gx k x) (gy k y) (gz k z) (gs k s)
def Rc (S : zS) (X Y Z G x y z s : Nat) : Prop := ∃ n, ldn S X Y Z G n x y z s
/-- n steps can be taken -/
def orn (S : zS) (X Y Z G : Nat) : Nat → Nat → Nat → Nat → Nat → Prop
  | 0, _, _, _, _ => True
  | n + 1, x, y, z, s => ∃ k, k < 11 ∧ stp S X Y Z G x y z s k ∧ orn S X Y Z G n (gx k x) (gy k y) (gz k z) (gs k s)
section
variable {S : zS} {X Y Z G x y z s k n : Nat}
theorem Rc_step : Rc S X Y Z G x y z s ↔ (x = X ∧ y = Y ∧ z = Z ∧ s = G) ∨ ∃ k, k < 11 ∧ stp S X Y Z G x y z s k ∧ Rc S X Y Z G (gx k x) (gy k y) (gz k z) (gs k s) := by
  constructor
  · rintro ⟨n, h⟩
    cases n with
    | zero => exact Or.inl h
    | succ n =>
      obtain ⟨k, h1, h2, h3⟩ := h
      exact Or.inr ⟨k, h1, h2, n, h3⟩
  · rintro (h | ⟨k, h1, h2, n, h3⟩)
    · exact ⟨0, h⟩
    · exact ⟨n + 1, k, h1, h2, h3⟩
def sub8 (s G : Nat) : Prop := ∀ i, s.testBit i = true → G.testBit i = true
theorem stp_le (h : stp S X Y Z G x y z s k) : gx k x ≤ X ↔ x ≤ X := by
  unfold gx
  rcases h with ⟨rfl, h⟩ | ⟨rfl, h⟩ | ⟨rfl, h⟩ | ⟨h1, h2, h3, h4⟩
  · simp; omega
  · simp
  · simp
  · rw [if_neg (by omega)]
theorem stp_cases (h : stp S X Y Z G x y z s k) : (k = 0 ∧ x < X ∧ gx k x = x + 1 ∧ gy k y = y ∧ gz k z = z ∧ gs k s = s) ∨ (k = 1 ∧ y < Y ∧ gx k x = x ∧ gy k y = y + 1 ∧ gz k z = z ∧ gs k s = s) ∨ (k = 2 ∧ z < Z ∧ gx k x = x ∧ gy k y = y ∧ gz k z = z + 1 ∧ gs k s = s) ∨ (∃ j, k = j + 3 ∧ j < 8 ∧ G.testBit j = true ∧ mt S x y z s j ∧ gx k x = x ∧ gy k y = y ∧ gz k z = z ∧ gs k s = s ||| 2 ^ j) := by
  rcases h with ⟨rfl, h⟩ | ⟨rfl, h⟩ | ⟨rfl, h⟩ | ⟨h1, h2, h3, h4⟩
  · exact Or.inl ⟨rfl, h, rfl, rfl, rfl, rfl⟩
  · exact Or.inr (Or.inl ⟨rfl, h, rfl, rfl, rfl, rfl⟩)
  · exact Or.inr (Or.inr (Or.inl ⟨rfl, h, rfl, rfl, rfl, rfl⟩))
  · refine Or.inr (Or.inr (Or.inr ⟨k - 3, by omega, by omega, h3, h4, ?_, ?_, ?_, ?_⟩))
    · unfold gx; rw [if_neg (by omega)]
    · unfold gy; rw [if_neg (by omega)]
    · unfold gz; rw [if_neg (by omega)]
    · unfold gs; rw [if_pos h1]
theorem or_bit {s j i : Nat} : (s ||| 2 ^ j).testBit i = (s.testBit i || decide (j = i)) := by
  rw [Nat.testBit_or, Nat.testBit_two_pow]
/-- a stage on the way -/
def inB (X Y Z G x y z s : Nat) : Prop := x ≤ X ∧ y ≤ Y ∧ z ≤ Z ∧ sub8 s G
theorem stp_inB (h : stp S X Y Z G x y z s k) : inB X Y Z G (gx k x) (gy k y) (gz k z) (gs k s) ↔ inB X Y Z G x y z s := by
  unfold inB
  rcases stp_cases h with ⟨-, h0, e1, e2, e3, e4⟩ | ⟨-, h0, e1, e2, e3, e4⟩ | ⟨-, h0, e1, e2, e3, e4⟩ | ⟨j, -, hj, hb, hm, e1, e2, e3, e4⟩
  · rw [e1, e2, e3, e4]
    exact ⟨fun h => ⟨by omega, h.2⟩, fun h => ⟨by omega, h.2⟩⟩
  · rw [e1, e2, e3, e4]
    exact ⟨fun h => ⟨h.1, by omega, h.2.2⟩, fun h => ⟨h.1, by omega, h.2.2⟩⟩
  · rw [e1, e2, e3, e4]
    exact ⟨fun h => ⟨h.1, h.2.1, by omega, h.2.2.2⟩, fun h => ⟨h.1, h.2.1, by omega, h.2.2.2⟩⟩
  · rw [e1, e2, e3, e4]
    refine ⟨fun h => ⟨h.1, h.2.1, h.2.2.1, fun i hi => h.2.2.2 i (by rw [or_bit, hi]; rfl)⟩, fun h => ⟨h.1, h.2.1, h.2.2.1, fun i hi => ?_⟩⟩
    rw [or_bit] at hi
    rcases Bool.or_eq_true_iff.mp hi with q | q
    · exact h.2.2.2 i q
    · rw [← of_decide_eq_true q]; exact hb
theorem ldn_inB : ∀ (n x y z s : Nat), ldn S X Y Z G n x y z s → inB X Y Z G x y z s
  | 0, x, y, z, s, h => by
    obtain ⟨rfl, rfl, rfl, rfl⟩ := h
    exact ⟨Nat.le_refl _, Nat.le_refl _, Nat.le_refl _, fun _ h => h⟩
  | n + 1, x, y, z, s, h => by
    obtain ⟨k, h1, h2, h3⟩ := h
    exact (stp_inB h2).mp (ldn_inB n _ _ _ _ h3)
theorem Rc_inB (h : Rc S X Y Z G x y z s) : inB X Y Z G x y z s := h.elim fun n h => ldn_inB n _ _ _ _ h
theorem bit_mod {s i : Nat} : s / 2 ^ i % 2 = (s.testBit i).toNat := by
  rw [Nat.testBit_eq_decide_div_mod_eq]
  rcases Nat.mod_two_eq_zero_or_one (s / 2 ^ i) with h | h <;> simp [h]
theorem pc_sub (h : sub8 s G) : ∀ i, pcN s i ≤ pcN G i ∧ (pcN s i = pcN G i → ∀ k, k < i → s.testBit k = G.testBit k)
  | 0 => ⟨Nat.le_refl _, fun _ k hk => absurd hk (Nat.not_lt_zero _)⟩
  | i + 1 => by
    obtain ⟨h1, h2⟩ := pc_sub h i
    have h3 := h i
    show pcN s i + s / 2 ^ i % 2 ≤ pcN G i + G / 2 ^ i % 2 ∧ (pcN s i + s / 2 ^ i % 2 = pcN G i + G / 2 ^ i % 2 → _)
    rw [bit_mod, bit_mod]
    cases hs : s.testBit i <;> cases hg : G.testBit i
    · refine ⟨by simpa using h1, fun e k hk => ?_⟩
      rcases Nat.lt_succ_iff_lt_or_eq.mp hk with q | q
      · exact h2 (by simpa using e) k q
      · rw [q, hs, hg]
    · refine ⟨by simp; omega, fun e k hk => ?_⟩
      simp at e; omega
    · rw [h3 hs] at hg; cases hg
    · refine ⟨by simpa using h1, fun e k hk => ?_⟩
      rcases Nat.lt_succ_iff_lt_or_eq.mp hk with q | q
      · exact h2 (by simpa using e) k q
      · rw [q, hs, hg]
theorem big_bit {s i : Nat} (hs : s < 256) (hi : 8 ≤ i) : s.testBit i = false := Nat.testBit_lt_two_pow (Nat.lt_of_lt_of_le hs (Nat.pow_le_pow_right (n := 2) (by decide) hi))
theorem p8_eq (h : sub8 s G) (hs : s < 256) (hG : G < 256) (e : p8 s = p8 G) : s = G := by
  apply Nat.eq_of_testBit_eq
  intro i
  rcases Nat.lt_or_ge i 8 with q | q
  · exact (pc_sub h 8).2 e i q
  · rw [big_bit hs q, big_bit hG q]
theorem sub8_lt (h : sub8 s G) (hG : G < 256) : s < 256 := by
  apply Nat.lt_pow_two_of_testBit (n := 8)
  intro i hi
  cases hb : s.testBit i with
  | false => rfl
  | true => rw [← h i hb]; exact (big_bit hG hi).symm ▸ rfl
theorem p8_or : ∀ s, s < 256 → ∀ j, j < 8 → s.testBit j = false → p8 (s ||| 2 ^ j) = p8 s + 1 := by decide +kernel
/-- the steps that are left -/
def rem (X Y Z G x y z s : Nat) : Nat := (X - x) + (Y - y) + (Z - z) + (p8 G - p8 s)
theorem rem_step (hG : G < 256) (h : stp S X Y Z G x y z s k) (hb : inB X Y Z G x y z s) : rem X Y Z G (gx k x) (gy k y) (gz k z) (gs k s) + 1 = rem X Y Z G x y z s := by
  unfold rem
  have hb2 := (stp_inB h).mpr hb
  rcases stp_cases h with ⟨-, h0, e1, e2, e3, e4⟩ | ⟨-, h0, e1, e2, e3, e4⟩ | ⟨-, h0, e1, e2, e3, e4⟩ | ⟨j, -, hj, hbj, hm, e1, e2, e3, e4⟩
  · rw [e1, e2, e3, e4]; omega
  · rw [e1, e2, e3, e4]; omega
  · rw [e1, e2, e3, e4]; omega
  · rw [e4] at hb2
    rw [e1, e2, e3, e4]
    have h1 : p8 (s ||| 2 ^ j) ≤ p8 G := (pc_sub hb2.2.2.2 8).1
    have h2 := p8_or s (sub8_lt hb.2.2.2 hG) j hj hm.1
    rw [h2] at h1 ⊢
    omega
theorem rem_0 (hG : G < 256) (hb : inB X Y Z G x y z s) (h : rem X Y Z G x y z s = 0) : x = X ∧ y = Y ∧ z = Z ∧ s = G := by
  unfold rem at h
  obtain ⟨h1, h2, h3, h4⟩ := hb
  exact ⟨by omega, by omega, by omega, p8_eq h4 (sub8_lt h4 hG) hG (by have : p8 s ≤ p8 G := (pc_sub h4 8).1; omega)⟩
theorem rem_fin : rem X Y Z G X Y Z G = 0 := by unfold rem; omega
theorem orn_ldn (hG : G < 256) : ∀ (n x y z s : Nat), inB X Y Z G x y z s → rem X Y Z G x y z s = n → (orn S X Y Z G n x y z s ↔ ldn S X Y Z G n x y z s)
  | 0, x, y, z, s, hb, hr => ⟨fun _ => rem_0 hG hb hr, fun _ => trivial⟩
  | n + 1, x, y, z, s, hb, hr => by
    constructor
    · rintro ⟨k, h1, h2, h3⟩
      exact ⟨k, h1, h2, (orn_ldn hG n _ _ _ _ ((stp_inB h2).mpr hb) (by have := rem_step hG h2 hb; omega)).mp h3⟩
    · rintro ⟨k, h1, h2, h3⟩
      exact ⟨k, h1, h2, (orn_ldn hG n _ _ _ _ ((stp_inB h2).mpr hb) (by have := rem_step hG h2 hb; omega)).mpr h3⟩
theorem ldn_rem (hG : G < 256) : ∀ (n x y z s : Nat), ldn S X Y Z G n x y z s → rem X Y Z G x y z s = n
  | 0, x, y, z, s, h => by obtain ⟨rfl, rfl, rfl, rfl⟩ := h; exact rem_fin
  | n + 1, x, y, z, s, h => by
    have hb := ldn_inB (n + 1) _ _ _ _ h
    obtain ⟨k, h1, h2, h3⟩ := h
    have := ldn_rem hG n _ _ _ _ h3
    have := rem_step hG h2 hb
    omega
/-- trying every order finds the same -/
theorem orn_Rc (hG : G < 256) (hb : inB X Y Z G x y z s) : orn S X Y Z G (rem X Y Z G x y z s) x y z s ↔ Rc S X Y Z G x y z s := by
  rw [orn_ldn hG _ _ _ _ _ hb rfl]
  constructor
  · exact fun h => ⟨_, h⟩
  · rintro ⟨n, h⟩
    rw [ldn_rem hG n _ _ _ _ h]; exact h
end
/-! the place of a stage -/
def stg (Y Z x y z : Nat) : Nat := (x * (Y + 1) + y) * (Z + 1) + z
theorem stg_max : ∀ X, X < 9 → ∀ Y, Y < 9 → ∀ Z, Z < 9 → X + Y + Z ≤ 8 → (X + 1) * (Y + 1) * (Z + 1) ≤ 48 := by decide +kernel
theorem stg_lt {X Y Z x y z : Nat} (hX : X + Y + Z ≤ 8) (hx : x ≤ X) (hy : y ≤ Y) (hz : z ≤ Z) : stg Y Z x y z < 48 := by
  have h1 := stg_max X (by omega) Y (by omega) Z (by omega) hX
  have h2 : x * (Y + 1) + y + 1 ≤ (X + 1) * (Y + 1) := by
    have := Nat.mul_le_mul_right (Y + 1) hx
    rw [Nat.add_mul, Nat.one_mul]; omega
  have h3 : (x * (Y + 1) + y + 1) * (Z + 1) ≤ (X + 1) * (Y + 1) * (Z + 1) := Nat.mul_le_mul_right _ h2
  unfold stg
  rw [Nat.add_mul, Nat.one_mul] at h3
  omega
theorem stg_x {X Y Z x y z : Nat} (hy : y ≤ Y) (hz : z ≤ Z) : stg Y Z x y z < stg Y Z (x + 1) 0 0 := by
  have h2 : x * (Y + 1) + y + 1 ≤ (x + 1) * (Y + 1) + 0 := by rw [Nat.add_mul, Nat.one_mul]; omega
  have h3 := Nat.mul_le_mul_right (Z + 1) h2
  unfold stg
  rw [Nat.add_mul, Nat.one_mul] at h3
  omega
theorem stg_y {Y Z x y z : Nat} (hz : z ≤ Z) : stg Y Z x y z < stg Y Z x (y + 1) 0 := by
  unfold stg
  rw [← Nat.add_assoc, Nat.add_mul (x * (Y + 1) + y), Nat.one_mul]
  omega
theorem stg_z {Y Z x y z : Nat} : stg Y Z x y (z + 1) = stg Y Z x y z + 1 := rfl
theorem stg_mono {Y Z x y z x' y' z' : Nat} (hx : x ≤ x') (hy : y ≤ y') (hz : z ≤ z') : stg Y Z x y z ≤ stg Y Z x' y' z' := by
  unfold stg
  have h1 := Nat.mul_le_mul_right (Y + 1) hx
  have h2 := Nat.mul_le_mul_right (Z + 1) (Nat.add_le_add h1 hy)
  omega
theorem stg_0 {Y Z : Nat} : stg Y Z 0 0 0 = 0 := by unfold stg; simp
/-- different stages have different places -/
theorem stg_inj {Y Z x y z x' y' z' : Nat} (hy : y ≤ Y) (hz : z ≤ Z) (hy' : y' ≤ Y) (hz' : z' ≤ Z) (h : stg Y Z x y z = stg Y Z x' y' z') : x = x' ∧ y = y' ∧ z = z' := by
  have key : ∀ (N a b c d : Nat), b ≤ N → d ≤ N → a * (N + 1) + b = c * (N + 1) + d → a = c ∧ b = d := by
    intro N a b c d hb hd e
    have e1 : (a * (N + 1) + b) / (N + 1) = a := by rw [Nat.mul_comm, Nat.mul_add_div (by omega), Nat.div_eq_of_lt (by omega)]; rfl
    have e2 : (c * (N + 1) + d) / (N + 1) = c := by rw [Nat.mul_comm, Nat.mul_add_div (by omega), Nat.div_eq_of_lt (by omega)]; rfl
    have e3 : a = c := by rw [← e1, e, e2]
    subst e3
    exact ⟨rfl, by omega⟩
  obtain ⟨h1, h2⟩ := key Z _ z _ z' hz hz' h
  obtain ⟨h3, h4⟩ := key Y x y x' y' hy hy' h1
  exact ⟨h3, h4, h2⟩
/-! bits -/
def btm (x : Int32) (i : Nat) : Prop := x.toBitVec.getLsbD i = true
theorem btm_0 (i : Nat) : ¬ btm (nI 0) i := by
  unfold btm
  rw [show (nI 0).toBitVec = 0#32 from rfl]
  simp
theorem btm_pow {i j : Nat} (hi : i < 32) (hj : j < 32) : btm (nI (2 ^ i)) j ↔ i = j := by
  unfold btm
  rw [show (nI (2 ^ i)).toBitVec = BitVec.ofNat 32 (2 ^ i) from rfl, BitVec.getLsbD_ofNat, Nat.testBit_two_pow]
  simp [hj]
theorem btm_or {x y : Int32} {i : Nat} : btm (x ||| y) i ↔ btm x i ∨ btm y i := by
  unfold btm
  rw [Int32.toBitVec_or, BitVec.getLsbD_or, Bool.or_eq_true]
theorem btm_and {x : Int32} {i : Nat} (hi : i < 32) : x &&& nI (2 ^ i) = 0 ↔ ¬ btm x i := by
  constructor
  · intro h hb
    have h1 : (x &&& nI (2 ^ i)).toBitVec.getLsbD i = true := by
      rw [Int32.toBitVec_and, BitVec.getLsbD_and]
      have := (btm_pow hi hi).mpr rfl
      unfold btm at hb this
      rw [hb, this]; rfl
    rw [h] at h1
    revert h1
    rw [show (0 : Int32).toBitVec = 0#32 from rfl]
    simp
  · intro h
    apply Int32.toBitVec_inj.mp
    apply BitVec.eq_of_getLsbD_eq
    intro j hj
    rw [Int32.toBitVec_and, BitVec.getLsbD_and, show (0 : Int32).toBitVec = 0#32 from rfl]
    by_cases e : i = j
    · subst e
      unfold btm at h
      simp at h
      simp [h]
    · have : ¬ btm (nI (2 ^ i)) j := fun q => e ((btm_pow hi hj).mp q)
      unfold btm at this
      simp at this
      simp [this]
end
section
/-! the trial: its levels, its gifts, the marks -/
def T3 (S : zS) (x y z s : Nat) (e : Nat → Int32) : zS := va_up (va_up (va_up S 19 (l3 x y z)) 20 (fun _ => nI s)) 21 e
section
variable {S : zS} {x y z s x' y' z' s' k : Nat} {e e' : Nat → Int32} {t : ClassId × ClassId × ClassId} {a : Nat → Nat} {f : Nat → Int32}
theorem T3I (h : zI S) : zI (T3 S x y z s e) := h
theorem T3mt {s9 x9 y9 z9 j : Nat} : mt (T3 S x y z s e) x9 y9 z9 s9 j ↔ mt S x9 y9 z9 s9 j := Iff.rfl
theorem swT3 : zSwap (wR t a (T3 S x y z s e)) [6, 23] (wT t a (nI s) (l3 x y z)) (wT t a (nI s') (l3 x' y' z')) (wR t a (T3 S x' y' z' s' e)) := ⟨⟨by decide, rfl⟩, ⟨by decide, rfl⟩, rfl, rfl⟩
theorem ppT3 : zPart (wR t a (T3 S x y z s e)) [6, 23] (wT t a (nI s) (l3 x y z)) := ⟨by decide, rfl⟩
theorem T3_20 : wR t a (va_up (T3 S x y z s e) 20 (fun _ => nI s')) = wR t a (T3 S x y z s' e) := rfl
theorem T3_21 : wR t a (va_up (T3 S x y z s e) 21 e') = wR t a (T3 S x y z s e') := rfl
theorem T3_19 : wR t a (va_up (T3 S x y z s e) 19 (l3 x' y' z')) = wR t a (T3 S x' y' z' s e) := rfl
theorem l3u_0 : upd (l3 x y z) 0 (l3 x y z 0 + nI 1) = l3 (x + 1) y z := by
  funext i; unfold upd l3
  by_cases h : i = 0
  · simp [h, nI_add]
  · simp [h]
theorem l3u_1 : upd (l3 x y z) 1 (l3 x y z 1 + nI 1) = l3 x (y + 1) z := by
  funext i; unfold upd l3
  by_cases h : i = 1
  · simp [h, nI_add]
  · simp [h]
theorem l3z {x y z x' y' z' : Nat} : ∀ i, i < 3 → upd (l3 x y z) 2 (nI z') i = l3 x y z' i := by
  intro i hi
  unfold upd l3
  rcases (show i = 0 ∨ i = 1 ∨ i = 2 by omega) with rfl | rfl | rfl <;> simp
theorem l3w_0 : upd (l3 x y z) 0 (nI x') = l3 x' y z := by
  funext i; unfold upd l3
  by_cases h : i = 0 <;> simp [h]
theorem l3w_1 : upd (l3 x y z) 1 (nI y') = l3 x y' z := by
  funext i; unfold upd l3
  by_cases h : i = 1 <;> simp [h]
theorem l3d_0 : upd (l3 (x + 1) y z) 0 (l3 (x + 1) y z 0 + (-1)) = l3 x y z := by
  rw [show l3 (x + 1) y z 0 + (-1) = nI x from pk_m1 x]; exact l3w_0
theorem l3d_1 : upd (l3 x (y + 1) z) 1 (l3 x (y + 1) z 1 + (-1)) = l3 x y z := by
  rw [show l3 x (y + 1) z 1 + (-1) = nI y from pk_m1 y]; exact l3w_1
/-- three places are all that a cell has -/
theorem zPw {D : va_G} {H : Heap} {v : Int32} {g : Nat → Int32} (h : ∀ i, i < 3 → f i = g i) (hP : va_P D vwCl (wT t a v f) H) : va_P D vwCl (wT t a v g) H := by
  intro k q hq
  rcases k with - | - | k
  · exact hP 0 q hq
  · exact zcell h (fun k q hq => by cases k with | zero => exact hP 1 q hq | succ k => simp at hq) 0 q hq
  · simp at hq
end
theorem zM3.w' {S : Type} {l : Launch} {y : MethodName} {c : ByteArray} {n h : Nat} {D : va_G} {t : ClassId × ClassId × ClassId} {As : List Value} {w : va_W} {φ : S → Prop} {w1 w2 : S → va_W} (e : ∀ u H, va_P D vwCl (w1 u) H → va_P D vwCl (w2 u) H) (hM : zM3 l y c n h D t As w φ w1) : zM3 l y c n h D t As w φ w2 := by
  intro p e1 ha hc hk s m args below hf happ hP hK
  obtain ⟨i, o, h1, h2, h3, ⟨⟨⟨u, h4, h5, h6⟩, h7⟩, h8⟩⟩ := hM p e1 ha hc hk s m args below hf happ hP hK
  exact ⟨i, o, h1, h2, h3, ⟨⟨⟨u, h4, h5, e u _ h6⟩, h7⟩, h8⟩⟩
theorem c_goOnT (l : Launch) (D : va_G) (t : ClassId × ClassId × ClassId) (a : Nat → Nat) (x y z s k : Nat) (hs : s < 256) (hk : k < 11) : zM3 l yX0_goOn cX0_goOn 2 2 D t [.ref (a 6), .int (nI k)] (wT t a (nI s) (l3 x y z)) (fun _ : Unit => True) (fun _ => wT t a (nI (gs k s)) (l3 (gx k x) (gy k y) (gz k z))) := by
  rcases (show k = 0 ∨ k = 1 ∨ k = 2 ∨ 3 ≤ k by omega) with rfl | rfl | rfl | h
  · have h := c_X0_goOnL l D t (a 6) (a 23) 0 (nI s) (l3 x y z) (by decide)
    rw [l3u_0] at h; exact h
  · have h := c_X0_goOnL l D t (a 6) (a 23) 1 (nI s) (l3 x y z) (by decide)
    rw [l3u_1] at h; exact h
  · have h := c_X0_goOnL l D t (a 6) (a 23) 2 (nI s) (l3 x y z) (by decide)
    rw [show l3 x y z 2 + nI 1 = nI (z + 1) from nI_add z 1] at h
    exact h.w' (fun _ H hP => zPw (l3z (x' := 0) (y' := 0)) hP)
  · obtain ⟨j, rfl⟩ : ∃ j, k = j + 3 := ⟨k - 3, by omega⟩
    have h1 := c_X0_goOnG l D t (a 6) (a 23) s j (nI s) (l3 x y z) hs (by omega) rfl
    rw [show gs (j + 3) s = s ||| 2 ^ j from by unfold gs; rw [if_pos h]; rfl, show gx (j + 3) x = x from rfl, show gy (j + 3) y = y from by unfold gy; rw [if_neg (by omega)], show gz (j + 3) z = z from by unfold gz; rw [if_neg (by omega)]]
    exact h1
theorem c_goBackT (l : Launch) (D : va_G) (t : ClassId × ClassId × ClassId) (a : Nat → Nat) (x y z s k : Nat) (hs : s < 256) (hk : k < 11) (hb : 3 ≤ k → s.testBit (k - 3) = false) : zM3 l yX0_goBack cX0_goBack 2 2 D t [.ref (a 6), .int (nI k)] (wT t a (nI (gs k s)) (l3 (gx k x) (gy k y) (gz k z))) (fun _ : Unit => True) (fun _ => wT t a (nI s) (l3 x y z)) := by
  rcases (show k = 0 ∨ k = 1 ∨ k = 2 ∨ 3 ≤ k by omega) with rfl | rfl | rfl | h
  · have h := c_X0_goBackL l D t (a 6) (a 23) 0 (nI s) (l3 (x + 1) y z) (by decide)
    rw [l3d_0] at h; exact h
  · have h := c_X0_goBackL l D t (a 6) (a 23) 1 (nI s) (l3 x (y + 1) z) (by decide)
    rw [l3d_1] at h; exact h
  · have h := c_X0_goBackL l D t (a 6) (a 23) 2 (nI s) (l3 x y (z + 1)) (by decide)
    rw [show l3 x y (z + 1) 2 + (-1) = nI z from pk_m1 z] at h
    exact h.w' (fun _ H hP => zPw (l3z (x' := 0) (y' := 0)) hP)
  · obtain ⟨j, rfl⟩ : ∃ j, k = j + 3 := ⟨k - 3, by omega⟩
    have h1 := c_X0_goBackG l D t (a 6) (a 23) s j (nI (s ||| 2 ^ j)) (l3 x y z) hs (by omega) (by have := hb h; rwa [Nat.add_sub_cancel] at this) rfl
    rw [show gs (j + 3) s = s ||| 2 ^ j from by unfold gs; rw [if_pos h]; rfl, show gx (j + 3) x = x from rfl, show gy (j + 3) y = y from by unfold gy; rw [if_neg (by omega)], show gz (j + 3) z = z from by unfold gz; rw [if_neg (by omega)]]
    exact h1
/-- the place of a stage with its gifts -/
def wd (Y Z x y z s : Nat) : Nat := stg Y Z x y z * 8 + s / 32
def mkd (e : Nat → Int32) (Y Z x y z s : Nat) : Prop := btm (e (wd Y Z x y z s)) (s % 32)
theorem wd_lt {X Y Z x y z s : Nat} (hX : X + Y + Z ≤ 8) (hx : x ≤ X) (hy : y ≤ Y) (hz : z ≤ Z) (hs : s < 256) : wd Y Z x y z s < 384 := by
  have := stg_lt hX hx hy hz
  unfold wd; omega
set_option maxHeartbeats 4000000 in
set_option maxRecDepth 100000 in
theorem c_X3_wordOfTrial (l : Launch) (D : va_G) (t : ClassId × ClassId × ClassId) (a : Nat → Nat) (S : zS) (Xn Yn Zn x y z s : Nat) (e : Nat → Int32) (h15 : S 15 = l3 Xn Yn Zn) (hs : s < 256) : zM1 l yX3_wordOfTrial cX3_wordOfTrial 3 (some .int) 0 D t [.ref (a 0)] (wR t a (T3 S x y z s e)) (fun r => r = nI (wd Yn Zn x y z s)) := by
  refine z_m1 (by decide +kernel) (Nat.le_of_ble_eq_true rfl) (by simp [Value.category]) ?_
  intro E X Z
  refine z_lv (lv' := [some (.ref (a 0)), none, none]) rfl ?_
  refine z_aload_n X dX3_wordOfTrial_0 rfl rfl ?_
  refine z_get X (C := RX3) (T := TX3) (N := 8) (ci := 3) (v := .ref (a 6)) inZ3 0 6 rfl rfl (by decide) q_fl_X3_41 rfl rfl dX3_wordOfTrial_1 ?_
  refine z_get X (C := RX0) (T := TX0) (N := 2) (ci := 0) (v := .ref (a 23)) inZ0 6 0 rfl rfl (by decide) q_fl_X3_236 rfl rfl dX3_wordOfTrial_4 ?_
  refine z_iconst (v := nI 0) X dX3_wordOfTrial_7 (by decide) ?_
  refine n_iald (f := l3 x y z) X 23 rfl (by omega) (by decide) dX3_wordOfTrial_8 ?_
  refine z_top (y := nI x) (rfl) ?_
  refine z_istore_n X dX3_wordOfTrial_9 rfl (Nat.le_of_ble_eq_true rfl) ?_
  refine z_lv (lv' := [some (.ref (a 0)), some (.int (nI x)), none]) rfl ?_
  refine z_iconst (v := nI 1) X dX3_wordOfTrial_10 (by decide) ?_
  refine z_istore_n X dX3_wordOfTrial_11 rfl (Nat.le_of_ble_eq_true rfl) ?_
  refine z_lv (lv' := [some (.ref (a 0)), some (.int (nI x)), some (.int (nI 1))]) rfl ?_
  refine z_iload_n X dX3_wordOfTrial_12 rfl rfl ?_
  refine z_iconst (v := nI 3) X dX3_wordOfTrial_13 (by decide) ?_
  refine n_icmp_ge (tgt := 47) X dX3_wordOfTrial_14 (by decide) (by omega) (by omega) (fun c14 => absurd c14 (by decide)) (fun _ => ?_)
  refine z_iload_n X dX3_wordOfTrial_17 rfl rfl ?_
  refine z_aload_n X dX3_wordOfTrial_18 rfl rfl ?_
  refine z_get X (C := RX3) (T := TX3) (N := 8) (ci := 3) (v := .ref (a 4)) inZ3 0 3 rfl rfl (by decide) q_fl_X3_30 rfl rfl dX3_wordOfTrial_19 ?_
  refine z_get X (C := RX0) (T := TX0) (N := 2) (ci := 0) (v := .ref (a 22)) inZ0 4 0 rfl rfl (by decide) q_fl_X3_236 rfl rfl dX3_wordOfTrial_22 ?_
  refine z_iload_n X dX3_wordOfTrial_25 rfl rfl ?_
  refine n_iald (f := S 15) X 22 rfl (by omega) (by decide) dX3_wordOfTrial_26 ?_
  refine z_top (y := nI Yn) (by rw [h15]; rfl) ?_
  refine z_iconst (v := nI 1) X dX3_wordOfTrial_27 (by decide) ?_
  refine n_iadd X dX3_wordOfTrial_28 ?_
  refine n_imul X dX3_wordOfTrial_29 ?_
  refine z_aload_n X dX3_wordOfTrial_30 rfl rfl ?_
  refine z_get X (C := RX3) (T := TX3) (N := 8) (ci := 3) (v := .ref (a 6)) inZ3 0 6 rfl rfl (by decide) q_fl_X3_41 rfl rfl dX3_wordOfTrial_31 ?_
  refine z_get X (C := RX0) (T := TX0) (N := 2) (ci := 0) (v := .ref (a 23)) inZ0 6 0 rfl rfl (by decide) q_fl_X3_236 rfl rfl dX3_wordOfTrial_34 ?_
  refine z_iload_n X dX3_wordOfTrial_37 rfl rfl ?_
  refine n_iald (f := l3 x y z) X 23 rfl (by omega) (by decide) dX3_wordOfTrial_38 ?_
  refine z_top (y := nI y) (rfl) ?_
  refine n_iadd X dX3_wordOfTrial_39 ?_
  refine z_istore_n X dX3_wordOfTrial_40 rfl (Nat.le_of_ble_eq_true rfl) ?_
  refine z_lv (lv' := [some (.ref (a 0)), some (.int (nI ((x * (Yn + 1)) + y))), some (.int (nI 1))]) rfl ?_
  refine z_iinc (v := nI 2) X dX3_wordOfTrial_41 rfl (by decide) ?_
  refine z_lv (lv' := [some (.ref (a 0)), some (.int (nI ((x * (Yn + 1)) + y))), some (.int (nI 2))]) rfl ?_
  refine z_goto (tgt := 12) X dX3_wordOfTrial_44 (by decide) ?_
  refine z_iload_n X dX3_wordOfTrial_12 rfl rfl ?_
  refine z_iconst (v := nI 3) X dX3_wordOfTrial_13 (by decide) ?_
  refine n_icmp_ge (tgt := 47) X dX3_wordOfTrial_14 (by decide) (by omega) (by omega) (fun c14 => absurd c14 (by decide)) (fun _ => ?_)
  refine z_iload_n X dX3_wordOfTrial_17 rfl rfl ?_
  refine z_aload_n X dX3_wordOfTrial_18 rfl rfl ?_
  refine z_get X (C := RX3) (T := TX3) (N := 8) (ci := 3) (v := .ref (a 4)) inZ3 0 3 rfl rfl (by decide) q_fl_X3_30 rfl rfl dX3_wordOfTrial_19 ?_
  refine z_get X (C := RX0) (T := TX0) (N := 2) (ci := 0) (v := .ref (a 22)) inZ0 4 0 rfl rfl (by decide) q_fl_X3_236 rfl rfl dX3_wordOfTrial_22 ?_
  refine z_iload_n X dX3_wordOfTrial_25 rfl rfl ?_
  refine n_iald (f := S 15) X 22 rfl (by omega) (by decide) dX3_wordOfTrial_26 ?_
  refine z_top (y := nI Zn) (by rw [h15]; rfl) ?_
  refine z_iconst (v := nI 1) X dX3_wordOfTrial_27 (by decide) ?_
  refine n_iadd X dX3_wordOfTrial_28 ?_
  refine n_imul X dX3_wordOfTrial_29 ?_
  refine z_aload_n X dX3_wordOfTrial_30 rfl rfl ?_
  refine z_get X (C := RX3) (T := TX3) (N := 8) (ci := 3) (v := .ref (a 6)) inZ3 0 6 rfl rfl (by decide) q_fl_X3_41 rfl rfl dX3_wordOfTrial_31 ?_
  refine z_get X (C := RX0) (T := TX0) (N := 2) (ci := 0) (v := .ref (a 23)) inZ0 6 0 rfl rfl (by decide) q_fl_X3_236 rfl rfl dX3_wordOfTrial_34 ?_
  refine z_iload_n X dX3_wordOfTrial_37 rfl rfl ?_
  refine n_iald (f := l3 x y z) X 23 rfl (by omega) (by decide) dX3_wordOfTrial_38 ?_
  refine z_top (y := nI z) (rfl) ?_
  refine n_iadd X dX3_wordOfTrial_39 ?_
  refine z_istore_n X dX3_wordOfTrial_40 rfl (Nat.le_of_ble_eq_true rfl) ?_
  refine z_lv (lv' := [some (.ref (a 0)), some (.int (nI ((((x * (Yn + 1)) + y) * (Zn + 1)) + z))), some (.int (nI 2))]) rfl ?_
  refine z_iinc (v := nI 3) X dX3_wordOfTrial_41 rfl (by decide) ?_
  refine z_lv (lv' := [some (.ref (a 0)), some (.int (nI ((((x * (Yn + 1)) + y) * (Zn + 1)) + z))), some (.int (nI 3))]) rfl ?_
  refine z_goto (tgt := 12) X dX3_wordOfTrial_44 (by decide) ?_
  refine z_iload_n X dX3_wordOfTrial_12 rfl rfl ?_
  refine z_iconst (v := nI 3) X dX3_wordOfTrial_13 (by decide) ?_
  refine n_icmp_ge (tgt := 47) X dX3_wordOfTrial_14 (by decide) (by omega) (by omega) (fun _ => ?_) (fun c14 => absurd c14 (by decide))
  refine z_iload_n X dX3_wordOfTrial_47 rfl rfl ?_
  refine z_bipush (v := nI 8) X dX3_wordOfTrial_48 (by decide) ?_
  refine n_imul X dX3_wordOfTrial_50 ?_
  refine z_aload_n X dX3_wordOfTrial_51 rfl rfl ?_
  refine z_get X (C := RX3) (T := TX3) (N := 8) (ci := 3) (v := .ref (a 6)) inZ3 0 6 rfl rfl (by decide) q_fl_X3_41 rfl rfl dX3_wordOfTrial_52 ?_
  refine z_get X (C := RX0) (T := TX0) (N := 2) (ci := 0) (v := .int (nI s)) inZ0 6 1 rfl rfl (by decide) q_fl_X3_155 rfl rfl dX3_wordOfTrial_55 ?_
  refine z_bipush (v := nI 32) X dX3_wordOfTrial_58 (by decide) ?_
  refine n_idiv X dX3_wordOfTrial_60 (by omega) (by decide) (by decide) ?_
  refine n_iadd X dX3_wordOfTrial_61 ?_
  refine z_iret X Z rfl dX3_wordOfTrial_62 ?_
  exact ⟨(), rfl, fun _ _ => trivial⟩
set_option maxHeartbeats 4000000 in
set_option maxRecDepth 100000 in
theorem c_X3_bitOfTrial (l : Launch) (D : va_G) (t : ClassId × ClassId × ClassId) (a : Nat → Nat) (S : zS) (x y z s : Nat) (e : Nat → Int32) (hs : s < 256) : zM1 l yX3_bitOfTrial cX3_bitOfTrial 1 (some .int) 0 D t [.ref (a 0)] (wR t a (T3 S x y z s e)) (fun r => r = nI (2 ^ (s % 32))) := by
  refine z_m1 (by decide +kernel) (Nat.le_of_ble_eq_true rfl) (by simp [Value.category]) ?_
  intro E X Z
  refine z_lv (lv' := [some (.ref (a 0))]) rfl ?_
  refine z_iconst (v := nI 1) X dX3_bitOfTrial_0 (by decide) ?_
  refine z_aload_n X dX3_bitOfTrial_1 rfl rfl ?_
  refine z_get X (C := RX3) (T := TX3) (N := 8) (ci := 3) (v := .ref (a 6)) inZ3 0 6 rfl rfl (by decide) q_fl_X3_41 rfl rfl dX3_bitOfTrial_2 ?_
  refine z_get X (C := RX0) (T := TX0) (N := 2) (ci := 0) (v := .int (nI s)) inZ0 6 1 rfl rfl (by decide) q_fl_X3_155 rfl rfl dX3_bitOfTrial_5 ?_
  refine z_bipush (v := nI 32) X dX3_bitOfTrial_8 (by decide) ?_
  refine n_irem X dX3_bitOfTrial_10 (by omega) (by decide) (by decide) ?_
  refine n_ishl1 X dX3_bitOfTrial_11 (by omega) ?_
  refine z_iret X Z rfl dX3_bitOfTrial_12 ?_
  exact ⟨(), rfl, fun _ _ => trivial⟩
set_option maxHeartbeats 4000000 in
set_option maxRecDepth 100000 in
theorem c_X3_isMarked (l : Launch) (D : va_G) (t : ClassId × ClassId × ClassId) (a : Nat → Nat) (S : zS) (Xn Yn Zn x y z s : Nat) (e : Nat → Int32) (h15 : S 15 = l3 Xn Yn Zn) (hs : s < 256) (hw : wd Yn Zn x y z s < 384) : zM1 l yX3_isMarked cX3_isMarked 2 (some .boolean) 1 D t [.ref (a 0)] (wR t a (T3 S x y z s e)) (fun r => bz r (mkd e Yn Zn x y z s)) := by
  refine z_m1 (by decide +kernel) (Nat.le_of_ble_eq_true rfl) (by simp [Value.category]) ?_
  intro E X Z
  refine z_lv (lv' := [some (.ref (a 0)), none]) rfl ?_
  refine z_aload_n X dX3_isMarked_0 rfl rfl ?_
  refine z_callV1 (k := 0) (n := 0) (st := []) X (c_X3_wordOfTrial l D t a S Xn Yn Zn x y z s e h15 (by omega)) k_X3_wordOfTrial q_ml_X3_277 is24 ⟨by decide, rfl⟩ 0 3 rfl rfl (by decide) rfl rfl rfl (Nat.le_of_ble_eq_true rfl) ⟨Nat.zero_le _, Nat.zero_le _⟩ dX3_isMarked_1 (fun r1 h1 => ?_)
  subst h1
  refine z_istore_n X dX3_isMarked_4 rfl (Nat.le_of_ble_eq_true rfl) ?_
  refine z_lv (lv' := [some (.ref (a 0)), some (.int (nI (wd Yn Zn x y z s)))]) rfl ?_
  refine z_iload_n X dX3_isMarked_5 rfl rfl ?_
  refine z_aload_n X dX3_isMarked_6 rfl rfl ?_
  refine z_get X (C := RX3) (T := TX3) (N := 8) (ci := 3) (v := .ref (a 7)) inZ3 0 7 rfl rfl (by decide) q_fl_X3_44 rfl rfl dX3_isMarked_7 ?_
  refine z_alen X (v := nI 384) 7 rfl rfl dX3_isMarked_10 ?_
  refine z_callS1 (k := 0) (n := 0) (st := []) X (c_X3_isAmong l D t (wd Yn Zn x y z s) 384 (by omega) (by decide)) k_X3_isAmong q_ml_X3_53 [] ⟨by decide, rfl⟩ (by decide) rfl rfl rfl (Nat.le_of_ble_eq_true rfl) ⟨Nat.zero_le _, Nat.zero_le _⟩ dX3_isMarked_11 (fun r11 h11 => ?_)
  rcases h11 with ⟨rfl, h11⟩ | ⟨rfl, h11⟩
  rotate_left
  · exact absurd (by omega) h11
  refine n_if_eq (tgt := 35) X dX3_isMarked_14 (by decide) (by omega) (fun c14 => absurd c14 (by decide)) (fun _ => ?_)
  refine z_aload_n X dX3_isMarked_17 rfl rfl ?_
  refine z_get X (C := RX3) (T := TX3) (N := 8) (ci := 3) (v := .ref (a 7)) inZ3 0 7 rfl rfl (by decide) q_fl_X3_44 rfl rfl dX3_isMarked_18 ?_
  refine z_iload_n X dX3_isMarked_21 rfl rfl ?_
  refine n_iald (f := e) X 7 rfl (by omega) (by decide) dX3_isMarked_22 ?_
  refine z_aload_n X dX3_isMarked_23 rfl rfl ?_
  refine z_callV1 (k := 0) (n := 0) (st := [.int (e (wd Yn Zn x y z s))]) X (c_X3_bitOfTrial l D t a S x y z s e (by omega)) k_X3_bitOfTrial q_ml_X3_280 is24 ⟨by decide, rfl⟩ 0 3 rfl rfl (by decide) rfl rfl rfl (Nat.le_of_ble_eq_true rfl) ⟨Nat.zero_le _, Nat.zero_le _⟩ dX3_isMarked_24 (fun r24 h24 => ?_)
  subst h24
  refine z_iand X dX3_isMarked_27 ?_
  refine z_if_eq (tgt := 35) X dX3_isMarked_28 (by decide) (fun c28 => ?_) (fun c28 => ?_)
  ·
    refine z_iconst (v := nI 0) X dX3_isMarked_35 (by decide) ?_
    refine z_iret X Z (by decide +kernel) dX3_isMarked_36 ?_
    exact ⟨(), bz_f ((btm_and (Nat.mod_lt _ (by decide))).mp c28), fun _ _ => trivial⟩
  ·
    refine z_iconst (v := nI 1) X dX3_isMarked_31 (by decide) ?_
    refine z_goto (tgt := 36) X dX3_isMarked_32 (by decide) ?_
    refine z_iret X Z (by decide +kernel) dX3_isMarked_36 ?_
    exact ⟨(), bz_t (Classical.not_not.mp (fun q => c28 ((btm_and (Nat.mod_lt _ (by decide))).mpr q))), fun _ _ => trivial⟩
set_option maxHeartbeats 4000000 in
set_option maxRecDepth 100000 in
theorem c_X3_mark (l : Launch) (D : va_G) (t : ClassId × ClassId × ClassId) (a : Nat → Nat) (S : zS) (Xn Yn Zn x y z s : Nat) (e : Nat → Int32) (h15 : S 15 = l3 Xn Yn Zn) (hs : s < 256) (hw : wd Yn Zn x y z s < 384) : zM3 l yX3_mark cX3_mark 2 1 D t [.ref (a 0)] (wR t a (T3 S x y z s e)) (fun _ : Unit => True) (fun _ => wR t a (T3 S x y z s (upd e (wd Yn Zn x y z s) (e (wd Yn Zn x y z s) ||| nI (2 ^ (s % 32)))))) := by
  refine z_m3 (by decide +kernel) (Nat.le_of_ble_eq_true rfl) (by simp [Value.category]) ?_
  intro E X Z Y
  refine z_lv (lv' := [some (.ref (a 0)), none]) rfl ?_
  refine z_aload_n X dX3_mark_0 rfl rfl ?_
  refine z_callV1 (k := 0) (n := 0) (st := []) X (c_X3_wordOfTrial l D t a S Xn Yn Zn x y z s e h15 (by omega)) k_X3_wordOfTrial q_ml_X3_277 is24 ⟨by decide, rfl⟩ 0 3 rfl rfl (by decide) rfl rfl rfl (Nat.le_of_ble_eq_true rfl) ⟨Nat.zero_le _, Nat.zero_le _⟩ dX3_mark_1 (fun r1 h1 => ?_)
  subst h1
  refine z_istore_n X dX3_mark_4 rfl (Nat.le_of_ble_eq_true rfl) ?_
  refine z_lv (lv' := [some (.ref (a 0)), some (.int (nI (wd Yn Zn x y z s)))]) rfl ?_
  refine z_iload_n X dX3_mark_5 rfl rfl ?_
  refine z_aload_n X dX3_mark_6 rfl rfl ?_
  refine z_get X (C := RX3) (T := TX3) (N := 8) (ci := 3) (v := .ref (a 7)) inZ3 0 7 rfl rfl (by decide) q_fl_X3_44 rfl rfl dX3_mark_7 ?_
  refine z_alen X (v := nI 384) 7 rfl rfl dX3_mark_10 ?_
  refine z_callS1 (k := 0) (n := 0) (st := []) X (c_X3_isAmong l D t (wd Yn Zn x y z s) 384 (by omega) (by decide)) k_X3_isAmong q_ml_X3_53 [] ⟨by decide, rfl⟩ (by decide) rfl rfl rfl (Nat.le_of_ble_eq_true rfl) ⟨Nat.zero_le _, Nat.zero_le _⟩ dX3_mark_11 (fun r11 h11 => ?_)
  rcases h11 with ⟨rfl, h11⟩ | ⟨rfl, h11⟩
  rotate_left
  · exact absurd (by omega) h11
  refine n_if_eq (tgt := 30) X dX3_mark_14 (by decide) (by omega) (fun c14 => absurd c14 (by decide)) (fun _ => ?_)
  refine z_aload_n X dX3_mark_17 rfl rfl ?_
  refine z_get X (C := RX3) (T := TX3) (N := 8) (ci := 3) (v := .ref (a 7)) inZ3 0 7 rfl rfl (by decide) q_fl_X3_44 rfl rfl dX3_mark_18 ?_
  refine z_iload_n X dX3_mark_21 rfl rfl ?_
  refine z_dup2 X dX3_mark_22 rfl rfl ?_
  refine n_iald (f := e) X 7 rfl (by omega) (by decide) dX3_mark_23 ?_
  refine z_aload_n X dX3_mark_24 rfl rfl ?_
  refine z_callV1 (k := 0) (n := 0) (st := [.int (e (wd Yn Zn x y z s)), .int (nI (wd Yn Zn x y z s)), .ref (a 7)]) X (c_X3_bitOfTrial l D t a S x y z s e (by omega)) k_X3_bitOfTrial q_ml_X3_280 is24 ⟨by decide, rfl⟩ 0 3 rfl rfl (by decide) rfl rfl rfl (Nat.le_of_ble_eq_true rfl) ⟨Nat.zero_le _, Nat.zero_le _⟩ dX3_mark_25 (fun r25 h25 => ?_)
  subst h25
  refine z_ior X dX3_mark_28 ?_
  refine n_iast X Y 7 aR_eq rfl (by omega) (by decide) dX3_mark_29 ?_
  refine Wz.eq (uR_21 (f := upd e (wd Yn Zn x y z s) ((e (wd Yn Zn x y z s)) ||| (nI (2 ^ (s % 32)))))) ?_
  refine z_vret X Z dX3_mark_30 ?_
  exact ⟨(), trivial, fun q hq => hq⟩
end
section
/-- counting down: what stands in the counter -/
def sv : Nat → Int32
  | 0 => -1
  | i + 1 => nI i
theorem sv_m (i : Nat) : nI i + (-1) = sv i := by
  cases i with
  | zero => decide
  | succ i => exact pk_m1 i
theorem zl_dn (F : Nat → Prop) (h0 : F 0) (hs : ∀ i, F i → F (i + 1)) : ∀ i, F i
  | 0 => h0
  | i + 1 => hs i (zl_dn F h0 hs i)
section
variable {S : zS} {X Y Z G x y z s k j : Nat} {e : Nat → Int32}
theorem stp_0 : stp S X Y Z G x y z s 0 ↔ x < X := by
  refine ⟨fun h => ?_, fun h => Or.inl ⟨rfl, h⟩⟩
  rcases h with ⟨-, h⟩ | ⟨h, -⟩ | ⟨h, -⟩ | ⟨h, -⟩
  · exact h
  · omega
  · omega
  · omega
theorem stp_1 : stp S X Y Z G x y z s 1 ↔ y < Y := by
  refine ⟨fun h => ?_, fun h => Or.inr (Or.inl ⟨rfl, h⟩)⟩
  rcases h with ⟨h, -⟩ | ⟨-, h⟩ | ⟨h, -⟩ | ⟨h, -⟩
  · omega
  · exact h
  · omega
  · omega
theorem stp_2 : stp S X Y Z G x y z s 2 ↔ z < Z := by
  refine ⟨fun h => ?_, fun h => Or.inr (Or.inr (Or.inl ⟨rfl, h⟩))⟩
  rcases h with ⟨h, -⟩ | ⟨h, -⟩ | ⟨-, h⟩ | ⟨h, -⟩
  · omega
  · omega
  · exact h
  · omega
theorem stp_j (hj : j < 8) : stp S X Y Z G x y z s (j + 3) ↔ G.testBit j = true ∧ mt S x y z s j := by
  refine ⟨fun h => ?_, fun h => Or.inr (Or.inr (Or.inr ⟨by omega, by omega, by rw [Nat.add_sub_cancel]; exact h.1, by rw [Nat.add_sub_cancel]; exact h.2⟩))⟩
  rcases h with ⟨h, -⟩ | ⟨h, -⟩ | ⟨h, -⟩ | ⟨-, -, h⟩
  · omega
  · omega
  · omega
  · rw [Nat.add_sub_cancel] at h; exact h
theorem stp_gs (h : stp S X Y Z G x y z s k) : 3 ≤ k → s.testBit (k - 3) = false := by
  intro h3
  rcases h with ⟨h, -⟩ | ⟨h, -⟩ | ⟨h, -⟩ | ⟨-, -, -, h⟩
  · omega
  · omega
  · omega
  · exact h.1
/-- a step after which the goal is marked to be reachable -/
def Pk (S : zS) (X Y Z G x y z s : Nat) (e : Nat → Int32) (k : Nat) : Prop := stp S X Y Z G x y z s k ∧ mkd e Y Z (gx k x) (gy k y) (gz k z) (gs k s)
def fstR (r : Int32) (P : Nat → Prop) : Prop := (∃ k, k < 11 ∧ r = nI k ∧ P k ∧ ∀ i, i < k → ¬ P i) ∨ (r = -1 ∧ ∀ k, k < 11 → ¬ P k)
end
theorem k11 {k : Nat} (hk : k < 11) : k = 0 ∨ k = 1 ∨ k = 2 ∨ (∃ j, k = j + 3 ∧ j < 8) := by
  rcases (show k = 0 ∨ k = 1 ∨ k = 2 ∨ 3 ≤ k by omega) with h | h | h | h
  · exact Or.inl h
  · exact Or.inr (Or.inl h)
  · exact Or.inr (Or.inr (Or.inl h))
  · exact Or.inr (Or.inr (Or.inr ⟨k - 3, by omega, by omega⟩))
set_option maxHeartbeats 4000000 in
set_option maxRecDepth 100000 in
theorem c_X3_isStepTowards (l : Launch) (D : va_G) (t : ClassId × ClassId × ClassId) (a : Nat → Nat) (S : zS) (Xn Yn Zn G x y z s : Nat) (e : Nat → Int32) (k : Nat) (hk : k < 11) (h15 : S 15 = l3 Xn Yn Zn) (hI : zI S) (hG : G < 256) (hX : Xn + Yn + Zn ≤ 8) (hb : inB Xn Yn Zn G x y z s) : zM1 l yX3_isStepTowards cX3_isStepTowards 4 (some .boolean) 3 D t [.ref (a 0), .int (nI G), .int (nI k)] (wR t a (T3 S x y z s e)) (fun r => bz r (stp S Xn Yn Zn G x y z s k)) := by
  refine z_m1 (by decide +kernel) (Nat.le_of_ble_eq_true rfl) (by simp [Value.category]) ?_
  intro E X Z
  refine z_lv (lv' := [some (.ref (a 0)), some (.int (nI G)), some (.int (nI k)), none]) rfl ?_
  have hs := sub8_lt hb.2.2.2 hG
  have hx1 := hb.1
  have hx2 := hb.2.1
  have hx3 := hb.2.2.1
  rcases k11 hk with rfl | rfl | rfl | ⟨j, rfl, hj⟩
  ·
    refine z_iload_n X dX3_isStepTowards_0 rfl rfl ?_
    refine z_iconst (v := nI 3) X dX3_isStepTowards_1 (by decide) ?_
    refine z_callS1 (k := 0) (n := 0) (st := []) X (c_X3_isAmong l D t 0 3 (by omega) (by decide)) k_X3_isAmong q_ml_X3_53 [] ⟨by decide, rfl⟩ (by decide) rfl rfl rfl (Nat.le_of_ble_eq_true rfl) ⟨Nat.zero_le _, Nat.zero_le _⟩ dX3_isStepTowards_2 (fun r2 h2 => ?_)
    rcases h2 with ⟨rfl, h2⟩ | ⟨rfl, h2⟩
    rotate_left
    · exact absurd (by omega) h2
    refine n_if_eq (tgt := 35) X dX3_isStepTowards_5 (by decide) (by omega) (fun c5 => absurd c5 (by decide)) (fun _ => ?_)
    refine z_aload_n X dX3_isStepTowards_8 rfl rfl ?_
    refine z_get X (C := RX3) (T := TX3) (N := 8) (ci := 3) (v := .ref (a 6)) inZ3 0 6 rfl rfl (by decide) q_fl_X3_41 rfl rfl dX3_isStepTowards_9 ?_
    refine z_get X (C := RX0) (T := TX0) (N := 2) (ci := 0) (v := .ref (a 23)) inZ0 6 0 rfl rfl (by decide) q_fl_X3_236 rfl rfl dX3_isStepTowards_12 ?_
    refine z_iload_n X dX3_isStepTowards_15 rfl rfl ?_
    refine n_iald (f := l3 x y z) X 23 rfl (by omega) (by decide) dX3_isStepTowards_16 ?_
    refine z_top (y := nI x) (rfl) ?_
    refine z_aload_n X dX3_isStepTowards_17 rfl rfl ?_
    refine z_get X (C := RX3) (T := TX3) (N := 8) (ci := 3) (v := .ref (a 4)) inZ3 0 3 rfl rfl (by decide) q_fl_X3_30 rfl rfl dX3_isStepTowards_18 ?_
    refine z_get X (C := RX0) (T := TX0) (N := 2) (ci := 0) (v := .ref (a 22)) inZ0 4 0 rfl rfl (by decide) q_fl_X3_236 rfl rfl dX3_isStepTowards_21 ?_
    refine z_iload_n X dX3_isStepTowards_24 rfl rfl ?_
    refine n_iald (f := S 15) X 22 rfl (by omega) (by decide) dX3_isStepTowards_25 ?_
    refine z_top (y := nI Xn) (by rw [h15]; rfl) ?_
    refine n_icmp_ge (tgt := 33) X dX3_isStepTowards_26 (by decide) (by omega) (by omega) (fun c26 => ?_) (fun c26 => ?_)
    ·
      refine z_iconst (v := nI 0) X dX3_isStepTowards_33 (by decide) ?_
      refine z_iret X Z (by decide +kernel) dX3_isStepTowards_34 ?_
      first
        | exact ⟨(), bz_f (fun h => absurd (stp_0.mp h) (by omega)), fun _ _ => trivial⟩
        | exact ⟨(), bz_f (fun h => absurd (stp_1.mp h) (by omega)), fun _ _ => trivial⟩
        | exact ⟨(), bz_f (fun h => absurd (stp_2.mp h) (by omega)), fun _ _ => trivial⟩
        | exact ⟨(), bz_f (fun h => h62 ((stp_j hj).mp h).2), fun _ _ => trivial⟩
        | exact ⟨(), bz_f (fun h => by have q := ((stp_j hj).mp h).1; rw [zt_b2 c53] at q; cases q), fun _ _ => trivial⟩
    ·
      refine z_iconst (v := nI 1) X dX3_isStepTowards_29 (by decide) ?_
      refine z_goto (tgt := 34) X dX3_isStepTowards_30 (by decide) ?_
      refine z_iret X Z (by decide +kernel) dX3_isStepTowards_34 ?_
      first
        | exact ⟨(), bz_t (stp_0.mpr c26), fun _ _ => trivial⟩
        | exact ⟨(), bz_t (stp_1.mpr c26), fun _ _ => trivial⟩
        | exact ⟨(), bz_t (stp_2.mpr c26), fun _ _ => trivial⟩
        | exact ⟨(), bz_t ((stp_j hj).mpr ⟨zt_b1 c53, T3mt.mp h62⟩), fun _ _ => trivial⟩
  ·
    refine z_iload_n X dX3_isStepTowards_0 rfl rfl ?_
    refine z_iconst (v := nI 3) X dX3_isStepTowards_1 (by decide) ?_
    refine z_callS1 (k := 0) (n := 0) (st := []) X (c_X3_isAmong l D t 1 3 (by omega) (by decide)) k_X3_isAmong q_ml_X3_53 [] ⟨by decide, rfl⟩ (by decide) rfl rfl rfl (Nat.le_of_ble_eq_true rfl) ⟨Nat.zero_le _, Nat.zero_le _⟩ dX3_isStepTowards_2 (fun r2 h2 => ?_)
    rcases h2 with ⟨rfl, h2⟩ | ⟨rfl, h2⟩
    rotate_left
    · exact absurd (by omega) h2
    refine n_if_eq (tgt := 35) X dX3_isStepTowards_5 (by decide) (by omega) (fun c5 => absurd c5 (by decide)) (fun _ => ?_)
    refine z_aload_n X dX3_isStepTowards_8 rfl rfl ?_
    refine z_get X (C := RX3) (T := TX3) (N := 8) (ci := 3) (v := .ref (a 6)) inZ3 0 6 rfl rfl (by decide) q_fl_X3_41 rfl rfl dX3_isStepTowards_9 ?_
    refine z_get X (C := RX0) (T := TX0) (N := 2) (ci := 0) (v := .ref (a 23)) inZ0 6 0 rfl rfl (by decide) q_fl_X3_236 rfl rfl dX3_isStepTowards_12 ?_
    refine z_iload_n X dX3_isStepTowards_15 rfl rfl ?_
    refine n_iald (f := l3 x y z) X 23 rfl (by omega) (by decide) dX3_isStepTowards_16 ?_
    refine z_top (y := nI y) (rfl) ?_
    refine z_aload_n X dX3_isStepTowards_17 rfl rfl ?_
    refine z_get X (C := RX3) (T := TX3) (N := 8) (ci := 3) (v := .ref (a 4)) inZ3 0 3 rfl rfl (by decide) q_fl_X3_30 rfl rfl dX3_isStepTowards_18 ?_
    refine z_get X (C := RX0) (T := TX0) (N := 2) (ci := 0) (v := .ref (a 22)) inZ0 4 0 rfl rfl (by decide) q_fl_X3_236 rfl rfl dX3_isStepTowards_21 ?_
    refine z_iload_n X dX3_isStepTowards_24 rfl rfl ?_
    refine n_iald (f := S 15) X 22 rfl (by omega) (by decide) dX3_isStepTowards_25 ?_
    refine z_top (y := nI Yn) (by rw [h15]; rfl) ?_
    refine n_icmp_ge (tgt := 33) X dX3_isStepTowards_26 (by decide) (by omega) (by omega) (fun c26 => ?_) (fun c26 => ?_)
    ·
      refine z_iconst (v := nI 0) X dX3_isStepTowards_33 (by decide) ?_
      refine z_iret X Z (by decide +kernel) dX3_isStepTowards_34 ?_
      first
        | exact ⟨(), bz_f (fun h => absurd (stp_0.mp h) (by omega)), fun _ _ => trivial⟩
        | exact ⟨(), bz_f (fun h => absurd (stp_1.mp h) (by omega)), fun _ _ => trivial⟩
        | exact ⟨(), bz_f (fun h => absurd (stp_2.mp h) (by omega)), fun _ _ => trivial⟩
        | exact ⟨(), bz_f (fun h => h62 ((stp_j hj).mp h).2), fun _ _ => trivial⟩
        | exact ⟨(), bz_f (fun h => by have q := ((stp_j hj).mp h).1; rw [zt_b2 c53] at q; cases q), fun _ _ => trivial⟩
    ·
      refine z_iconst (v := nI 1) X dX3_isStepTowards_29 (by decide) ?_
      refine z_goto (tgt := 34) X dX3_isStepTowards_30 (by decide) ?_
      refine z_iret X Z (by decide +kernel) dX3_isStepTowards_34 ?_
      first
        | exact ⟨(), bz_t (stp_0.mpr c26), fun _ _ => trivial⟩
        | exact ⟨(), bz_t (stp_1.mpr c26), fun _ _ => trivial⟩
        | exact ⟨(), bz_t (stp_2.mpr c26), fun _ _ => trivial⟩
        | exact ⟨(), bz_t ((stp_j hj).mpr ⟨zt_b1 c53, T3mt.mp h62⟩), fun _ _ => trivial⟩
  ·
    refine z_iload_n X dX3_isStepTowards_0 rfl rfl ?_
    refine z_iconst (v := nI 3) X dX3_isStepTowards_1 (by decide) ?_
    refine z_callS1 (k := 0) (n := 0) (st := []) X (c_X3_isAmong l D t 2 3 (by omega) (by decide)) k_X3_isAmong q_ml_X3_53 [] ⟨by decide, rfl⟩ (by decide) rfl rfl rfl (Nat.le_of_ble_eq_true rfl) ⟨Nat.zero_le _, Nat.zero_le _⟩ dX3_isStepTowards_2 (fun r2 h2 => ?_)
    rcases h2 with ⟨rfl, h2⟩ | ⟨rfl, h2⟩
    rotate_left
    · exact absurd (by omega) h2
    refine n_if_eq (tgt := 35) X dX3_isStepTowards_5 (by decide) (by omega) (fun c5 => absurd c5 (by decide)) (fun _ => ?_)
    refine z_aload_n X dX3_isStepTowards_8 rfl rfl ?_
    refine z_get X (C := RX3) (T := TX3) (N := 8) (ci := 3) (v := .ref (a 6)) inZ3 0 6 rfl rfl (by decide) q_fl_X3_41 rfl rfl dX3_isStepTowards_9 ?_
    refine z_get X (C := RX0) (T := TX0) (N := 2) (ci := 0) (v := .ref (a 23)) inZ0 6 0 rfl rfl (by decide) q_fl_X3_236 rfl rfl dX3_isStepTowards_12 ?_
    refine z_iload_n X dX3_isStepTowards_15 rfl rfl ?_
    refine n_iald (f := l3 x y z) X 23 rfl (by omega) (by decide) dX3_isStepTowards_16 ?_
    refine z_top (y := nI z) (rfl) ?_
    refine z_aload_n X dX3_isStepTowards_17 rfl rfl ?_
    refine z_get X (C := RX3) (T := TX3) (N := 8) (ci := 3) (v := .ref (a 4)) inZ3 0 3 rfl rfl (by decide) q_fl_X3_30 rfl rfl dX3_isStepTowards_18 ?_
    refine z_get X (C := RX0) (T := TX0) (N := 2) (ci := 0) (v := .ref (a 22)) inZ0 4 0 rfl rfl (by decide) q_fl_X3_236 rfl rfl dX3_isStepTowards_21 ?_
    refine z_iload_n X dX3_isStepTowards_24 rfl rfl ?_
    refine n_iald (f := S 15) X 22 rfl (by omega) (by decide) dX3_isStepTowards_25 ?_
    refine z_top (y := nI Zn) (by rw [h15]; rfl) ?_
    refine n_icmp_ge (tgt := 33) X dX3_isStepTowards_26 (by decide) (by omega) (by omega) (fun c26 => ?_) (fun c26 => ?_)
    ·
      refine z_iconst (v := nI 0) X dX3_isStepTowards_33 (by decide) ?_
      refine z_iret X Z (by decide +kernel) dX3_isStepTowards_34 ?_
      first
        | exact ⟨(), bz_f (fun h => absurd (stp_0.mp h) (by omega)), fun _ _ => trivial⟩
        | exact ⟨(), bz_f (fun h => absurd (stp_1.mp h) (by omega)), fun _ _ => trivial⟩
        | exact ⟨(), bz_f (fun h => absurd (stp_2.mp h) (by omega)), fun _ _ => trivial⟩
        | exact ⟨(), bz_f (fun h => h62 ((stp_j hj).mp h).2), fun _ _ => trivial⟩
        | exact ⟨(), bz_f (fun h => by have q := ((stp_j hj).mp h).1; rw [zt_b2 c53] at q; cases q), fun _ _ => trivial⟩
    ·
      refine z_iconst (v := nI 1) X dX3_isStepTowards_29 (by decide) ?_
      refine z_goto (tgt := 34) X dX3_isStepTowards_30 (by decide) ?_
      refine z_iret X Z (by decide +kernel) dX3_isStepTowards_34 ?_
      first
        | exact ⟨(), bz_t (stp_0.mpr c26), fun _ _ => trivial⟩
        | exact ⟨(), bz_t (stp_1.mpr c26), fun _ _ => trivial⟩
        | exact ⟨(), bz_t (stp_2.mpr c26), fun _ _ => trivial⟩
        | exact ⟨(), bz_t ((stp_j hj).mpr ⟨zt_b1 c53, T3mt.mp h62⟩), fun _ _ => trivial⟩
  ·
    refine z_iload_n X dX3_isStepTowards_0 rfl rfl ?_
    refine z_iconst (v := nI 3) X dX3_isStepTowards_1 (by decide) ?_
    refine z_callS1 (k := 0) (n := 0) (st := []) X (c_X3_isAmong l D t (j + 3) 3 (by omega) (by decide)) k_X3_isAmong q_ml_X3_53 [] ⟨by decide, rfl⟩ (by decide) rfl rfl rfl (Nat.le_of_ble_eq_true rfl) ⟨Nat.zero_le _, Nat.zero_le _⟩ dX3_isStepTowards_2 (fun r2 h2 => ?_)
    rcases h2 with ⟨rfl, h2⟩ | ⟨rfl, h2⟩
    · exact absurd h2 (by omega)
    refine n_if_eq (tgt := 35) X dX3_isStepTowards_5 (by decide) (by omega) (fun _ => ?_) (fun c5 => absurd c5 (by decide))
    refine z_iload_n X dX3_isStepTowards_35 rfl rfl ?_
    refine z_iconst (v := nI 3) X dX3_isStepTowards_36 (by decide) ?_
    refine n_isub X dX3_isStepTowards_37 (by omega) ?_
    refine z_top (y := nI j) (by rw [Nat.add_sub_cancel]) ?_
    refine z_istore_n X dX3_isStepTowards_38 rfl (Nat.le_of_ble_eq_true rfl) ?_
    refine z_lv (lv' := [some (.ref (a 0)), some (.int (nI G)), some (.int (nI (j + 3))), some (.int (nI j))]) rfl ?_
    refine z_iload_n X dX3_isStepTowards_39 rfl rfl ?_
    refine z_bipush (v := nI 8) X dX3_isStepTowards_40 (by decide) ?_
    refine z_callS1 (k := 0) (n := 0) (st := []) X (c_X3_isAmong l D t j 8 (by omega) (by decide)) k_X3_isAmong q_ml_X3_53 [] ⟨by decide, rfl⟩ (by decide) rfl rfl rfl (Nat.le_of_ble_eq_true rfl) ⟨Nat.zero_le _, Nat.zero_le _⟩ dX3_isStepTowards_42 (fun r42 h42 => ?_)
    rcases h42 with ⟨rfl, h42⟩ | ⟨rfl, h42⟩
    rotate_left
    · exact absurd (by omega) h42
    refine n_if_eq (tgt := 72) X dX3_isStepTowards_45 (by decide) (by omega) (fun c45 => absurd c45 (by decide)) (fun _ => ?_)
    refine z_iload_n X dX3_isStepTowards_48 rfl rfl ?_
    refine z_iload_n X dX3_isStepTowards_49 rfl rfl ?_
    refine n_ishr X dX3_isStepTowards_50 (by omega) (by omega) ?_
    refine z_iconst (v := nI 1) X dX3_isStepTowards_51 (by decide) ?_
    refine n_iand X dX3_isStepTowards_52 ?_
    rw [zt_bit1]
    refine n_if_eq (tgt := 72) X dX3_isStepTowards_53 (by decide) (by omega) (fun c53 => ?_) (fun c53 => ?_)
    ·
      refine z_iconst (v := nI 0) X dX3_isStepTowards_72 (by decide) ?_
      refine z_iret X Z (by decide +kernel) dX3_isStepTowards_73 ?_
      first
        | exact ⟨(), bz_f (fun h => absurd (stp_0.mp h) (by omega)), fun _ _ => trivial⟩
        | exact ⟨(), bz_f (fun h => absurd (stp_1.mp h) (by omega)), fun _ _ => trivial⟩
        | exact ⟨(), bz_f (fun h => absurd (stp_2.mp h) (by omega)), fun _ _ => trivial⟩
        | exact ⟨(), bz_f (fun h => h62 ((stp_j hj).mp h).2), fun _ _ => trivial⟩
        | exact ⟨(), bz_f (fun h => by have q := ((stp_j hj).mp h).1; rw [zt_b2 c53] at q; cases q), fun _ _ => trivial⟩
    ·
      refine z_aload_n X dX3_isStepTowards_56 rfl rfl ?_
      refine z_aload_n X dX3_isStepTowards_57 rfl rfl ?_
      refine z_get X (C := RX3) (T := TX3) (N := 8) (ci := 3) (v := .ref (a 6)) inZ3 0 6 rfl rfl (by decide) q_fl_X3_41 rfl rfl dX3_isStepTowards_58 ?_
      refine z_iload_n X dX3_isStepTowards_61 rfl rfl ?_
      refine z_callV1 (k := 0) (n := 0) (st := []) X (c_X3_mayTakeT l D t a (T3 S x y z s e) x y z s j rfl rfl (by omega) (by omega) (by omega) (T3I hI)) k_X3_mayTake q_ml_X3_149 is24 ⟨by decide, rfl⟩ 0 3 rfl rfl (by decide) rfl rfl rfl (Nat.le_of_ble_eq_true rfl) ⟨Nat.zero_le _, Nat.zero_le _⟩ dX3_isStepTowards_62 (fun r62 h62 => ?_)
      rcases h62 with ⟨rfl, h62⟩ | ⟨rfl, h62⟩
      ·
        refine n_if_eq (tgt := 72) X dX3_isStepTowards_65 (by decide) (by omega) (fun c65 => absurd c65 (by decide)) (fun _ => ?_)
        refine z_iconst (v := nI 1) X dX3_isStepTowards_68 (by decide) ?_
        refine z_goto (tgt := 73) X dX3_isStepTowards_69 (by decide) ?_
        refine z_iret X Z (by decide +kernel) dX3_isStepTowards_73 ?_
        first
          | exact ⟨(), bz_t (stp_0.mpr c26), fun _ _ => trivial⟩
          | exact ⟨(), bz_t (stp_1.mpr c26), fun _ _ => trivial⟩
          | exact ⟨(), bz_t (stp_2.mpr c26), fun _ _ => trivial⟩
          | exact ⟨(), bz_t ((stp_j hj).mpr ⟨zt_b1 c53, T3mt.mp h62⟩), fun _ _ => trivial⟩
      ·
        refine n_if_eq (tgt := 72) X dX3_isStepTowards_65 (by decide) (by omega) (fun _ => ?_) (fun c65 => absurd c65 (by decide))
        refine z_iconst (v := nI 0) X dX3_isStepTowards_72 (by decide) ?_
        refine z_iret X Z (by decide +kernel) dX3_isStepTowards_73 ?_
        first
          | exact ⟨(), bz_f (fun h => absurd (stp_0.mp h) (by omega)), fun _ _ => trivial⟩
          | exact ⟨(), bz_f (fun h => absurd (stp_1.mp h) (by omega)), fun _ _ => trivial⟩
          | exact ⟨(), bz_f (fun h => absurd (stp_2.mp h) (by omega)), fun _ _ => trivial⟩
          | exact ⟨(), bz_f (fun h => h62 ((stp_j hj).mp h).2), fun _ _ => trivial⟩
          | exact ⟨(), bz_f (fun h => by have q := ((stp_j hj).mp h).1; rw [zt_b2 c53] at q; cases q), fun _ _ => trivial⟩
set_option maxHeartbeats 4000000 in
set_option maxRecDepth 100000 in
theorem c_X3_firstStepTowards (l : Launch) (D : va_G) (t : ClassId × ClassId × ClassId) (a : Nat → Nat) (S : zS) (Xn Yn Zn G x y z s : Nat) (e : Nat → Int32) (h15 : S 15 = l3 Xn Yn Zn) (hI : zI S) (hG : G < 256) (hX : Xn + Yn + Zn ≤ 8) (hb : inB Xn Yn Zn G x y z s) : zM2 l yX3_firstStepTowards cX3_firstStepTowards 4 (some .int) 4 D t [.ref (a 0), .int (nI G)] (wR t a (T3 S x y z s e)) (fun r (_ : Unit) => fstR r (Pk S Xn Yn Zn G x y z s e)) (fun _ => wR t a (T3 S x y z s e)) := by
  refine z_m2 (by decide +kernel) (Nat.le_of_ble_eq_true rfl) (by simp [Value.category]) ?_
  intro E X Z Y
  refine z_lv (lv' := [some (.ref (a 0)), some (.int (nI G)), none, none]) rfl ?_
  have hs := sub8_lt hb.2.2.2 hG
  refine z_iconst (v := nI 0) X dX3_firstStepTowards_0 (by decide) ?_
  refine z_istore_n X dX3_firstStepTowards_1 rfl (Nat.le_of_ble_eq_true rfl) ?_
  refine z_lv (lv' := [some (.ref (a 0)), some (.int (nI G)), some (.int (nI 0)), none]) rfl ?_
  refine zl_up 11 (fun i => (∀ q, q < i → ¬ Pk S Xn Yn Zn G x y z s e q) → Wz E 0 0 2 [some (.ref (a 0)), some (.int (nI G)), some (.int (nI i)), none] [] (wR t a (T3 S x y z s e))) ?_ ?_ 0 (by omega) (fun q h => absurd h (Nat.not_lt_zero q))
  ·
    intro hv
    refine z_iload_n X dX3_firstStepTowards_2 rfl rfl ?_
    refine z_bipush (v := nI 11) X dX3_firstStepTowards_3 (by decide) ?_
    refine n_icmp_ge (tgt := 50) X dX3_firstStepTowards_5 (by decide) (by omega) (by omega) (fun _ => ?_) (fun c5 => absurd c5 (by decide))
    refine z_iconst (v := (-1)) X dX3_firstStepTowards_50 (by decide) ?_
    refine z_iret X Z rfl dX3_firstStepTowards_51 ?_
    exact ⟨(), Or.inr ⟨rfl, hv⟩, fun q hq => hq⟩
  ·
    intro i hi ih hv
    refine z_iload_n X dX3_firstStepTowards_2 rfl rfl ?_
    refine z_bipush (v := nI 11) X dX3_firstStepTowards_3 (by decide) ?_
    refine n_icmp_ge (tgt := 50) X dX3_firstStepTowards_5 (by decide) (by omega) (by omega) (fun c5 => absurd c5 (by omega)) (fun _ => ?_)
    refine z_aload_n X dX3_firstStepTowards_8 rfl rfl ?_
    refine z_iload_n X dX3_firstStepTowards_9 rfl rfl ?_
    refine z_iload_n X dX3_firstStepTowards_10 rfl rfl ?_
    refine z_callV1 (k := 0) (n := 0) (st := []) X (c_X3_isStepTowards l D t a S Xn Yn Zn G x y z s e i (by omega) h15 hI hG hX hb) k_X3_isStepTowards q_ml_X3_268 is24 ⟨by decide, rfl⟩ 0 3 rfl rfl (by decide) rfl rfl rfl (Nat.le_of_ble_eq_true rfl) ⟨Nat.zero_le _, Nat.zero_le _⟩ dX3_firstStepTowards_11 (fun r11 h11 => ?_)
    rcases h11 with ⟨rfl, h11⟩ | ⟨rfl, h11⟩
    ·
      refine n_if_eq (tgt := 44) X dX3_firstStepTowards_14 (by decide) (by omega) (fun c14 => absurd c14 (by decide)) (fun _ => ?_)
      refine z_aload_n X dX3_firstStepTowards_17 rfl rfl ?_
      refine z_get X (C := RX3) (T := TX3) (N := 8) (ci := 3) (v := .ref (a 6)) inZ3 0 6 rfl rfl (by decide) q_fl_X3_41 rfl rfl dX3_firstStepTowards_18 ?_
      refine z_iload_n X dX3_firstStepTowards_21 rfl rfl ?_
      refine z_callV3 (k := 0) (n := 0) (st := []) X Y aR_eq (c_goOnT l D t a x y z s i (by omega) (by omega)) k_X0_goOn q_ml_X3_271 [6, 23] (fun _ => wR t a (T3 S (gx i x) (gy i y) (gz i z) (gs i s) e)) (fun _ => swT3) ppT3 6 0 rfl rfl (by decide) rfl rfl rfl (Nat.le_of_ble_eq_true rfl) ⟨Nat.zero_le _, Nat.zero_le _⟩ dX3_firstStepTowards_22 (fun _ _ => ?_)
      refine z_aload_n X dX3_firstStepTowards_25 rfl rfl ?_
      refine z_callV1 (k := 0) (n := 0) (st := []) X (c_X3_isMarked l D t a S Xn Yn Zn (gx i x) (gy i y) (gz i z) (gs i s) e h15 (sub8_lt ((stp_inB h11).mpr hb).2.2.2 hG) (wd_lt hX ((stp_inB h11).mpr hb).1 ((stp_inB h11).mpr hb).2.1 ((stp_inB h11).mpr hb).2.2.1 (sub8_lt ((stp_inB h11).mpr hb).2.2.2 hG))) k_X3_isMarked q_ml_X3_258 is24 ⟨by decide, rfl⟩ 0 3 rfl rfl (by decide) rfl rfl rfl (Nat.le_of_ble_eq_true rfl) ⟨Nat.zero_le _, Nat.zero_le _⟩ dX3_firstStepTowards_26 (fun r26 h26 => ?_)
      rcases h26 with ⟨rfl, h26⟩ | ⟨rfl, h26⟩
      ·
        refine z_istore_n X dX3_firstStepTowards_29 rfl (Nat.le_of_ble_eq_true rfl) ?_
        refine z_lv (lv' := [some (.ref (a 0)), some (.int (nI G)), some (.int (nI i)), some (.int (nI 1))]) rfl ?_
        refine z_aload_n X dX3_firstStepTowards_30 rfl rfl ?_
        refine z_get X (C := RX3) (T := TX3) (N := 8) (ci := 3) (v := .ref (a 6)) inZ3 0 6 rfl rfl (by decide) q_fl_X3_41 rfl rfl dX3_firstStepTowards_31 ?_
        refine z_iload_n X dX3_firstStepTowards_34 rfl rfl ?_
        refine z_callV3 (k := 0) (n := 0) (st := []) X Y aR_eq (c_goBackT l D t a x y z s i (by omega) (by omega) (stp_gs h11)) k_X0_goBack q_ml_X3_274 [6, 23] (fun _ => wR t a (T3 S x y z s e)) (fun _ => swT3) ppT3 6 0 rfl rfl (by decide) rfl rfl rfl (Nat.le_of_ble_eq_true rfl) ⟨Nat.zero_le _, Nat.zero_le _⟩ dX3_firstStepTowards_35 (fun _ _ => ?_)
        refine z_iload_n X dX3_firstStepTowards_38 rfl rfl ?_
        refine n_if_eq (tgt := 44) X dX3_firstStepTowards_39 (by decide) (by omega) (fun c39 => absurd c39 (by decide)) (fun _ => ?_)
        refine z_iload_n X dX3_firstStepTowards_42 rfl rfl ?_
        refine z_iret X Z rfl dX3_firstStepTowards_43 ?_
        exact ⟨(), Or.inl ⟨i, hi, rfl, ⟨h11, h26⟩, hv⟩, fun q hq => hq⟩
      ·
        refine z_istore_n X dX3_firstStepTowards_29 rfl (Nat.le_of_ble_eq_true rfl) ?_
        refine z_lv (lv' := [some (.ref (a 0)), some (.int (nI G)), some (.int (nI i)), some (.int (nI 0))]) rfl ?_
        refine z_aload_n X dX3_firstStepTowards_30 rfl rfl ?_
        refine z_get X (C := RX3) (T := TX3) (N := 8) (ci := 3) (v := .ref (a 6)) inZ3 0 6 rfl rfl (by decide) q_fl_X3_41 rfl rfl dX3_firstStepTowards_31 ?_
        refine z_iload_n X dX3_firstStepTowards_34 rfl rfl ?_
        refine z_callV3 (k := 0) (n := 0) (st := []) X Y aR_eq (c_goBackT l D t a x y z s i (by omega) (by omega) (stp_gs h11)) k_X0_goBack q_ml_X3_274 [6, 23] (fun _ => wR t a (T3 S x y z s e)) (fun _ => swT3) ppT3 6 0 rfl rfl (by decide) rfl rfl rfl (Nat.le_of_ble_eq_true rfl) ⟨Nat.zero_le _, Nat.zero_le _⟩ dX3_firstStepTowards_35 (fun _ _ => ?_)
        refine z_iload_n X dX3_firstStepTowards_38 rfl rfl ?_
        refine n_if_eq (tgt := 44) X dX3_firstStepTowards_39 (by decide) (by omega) (fun _ => ?_) (fun c39 => absurd c39 (by decide))
        refine z_iinc (v := nI (i + 1)) X dX3_firstStepTowards_44 rfl (nI_add i 1) ?_
        refine z_lv (lv' := [some (.ref (a 0)), some (.int (nI G)), some (.int (nI (i + 1))), some (.int (nI 0))]) rfl ?_
        refine z_goto (tgt := 2) X dX3_firstStepTowards_47 (by decide) ?_
        have hv2 : ∀ q, q < i + 1 → ¬ Pk S Xn Yn Zn G x y z s e q := by
          intro q hq hp
          rcases Nat.lt_succ_iff_lt_or_eq.mp hq with q1 | rfl
          · exact hv q q1 hp
          · first | exact h11 hp.1 | exact h26 hp.2
        refine Wz.less (lv' := [some (.ref (a 0)), some (.int (nI G)), some (.int (nI (i + 1))), none]) (by simp [zle] <;> rfl) ?_
        exact ih hv2
    ·
      refine n_if_eq (tgt := 44) X dX3_firstStepTowards_14 (by decide) (by omega) (fun _ => ?_) (fun c14 => absurd c14 (by decide))
      refine z_iinc (v := nI (i + 1)) X dX3_firstStepTowards_44 rfl (nI_add i 1) ?_
      refine z_lv (lv' := [some (.ref (a 0)), some (.int (nI G)), some (.int (nI (i + 1))), none]) rfl ?_
      refine z_goto (tgt := 2) X dX3_firstStepTowards_47 (by decide) ?_
      have hv2 : ∀ q, q < i + 1 → ¬ Pk S Xn Yn Zn G x y z s e q := by
        intro q hq hp
        rcases Nat.lt_succ_iff_lt_or_eq.mp hq with q1 | rfl
        · exact hv q q1 hp
        · first | exact h11 hp.1 | exact h26 hp.2
      exact ih hv2
end
section
/-! the table of marks -/
def ix (Y Z x y z s : Nat) : Nat := stg Y Z x y z * 256 + s
def Tb (S : zS) (X Y Z G : Nat) (e : Nat → Int32) (p : Nat) : Prop := ∀ x y z s, x ≤ X → y ≤ Y → z ≤ Z → s < 256 → (p ≤ ix Y Z x y z s → (mkd e Y Z x y z s ↔ Rc S X Y Z G x y z s)) ∧ (ix Y Z x y z s < p → ¬ mkd e Y Z x y z s)
section
variable {S : zS} {X Y Z G x y z s k p : Nat} {e : Nat → Int32}
theorem ixs : ix Y Z x y z (s + 1) = ix Y Z x y z s + 1 := by unfold ix; omega
theorem ix0 : ix Y Z x y z 0 = stg Y Z x y z * 256 := by unfold ix; omega
theorem ix_inj {x' y' z' s' : Nat} (hy : y ≤ Y) (hz : z ≤ Z) (hy' : y' ≤ Y) (hz' : z' ≤ Z) (hs : s < 256) (hs' : s' < 256) (h : ix Y Z x y z s = ix Y Z x' y' z' s') : x = x' ∧ y = y' ∧ z = z' ∧ s = s' := by
  unfold ix at h
  have h1 : stg Y Z x y z = stg Y Z x' y' z' := by omega
  obtain ⟨h2, h3, h4⟩ := stg_inj hy hz hy' hz' h1
  exact ⟨h2, h3, h4, by omega⟩
theorem ix_wd : wd Y Z x y z s = ix Y Z x y z s / 32 ∧ s % 32 = ix Y Z x y z s % 32 := by
  unfold wd ix; omega
theorem or_gt {s j : Nat} (h : s.testBit j = false) : s < s ||| 2 ^ j := by
  have h1 : s ≤ s ||| 2 ^ j := Nat.left_le_or
  rcases Nat.lt_or_eq_of_le h1 with q | q
  · exact q
  · have h2 := or_bit (s := s) (j := j) (i := j)
    rw [← q, h] at h2
    simp at h2
theorem ix_succ (h : stp S X Y Z G x y z s k) (hb : inB X Y Z G x y z s) (hG : G < 256) : ix Y Z x y z s + 1 ≤ ix Y Z (gx k x) (gy k y) (gz k z) (gs k s) := by
  have hs := sub8_lt hb.2.2.2 hG
  obtain ⟨hx, hy, hz, -⟩ := hb
  unfold ix
  rcases stp_cases h with ⟨-, h0, e1, e2, e3, e4⟩ | ⟨-, h0, e1, e2, e3, e4⟩ | ⟨-, h0, e1, e2, e3, e4⟩ | ⟨j, -, hj, hbj, hm, e1, e2, e3, e4⟩
  · rw [e1, e2, e3, e4]
    have h1 := stg_x (Y := Y) (Z := Z) (X := X) (x := x) hy hz
    have h2 := stg_mono (Y := Y) (Z := Z) (Nat.le_refl (x + 1)) (Nat.zero_le y) (Nat.zero_le z)
    omega
  · rw [e1, e2, e3, e4]
    have h1 := stg_y (Y := Y) (Z := Z) (x := x) (y := y) hz
    have h2 := stg_mono (Y := Y) (Z := Z) (Nat.le_refl x) (Nat.le_refl (y + 1)) (Nat.zero_le z)
    omega
  · rw [e1, e2, e3, e4, stg_z]; omega
  · rw [e1, e2, e3, e4]
    have := or_gt hm.1
    omega
theorem mkd_iff {x' y' z' s' : Nat} (hy : y ≤ Y) (hz : z ≤ Z) (hy' : y' ≤ Y) (hz' : z' ≤ Z) (hs : s < 256) (hs' : s' < 256) : mkd (upd e (wd Y Z x y z s) (e (wd Y Z x y z s) ||| nI (2 ^ (s % 32)))) Y Z x' y' z' s' ↔ mkd e Y Z x' y' z' s' ∨ ix Y Z x' y' z' s' = ix Y Z x y z s := by
  unfold mkd upd
  have w1 := ix_wd (Y := Y) (Z := Z) (x := x) (y := y) (z := z) (s := s)
  have w2 := ix_wd (Y := Y) (Z := Z) (x := x') (y := y') (z := z') (s := s')
  by_cases h : wd Y Z x' y' z' s' = wd Y Z x y z s
  · rw [if_pos h, btm_or, btm_pow (Nat.mod_lt _ (by decide)) (Nat.mod_lt _ (by decide)), h]
    constructor
    · rintro (q | q)
      · exact Or.inl q
      · exact Or.inr (by omega)
    · rintro (q | q)
      · exact Or.inl q
      · exact Or.inr (by omega)
  · rw [if_neg h]
    constructor
    · exact Or.inl
    · rintro (q | q)
      · exact q
      · exact absurd (by omega) h
theorem Tb_mark (hT : Tb S X Y Z G e (ix Y Z x y z (s + 1))) (hx : x ≤ X) (hy : y ≤ Y) (hz : z ≤ Z) (hs : s < 256) (hR : Rc S X Y Z G x y z s) : Tb S X Y Z G (upd e (wd Y Z x y z s) (e (wd Y Z x y z s) ||| nI (2 ^ (s % 32)))) (ix Y Z x y z s) := by
  rw [ixs] at hT
  intro x' y' z' s' hx' hy' hz' hs'
  obtain ⟨h1, h2⟩ := hT x' y' z' s' hx' hy' hz' hs'
  rw [mkd_iff hy hz hy' hz' hs hs']
  constructor
  · intro h
    rcases Nat.eq_or_lt_of_le h with q | q
    · obtain ⟨rfl, rfl, rfl, rfl⟩ := ix_inj hy hz hy' hz' hs hs' q
      exact ⟨fun _ => hR, fun _ => Or.inr rfl⟩
    · rw [h1 q]
      exact ⟨fun q2 => q2.elim id (fun q3 => absurd q3 (by omega)), Or.inl⟩
  · intro h q
    rcases q with q | q
    · exact h2 (by omega) q
    · omega
theorem Tb_skip (hT : Tb S X Y Z G e (ix Y Z x y z (s + 1))) (hy : y ≤ Y) (hz : z ≤ Z) (hs : s < 256) (hR : ¬ Rc S X Y Z G x y z s) : Tb S X Y Z G e (ix Y Z x y z s) := by
  rw [ixs] at hT
  intro x' y' z' s' hx' hy' hz' hs'
  obtain ⟨h1, h2⟩ := hT x' y' z' s' hx' hy' hz' hs'
  constructor
  · intro h
    rcases Nat.eq_or_lt_of_le h with q | q
    · obtain ⟨rfl, rfl, rfl, rfl⟩ := ix_inj hy hz hy' hz' hs hs' q
      exact ⟨fun q2 => absurd q2 (h2 (by omega)), fun q2 => absurd q2 hR⟩
    · exact h1 q
  · intro h
    exact h2 (by omega)
theorem sub_le (h : sub8 s G) : s ≤ G := by
  rcases Nat.lt_or_ge G s with q | q
  · exfalso
    have h1 : s &&& G = s := by
      apply Nat.eq_of_testBit_eq
      intro i
      rw [Nat.testBit_and]
      cases hb : s.testBit i with
      | false => rfl
      | true => rw [h i hb]; rfl
    have h2 : s &&& G ≤ G := Nat.and_le_right
    omega
  · exact q
/-- sets above the goal are marked nowhere, and lead nowhere -/
theorem Tb_top (hx : x ≤ X) (hy : y ≤ Y) (hz : z ≤ Z) (hG : G < 256) (hT : Tb S X Y Z G e ((stg Y Z x y z + 1) * 256)) : Tb S X Y Z G e (ix Y Z x y z (G + 1)) := by
  rw [ixs]
  intro x' y' z' s' hx' hy' hz' hs'
  obtain ⟨h1, h2⟩ := hT x' y' z' s' hx' hy' hz' hs'
  constructor
  · intro h
    rcases Nat.lt_or_ge (ix Y Z x' y' z' s') ((stg Y Z x y z + 1) * 256) with q | q
    · refine ⟨fun q2 => absurd q2 (h2 q), fun q2 => ?_⟩
      have h3 := sub_le (Rc_inB q2).2.2.2
      unfold ix at h q
      have h4 : stg Y Z x' y' z' = stg Y Z x y z := by omega
      omega
    · exact h1 q
  · intro h
    exact h2 (by unfold ix at h ⊢; omega)
theorem Pk_Rc (hT : Tb S X Y Z G e (ix Y Z x y z (s + 1))) (hb : inB X Y Z G x y z s) (hG : G < 256) : Pk S X Y Z G x y z s e k ↔ stp S X Y Z G x y z s k ∧ Rc S X Y Z G (gx k x) (gy k y) (gz k z) (gs k s) := by
  rw [ixs] at hT
  unfold Pk
  constructor
  · rintro ⟨h1, h2⟩
    have b := (stp_inB h1).mpr hb
    exact ⟨h1, ((hT _ _ _ _ b.1 b.2.1 b.2.2.1 (sub8_lt b.2.2.2 hG)).1 (ix_succ h1 hb hG)).mp h2⟩
  · rintro ⟨h1, h2⟩
    have b := (stp_inB h1).mpr hb
    exact ⟨h1, ((hT _ _ _ _ b.1 b.2.1 b.2.2.1 (sub8_lt b.2.2.2 hG)).1 (ix_succ h1 hb hG)).mpr h2⟩
theorem Rc_Pk (hT : Tb S X Y Z G e (ix Y Z x y z (s + 1))) (hb : inB X Y Z G x y z s) (hG : G < 256) : Rc S X Y Z G x y z s ↔ (x = X ∧ y = Y ∧ z = Z ∧ s = G) ∨ ∃ k, k < 11 ∧ Pk S X Y Z G x y z s e k := by
  rw [Rc_step]
  constructor
  · rintro (h | ⟨k, h1, h2⟩)
    · exact Or.inl h
    · exact Or.inr ⟨k, h1, (Pk_Rc hT hb hG).mpr h2⟩
  · rintro (h | ⟨k, h1, h2⟩)
    · exact Or.inl h
    · exact Or.inr ⟨k, h1, (Pk_Rc hT hb hG).mp h2⟩
theorem fst_ne {r : Int32} {P : Nat → Prop} (h : fstR r P) : ¬ r = -1 ↔ ∃ k, k < 11 ∧ P k := by
  rcases h with ⟨k, h1, rfl, h2, -⟩ | ⟨rfl, h⟩
  · exact ⟨fun _ => ⟨k, h1, h2⟩, fun _ => zn_m1 k (by omega)⟩
  · exact ⟨fun q => absurd rfl q, fun ⟨k, h1, h2⟩ => absurd h2 (h k h1)⟩
theorem Tb_0 (h : (stg Y Z (X + 1) 0 0) * 256 ≤ p) : Tb S X Y Z G (fun _ => nI 0) p := by
  intro x y z s hx hy hz hs
  have h1 := stg_x (X := X) (x := x) hy hz
  have h2 := stg_mono (Y := Y) (Z := Z) (show x + 1 ≤ X + 1 by omega) (Nat.le_refl 0) (Nat.le_refl 0)
  have h3 : ix Y Z x y z s < p := by unfold ix; omega
  exact ⟨fun h => absurd h (by omega), fun _ => btm_0 _⟩
theorem stg_ys : stg Y Z x (y + 1) 0 = stg Y Z x y Z + 1 := by
  unfold stg
  rw [← Nat.add_assoc, Nat.add_mul (x * (Y + 1) + y), Nat.one_mul]
  omega
theorem stg_xs : stg Y Z (x + 1) 0 0 = stg Y Z x Y Z + 1 := by
  unfold stg
  rw [Nat.add_mul x 1, Nat.one_mul]
  simp only [Nat.add_zero]
  rw [← Nat.add_assoc, Nat.add_mul (x * (Y + 1) + Y), Nat.one_mul]
  omega
end
theorem zn_xor (a b : Nat) : nI a ^^^ nI b = nI (a ^^^ b) := by
  apply Int32.toBitVec_inj.1
  show BitVec.ofNat 32 a ^^^ BitVec.ofNat 32 b = BitVec.ofNat 32 (a ^^^ b)
  apply BitVec.eq_of_getLsbD_eq
  intro i hi
  simp [hi]
/-- what is in s and not in G -/
def dif (s G : Nat) : Nat := s &&& (G ^^^ 4294967295)
theorem dif_le (s G : Nat) : dif s G ≤ s := Nat.and_le_left
theorem zn_dif (s G : Nat) : nI s &&& (nI G ^^^ (-1)) = nI (dif s G) := by
  rw [show (-1 : Int32) = nI 4294967295 by decide, zn_xor, zn_and]; rfl
theorem dif_bit {s G i : Nat} : (dif s G).testBit i = (s.testBit i && (G.testBit i ^^ decide (i < 32))) := by
  unfold dif
  rw [Nat.testBit_and, Nat.testBit_xor, show (4294967295 : Nat) = 2 ^ 32 - 1 by decide, Nat.testBit_two_pow_sub_one]
theorem dif_0 {s G : Nat} (hs : s < 256) : dif s G = 0 ↔ sub8 s G := by
  constructor
  · intro h i hi
    have h1 := dif_bit (s := s) (G := G) (i := i)
    rw [h, hi] at h1
    have h2 : i < 32 := by
      rcases Nat.lt_or_ge i 8 with q | q
      · omega
      · rw [big_bit hs q] at hi; cases hi
    simp [h2] at h1
    exact h1
  · intro h
    apply Nat.eq_of_testBit_eq
    intro i
    rw [dif_bit]
    cases hi : s.testBit i with
    | false => simp
    | true =>
      have h2 : i < 32 := by
        rcases Nat.lt_or_ge i 8 with q | q
        · omega
        · rw [big_bit hs q] at hi; cases hi
      rw [h i hi]; simp [h2]
set_option maxHeartbeats 4000000 in
set_option maxRecDepth 100000 in
theorem c_X3_markSets (l : Launch) (D : va_G) (t : ClassId × ClassId × ClassId) (a : Nat → Nat) (S : zS) (Xn Yn Zn G x y z s : Nat) (e : Nat → Int32) (h15 : S 15 = l3 Xn Yn Zn) (h17 : S 17 0 = nI (Xn + Yn + Zn)) (hI : zI S) (hG : G < 256) (hX : Xn + Yn + Zn ≤ 8) (hx : x ≤ Xn) (hy : y ≤ Yn) (hz : z ≤ Zn) (hT : Tb S Xn Yn Zn G e ((stg Yn Zn x y z + 1) * 256)) : zM3 l yX3_markSets cX3_markSets 4 5 D t [.ref (a 0), .int (nI G)] (wR t a (T3 S x y z s e)) (fun u : Nat × (Nat → Int32) => Tb S Xn Yn Zn G u.2 (stg Yn Zn x y z * 256)) (fun u => wR t a (T3 S x y z u.1 u.2)) := by
  refine z_m3 (by decide +kernel) (Nat.le_of_ble_eq_true rfl) (by simp [Value.category]) ?_
  intro E X Z Y
  refine z_lv (lv' := [some (.ref (a 0)), some (.int (nI G)), none, none]) rfl ?_
  refine z_aload_n X dX3_markSets_0 rfl rfl ?_
  refine z_get X (C := RX3) (T := TX3) (N := 8) (ci := 3) (v := .ref (a 6)) inZ3 0 6 rfl rfl (by decide) q_fl_X3_41 rfl rfl dX3_markSets_1 ?_
  refine z_callV1 (k := 0) (n := 0) (st := []) X (c_X0_levelInAll l D t (a 6) (a 23) x y z ((T3 S x y z s e) 20 0) ((T3 S x y z s e) 19) rfl) k_X0_levelInAll q_ml_X3_191 [6, 23] ⟨by decide, rfl⟩ 6 0 rfl rfl (by decide) rfl rfl rfl (Nat.le_of_ble_eq_true rfl) ⟨Nat.zero_le _, Nat.zero_le _⟩ dX3_markSets_4 (fun r4 h4 => ?_)
  subst h4
  refine z_aload_n X dX3_markSets_7 rfl rfl ?_
  refine z_get X (C := RX3) (T := TX3) (N := 8) (ci := 3) (v := .int (S 17 0)) inZ3 0 5 rfl rfl (by decide) q_fl_X3_37 rfl rfl dX3_markSets_8 ?_
  refine z_top (y := nI (Xn + Yn + Zn)) (h17) ?_
  refine n_icmp_ne (tgt := 18) X dX3_markSets_11 (by decide) (by omega) (by omega) (fun c11 => ?_) (fun c11 => ?_)
  ·
    refine z_iconst (v := nI 0) X dX3_markSets_18 (by decide) ?_
    refine z_istore_n X dX3_markSets_19 rfl (Nat.le_of_ble_eq_true rfl) ?_
    refine z_lv (lv' := [some (.ref (a 0)), some (.int (nI G)), some (.int (nI 0)), none]) rfl ?_
    refine z_iload_n X dX3_markSets_20 rfl rfl ?_
    refine z_istore_n X dX3_markSets_21 rfl (Nat.le_of_ble_eq_true rfl) ?_
    refine z_lv (lv' := [some (.ref (a 0)), some (.int (nI G)), some (.int (nI 0)), some (.int (nI G))]) rfl ?_
    refine zl_dn (fun i => ∀ (s : Nat) (e : Nat → Int32), (i ≤ G + 1 ∧ Tb S Xn Yn Zn G e (ix Yn Zn x y z i)) → Wz E 0 0 22 [some (.ref (a 0)), some (.int (nI G)), some (.int (nI 0)), some (.int (sv i))] [] (wR t a (T3 S x y z s e))) ?_ ?_ (G + 1) s e (⟨Nat.le_refl _, Tb_top hx hy hz hG hT⟩)
    ·
      intro s e hv
      refine z_lv (lv' := [some (.ref (a 0)), some (.int (nI G)), some (.int (nI 0)), some (.int (-1))]) rfl ?_
      refine z_iload_n X dX3_markSets_22 rfl rfl ?_
      refine z_if_lt (tgt := 70) X dX3_markSets_23 (by decide) (fun _ => ?_) (fun c23 => absurd c23 (by decide))
      refine z_vret X Z dX3_markSets_70 ?_
      exact ⟨(s, e), by have q := hv.2; rw [ix0] at q; exact q, fun q hq => hq⟩
    ·
      intro i ih s e hv
      refine z_lv (lv' := [some (.ref (a 0)), some (.int (nI G)), some (.int (nI 0)), some (.int (nI i))]) rfl ?_
      refine z_iload_n X dX3_markSets_22 rfl rfl ?_
      refine n_if_lt (tgt := 70) X dX3_markSets_23 (by decide) (by omega) ?_
      refine z_aload_n X dX3_markSets_26 rfl rfl ?_
      refine z_get X (C := RX3) (T := TX3) (N := 8) (ci := 3) (v := .ref (a 6)) inZ3 0 6 rfl rfl (by decide) q_fl_X3_41 rfl rfl dX3_markSets_27 ?_
      refine z_iload_n X dX3_markSets_30 rfl rfl ?_
      refine z_put X Y (C := RX0) (T := TX0) (N := 2) (ci := 0) (ty := .int) inZ0 tyX0 tyX0_ok nmX0 6 1 aR_eq rfl rfl (by decide) q_fl_X3_155 rfl rfl (by decide +kernel) rfl rfl (Nat.le_of_ble_eq_true rfl) dX3_markSets_31 ?_
      refine Wz.eq (ws' := wR t a (T3 S x y z i e)) rfl ?_
      refine z_iload_n X dX3_markSets_34 rfl rfl ?_
      refine z_iload_n X dX3_markSets_35 rfl rfl ?_
      refine z_iconst (v := (-1)) X dX3_markSets_36 (by decide) ?_
      refine z_ixor X dX3_markSets_37 ?_
      refine z_iand X dX3_markSets_38 ?_
      refine z_top (y := nI (dif i G)) (zn_dif i G) ?_
      have hle := dif_le i G
      refine n_if_ne (tgt := 64) X dX3_markSets_39 (by decide) (by omega) (fun c39 => ?_) (fun c39 => ?_)
      ·
        refine z_iinc (v := sv i) X dX3_markSets_64 rfl (sv_m i) ?_
        refine z_lv (lv' := [some (.ref (a 0)), some (.int (nI G)), some (.int (nI 0)), some (.int (sv i))]) rfl ?_
        refine z_goto (tgt := 22) X dX3_markSets_67 (by decide) ?_
        have hT2 : Tb S Xn Yn Zn G e (ix Yn Zn x y z i) := by
          refine Tb_skip hv.2 hy hz (by omega) (fun hR => ?_)
          first
            | exact c39 ((dif_0 (by omega)).mpr (Rc_inB hR).2.2.2)
            | exact ((Rc_Pk hv.2 hb hG).mp hR).elim (fun q => c48 q.2.2.2) (fun q => (fst_ne h53).mpr q c57)
            | exact ((Rc_Pk hv.2 hb hG).mp hR).elim (fun q => absurd (show x + y + z = Xn + Yn + Zn by omega) c11) (fun q => (fst_ne h53).mpr q c57)
        exact ih i e (⟨by omega, hT2⟩)
      ·
        have hb : inB Xn Yn Zn G x y z i := ⟨hx, hy, hz, (dif_0 (by omega)).mp c39⟩
        refine z_iload_n X dX3_markSets_42 rfl rfl ?_
        refine n_if_eq (tgt := 51) X dX3_markSets_43 (by decide) (by omega) (fun _ => ?_) (fun c43 => absurd c43 (by decide))
        refine z_aload_n X dX3_markSets_51 rfl rfl ?_
        refine z_iload_n X dX3_markSets_52 rfl rfl ?_
        refine z_callV2 (k := 0) (n := 0) (st := []) X Y aR_eq (c_X3_firstStepTowards l D t a S Xn Yn Zn G x y z i e h15 hI hG hX hb) k_X3_firstStepTowards q_ml_X3_262 is24 (fun u => wR t a (T3 S x y z i e)) (fun u => swR) ppR 0 3 rfl rfl (by decide) rfl rfl rfl (Nat.le_of_ble_eq_true rfl) ⟨Nat.zero_le _, Nat.zero_le _⟩ dX3_markSets_53 (fun r53 u53 h53 => ?_)
        refine z_iconst (v := (-1)) X dX3_markSets_56 (by decide) ?_
        refine z_icmp_eq (tgt := 64) X dX3_markSets_57 (by decide) (fun c57 => ?_) (fun c57 => ?_)
        ·
          refine z_iinc (v := sv i) X dX3_markSets_64 rfl (sv_m i) ?_
          refine z_lv (lv' := [some (.ref (a 0)), some (.int (nI G)), some (.int (nI 0)), some (.int (sv i))]) rfl ?_
          refine z_goto (tgt := 22) X dX3_markSets_67 (by decide) ?_
          have hT2 : Tb S Xn Yn Zn G e (ix Yn Zn x y z i) := by
            refine Tb_skip hv.2 hy hz (by omega) (fun hR => ?_)
            first
              | exact c39 ((dif_0 (by omega)).mpr (Rc_inB hR).2.2.2)
              | exact ((Rc_Pk hv.2 hb hG).mp hR).elim (fun q => c48 q.2.2.2) (fun q => (fst_ne h53).mpr q c57)
              | exact ((Rc_Pk hv.2 hb hG).mp hR).elim (fun q => absurd (show x + y + z = Xn + Yn + Zn by omega) c11) (fun q => (fst_ne h53).mpr q c57)
          exact ih i e (⟨by omega, hT2⟩)
        ·
          refine z_aload_n X dX3_markSets_60 rfl rfl ?_
          refine z_callV3 (k := 0) (n := 0) (st := []) X Y aR_eq (c_X3_mark l D t a S Xn Yn Zn x y z i e h15 (by omega) (wd_lt hX hx hy hz (by omega))) k_X3_mark q_ml_X3_265 is24 (fun _ => wR t a (T3 S x y z i (upd e (wd Yn Zn x y z i) (e (wd Yn Zn x y z i) ||| nI (2 ^ (i % 32)))))) (fun _ => swR) ppR 0 3 rfl rfl (by decide) rfl rfl rfl (Nat.le_of_ble_eq_true rfl) ⟨Nat.zero_le _, Nat.zero_le _⟩ dX3_markSets_61 (fun _ _ => ?_)
          refine z_iinc (v := sv i) X dX3_markSets_64 rfl (sv_m i) ?_
          refine z_lv (lv' := [some (.ref (a 0)), some (.int (nI G)), some (.int (nI 0)), some (.int (sv i))]) rfl ?_
          refine z_goto (tgt := 22) X dX3_markSets_67 (by decide) ?_
          have hT2 : Tb S Xn Yn Zn G (upd e (wd Yn Zn x y z i) (e (wd Yn Zn x y z i) ||| nI (2 ^ (i % 32)))) (ix Yn Zn x y z i) := by
            refine Tb_mark hv.2 hx hy hz (by omega) ?_
            first
              | exact (Rc_Pk hv.2 hb hG).mpr (Or.inl ⟨by omega, by omega, by omega, c48⟩)
              | exact (Rc_Pk hv.2 hb hG).mpr (Or.inr ((fst_ne h53).mp c57))
          exact ih i (upd e (wd Yn Zn x y z i) (e (wd Yn Zn x y z i) ||| nI (2 ^ (i % 32)))) (⟨by omega, hT2⟩)
  ·
    refine z_iconst (v := nI 1) X dX3_markSets_14 (by decide) ?_
    refine z_goto (tgt := 19) X dX3_markSets_15 (by decide) ?_
    refine z_istore_n X dX3_markSets_19 rfl (Nat.le_of_ble_eq_true rfl) ?_
    refine z_lv (lv' := [some (.ref (a 0)), some (.int (nI G)), some (.int (nI 1)), none]) rfl ?_
    refine z_iload_n X dX3_markSets_20 rfl rfl ?_
    refine z_istore_n X dX3_markSets_21 rfl (Nat.le_of_ble_eq_true rfl) ?_
    refine z_lv (lv' := [some (.ref (a 0)), some (.int (nI G)), some (.int (nI 1)), some (.int (nI G))]) rfl ?_
    refine zl_dn (fun i => ∀ (s : Nat) (e : Nat → Int32), (i ≤ G + 1 ∧ Tb S Xn Yn Zn G e (ix Yn Zn x y z i)) → Wz E 0 0 22 [some (.ref (a 0)), some (.int (nI G)), some (.int (nI 1)), some (.int (sv i))] [] (wR t a (T3 S x y z s e))) ?_ ?_ (G + 1) s e (⟨Nat.le_refl _, Tb_top hx hy hz hG hT⟩)
    ·
      intro s e hv
      refine z_lv (lv' := [some (.ref (a 0)), some (.int (nI G)), some (.int (nI 1)), some (.int (-1))]) rfl ?_
      refine z_iload_n X dX3_markSets_22 rfl rfl ?_
      refine z_if_lt (tgt := 70) X dX3_markSets_23 (by decide) (fun _ => ?_) (fun c23 => absurd c23 (by decide))
      refine z_vret X Z dX3_markSets_70 ?_
      exact ⟨(s, e), by have q := hv.2; rw [ix0] at q; exact q, fun q hq => hq⟩
    ·
      intro i ih s e hv
      refine z_lv (lv' := [some (.ref (a 0)), some (.int (nI G)), some (.int (nI 1)), some (.int (nI i))]) rfl ?_
      refine z_iload_n X dX3_markSets_22 rfl rfl ?_
      refine n_if_lt (tgt := 70) X dX3_markSets_23 (by decide) (by omega) ?_
      refine z_aload_n X dX3_markSets_26 rfl rfl ?_
      refine z_get X (C := RX3) (T := TX3) (N := 8) (ci := 3) (v := .ref (a 6)) inZ3 0 6 rfl rfl (by decide) q_fl_X3_41 rfl rfl dX3_markSets_27 ?_
      refine z_iload_n X dX3_markSets_30 rfl rfl ?_
      refine z_put X Y (C := RX0) (T := TX0) (N := 2) (ci := 0) (ty := .int) inZ0 tyX0 tyX0_ok nmX0 6 1 aR_eq rfl rfl (by decide) q_fl_X3_155 rfl rfl (by decide +kernel) rfl rfl (Nat.le_of_ble_eq_true rfl) dX3_markSets_31 ?_
      refine Wz.eq (ws' := wR t a (T3 S x y z i e)) rfl ?_
      refine z_iload_n X dX3_markSets_34 rfl rfl ?_
      refine z_iload_n X dX3_markSets_35 rfl rfl ?_
      refine z_iconst (v := (-1)) X dX3_markSets_36 (by decide) ?_
      refine z_ixor X dX3_markSets_37 ?_
      refine z_iand X dX3_markSets_38 ?_
      refine z_top (y := nI (dif i G)) (zn_dif i G) ?_
      have hle := dif_le i G
      refine n_if_ne (tgt := 64) X dX3_markSets_39 (by decide) (by omega) (fun c39 => ?_) (fun c39 => ?_)
      ·
        refine z_iinc (v := sv i) X dX3_markSets_64 rfl (sv_m i) ?_
        refine z_lv (lv' := [some (.ref (a 0)), some (.int (nI G)), some (.int (nI 1)), some (.int (sv i))]) rfl ?_
        refine z_goto (tgt := 22) X dX3_markSets_67 (by decide) ?_
        have hT2 : Tb S Xn Yn Zn G e (ix Yn Zn x y z i) := by
          refine Tb_skip hv.2 hy hz (by omega) (fun hR => ?_)
          first
            | exact c39 ((dif_0 (by omega)).mpr (Rc_inB hR).2.2.2)
            | exact ((Rc_Pk hv.2 hb hG).mp hR).elim (fun q => c48 q.2.2.2) (fun q => (fst_ne h53).mpr q c57)
            | exact ((Rc_Pk hv.2 hb hG).mp hR).elim (fun q => absurd (show x + y + z = Xn + Yn + Zn by omega) c11) (fun q => (fst_ne h53).mpr q c57)
        exact ih i e (⟨by omega, hT2⟩)
      ·
        have hb : inB Xn Yn Zn G x y z i := ⟨hx, hy, hz, (dif_0 (by omega)).mp c39⟩
        refine z_iload_n X dX3_markSets_42 rfl rfl ?_
        refine n_if_eq (tgt := 51) X dX3_markSets_43 (by decide) (by omega) (fun c43 => absurd c43 (by decide)) (fun _ => ?_)
        refine z_iload_n X dX3_markSets_46 rfl rfl ?_
        refine z_iload_n X dX3_markSets_47 rfl rfl ?_
        refine n_icmp_eq (tgt := 60) X dX3_markSets_48 (by decide) (by omega) (by omega) (fun c48 => ?_) (fun c48 => ?_)
        ·
          refine z_aload_n X dX3_markSets_60 rfl rfl ?_
          refine z_callV3 (k := 0) (n := 0) (st := []) X Y aR_eq (c_X3_mark l D t a S Xn Yn Zn x y z i e h15 (by omega) (wd_lt hX hx hy hz (by omega))) k_X3_mark q_ml_X3_265 is24 (fun _ => wR t a (T3 S x y z i (upd e (wd Yn Zn x y z i) (e (wd Yn Zn x y z i) ||| nI (2 ^ (i % 32)))))) (fun _ => swR) ppR 0 3 rfl rfl (by decide) rfl rfl rfl (Nat.le_of_ble_eq_true rfl) ⟨Nat.zero_le _, Nat.zero_le _⟩ dX3_markSets_61 (fun _ _ => ?_)
          refine z_iinc (v := sv i) X dX3_markSets_64 rfl (sv_m i) ?_
          refine z_lv (lv' := [some (.ref (a 0)), some (.int (nI G)), some (.int (nI 1)), some (.int (sv i))]) rfl ?_
          refine z_goto (tgt := 22) X dX3_markSets_67 (by decide) ?_
          have hT2 : Tb S Xn Yn Zn G (upd e (wd Yn Zn x y z i) (e (wd Yn Zn x y z i) ||| nI (2 ^ (i % 32)))) (ix Yn Zn x y z i) := by
            refine Tb_mark hv.2 hx hy hz (by omega) ?_
            first
              | exact (Rc_Pk hv.2 hb hG).mpr (Or.inl ⟨by omega, by omega, by omega, c48⟩)
              | exact (Rc_Pk hv.2 hb hG).mpr (Or.inr ((fst_ne h53).mp c57))
          exact ih i (upd e (wd Yn Zn x y z i) (e (wd Yn Zn x y z i) ||| nI (2 ^ (i % 32)))) (⟨by omega, hT2⟩)
        ·
          refine z_aload_n X dX3_markSets_51 rfl rfl ?_
          refine z_iload_n X dX3_markSets_52 rfl rfl ?_
          refine z_callV2 (k := 0) (n := 0) (st := []) X Y aR_eq (c_X3_firstStepTowards l D t a S Xn Yn Zn G x y z i e h15 hI hG hX hb) k_X3_firstStepTowards q_ml_X3_262 is24 (fun u => wR t a (T3 S x y z i e)) (fun u => swR) ppR 0 3 rfl rfl (by decide) rfl rfl rfl (Nat.le_of_ble_eq_true rfl) ⟨Nat.zero_le _, Nat.zero_le _⟩ dX3_markSets_53 (fun r53 u53 h53 => ?_)
          refine z_iconst (v := (-1)) X dX3_markSets_56 (by decide) ?_
          refine z_icmp_eq (tgt := 64) X dX3_markSets_57 (by decide) (fun c57 => ?_) (fun c57 => ?_)
          ·
            refine z_iinc (v := sv i) X dX3_markSets_64 rfl (sv_m i) ?_
            refine z_lv (lv' := [some (.ref (a 0)), some (.int (nI G)), some (.int (nI 1)), some (.int (sv i))]) rfl ?_
            refine z_goto (tgt := 22) X dX3_markSets_67 (by decide) ?_
            have hT2 : Tb S Xn Yn Zn G e (ix Yn Zn x y z i) := by
              refine Tb_skip hv.2 hy hz (by omega) (fun hR => ?_)
              first
                | exact c39 ((dif_0 (by omega)).mpr (Rc_inB hR).2.2.2)
                | exact ((Rc_Pk hv.2 hb hG).mp hR).elim (fun q => c48 q.2.2.2) (fun q => (fst_ne h53).mpr q c57)
                | exact ((Rc_Pk hv.2 hb hG).mp hR).elim (fun q => absurd (show x + y + z = Xn + Yn + Zn by omega) c11) (fun q => (fst_ne h53).mpr q c57)
            exact ih i e (⟨by omega, hT2⟩)
          ·
            refine z_aload_n X dX3_markSets_60 rfl rfl ?_
            refine z_callV3 (k := 0) (n := 0) (st := []) X Y aR_eq (c_X3_mark l D t a S Xn Yn Zn x y z i e h15 (by omega) (wd_lt hX hx hy hz (by omega))) k_X3_mark q_ml_X3_265 is24 (fun _ => wR t a (T3 S x y z i (upd e (wd Yn Zn x y z i) (e (wd Yn Zn x y z i) ||| nI (2 ^ (i % 32)))))) (fun _ => swR) ppR 0 3 rfl rfl (by decide) rfl rfl rfl (Nat.le_of_ble_eq_true rfl) ⟨Nat.zero_le _, Nat.zero_le _⟩ dX3_markSets_61 (fun _ _ => ?_)
            refine z_iinc (v := sv i) X dX3_markSets_64 rfl (sv_m i) ?_
            refine z_lv (lv' := [some (.ref (a 0)), some (.int (nI G)), some (.int (nI 1)), some (.int (sv i))]) rfl ?_
            refine z_goto (tgt := 22) X dX3_markSets_67 (by decide) ?_
            have hT2 : Tb S Xn Yn Zn G (upd e (wd Yn Zn x y z i) (e (wd Yn Zn x y z i) ||| nI (2 ^ (i % 32)))) (ix Yn Zn x y z i) := by
              refine Tb_mark hv.2 hx hy hz (by omega) ?_
              first
                | exact (Rc_Pk hv.2 hb hG).mpr (Or.inl ⟨by omega, by omega, by omega, c48⟩)
                | exact (Rc_Pk hv.2 hb hG).mpr (Or.inr ((fst_ne h53).mp c57))
            exact ih i (upd e (wd Yn Zn x y z i) (e (wd Yn Zn x y z i) ||| nI (2 ^ (i % 32)))) (⟨by omega, hT2⟩)
end
section
theorem l3_000 : l3 0 0 0 = fun _ => nI 0 := by funext i; unfold l3; split <;> (try split) <;> rfl
section
variable {E : zE} {k n pc : Nat} {lv : List (Option Value)} {st : List Value} {t : ClassId × ClassId × ClassId} {a : Nat → Nat} {S : zS}
theorem zP19 {D : va_G} {H : Heap} {f g : Nat → Int32} (h : ∀ i, i < 3 → f i = g i) (hP : va_P D vwCl (wR t a (va_up S 19 f)) H) : va_P D vwCl (wR t a (va_up S 19 g)) H := by
  have e : wR t a (va_up S 19 g) = (wR t a (va_up S 19 f)).set 23 (a 23, .inl (t.1, 3, .inl g)) := rfl
  intro i q hq
  by_cases hi : i = 23
  · subst hi
    have h1 : va_P D vwCl [(a 23, .inl (t.1, 3, .inl f))] H := fun k q hq => by
      cases k with
      | zero => exact hP 23 q hq
      | succ k => simp at hq
    have hq2 : q = (a 23, .inl (t.1, 3, .inl g)) := by cases hq; rfl
    rw [hq2]
    exact zcell h h1 0 _ rfl
  · rw [e, List.getElem?_set_ne (fun z => hi z.symm)] at hq
    exact hP i q hq
theorem z_cells {ws ws' : va_W} (hP : ∀ D H, va_P D vwCl ws H → va_P D vwCl ws' H) (ha : ws'.map (fun x => x.1) = ws.map (fun x => x.1)) (kk : Wz E k n pc lv st ws') : Wz E k n pc lv st ws :=
  fun ls H locs hl h hD hS => kk ls H locs hl (hP _ _ h) (zD_addr ha hD) hS
end
set_option maxHeartbeats 4000000 in
set_option maxRecDepth 100000 in
theorem c_X3_canReach (l : Launch) (D : va_G) (t : ClassId × ClassId × ClassId) (a : Nat → Nat) (S : zS) (Xn Yn Zn G x y z s : Nat) (e : Nat → Int32) (h15 : S 15 = l3 Xn Yn Zn) (h17 : S 17 0 = nI (Xn + Yn + Zn)) (hI : zI S) (hG : G < 256) (hX : Xn + Yn + Zn ≤ 8) : zM2 l yX3_canReach cX3_canReach 5 (some .boolean) 6 D t [.ref (a 0), .int (nI G)] (wR t a (T3 S x y z s e)) (fun r (u : Nat → Int32) => bz r (Rc S Xn Yn Zn G 0 0 0 0) ∧ Tb S Xn Yn Zn G u 0) (fun u => wR t a (T3 S 0 0 0 0 u)) := by
  refine z_m2 (by decide +kernel) (Nat.le_of_ble_eq_true rfl) (by simp [Value.category]) ?_
  intro E X Z Y
  refine z_lv (lv' := [some (.ref (a 0)), some (.int (nI G)), none, none, none]) rfl ?_
  refine z_aload_n X dX3_canReach_0 rfl rfl ?_
  refine z_get X (C := RX3) (T := TX3) (N := 8) (ci := 3) (v := .ref (a 7)) inZ3 0 7 rfl rfl (by decide) q_fl_X3_44 rfl rfl dX3_canReach_1 ?_
  refine z_iconst (v := nI 0) X dX3_canReach_4 (by decide) ?_
  refine z_callS3 (k := 0) (n := 0) (st := []) X Y aR_eq (c_J7_fill_53178 l D t (a 7) 384 e (nI 0) (by decide)) k_J7_fill_53178 q_ml_X3_47 [7] (fun _ => wR t a (T3 S x y z s (fun _ => nI 0))) (fun _ => ⟨⟨by decide, rfl⟩, ⟨by decide, rfl⟩, rfl, rfl⟩) ⟨by decide, rfl⟩ (by decide) rfl rfl rfl (Nat.le_of_ble_eq_true rfl) ⟨Nat.zero_le _, Nat.zero_le _⟩ dX3_canReach_5 (fun _ _ => ?_)
  refine z_aload_n X dX3_canReach_8 rfl rfl ?_
  refine z_get X (C := RX3) (T := TX3) (N := 8) (ci := 3) (v := .ref (a 4)) inZ3 0 3 rfl rfl (by decide) q_fl_X3_30 rfl rfl dX3_canReach_9 ?_
  refine z_get X (C := RX0) (T := TX0) (N := 2) (ci := 0) (v := .ref (a 22)) inZ0 4 0 rfl rfl (by decide) q_fl_X3_236 rfl rfl dX3_canReach_12 ?_
  refine z_iconst (v := nI 0) X dX3_canReach_15 (by decide) ?_
  refine n_iald (f := S 15) X 22 rfl (by omega) (by decide) dX3_canReach_16 ?_
  refine z_top (y := nI Xn) (by rw [h15]; rfl) ?_
  refine z_istore_n X dX3_canReach_17 rfl (Nat.le_of_ble_eq_true rfl) ?_
  refine z_lv (lv' := [some (.ref (a 0)), some (.int (nI G)), some (.int (nI Xn)), none, none]) rfl ?_
  refine zl_dn (fun i => ∀ (x : Nat) (y : Nat) (z : Nat) (s : Nat) (e : Nat → Int32), (i ≤ Xn + 1 ∧ Tb S Xn Yn Zn G e (stg Yn Zn i 0 0 * 256)) → Wz E 0 0 18 [some (.ref (a 0)), some (.int (nI G)), some (.int (sv i)), none, none] [] (wR t a (T3 S x y z s e))) ?_ ?_ (Xn + 1) x y z s (fun _ => nI 0) (⟨Nat.le_refl _, Tb_0 (Nat.le_refl _)⟩)
  ·
    intro x y z s e hv
    refine z_lv (lv' := [some (.ref (a 0)), some (.int (nI G)), some (.int (-1)), none, none]) rfl ?_
    refine z_iload_n X dX3_canReach_18 rfl rfl ?_
    refine z_if_lt (tgt := 106) X dX3_canReach_19 (by decide) (fun _ => ?_) (fun c19 => absurd c19 (by decide))
    refine z_aload_n X dX3_canReach_106 rfl rfl ?_
    refine z_get X (C := RX3) (T := TX3) (N := 8) (ci := 3) (v := .ref (a 6)) inZ3 0 6 rfl rfl (by decide) q_fl_X3_41 rfl rfl dX3_canReach_107 ?_
    refine z_callV3 (k := 0) (n := 0) (st := []) X Y aR_eq (c_X0_empty l D t (a 6) (a 23) (nI s) (l3 x y z)) k_X0_empty q_ml_X3_185 [6, 23] (fun _ => wR t a (T3 S 0 0 0 0 e)) (fun _ => ⟨⟨by decide, rfl⟩, ⟨by decide, by rw [← l3_000]; rfl⟩, rfl, rfl⟩) ⟨by decide, rfl⟩ 6 0 rfl rfl (by decide) rfl rfl rfl (Nat.le_of_ble_eq_true rfl) ⟨Nat.zero_le _, Nat.zero_le _⟩ dX3_canReach_110 (fun _ _ => ?_)
    have hT0 : Tb S Xn Yn Zn G e 0 := by have q := hv.2; rw [stg_0] at q; simpa using q
    have hM := (hT0 0 0 0 0 (Nat.zero_le _) (Nat.zero_le _) (Nat.zero_le _) (by decide)).1 (Nat.zero_le _)
    refine z_aload_n X dX3_canReach_113 rfl rfl ?_
    refine z_callV1 (k := 0) (n := 0) (st := []) X (c_X3_isMarked l D t a S Xn Yn Zn 0 0 0 0 e h15 (by decide) (wd_lt hX (Nat.zero_le _) (Nat.zero_le _) (Nat.zero_le _) (by decide))) k_X3_isMarked q_ml_X3_258 is24 ⟨by decide, rfl⟩ 0 3 rfl rfl (by decide) rfl rfl rfl (Nat.le_of_ble_eq_true rfl) ⟨Nat.zero_le _, Nat.zero_le _⟩ dX3_canReach_114 (fun r114 h114 => ?_)
    rcases h114 with ⟨rfl, h114⟩ | ⟨rfl, h114⟩
    ·
      refine z_iret X Z (by decide +kernel) dX3_canReach_117 ?_
      exact ⟨e, ⟨bz_t (hM.mp h114), hT0⟩, fun q hq => hq⟩
    ·
      refine z_iret X Z (by decide +kernel) dX3_canReach_117 ?_
      exact ⟨e, ⟨bz_f (fun q => h114 (hM.mpr q)), hT0⟩, fun q hq => hq⟩
  ·
    intro i ihi x y z s e hv
    refine z_lv (lv' := [some (.ref (a 0)), some (.int (nI G)), some (.int (nI i)), none, none]) rfl ?_
    refine z_iload_n X dX3_canReach_18 rfl rfl ?_
    refine n_if_lt (tgt := 106) X dX3_canReach_19 (by decide) (by omega) ?_
    refine z_aload_n X dX3_canReach_22 rfl rfl ?_
    refine z_get X (C := RX3) (T := TX3) (N := 8) (ci := 3) (v := .ref (a 4)) inZ3 0 3 rfl rfl (by decide) q_fl_X3_30 rfl rfl dX3_canReach_23 ?_
    refine z_get X (C := RX0) (T := TX0) (N := 2) (ci := 0) (v := .ref (a 22)) inZ0 4 0 rfl rfl (by decide) q_fl_X3_236 rfl rfl dX3_canReach_26 ?_
    refine z_iconst (v := nI 1) X dX3_canReach_29 (by decide) ?_
    refine n_iald (f := S 15) X 22 rfl (by omega) (by decide) dX3_canReach_30 ?_
    refine z_top (y := nI Yn) (by rw [h15]; rfl) ?_
    refine z_istore_n X dX3_canReach_31 rfl (Nat.le_of_ble_eq_true rfl) ?_
    refine z_lv (lv' := [some (.ref (a 0)), some (.int (nI G)), some (.int (nI i)), some (.int (nI Yn)), none]) rfl ?_
    have hi1 := hv.1
    refine zl_dn (fun j => ∀ (x : Nat) (y : Nat) (z : Nat) (s : Nat) (e : Nat → Int32), (j ≤ Yn + 1 ∧ Tb S Xn Yn Zn G e (stg Yn Zn i j 0 * 256)) → Wz E 0 0 32 [some (.ref (a 0)), some (.int (nI G)), some (.int (nI i)), some (.int (sv j)), none] [] (wR t a (T3 S x y z s e))) ?_ ?_ (Yn + 1) x y z s e (⟨Nat.le_refl _, by rw [stg_ys, ← stg_xs]; exact hv.2⟩)
    ·
      intro x y z s e hv
      refine z_lv (lv' := [some (.ref (a 0)), some (.int (nI G)), some (.int (nI i)), some (.int (-1)), none]) rfl ?_
      refine z_iload_n X dX3_canReach_32 rfl rfl ?_
      refine z_if_lt (tgt := 100) X dX3_canReach_33 (by decide) (fun _ => ?_) (fun c33 => absurd c33 (by decide))
      refine z_iinc (v := sv i) X dX3_canReach_100 rfl (sv_m i) ?_
      refine z_lv (lv' := [some (.ref (a 0)), some (.int (nI G)), some (.int (sv i)), some (.int (-1)), none]) rfl ?_
      refine z_goto (tgt := 18) X dX3_canReach_103 (by decide) ?_
      refine Wz.less (lv' := [some (.ref (a 0)), some (.int (nI G)), some (.int (sv i)), none, none]) (by simp [zle] <;> rfl) ?_
      exact ihi x y z s e (⟨by omega, hv.2⟩)
    ·
      intro j ihj x y z s e hv
      refine z_lv (lv' := [some (.ref (a 0)), some (.int (nI G)), some (.int (nI i)), some (.int (nI j)), none]) rfl ?_
      refine z_iload_n X dX3_canReach_32 rfl rfl ?_
      refine n_if_lt (tgt := 100) X dX3_canReach_33 (by decide) (by omega) ?_
      refine z_aload_n X dX3_canReach_36 rfl rfl ?_
      refine z_get X (C := RX3) (T := TX3) (N := 8) (ci := 3) (v := .ref (a 4)) inZ3 0 3 rfl rfl (by decide) q_fl_X3_30 rfl rfl dX3_canReach_37 ?_
      refine z_get X (C := RX0) (T := TX0) (N := 2) (ci := 0) (v := .ref (a 22)) inZ0 4 0 rfl rfl (by decide) q_fl_X3_236 rfl rfl dX3_canReach_40 ?_
      refine z_iconst (v := nI 2) X dX3_canReach_43 (by decide) ?_
      refine n_iald (f := S 15) X 22 rfl (by omega) (by decide) dX3_canReach_44 ?_
      refine z_top (y := nI Zn) (by rw [h15]; rfl) ?_
      refine z_istore X dX3_canReach_45 (Nat.le_of_ble_eq_true rfl) ?_
      refine z_lv (lv' := [some (.ref (a 0)), some (.int (nI G)), some (.int (nI i)), some (.int (nI j)), some (.int (nI Zn))]) rfl ?_
      have hj1 := hv.1
      refine zl_dn (fun k => ∀ (x : Nat) (y : Nat) (z : Nat) (s : Nat) (e : Nat → Int32), (k ≤ Zn + 1 ∧ Tb S Xn Yn Zn G e (stg Yn Zn i j k * 256)) → Wz E 0 0 47 [some (.ref (a 0)), some (.int (nI G)), some (.int (nI i)), some (.int (nI j)), some (.int (sv k))] [] (wR t a (T3 S x y z s e))) ?_ ?_ (Zn + 1) x y z s e (⟨Nat.le_refl _, by rw [stg_z, ← stg_ys]; exact hv.2⟩)
      ·
        intro x y z s e hv
        refine z_lv (lv' := [some (.ref (a 0)), some (.int (nI G)), some (.int (nI i)), some (.int (nI j)), some (.int (-1))]) rfl ?_
        refine z_iload X dX3_canReach_47 rfl ?_
        refine z_if_lt (tgt := 94) X dX3_canReach_49 (by decide) (fun _ => ?_) (fun c49 => absurd c49 (by decide))
        refine z_iinc (v := sv j) X dX3_canReach_94 rfl (sv_m j) ?_
        refine z_lv (lv' := [some (.ref (a 0)), some (.int (nI G)), some (.int (nI i)), some (.int (sv j)), some (.int (-1))]) rfl ?_
        refine z_goto (tgt := 32) X dX3_canReach_97 (by decide) ?_
        refine Wz.less (lv' := [some (.ref (a 0)), some (.int (nI G)), some (.int (nI i)), some (.int (sv j)), none]) (by simp [zle] <;> rfl) ?_
        exact ihj x y z s e (⟨by omega, hv.2⟩)
      ·
        intro k ihk x y z s e hv
        refine z_lv (lv' := [some (.ref (a 0)), some (.int (nI G)), some (.int (nI i)), some (.int (nI j)), some (.int (nI k))]) rfl ?_
        refine z_iload X dX3_canReach_47 rfl ?_
        refine n_if_lt (tgt := 94) X dX3_canReach_49 (by decide) (by omega) ?_
        refine z_aload_n X dX3_canReach_52 rfl rfl ?_
        refine z_get X (C := RX3) (T := TX3) (N := 8) (ci := 3) (v := .ref (a 6)) inZ3 0 6 rfl rfl (by decide) q_fl_X3_41 rfl rfl dX3_canReach_53 ?_
        refine z_get X (C := RX0) (T := TX0) (N := 2) (ci := 0) (v := .ref (a 23)) inZ0 6 0 rfl rfl (by decide) q_fl_X3_236 rfl rfl dX3_canReach_56 ?_
        refine z_iconst (v := nI 0) X dX3_canReach_59 (by decide) ?_
        refine z_iload_n X dX3_canReach_60 rfl rfl ?_
        refine n_iast X Y (f := l3 x y z) 23 aR_eq rfl (by decide) (by decide) dX3_canReach_61 ?_
        rw [l3w_0]
        refine Wz.eq (ws' := wR t a (T3 S i y z s e)) rfl ?_
        refine z_aload_n X dX3_canReach_62 rfl rfl ?_
        refine z_get X (C := RX3) (T := TX3) (N := 8) (ci := 3) (v := .ref (a 6)) inZ3 0 6 rfl rfl (by decide) q_fl_X3_41 rfl rfl dX3_canReach_63 ?_
        refine z_get X (C := RX0) (T := TX0) (N := 2) (ci := 0) (v := .ref (a 23)) inZ0 6 0 rfl rfl (by decide) q_fl_X3_236 rfl rfl dX3_canReach_66 ?_
        refine z_iconst (v := nI 1) X dX3_canReach_69 (by decide) ?_
        refine z_iload_n X dX3_canReach_70 rfl rfl ?_
        refine n_iast X Y (f := l3 i y z) 23 aR_eq rfl (by decide) (by decide) dX3_canReach_71 ?_
        rw [l3w_1]
        refine Wz.eq (ws' := wR t a (T3 S i j z s e)) rfl ?_
        refine z_aload_n X dX3_canReach_72 rfl rfl ?_
        refine z_get X (C := RX3) (T := TX3) (N := 8) (ci := 3) (v := .ref (a 6)) inZ3 0 6 rfl rfl (by decide) q_fl_X3_41 rfl rfl dX3_canReach_73 ?_
        refine z_get X (C := RX0) (T := TX0) (N := 2) (ci := 0) (v := .ref (a 23)) inZ0 6 0 rfl rfl (by decide) q_fl_X3_236 rfl rfl dX3_canReach_76 ?_
        refine z_iconst (v := nI 2) X dX3_canReach_79 (by decide) ?_
        refine z_iload X dX3_canReach_80 rfl ?_
        refine n_iast X Y (f := l3 i j z) 23 aR_eq rfl (by decide) (by decide) dX3_canReach_82 ?_
        refine z_cells (ws' := wR t a (va_up (T3 S i j z s e) 19 (l3 i j k))) (fun D H h => zP19 (l3z (x' := 0) (y' := 0)) (by exact h)) rfl ?_
        refine Wz.eq (ws' := wR t a (T3 S i j k s e)) rfl ?_
        refine z_aload_n X dX3_canReach_83 rfl rfl ?_
        refine z_iload_n X dX3_canReach_84 rfl rfl ?_
        have hT9 : Tb S Xn Yn Zn G e ((stg Yn Zn i j k + 1) * 256) := hv.2
        refine z_callV3 (k := 0) (n := 0) (st := []) X Y aR_eq (c_X3_markSets l D t a S Xn Yn Zn G i j k s e h15 h17 hI hG hX (by omega) (by omega) (by omega) hT9) k_X3_markSets q_ml_X3_254 is24 (fun u => wR t a (T3 S i j k u.1 u.2)) (fun u => swR) ppR 0 3 rfl rfl (by decide) rfl rfl rfl (Nat.le_of_ble_eq_true rfl) ⟨Nat.zero_le _, Nat.zero_le _⟩ dX3_canReach_85 (fun u hu => ?_)
        refine z_iinc (v := sv k) X dX3_canReach_88 rfl (sv_m k) ?_
        refine z_lv (lv' := [some (.ref (a 0)), some (.int (nI G)), some (.int (nI i)), some (.int (nI j)), some (.int (sv k))]) rfl ?_
        refine z_goto (tgt := 47) X dX3_canReach_91 (by decide) ?_
        exact ihk i j k u.1 u.2 (⟨by omega, hu⟩)
set_option maxHeartbeats 4000000 in
set_option maxRecDepth 100000 in
theorem c_X3_someOrderEnds_0 (l : Launch) (D : va_G) (t : ClassId × ClassId × ClassId) (a : Nat → Nat) (S : zS) (Xn Yn Zn G : Nat) (e : Nat → Int32) (h15 : S 15 = l3 Xn Yn Zn) (h18 : S 18 0 = nI G) (hI : zI S) (hG : G < 256) (hX : Xn + Yn + Zn ≤ 8) (x y z s : Nat) (hb : inB Xn Yn Zn G x y z s) : zM2 l yX3_someOrderEnds cX3_someOrderEnds 4 (some .boolean) 4 D t [.ref (a 0), .int (nI 0)] (wR t a (T3 S x y z s e)) (fun r (_ : Unit) => bz r (orn S Xn Yn Zn G 0 x y z s)) (fun _ => wR t a (T3 S x y z s e)) := by
  refine z_m2 (by decide +kernel) (Nat.le_of_ble_eq_true rfl) (by simp [Value.category]) ?_
  intro E X Z Y
  refine z_lv (lv' := [some (.ref (a 0)), some (.int (nI 0)), none, none]) rfl ?_
  refine z_iload_n X dX3_someOrderEnds_0 rfl rfl ?_
  refine n_if_gt (tgt := 6) X dX3_someOrderEnds_1 (by decide) (by omega) (fun c1 => absurd c1 (by decide)) (fun _ => ?_)
  refine z_iconst (v := nI 1) X dX3_someOrderEnds_4 (by decide) ?_
  refine z_iret X Z (by decide +kernel) dX3_someOrderEnds_5 ?_
  exact ⟨(), bz_t trivial, fun q hq => hq⟩
set_option maxHeartbeats 4000000 in
set_option maxRecDepth 100000 in
theorem c_X3_someOrderEnds_s (l : Launch) (D : va_G) (t : ClassId × ClassId × ClassId) (a : Nat → Nat) (S : zS) (Xn Yn Zn G : Nat) (e : Nat → Int32) (h15 : S 15 = l3 Xn Yn Zn) (h18 : S 18 0 = nI G) (hI : zI S) (hG : G < 256) (hX : Xn + Yn + Zn ≤ 8) (m : Nat) (hm : m < 100) (ih : ∀ x y z s, inB Xn Yn Zn G x y z s → zM2 l yX3_someOrderEnds cX3_someOrderEnds 4 (some .boolean) (m + 4) D t [.ref (a 0), .int (nI m)] (wR t a (T3 S x y z s e)) (fun r (_ : Unit) => bz r (orn S Xn Yn Zn G m x y z s)) (fun _ => wR t a (T3 S x y z s e))) (x y z s : Nat) (hb : inB Xn Yn Zn G x y z s) : zM2 l yX3_someOrderEnds cX3_someOrderEnds 4 (some .boolean) (m + 5) D t [.ref (a 0), .int (nI (m + 1))] (wR t a (T3 S x y z s e)) (fun r (_ : Unit) => bz r (orn S Xn Yn Zn G (m + 1) x y z s)) (fun _ => wR t a (T3 S x y z s e)) := by
  refine z_m2 (by decide +kernel) (Nat.le_of_ble_eq_true rfl) (by simp [Value.category]) ?_
  intro E X Z Y
  refine z_lv (lv' := [some (.ref (a 0)), some (.int (nI (m + 1))), none, none]) rfl ?_
  refine z_iload_n X dX3_someOrderEnds_0 rfl rfl ?_
  refine n_if_gt (tgt := 6) X dX3_someOrderEnds_1 (by decide) (by omega) (fun c1 => ?_) (fun c1 => absurd c1 (by omega))
  have hs := sub8_lt hb.2.2.2 hG
  refine z_iconst (v := nI 0) X dX3_someOrderEnds_6 (by decide) ?_
  refine z_istore_n X dX3_someOrderEnds_7 rfl (Nat.le_of_ble_eq_true rfl) ?_
  refine z_lv (lv' := [some (.ref (a 0)), some (.int (nI (m + 1))), some (.int (nI 0)), none]) rfl ?_
  refine zl_up 11 (fun i => (∀ q, q < i → ¬ (stp S Xn Yn Zn G x y z s q ∧ orn S Xn Yn Zn G m (gx q x) (gy q y) (gz q z) (gs q s))) → Wz E 0 0 8 [some (.ref (a 0)), some (.int (nI (m + 1))), some (.int (nI i)), none] [] (wR t a (T3 S x y z s e))) ?_ ?_ 0 (by omega) (fun q h => absurd h (Nat.not_lt_zero q))
  ·
    intro hv
    refine z_iload_n X dX3_someOrderEnds_8 rfl rfl ?_
    refine z_bipush (v := nI 11) X dX3_someOrderEnds_9 (by decide) ?_
    refine n_icmp_ge (tgt := 65) X dX3_someOrderEnds_11 (by decide) (by omega) (by omega) (fun _ => ?_) (fun c11 => absurd c11 (by decide))
    refine z_iconst (v := nI 0) X dX3_someOrderEnds_65 (by decide) ?_
    refine z_iret X Z (by decide +kernel) dX3_someOrderEnds_66 ?_
    exact ⟨(), bz_f (fun h => h.elim fun q hq => hv q hq.1 hq.2), fun q hq => hq⟩
  ·
    intro i hi ih2 hv
    refine z_iload_n X dX3_someOrderEnds_8 rfl rfl ?_
    refine z_bipush (v := nI 11) X dX3_someOrderEnds_9 (by decide) ?_
    refine n_icmp_ge (tgt := 65) X dX3_someOrderEnds_11 (by decide) (by omega) (by omega) (fun c11 => absurd c11 (by omega)) (fun _ => ?_)
    refine z_aload_n X dX3_someOrderEnds_14 rfl rfl ?_
    refine z_aload_n X dX3_someOrderEnds_15 rfl rfl ?_
    refine z_get X (C := RX3) (T := TX3) (N := 8) (ci := 3) (v := .ref (a 4)) inZ3 0 3 rfl rfl (by decide) q_fl_X3_30 rfl rfl dX3_someOrderEnds_16 ?_
    refine z_get X (C := RX0) (T := TX0) (N := 2) (ci := 0) (v := .int (S 18 0)) inZ0 4 1 rfl rfl (by decide) q_fl_X3_155 rfl rfl dX3_someOrderEnds_19 ?_
    refine z_top (y := nI G) (h18) ?_
    refine z_iload_n X dX3_someOrderEnds_22 rfl rfl ?_
    refine z_callV1 (k := 0) (n := 0) (st := []) X (c_X3_isStepTowards l D t a S Xn Yn Zn G x y z s e i (by omega) h15 hI hG hX hb) k_X3_isStepTowards q_ml_X3_268 is24 ⟨by decide, rfl⟩ 0 3 rfl rfl (by omega) rfl rfl rfl (Nat.le_of_ble_eq_true rfl) ⟨Nat.zero_le _, Nat.zero_le _⟩ dX3_someOrderEnds_23 (fun r23 h23 => ?_)
    rcases h23 with ⟨rfl, h23⟩ | ⟨rfl, h23⟩
    ·
      refine n_if_eq (tgt := 59) X dX3_someOrderEnds_26 (by decide) (by omega) (fun c26 => absurd c26 (by decide)) (fun _ => ?_)
      refine z_aload_n X dX3_someOrderEnds_29 rfl rfl ?_
      refine z_get X (C := RX3) (T := TX3) (N := 8) (ci := 3) (v := .ref (a 6)) inZ3 0 6 rfl rfl (by decide) q_fl_X3_41 rfl rfl dX3_someOrderEnds_30 ?_
      refine z_iload_n X dX3_someOrderEnds_33 rfl rfl ?_
      refine z_callV3 (k := 0) (n := 0) (st := []) X Y aR_eq (c_goOnT l D t a x y z s i (by omega) (by omega)) k_X0_goOn q_ml_X3_271 [6, 23] (fun _ => wR t a (T3 S (gx i x) (gy i y) (gz i z) (gs i s) e)) (fun _ => swT3) ppT3 6 0 rfl rfl (by omega) rfl rfl rfl (Nat.le_of_ble_eq_true rfl) ⟨Nat.zero_le _, Nat.zero_le _⟩ dX3_someOrderEnds_34 (fun _ _ => ?_)
      refine z_aload_n X dX3_someOrderEnds_37 rfl rfl ?_
      refine z_iload_n X dX3_someOrderEnds_38 rfl rfl ?_
      refine z_iconst (v := nI 1) X dX3_someOrderEnds_39 (by decide) ?_
      refine n_isub X dX3_someOrderEnds_40 (by omega) ?_
      refine z_top (y := nI m) (by rw [Nat.add_sub_cancel]) ?_
      refine z_callV2 (k := 0) (n := 0) (st := []) X Y aR_eq (ih (gx i x) (gy i y) (gz i z) (gs i s) ((stp_inB h23).mpr hb)) k_X3_someOrderEnds q_ml_X3_217 is24 (fun u => wR t a (T3 S (gx i x) (gy i y) (gz i z) (gs i s) e)) (fun u => swR) ppR 0 3 rfl rfl (by omega) rfl rfl rfl (Nat.le_of_ble_eq_true rfl) ⟨Nat.zero_le _, Nat.zero_le _⟩ dX3_someOrderEnds_41 (fun r41 u41 h41 => ?_)
      rcases h41 with ⟨rfl, h41⟩ | ⟨rfl, h41⟩
      ·
        refine z_istore_n X dX3_someOrderEnds_44 rfl (Nat.le_of_ble_eq_true rfl) ?_
        refine z_lv (lv' := [some (.ref (a 0)), some (.int (nI (m + 1))), some (.int (nI i)), some (.int (nI 1))]) rfl ?_
        refine z_aload_n X dX3_someOrderEnds_45 rfl rfl ?_
        refine z_get X (C := RX3) (T := TX3) (N := 8) (ci := 3) (v := .ref (a 6)) inZ3 0 6 rfl rfl (by decide) q_fl_X3_41 rfl rfl dX3_someOrderEnds_46 ?_
        refine z_iload_n X dX3_someOrderEnds_49 rfl rfl ?_
        refine z_callV3 (k := 0) (n := 0) (st := []) X Y aR_eq (c_goBackT l D t a x y z s i (by omega) (by omega) (stp_gs h23)) k_X0_goBack q_ml_X3_274 [6, 23] (fun _ => wR t a (T3 S x y z s e)) (fun _ => swT3) ppT3 6 0 rfl rfl (by omega) rfl rfl rfl (Nat.le_of_ble_eq_true rfl) ⟨Nat.zero_le _, Nat.zero_le _⟩ dX3_someOrderEnds_50 (fun _ _ => ?_)
        refine z_iload_n X dX3_someOrderEnds_53 rfl rfl ?_
        refine n_if_eq (tgt := 59) X dX3_someOrderEnds_54 (by decide) (by omega) (fun c54 => absurd c54 (by decide)) (fun _ => ?_)
        refine z_iconst (v := nI 1) X dX3_someOrderEnds_57 (by decide) ?_
        refine z_iret X Z (by decide +kernel) dX3_someOrderEnds_58 ?_
        exact ⟨(), bz_t ⟨i, hi, h23, h41⟩, fun q hq => hq⟩
      ·
        refine z_istore_n X dX3_someOrderEnds_44 rfl (Nat.le_of_ble_eq_true rfl) ?_
        refine z_lv (lv' := [some (.ref (a 0)), some (.int (nI (m + 1))), some (.int (nI i)), some (.int (nI 0))]) rfl ?_
        refine z_aload_n X dX3_someOrderEnds_45 rfl rfl ?_
        refine z_get X (C := RX3) (T := TX3) (N := 8) (ci := 3) (v := .ref (a 6)) inZ3 0 6 rfl rfl (by decide) q_fl_X3_41 rfl rfl dX3_someOrderEnds_46 ?_
        refine z_iload_n X dX3_someOrderEnds_49 rfl rfl ?_
        refine z_callV3 (k := 0) (n := 0) (st := []) X Y aR_eq (c_goBackT l D t a x y z s i (by omega) (by omega) (stp_gs h23)) k_X0_goBack q_ml_X3_274 [6, 23] (fun _ => wR t a (T3 S x y z s e)) (fun _ => swT3) ppT3 6 0 rfl rfl (by omega) rfl rfl rfl (Nat.le_of_ble_eq_true rfl) ⟨Nat.zero_le _, Nat.zero_le _⟩ dX3_someOrderEnds_50 (fun _ _ => ?_)
        refine z_iload_n X dX3_someOrderEnds_53 rfl rfl ?_
        refine n_if_eq (tgt := 59) X dX3_someOrderEnds_54 (by decide) (by omega) (fun _ => ?_) (fun c54 => absurd c54 (by decide))
        refine z_iinc (v := nI (i + 1)) X dX3_someOrderEnds_59 rfl (nI_add i 1) ?_
        refine z_lv (lv' := [some (.ref (a 0)), some (.int (nI (m + 1))), some (.int (nI (i + 1))), some (.int (nI 0))]) rfl ?_
        refine z_goto (tgt := 8) X dX3_someOrderEnds_62 (by decide) ?_
        have hv2 : ∀ q, q < i + 1 → ¬ (stp S Xn Yn Zn G x y z s q ∧ orn S Xn Yn Zn G m (gx q x) (gy q y) (gz q z) (gs q s)) := by
          intro q hq hp
          rcases Nat.lt_succ_iff_lt_or_eq.mp hq with q1 | rfl
          · exact hv q q1 hp
          · first | exact h23 hp.1 | exact h41 hp.2
        refine Wz.less (lv' := [some (.ref (a 0)), some (.int (nI (m + 1))), some (.int (nI (i + 1))), none]) (by simp [zle] <;> rfl) ?_
        exact ih2 hv2
    ·
      refine n_if_eq (tgt := 59) X dX3_someOrderEnds_26 (by decide) (by omega) (fun _ => ?_) (fun c26 => absurd c26 (by decide))
      refine z_iinc (v := nI (i + 1)) X dX3_someOrderEnds_59 rfl (nI_add i 1) ?_
      refine z_lv (lv' := [some (.ref (a 0)), some (.int (nI (m + 1))), some (.int (nI (i + 1))), none]) rfl ?_
      refine z_goto (tgt := 8) X dX3_someOrderEnds_62 (by decide) ?_
      have hv2 : ∀ q, q < i + 1 → ¬ (stp S Xn Yn Zn G x y z s q ∧ orn S Xn Yn Zn G m (gx q x) (gy q y) (gz q z) (gs q s)) := by
        intro q hq hp
        rcases Nat.lt_succ_iff_lt_or_eq.mp hq with q1 | rfl
        · exact hv q q1 hp
        · first | exact h23 hp.1 | exact h41 hp.2
      exact ih2 hv2
theorem c_X3_someOrderEnds (l : Launch) (D : va_G) (t : ClassId × ClassId × ClassId) (a : Nat → Nat) (S : zS) (Xn Yn Zn G : Nat) (e : Nat → Int32) (h15 : S 15 = l3 Xn Yn Zn) (h18 : S 18 0 = nI G) (hI : zI S) (hG : G < 256) (hX : Xn + Yn + Zn ≤ 8) : ∀ m, m < 100 → ∀ x y z s, inB Xn Yn Zn G x y z s → zM2 l yX3_someOrderEnds cX3_someOrderEnds 4 (some .boolean) (m + 4) D t [.ref (a 0), .int (nI m)] (wR t a (T3 S x y z s e)) (fun r (_ : Unit) => bz r (orn S Xn Yn Zn G m x y z s)) (fun _ => wR t a (T3 S x y z s e))
  | 0, _, x, y, z, s, hb => c_X3_someOrderEnds_0 l D t a S Xn Yn Zn G e h15 h18 hI hG hX x y z s hb
  | m + 1, hm, x, y, z, s, hb => c_X3_someOrderEnds_s l D t a S Xn Yn Zn G e h15 h18 hI hG hX m (by omega) (fun x y z s hb => c_X3_someOrderEnds l D t a S Xn Yn Zn G e h15 h18 hI hG hX m (by omega) x y z s hb) x y z s hb
end
