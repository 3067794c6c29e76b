/-! the good words of the tables, each by its place -/
def zTs : List Cond := lw_tbl.filter goodWord
theorem zTs_in : ∀ w ∈ zTs, w ∈ lw_tbl := fun _ h => (List.mem_filter.mp h).1
theorem zTs_good : ∀ w ∈ zTs, goodWord w = true := fun _ h => (List.mem_filter.mp h).2
theorem zq {w : Cond} (i : Nat) (h : lw_tbl[i]? = some w) (g : goodWord w = true) : w ∈ zTs := List.mem_filter.mpr ⟨List.mem_of_getElem? h, g⟩
theorem zqs {ws : List Cond} (ps : List Nat) (h : ws = ps.filterMap (fun i => lw_tbl[i]?)) (g : ws.all goodWord = true) : ∀ w ∈ ws, w ∈ zTs := by
  intro w hw
  refine List.mem_filter.mpr ⟨?_, List.all_eq_true.mp g w hw⟩
  rw [h] at hw
  obtain ⟨i, -, hi⟩ := List.mem_filterMap.mp hw
  exact List.mem_of_getElem? hi
theorem inZ0 : ∀ w ∈ u_ws RX0 TX0 2, w ∈ zTs := zqs [130, 132] (by decide +kernel) (by decide +kernel)
theorem inZ1 : ∀ w ∈ u_ws RX1 TX1 10, w ∈ zTs := zqs [74, 76, 78, 80, 82, 84, 86, 88, 90, 92] (by decide +kernel) (by decide +kernel)
theorem inZ2 : ∀ w ∈ u_ws RX2 TX2 4, w ∈ zTs := zqs [111, 113, 115, 117] (by decide +kernel) (by decide +kernel)
theorem inZ3 : ∀ w ∈ u_ws RX3 TX3 8, w ∈ zTs := zqs [144, 146, 148, 150, 152, 154, 156, 158] (by decide +kernel) (by decide +kernel)
set_option maxRecDepth 20000 in
theorem q_se_X3_stepCount : Cond.selects RX3 yX3_stepCount yX3_stepCount ∈ zTs := zq 0 rfl rfl
set_option maxRecDepth 20000 in
theorem q_se_X3_mayTake : Cond.selects RX3 yX3_mayTake yX3_mayTake ∈ zTs := zq 1 rfl rfl
set_option maxRecDepth 20000 in
theorem q_se_X3_hasScoreFor : Cond.selects RX3 yX3_hasScoreFor yX3_hasScoreFor ∈ zTs := zq 2 rfl rfl
set_option maxRecDepth 20000 in
theorem q_se_X3_hasLevelFor : Cond.selects RX3 yX3_hasLevelFor yX3_hasLevelFor ∈ zTs := zq 3 rfl rfl
set_option maxRecDepth 20000 in
theorem q_se_X3_isOtherIn : Cond.selects RX3 yX3_isOtherIn yX3_isOtherIn ∈ zTs := zq 4 rfl rfl
set_option maxRecDepth 20000 in
theorem q_se_X3_isBarred : Cond.selects RX3 yX3_isBarred yX3_isBarred ∈ zTs := zq 5 rfl rfl
set_option maxRecDepth 20000 in
theorem q_se_X3_pointsLeft : Cond.selects RX3 yX3_pointsLeft yX3_pointsLeft ∈ zTs := zq 6 rfl rfl
set_option maxRecDepth 20000 in
theorem q_se_X3_canReach : Cond.selects RX3 yX3_canReach yX3_canReach ∈ zTs := zq 7 rfl rfl
set_option maxRecDepth 20000 in
theorem q_se_X3_markSets : Cond.selects RX3 yX3_markSets yX3_markSets ∈ zTs := zq 8 rfl rfl
set_option maxRecDepth 20000 in
theorem q_se_X3_firstStepTowards : Cond.selects RX3 yX3_firstStepTowards yX3_firstStepTowards ∈ zTs := zq 9 rfl rfl
set_option maxRecDepth 20000 in
theorem q_se_X3_isStepTowards : Cond.selects RX3 yX3_isStepTowards yX3_isStepTowards ∈ zTs := zq 10 rfl rfl
set_option maxRecDepth 20000 in
theorem q_se_X3_isMarked : Cond.selects RX3 yX3_isMarked yX3_isMarked ∈ zTs := zq 11 rfl rfl
set_option maxRecDepth 20000 in
theorem q_se_X3_wordOfTrial : Cond.selects RX3 yX3_wordOfTrial yX3_wordOfTrial ∈ zTs := zq 12 rfl rfl
set_option maxRecDepth 20000 in
theorem q_se_X3_bitOfTrial : Cond.selects RX3 yX3_bitOfTrial yX3_bitOfTrial ∈ zTs := zq 13 rfl rfl
set_option maxRecDepth 20000 in
theorem q_se_X3_mark : Cond.selects RX3 yX3_mark yX3_mark ∈ zTs := zq 14 rfl rfl
set_option maxRecDepth 20000 in
theorem q_se_X3_workingAmong : Cond.selects RX3 yX3_workingAmong yX3_workingAmong ∈ zTs := zq 16 rfl rfl
set_option maxRecDepth 20000 in
theorem q_se_X3_bonusFrom : Cond.selects RX3 yX3_bonusFrom yX3_bonusFrom ∈ zTs := zq 17 rfl rfl
set_option maxRecDepth 20000 in
theorem q_se_X3_leadsIntoRing : Cond.selects RX3 yX3_leadsIntoRing yX3_leadsIntoRing ∈ zTs := zq 18 rfl rfl
set_option maxRecDepth 20000 in
theorem q_se_X3_sumOf : Cond.selects RX3 yX3_sumOf yX3_sumOf ∈ zTs := zq 19 rfl rfl
set_option maxRecDepth 20000 in
theorem q_se_X3_modifierOf : Cond.selects RX3 yX3_modifierOf yX3_modifierOf ∈ zTs := zq 20 rfl rfl
set_option maxRecDepth 20000 in
theorem q_se_X3_someOrderEnds : Cond.selects RX3 yX3_someOrderEnds yX3_someOrderEnds ∈ zTs := zq 21 rfl rfl
set_option maxRecDepth 20000 in
theorem q_se_X3_stepOfFirstOrder : Cond.selects RX3 yX3_stepOfFirstOrder yX3_stepOfFirstOrder ∈ zTs := zq 22 rfl rfl
set_option maxRecDepth 20000 in
theorem q_in_L : Cond.initialized RL ∈ zTs := zq 23 rfl rfl
set_option maxRecDepth 20000 in
theorem q_in_X3 : Cond.initialized RX3 ∈ zTs := zq 24 rfl rfl
set_option maxRecDepth 20000 in
theorem q_in_X1 : Cond.initialized RX1 ∈ zTs := zq 25 rfl rfl
set_option maxRecDepth 20000 in
theorem q_in_J7 : Cond.initialized RJ7 ∈ zTs := zq 26 rfl rfl
set_option maxRecDepth 20000 in
theorem q_in_X2 : Cond.initialized RX2 ∈ zTs := zq 27 rfl rfl
set_option maxRecDepth 20000 in
theorem q_in_X0 : Cond.initialized RX0 ∈ zTs := zq 28 rfl rfl
set_option maxRecDepth 20000 in
theorem q_in_J6 : Cond.initialized RJ6 ∈ zTs := zq 29 rfl rfl
set_option maxRecDepth 20000 in
theorem q_in_J9 : Cond.initialized RJ9 ∈ zTs := zq 30 rfl rfl
set_option maxRecDepth 20000 in
theorem q_in_java_lang_Throwable : Cond.initialized "java/lang/Throwable" ∈ zTs := zq 31 rfl rfl
set_option maxRecDepth 20000 in
theorem q_in_java_lang_Exception : Cond.initialized "java/lang/Exception" ∈ zTs := zq 32 rfl rfl
set_option maxRecDepth 20000 in
theorem q_in_java_lang_RuntimeException : Cond.initialized "java/lang/RuntimeException" ∈ zTs := zq 33 rfl rfl
set_option maxRecDepth 20000 in
theorem q_in_java_lang_IllegalStateException : Cond.initialized "java/lang/IllegalStateException" ∈ zTs := zq 34 rfl rfl
set_option maxRecDepth 20000 in
theorem q_in_java_lang_IndexOutOfBoundsException : Cond.initialized "java/lang/IndexOutOfBoundsException" ∈ zTs := zq 35 rfl rfl
set_option maxRecDepth 20000 in
theorem q_in_java_lang_IllegalArgumentException : Cond.initialized "java/lang/IllegalArgumentException" ∈ zTs := zq 36 rfl rfl
set_option maxRecDepth 20000 in
theorem q_cl_L_11 : Cond.classLink RL 11 RX3 ∈ zTs := zq 37 rfl rfl
set_option maxRecDepth 20000 in
theorem q_is_X3 : Cond.instantiable RX3 8 ∈ zTs := zq 38 rfl rfl
set_option maxRecDepth 20000 in
theorem q_ml_L_156 : Cond.methodLink RL 156 yX3_init ∈ zTs := zq 39 rfl rfl
set_option maxRecDepth 20000 in
theorem q_im_X3_init : Cond.instanceMethod yX3_init ∈ zTs := zq 40 rfl rfl
set_option maxRecDepth 20000 in
theorem q_co_X3_init : Cond.code yX3_init cX3_init 1 none ∈ zTs := zq 41 rfl rfl
set_option maxRecDepth 20000 in
theorem q_ml_X3_3 : Cond.methodLink RX3 3 objectInit ∈ zTs := zq 42 rfl rfl
set_option maxRecDepth 20000 in
theorem q_im_objectInit : Cond.instanceMethod objectInit ∈ zTs := zq 43 rfl rfl
set_option maxRecDepth 20000 in
theorem q_co_objectInit : Cond.code objectInit ⟨#[0xb1]⟩ 1 none ∈ zTs := zq 44 rfl rfl
set_option maxRecDepth 20000 in
theorem q_cl_X3_9 : Cond.classLink RX3 9 RX1 ∈ zTs := zq 45 rfl rfl
set_option maxRecDepth 20000 in
theorem q_is_X1 : Cond.instantiable RX1 10 ∈ zTs := zq 46 rfl rfl
set_option maxRecDepth 20000 in
theorem q_ml_X3_11 : Cond.methodLink RX3 11 yX1_init ∈ zTs := zq 47 rfl rfl
set_option maxRecDepth 20000 in
theorem q_im_X1_init : Cond.instanceMethod yX1_init ∈ zTs := zq 48 rfl rfl
set_option maxRecDepth 20000 in
theorem q_co_X1_init : Cond.code yX1_init cX1_init 1 none ∈ zTs := zq 49 rfl rfl
set_option maxRecDepth 20000 in
theorem q_ml_X1_3 : Cond.methodLink RX1 3 objectInit ∈ zTs := zq 50 rfl rfl
set_option maxRecDepth 20000 in
theorem q_ml_X1_42 : Cond.methodLink RX1 42 yJ7_fill_53178 ∈ zTs := zq 51 rfl rfl
set_option maxRecDepth 20000 in
theorem q_st_J7_fill_53178 : Cond.static yJ7_fill_53178 ∈ zTs := zq 52 rfl rfl
set_option maxRecDepth 20000 in
theorem q_co_J7_fill_53178 : Cond.code yJ7_fill_53178 cJ7_fill_53178 4 none ∈ zTs := zq 53 rfl rfl
set_option maxRecDepth 20000 in
theorem q_fl_X1_9 : Cond.fieldLink RX1 9 "Rulesheet$GiftRules" "ability" "[I" ∈ zTs := zq 54 rfl rfl
set_option maxRecDepth 20000 in
theorem q_fl_X3_78 : Cond.fieldLink RX3 78 "Rulesheet$GiftRules" "ability" "[I" ∈ zTs := zq 55 rfl rfl
set_option maxRecDepth 20000 in
theorem q_fl_X1_15 : Cond.fieldLink RX1 15 "Rulesheet$GiftRules" "score" "[I" ∈ zTs := zq 56 rfl rfl
set_option maxRecDepth 20000 in
theorem q_fl_X3_81 : Cond.fieldLink RX3 81 "Rulesheet$GiftRules" "score" "[I" ∈ zTs := zq 57 rfl rfl
set_option maxRecDepth 20000 in
theorem q_fl_X1_18 : Cond.fieldLink RX1 18 "Rulesheet$GiftRules" "calling" "[I" ∈ zTs := zq 58 rfl rfl
set_option maxRecDepth 20000 in
theorem q_fl_X3_84 : Cond.fieldLink RX3 84 "Rulesheet$GiftRules" "calling" "[I" ∈ zTs := zq 59 rfl rfl
set_option maxRecDepth 20000 in
theorem q_fl_X1_21 : Cond.fieldLink RX1 21 "Rulesheet$GiftRules" "level" "[I" ∈ zTs := zq 60 rfl rfl
set_option maxRecDepth 20000 in
theorem q_fl_X3_87 : Cond.fieldLink RX3 87 "Rulesheet$GiftRules" "level" "[I" ∈ zTs := zq 61 rfl rfl
set_option maxRecDepth 20000 in
theorem q_fl_X1_24 : Cond.fieldLink RX1 24 "Rulesheet$GiftRules" "other" "[I" ∈ zTs := zq 62 rfl rfl
set_option maxRecDepth 20000 in
theorem q_fl_X3_90 : Cond.fieldLink RX3 90 "Rulesheet$GiftRules" "other" "[I" ∈ zTs := zq 63 rfl rfl
set_option maxRecDepth 20000 in
theorem q_fl_X1_27 : Cond.fieldLink RX1 27 "Rulesheet$GiftRules" "barCalling" "[I" ∈ zTs := zq 64 rfl rfl
set_option maxRecDepth 20000 in
theorem q_fl_X3_95 : Cond.fieldLink RX3 95 "Rulesheet$GiftRules" "barCalling" "[I" ∈ zTs := zq 65 rfl rfl
set_option maxRecDepth 20000 in
theorem q_fl_X1_30 : Cond.fieldLink RX1 30 "Rulesheet$GiftRules" "barLevel" "[I" ∈ zTs := zq 66 rfl rfl
set_option maxRecDepth 20000 in
theorem q_fl_X3_98 : Cond.fieldLink RX3 98 "Rulesheet$GiftRules" "barLevel" "[I" ∈ zTs := zq 67 rfl rfl
set_option maxRecDepth 20000 in
theorem q_fl_X1_33 : Cond.fieldLink RX1 33 "Rulesheet$GiftRules" "bonusValue" "[I" ∈ zTs := zq 68 rfl rfl
set_option maxRecDepth 20000 in
theorem q_fl_X3_105 : Cond.fieldLink RX3 105 "Rulesheet$GiftRules" "bonusValue" "[I" ∈ zTs := zq 69 rfl rfl
set_option maxRecDepth 20000 in
theorem q_fl_X1_36 : Cond.fieldLink RX1 36 "Rulesheet$GiftRules" "bonusKind" "[I" ∈ zTs := zq 70 rfl rfl
set_option maxRecDepth 20000 in
theorem q_fl_X3_108 : Cond.fieldLink RX3 108 "Rulesheet$GiftRules" "bonusKind" "[I" ∈ zTs := zq 71 rfl rfl
set_option maxRecDepth 20000 in
theorem q_fl_X1_39 : Cond.fieldLink RX1 39 "Rulesheet$GiftRules" "bonusAmount" "[I" ∈ zTs := zq 72 rfl rfl
set_option maxRecDepth 20000 in
theorem q_fl_X3_111 : Cond.fieldLink RX3 111 "Rulesheet$GiftRules" "bonusAmount" "[I" ∈ zTs := zq 73 rfl rfl
set_option maxRecDepth 20000 in
theorem q_ac_int : Cond.arrayClass .int ∈ zTs := zq 95 rfl rfl
set_option maxRecDepth 20000 in
theorem q_cl_X3_16 : Cond.classLink RX3 16 RX2 ∈ zTs := zq 96 rfl rfl
set_option maxRecDepth 20000 in
theorem q_is_X2 : Cond.instantiable RX2 4 ∈ zTs := zq 97 rfl rfl
set_option maxRecDepth 20000 in
theorem q_ml_X3_18 : Cond.methodLink RX3 18 yX2_init ∈ zTs := zq 98 rfl rfl
set_option maxRecDepth 20000 in
theorem q_im_X2_init : Cond.instanceMethod yX2_init ∈ zTs := zq 99 rfl rfl
set_option maxRecDepth 20000 in
theorem q_co_X2_init : Cond.code yX2_init cX2_init 1 none ∈ zTs := zq 100 rfl rfl
set_option maxRecDepth 20000 in
theorem q_ml_X2_3 : Cond.methodLink RX2 3 objectInit ∈ zTs := zq 101 rfl rfl
set_option maxRecDepth 20000 in
theorem q_ml_X2_24 : Cond.methodLink RX2 24 yJ7_fill_53178 ∈ zTs := zq 102 rfl rfl
set_option maxRecDepth 20000 in
theorem q_fl_X2_9 : Cond.fieldLink RX2 9 "Rulesheet$ValueRules" "base" "[I" ∈ zTs := zq 103 rfl rfl
set_option maxRecDepth 20000 in
theorem q_fl_X3_118 : Cond.fieldLink RX3 118 "Rulesheet$ValueRules" "base" "[I" ∈ zTs := zq 104 rfl rfl
set_option maxRecDepth 20000 in
theorem q_fl_X2_15 : Cond.fieldLink RX2 15 "Rulesheet$ValueRules" "ability" "[I" ∈ zTs := zq 105 rfl rfl
set_option maxRecDepth 20000 in
theorem q_fl_X3_121 : Cond.fieldLink RX3 121 "Rulesheet$ValueRules" "ability" "[I" ∈ zTs := zq 106 rfl rfl
set_option maxRecDepth 20000 in
theorem q_fl_X2_18 : Cond.fieldLink RX2 18 "Rulesheet$ValueRules" "calling" "[I" ∈ zTs := zq 107 rfl rfl
set_option maxRecDepth 20000 in
theorem q_fl_X3_122 : Cond.fieldLink RX3 122 "Rulesheet$ValueRules" "calling" "[I" ∈ zTs := zq 108 rfl rfl
set_option maxRecDepth 20000 in
theorem q_fl_X2_21 : Cond.fieldLink RX2 21 "Rulesheet$ValueRules" "other" "[I" ∈ zTs := zq 109 rfl rfl
set_option maxRecDepth 20000 in
theorem q_fl_X3_123 : Cond.fieldLink RX3 123 "Rulesheet$ValueRules" "other" "[I" ∈ zTs := zq 110 rfl rfl
set_option maxRecDepth 20000 in
theorem q_cl_X3_27 : Cond.classLink RX3 27 RX0 ∈ zTs := zq 120 rfl rfl
set_option maxRecDepth 20000 in
theorem q_is_X0 : Cond.instantiable RX0 2 ∈ zTs := zq 121 rfl rfl
set_option maxRecDepth 20000 in
theorem q_im_X0_init : Cond.instanceMethod yX0_init ∈ zTs := zq 123 rfl rfl
set_option maxRecDepth 20000 in
theorem q_co_X0_init : Cond.code yX0_init cX0_init 1 none ∈ zTs := zq 124 rfl rfl
set_option maxRecDepth 20000 in
theorem q_ml_X0_3 : Cond.methodLink RX0 3 objectInit ∈ zTs := zq 125 rfl rfl
set_option maxRecDepth 20000 in
theorem q_fl_X0_9 : Cond.fieldLink RX0 9 "Rulesheet$Build" "levels" "[I" ∈ zTs := zq 126 rfl rfl
set_option maxRecDepth 20000 in
theorem q_fl_X3_236 : Cond.fieldLink RX3 236 "Rulesheet$Build" "levels" "[I" ∈ zTs := zq 127 rfl rfl
set_option maxRecDepth 20000 in
theorem q_fl_X0_15 : Cond.fieldLink RX0 15 "Rulesheet$Build" "held" "I" ∈ zTs := zq 128 rfl rfl
set_option maxRecDepth 20000 in
theorem q_fl_X3_155 : Cond.fieldLink RX3 155 "Rulesheet$Build" "held" "I" ∈ zTs := zq 129 rfl rfl
set_option maxRecDepth 20000 in
theorem q_ml_X3_47 : Cond.methodLink RX3 47 yJ7_fill_53178 ∈ zTs := zq 135 rfl rfl
set_option maxRecDepth 20000 in
theorem q_fl_X3_12 : Cond.fieldLink RX3 12 "Rulesheet" "giftRules" "LRulesheet$GiftRules;" ∈ zTs := zq 136 rfl rfl
set_option maxRecDepth 20000 in
theorem q_fl_X3_19 : Cond.fieldLink RX3 19 "Rulesheet" "valueRules" "LRulesheet$ValueRules;" ∈ zTs := zq 137 rfl rfl
set_option maxRecDepth 20000 in
theorem q_fl_X3_23 : Cond.fieldLink RX3 23 "Rulesheet" "scores" "[I" ∈ zTs := zq 138 rfl rfl
set_option maxRecDepth 20000 in
theorem q_fl_X3_30 : Cond.fieldLink RX3 30 "Rulesheet" "character" "LRulesheet$Build;" ∈ zTs := zq 139 rfl rfl
set_option maxRecDepth 20000 in
theorem q_fl_X3_34 : Cond.fieldLink RX3 34 "Rulesheet" "taken" "[I" ∈ zTs := zq 140 rfl rfl
set_option maxRecDepth 20000 in
theorem q_fl_X3_37 : Cond.fieldLink RX3 37 "Rulesheet" "takenCount" "I" ∈ zTs := zq 141 rfl rfl
set_option maxRecDepth 20000 in
theorem q_fl_X3_41 : Cond.fieldLink RX3 41 "Rulesheet" "trial" "LRulesheet$Build;" ∈ zTs := zq 142 rfl rfl
set_option maxRecDepth 20000 in
theorem q_fl_X3_44 : Cond.fieldLink RX3 44 "Rulesheet" "endings" "[I" ∈ zTs := zq 143 rfl rfl
set_option maxRecDepth 20000 in
theorem q_ml_L_120 : Cond.methodLink RL 120 yX3_clear ∈ zTs := zq 161 rfl rfl
set_option maxRecDepth 20000 in
theorem q_im_X3_clear : Cond.instanceMethod yX3_clear ∈ zTs := zq 162 rfl rfl
set_option maxRecDepth 20000 in
theorem q_se_X3_clear : Cond.selects RX3 yX3_clear yX3_clear ∈ zTs := zq 163 rfl rfl
set_option maxRecDepth 20000 in
theorem q_co_X3_clear : Cond.code yX3_clear cX3_clear 2 (some .int) ∈ zTs := zq 164 rfl rfl
set_option maxRecDepth 20000 in
theorem q_ml_X3_182 : Cond.methodLink RX3 182 yX3_stepCount ∈ zTs := zq 165 rfl rfl
set_option maxRecDepth 20000 in
theorem q_im_X3_stepCount : Cond.instanceMethod yX3_stepCount ∈ zTs := zq 167 rfl rfl
set_option maxRecDepth 20000 in
theorem q_co_X3_stepCount : Cond.code yX3_stepCount cX3_stepCount 1 (some .int) ∈ zTs := zq 168 rfl rfl
set_option maxRecDepth 20000 in
theorem q_ml_X3_158 : Cond.methodLink RX3 158 yX0_heldCount ∈ zTs := zq 169 rfl rfl
set_option maxRecDepth 20000 in
theorem q_im_X0_heldCount : Cond.instanceMethod yX0_heldCount ∈ zTs := zq 170 rfl rfl
set_option maxRecDepth 20000 in
theorem q_se_X0_heldCount : Cond.selects RX0 yX0_heldCount yX0_heldCount ∈ zTs := zq 171 rfl rfl
set_option maxRecDepth 20000 in
theorem q_co_X0_heldCount : Cond.code yX0_heldCount cX0_heldCount 1 (some .int) ∈ zTs := zq 172 rfl rfl
set_option maxRecDepth 20000 in
theorem q_ml_X0_25 : Cond.methodLink RX0 25 yJ6_bitCount_0f7a4 ∈ zTs := zq 173 rfl rfl
set_option maxRecDepth 20000 in
theorem q_st_J6_bitCount_0f7a4 : Cond.static yJ6_bitCount_0f7a4 ∈ zTs := zq 174 rfl rfl
set_option maxRecDepth 20000 in
theorem q_co_J6_bitCount_0f7a4 : Cond.code yJ6_bitCount_0f7a4 cJ6_bitCount_0f7a4 1 (some .int) ∈ zTs := zq 175 rfl rfl
set_option maxRecDepth 20000 in
theorem q_k_J6_265 : Cond.constant RJ6 265 (1431655765) ∈ zTs := zq 176 rfl rfl
set_option maxRecDepth 20000 in
theorem q_k_J6_266 : Cond.constant RJ6 266 (858993459) ∈ zTs := zq 177 rfl rfl
set_option maxRecDepth 20000 in
theorem q_k_J6_267 : Cond.constant RJ6 267 (252645135) ∈ zTs := zq 178 rfl rfl
set_option maxRecDepth 20000 in
theorem q_ml_X3_185 : Cond.methodLink RX3 185 yX0_empty ∈ zTs := zq 179 rfl rfl
set_option maxRecDepth 20000 in
theorem q_im_X0_empty : Cond.instanceMethod yX0_empty ∈ zTs := zq 180 rfl rfl
set_option maxRecDepth 20000 in
theorem q_se_X0_empty : Cond.selects RX0 yX0_empty yX0_empty ∈ zTs := zq 181 rfl rfl
set_option maxRecDepth 20000 in
theorem q_co_X0_empty : Cond.code yX0_empty cX0_empty 1 none ∈ zTs := zq 182 rfl rfl
set_option maxRecDepth 20000 in
theorem q_ml_X0_19 : Cond.methodLink RX0 19 yJ7_fill_53178 ∈ zTs := zq 183 rfl rfl
set_option maxRecDepth 20000 in
theorem q_ml_L_90 : Cond.methodLink RL 90 yX3_gifts ∈ zTs := zq 184 rfl rfl
set_option maxRecDepth 20000 in
theorem q_im_X3_gifts : Cond.instanceMethod yX3_gifts ∈ zTs := zq 185 rfl rfl
set_option maxRecDepth 20000 in
theorem q_se_X3_gifts : Cond.selects RX3 yX3_gifts yX3_gifts ∈ zTs := zq 186 rfl rfl
set_option maxRecDepth 20000 in
theorem q_co_X3_gifts : Cond.code yX3_gifts cX3_gifts 1 (some .int) ∈ zTs := zq 187 rfl rfl
set_option maxRecDepth 20000 in
theorem q_ml_L_93 : Cond.methodLink RL 93 yX3_open ∈ zTs := zq 188 rfl rfl
set_option maxRecDepth 20000 in
theorem q_im_X3_open : Cond.instanceMethod yX3_open ∈ zTs := zq 189 rfl rfl
set_option maxRecDepth 20000 in
theorem q_se_X3_open : Cond.selects RX3 yX3_open yX3_open ∈ zTs := zq 190 rfl rfl
set_option maxRecDepth 20000 in
theorem q_co_X3_open : Cond.code yX3_open cX3_open 3 (some .int) ∈ zTs := zq 191 rfl rfl
set_option maxRecDepth 20000 in
theorem q_ml_X3_149 : Cond.methodLink RX3 149 yX3_mayTake ∈ zTs := zq 192 rfl rfl
set_option maxRecDepth 20000 in
theorem q_im_X3_mayTake : Cond.instanceMethod yX3_mayTake ∈ zTs := zq 194 rfl rfl
set_option maxRecDepth 20000 in
theorem q_co_X3_mayTake : Cond.code yX3_mayTake cX3_mayTake 3 (some .boolean) ∈ zTs := zq 195 rfl rfl
set_option maxRecDepth 20000 in
theorem q_ml_X3_165 : Cond.methodLink RX3 165 yX0_has ∈ zTs := zq 196 rfl rfl
set_option maxRecDepth 20000 in
theorem q_im_X0_has : Cond.instanceMethod yX0_has ∈ zTs := zq 197 rfl rfl
set_option maxRecDepth 20000 in
theorem q_se_X0_has : Cond.selects RX0 yX0_has yX0_has ∈ zTs := zq 198 rfl rfl
set_option maxRecDepth 20000 in
theorem q_co_X0_has : Cond.code yX0_has cX0_has 2 (some .boolean) ∈ zTs := zq 199 rfl rfl
set_option maxRecDepth 20000 in
theorem q_ml_X3_177 : Cond.methodLink RX3 177 yJ6_bitCount_0f7a4 ∈ zTs := zq 200 rfl rfl
set_option maxRecDepth 20000 in
theorem q_ml_X3_191 : Cond.methodLink RX3 191 yX0_levelInAll ∈ zTs := zq 201 rfl rfl
set_option maxRecDepth 20000 in
theorem q_im_X0_levelInAll : Cond.instanceMethod yX0_levelInAll ∈ zTs := zq 202 rfl rfl
set_option maxRecDepth 20000 in
theorem q_se_X0_levelInAll : Cond.selects RX0 yX0_levelInAll yX0_levelInAll ∈ zTs := zq 203 rfl rfl
set_option maxRecDepth 20000 in
theorem q_co_X0_levelInAll : Cond.code yX0_levelInAll cX0_levelInAll 3 (some .int) ∈ zTs := zq 204 rfl rfl
set_option maxRecDepth 20000 in
theorem q_ml_X3_194 : Cond.methodLink RX3 194 yX3_placesAt ∈ zTs := zq 205 rfl rfl
set_option maxRecDepth 20000 in
theorem q_st_X3_placesAt : Cond.static yX3_placesAt ∈ zTs := zq 206 rfl rfl
set_option maxRecDepth 20000 in
theorem q_co_X3_placesAt : Cond.code yX3_placesAt cX3_placesAt 1 (some .int) ∈ zTs := zq 207 rfl rfl
set_option maxRecDepth 20000 in
theorem q_ml_X3_239 : Cond.methodLink RX3 239 yX3_hasScoreFor ∈ zTs := zq 208 rfl rfl
set_option maxRecDepth 20000 in
theorem q_im_X3_hasScoreFor : Cond.instanceMethod yX3_hasScoreFor ∈ zTs := zq 210 rfl rfl
set_option maxRecDepth 20000 in
theorem q_co_X3_hasScoreFor : Cond.code yX3_hasScoreFor cX3_hasScoreFor 3 (some .boolean) ∈ zTs := zq 211 rfl rfl
set_option maxRecDepth 20000 in
theorem q_ml_X3_242 : Cond.methodLink RX3 242 yX3_hasLevelFor ∈ zTs := zq 212 rfl rfl
set_option maxRecDepth 20000 in
theorem q_im_X3_hasLevelFor : Cond.instanceMethod yX3_hasLevelFor ∈ zTs := zq 214 rfl rfl
set_option maxRecDepth 20000 in
theorem q_co_X3_hasLevelFor : Cond.code yX3_hasLevelFor cX3_hasLevelFor 4 (some .boolean) ∈ zTs := zq 215 rfl rfl
set_option maxRecDepth 20000 in
theorem q_ml_X3_245 : Cond.methodLink RX3 245 yX3_isOtherIn ∈ zTs := zq 216 rfl rfl
set_option maxRecDepth 20000 in
theorem q_im_X3_isOtherIn : Cond.instanceMethod yX3_isOtherIn ∈ zTs := zq 218 rfl rfl
set_option maxRecDepth 20000 in
theorem q_co_X3_isOtherIn : Cond.code yX3_isOtherIn cX3_isOtherIn 4 (some .boolean) ∈ zTs := zq 219 rfl rfl
set_option maxRecDepth 20000 in
theorem q_ml_X3_248 : Cond.methodLink RX3 248 yX3_isBarred ∈ zTs := zq 220 rfl rfl
set_option maxRecDepth 20000 in
theorem q_im_X3_isBarred : Cond.instanceMethod yX3_isBarred ∈ zTs := zq 222 rfl rfl
set_option maxRecDepth 20000 in
theorem q_co_X3_isBarred : Cond.code yX3_isBarred cX3_isBarred 4 (some .boolean) ∈ zTs := zq 223 rfl rfl
set_option maxRecDepth 20000 in
theorem q_ml_L_100 : Cond.methodLink RL 100 yX3_places ∈ zTs := zq 224 rfl rfl
set_option maxRecDepth 20000 in
theorem q_im_X3_places : Cond.instanceMethod yX3_places ∈ zTs := zq 225 rfl rfl
set_option maxRecDepth 20000 in
theorem q_se_X3_places : Cond.selects RX3 yX3_places yX3_places ∈ zTs := zq 226 rfl rfl
set_option maxRecDepth 20000 in
theorem q_co_X3_places : Cond.code yX3_places cX3_places 1 (some .int) ∈ zTs := zq 227 rfl rfl
set_option maxRecDepth 20000 in
theorem q_ml_L_103 : Cond.methodLink RL 103 yX3_points ∈ zTs := zq 228 rfl rfl
set_option maxRecDepth 20000 in
theorem q_im_X3_points : Cond.instanceMethod yX3_points ∈ zTs := zq 229 rfl rfl
set_option maxRecDepth 20000 in
theorem q_se_X3_points : Cond.selects RX3 yX3_points yX3_points ∈ zTs := zq 230 rfl rfl
set_option maxRecDepth 20000 in
theorem q_co_X3_points : Cond.code yX3_points cX3_points 1 (some .int) ∈ zTs := zq 231 rfl rfl
set_option maxRecDepth 20000 in
theorem q_ml_X3_126 : Cond.methodLink RX3 126 yX3_pointsLeft ∈ zTs := zq 232 rfl rfl
set_option maxRecDepth 20000 in
theorem q_im_X3_pointsLeft : Cond.instanceMethod yX3_pointsLeft ∈ zTs := zq 234 rfl rfl
set_option maxRecDepth 20000 in
theorem q_co_X3_pointsLeft : Cond.code yX3_pointsLeft cX3_pointsLeft 3 (some .int) ∈ zTs := zq 235 rfl rfl
set_option maxRecDepth 20000 in
theorem q_ml_X3_130 : Cond.methodLink RX3 130 yX3_costOf ∈ zTs := zq 236 rfl rfl
set_option maxRecDepth 20000 in
theorem q_st_X3_costOf : Cond.static yX3_costOf ∈ zTs := zq 237 rfl rfl
set_option maxRecDepth 20000 in
theorem q_co_X3_costOf : Cond.code yX3_costOf cX3_costOf 1 (some .int) ∈ zTs := zq 238 rfl rfl
set_option maxRecDepth 20000 in
theorem q_ml_X3_227 : Cond.methodLink RX3 227 yJ9_max_7cf53 ∈ zTs := zq 239 rfl rfl
set_option maxRecDepth 20000 in
theorem q_st_J9_max_7cf53 : Cond.static yJ9_max_7cf53 ∈ zTs := zq 240 rfl rfl
set_option maxRecDepth 20000 in
theorem q_co_J9_max_7cf53 : Cond.code yJ9_max_7cf53 cJ9_max_7cf53 2 (some .int) ∈ zTs := zq 241 rfl rfl
set_option maxRecDepth 20000 in
theorem q_ml_L_112 : Cond.methodLink RL 112 yX3_isLawful ∈ zTs := zq 242 rfl rfl
set_option maxRecDepth 20000 in
theorem q_im_X3_isLawful : Cond.instanceMethod yX3_isLawful ∈ zTs := zq 243 rfl rfl
set_option maxRecDepth 20000 in
theorem q_se_X3_isLawful : Cond.selects RX3 yX3_isLawful yX3_isLawful ∈ zTs := zq 244 rfl rfl
set_option maxRecDepth 20000 in
theorem q_co_X3_isLawful : Cond.code yX3_isLawful cX3_isLawful 1 (some .boolean) ∈ zTs := zq 245 rfl rfl
set_option maxRecDepth 20000 in
theorem q_ml_X3_169 : Cond.methodLink RX3 169 yX3_canReach ∈ zTs := zq 246 rfl rfl
set_option maxRecDepth 20000 in
theorem q_im_X3_canReach : Cond.instanceMethod yX3_canReach ∈ zTs := zq 248 rfl rfl
set_option maxRecDepth 20000 in
theorem q_co_X3_canReach : Cond.code yX3_canReach cX3_canReach 5 (some .boolean) ∈ zTs := zq 249 rfl rfl
set_option maxRecDepth 20000 in
theorem q_ml_X3_254 : Cond.methodLink RX3 254 yX3_markSets ∈ zTs := zq 250 rfl rfl
set_option maxRecDepth 20000 in
theorem q_im_X3_markSets : Cond.instanceMethod yX3_markSets ∈ zTs := zq 252 rfl rfl
set_option maxRecDepth 20000 in
theorem q_co_X3_markSets : Cond.code yX3_markSets cX3_markSets 4 none ∈ zTs := zq 253 rfl rfl
set_option maxRecDepth 20000 in
theorem q_ml_X3_262 : Cond.methodLink RX3 262 yX3_firstStepTowards ∈ zTs := zq 254 rfl rfl
set_option maxRecDepth 20000 in
theorem q_im_X3_firstStepTowards : Cond.instanceMethod yX3_firstStepTowards ∈ zTs := zq 256 rfl rfl
set_option maxRecDepth 20000 in
theorem q_co_X3_firstStepTowards : Cond.code yX3_firstStepTowards cX3_firstStepTowards 4 (some .int) ∈ zTs := zq 257 rfl rfl
set_option maxRecDepth 20000 in
theorem q_ml_X3_268 : Cond.methodLink RX3 268 yX3_isStepTowards ∈ zTs := zq 258 rfl rfl
set_option maxRecDepth 20000 in
theorem q_im_X3_isStepTowards : Cond.instanceMethod yX3_isStepTowards ∈ zTs := zq 260 rfl rfl
set_option maxRecDepth 20000 in
theorem q_co_X3_isStepTowards : Cond.code yX3_isStepTowards cX3_isStepTowards 4 (some .boolean) ∈ zTs := zq 261 rfl rfl
set_option maxRecDepth 20000 in
theorem q_ml_X3_53 : Cond.methodLink RX3 53 yX3_isAmong ∈ zTs := zq 262 rfl rfl
set_option maxRecDepth 20000 in
theorem q_st_X3_isAmong : Cond.static yX3_isAmong ∈ zTs := zq 263 rfl rfl
set_option maxRecDepth 20000 in
theorem q_co_X3_isAmong : Cond.code yX3_isAmong cX3_isAmong 2 (some .boolean) ∈ zTs := zq 264 rfl rfl
set_option maxRecDepth 20000 in
theorem q_ml_X3_271 : Cond.methodLink RX3 271 yX0_goOn ∈ zTs := zq 265 rfl rfl
set_option maxRecDepth 20000 in
theorem q_im_X0_goOn : Cond.instanceMethod yX0_goOn ∈ zTs := zq 266 rfl rfl
set_option maxRecDepth 20000 in
theorem q_se_X0_goOn : Cond.selects RX0 yX0_goOn yX0_goOn ∈ zTs := zq 267 rfl rfl
set_option maxRecDepth 20000 in
theorem q_co_X0_goOn : Cond.code yX0_goOn cX0_goOn 2 none ∈ zTs := zq 268 rfl rfl
set_option maxRecDepth 20000 in
theorem q_ml_X0_35 : Cond.methodLink RX0 35 yX0_changeLevel ∈ zTs := zq 269 rfl rfl
set_option maxRecDepth 20000 in
theorem q_im_X0_changeLevel : Cond.instanceMethod yX0_changeLevel ∈ zTs := zq 270 rfl rfl
set_option maxRecDepth 20000 in
theorem q_se_X0_changeLevel : Cond.selects RX0 yX0_changeLevel yX0_changeLevel ∈ zTs := zq 271 rfl rfl
set_option maxRecDepth 20000 in
theorem q_co_X0_changeLevel : Cond.code yX0_changeLevel cX0_changeLevel 3 none ∈ zTs := zq 272 rfl rfl
set_option maxRecDepth 20000 in
theorem q_ml_X3_258 : Cond.methodLink RX3 258 yX3_isMarked ∈ zTs := zq 274 rfl rfl
set_option maxRecDepth 20000 in
theorem q_im_X3_isMarked : Cond.instanceMethod yX3_isMarked ∈ zTs := zq 276 rfl rfl
set_option maxRecDepth 20000 in
theorem q_co_X3_isMarked : Cond.code yX3_isMarked cX3_isMarked 2 (some .boolean) ∈ zTs := zq 277 rfl rfl
set_option maxRecDepth 20000 in
theorem q_ml_X3_277 : Cond.methodLink RX3 277 yX3_wordOfTrial ∈ zTs := zq 278 rfl rfl
set_option maxRecDepth 20000 in
theorem q_im_X3_wordOfTrial : Cond.instanceMethod yX3_wordOfTrial ∈ zTs := zq 280 rfl rfl
set_option maxRecDepth 20000 in
theorem q_co_X3_wordOfTrial : Cond.code yX3_wordOfTrial cX3_wordOfTrial 3 (some .int) ∈ zTs := zq 281 rfl rfl
set_option maxRecDepth 20000 in
theorem q_ml_X3_280 : Cond.methodLink RX3 280 yX3_bitOfTrial ∈ zTs := zq 282 rfl rfl
set_option maxRecDepth 20000 in
theorem q_im_X3_bitOfTrial : Cond.instanceMethod yX3_bitOfTrial ∈ zTs := zq 284 rfl rfl
set_option maxRecDepth 20000 in
theorem q_co_X3_bitOfTrial : Cond.code yX3_bitOfTrial cX3_bitOfTrial 1 (some .int) ∈ zTs := zq 285 rfl rfl
set_option maxRecDepth 20000 in
theorem q_ml_X3_274 : Cond.methodLink RX3 274 yX0_goBack ∈ zTs := zq 286 rfl rfl
set_option maxRecDepth 20000 in
theorem q_im_X0_goBack : Cond.instanceMethod yX0_goBack ∈ zTs := zq 287 rfl rfl
set_option maxRecDepth 20000 in
theorem q_se_X0_goBack : Cond.selects RX0 yX0_goBack yX0_goBack ∈ zTs := zq 288 rfl rfl
set_option maxRecDepth 20000 in
theorem q_co_X0_goBack : Cond.code yX0_goBack cX0_goBack 2 none ∈ zTs := zq 289 rfl rfl
set_option maxRecDepth 20000 in
theorem q_ml_X3_265 : Cond.methodLink RX3 265 yX3_mark ∈ zTs := zq 290 rfl rfl
set_option maxRecDepth 20000 in
theorem q_im_X3_mark : Cond.instanceMethod yX3_mark ∈ zTs := zq 292 rfl rfl
set_option maxRecDepth 20000 in
theorem q_co_X3_mark : Cond.code yX3_mark cX3_mark 2 none ∈ zTs := zq 293 rfl rfl
set_option maxRecDepth 20000 in
theorem q_ml_L_157 : Cond.methodLink RL 157 yL_at ∈ zTs := zq 294 rfl rfl
set_option maxRecDepth 20000 in
theorem q_st_L_at : Cond.static yL_at ∈ zTs := zq 295 rfl rfl
set_option maxRecDepth 20000 in
theorem q_co_L_at : Cond.code yL_at cL_at 2 (some .int) ∈ zTs := zq 296 rfl rfl
set_option maxRecDepth 20000 in
theorem q_k_L_7 : Cond.constant RL 7 (1005044185) ∈ zTs := zq 297 rfl rfl
set_option maxRecDepth 20000 in
theorem q_k_L_8 : Cond.constant RL 8 (1693584023) ∈ zTs := zq 298 rfl rfl
set_option maxRecDepth 20000 in
theorem q_ml_L_150 : Cond.methodLink RL 150 yL_loseLevel ∈ zTs := zq 299 rfl rfl
set_option maxRecDepth 20000 in
theorem q_st_L_loseLevel : Cond.static yL_loseLevel ∈ zTs := zq 300 rfl rfl
set_option maxRecDepth 20000 in
theorem q_cw_L_loseLevel : Cond.codeWith yL_loseLevel cL_loseLevel 2 (some .int) [(0, 4, 5, 38)] ∈ zTs := zq 301 rfl rfl
set_option maxRecDepth 20000 in
theorem q_cl_L_38 : Cond.classLink RL 38 "java/lang/IllegalStateException" ∈ zTs := zq 302 rfl rfl
set_option maxRecDepth 20000 in
theorem q_ml_L_48 : Cond.methodLink RL 48 yX3_loseLevel ∈ zTs := zq 303 rfl rfl
set_option maxRecDepth 20000 in
theorem q_im_X3_loseLevel : Cond.instanceMethod yX3_loseLevel ∈ zTs := zq 304 rfl rfl
set_option maxRecDepth 20000 in
theorem q_se_X3_loseLevel : Cond.selects RX3 yX3_loseLevel yX3_loseLevel ∈ zTs := zq 305 rfl rfl
set_option maxRecDepth 20000 in
theorem q_co_X3_loseLevel : Cond.code yX3_loseLevel cX3_loseLevel 2 (some .int) ∈ zTs := zq 306 rfl rfl
set_option maxRecDepth 20000 in
theorem q_cl_X3_134 : Cond.classLink RX3 134 "java/lang/IllegalStateException" ∈ zTs := zq 307 rfl rfl
set_option maxRecDepth 20000 in
theorem q_is_java_lang_IllegalStateException : Cond.instantiable "java/lang/IllegalStateException" 6 ∈ zTs := zq 308 rfl rfl
set_option maxRecDepth 20000 in
theorem q_fl_java_lang_Throwable_198 : Cond.fieldLink "java/lang/Throwable" 198 "java/lang/Throwable" "backtrace" "Ljava/lang/Object;" ∈ zTs := zq 328 rfl rfl
set_option maxRecDepth 20000 in
theorem q_ml_java_lang_Throwable_1 : Cond.methodLink "java/lang/Throwable" 1 objectInit ∈ zTs := zq 332 rfl rfl
set_option maxRecDepth 20000 in
theorem q_fl_java_lang_Throwable_13 : Cond.fieldLink "java/lang/Throwable" 13 "java/lang/Throwable" "UNASSIGNED_STACK" "[Ljava/lang/StackTraceElement;" ∈ zTs := zq 333 rfl rfl
set_option maxRecDepth 20000 in
theorem q_fl_java_lang_Throwable_20 : Cond.fieldLink "java/lang/Throwable" 20 "java/lang/Throwable" "SUPPRESSED_SENTINEL" "Ljava/util/List;" ∈ zTs := zq 335 rfl rfl
set_option maxRecDepth 20000 in
theorem q_is_java_lang_Throwable : Cond.instantiable "java/lang/Throwable" 6 ∈ zTs := zq 346 rfl rfl
set_option maxRecDepth 20000 in
theorem q_fl_java_lang_Throwable_31 : Cond.fieldLink "java/lang/Throwable" 31 "java/lang/Throwable" "detailMessage" "Ljava/lang/String;" ∈ zTs := zq 362 rfl rfl
set_option maxRecDepth 20000 in
theorem q_fl_java_lang_Throwable_7 : Cond.fieldLink "java/lang/Throwable" 7 "java/lang/Throwable" "cause" "Ljava/lang/Throwable;" ∈ zTs := zq 363 rfl rfl
set_option maxRecDepth 20000 in
theorem q_fl_java_lang_Throwable_17 : Cond.fieldLink "java/lang/Throwable" 17 "java/lang/Throwable" "stackTrace" "[Ljava/lang/StackTraceElement;" ∈ zTs := zq 364 rfl rfl
set_option maxRecDepth 20000 in
theorem q_fl_java_lang_Throwable_24 : Cond.fieldLink "java/lang/Throwable" 24 "java/lang/Throwable" "suppressedExceptions" "Ljava/util/List;" ∈ zTs := zq 365 rfl rfl
set_option maxRecDepth 20000 in
theorem q_ac_byte : Cond.arrayClass .byte ∈ zTs := zq 374 rfl rfl
set_option maxRecDepth 20000 in
theorem q_ml_X3_143 : Cond.methodLink RX3 143 yX0_changeLevel ∈ zTs := zq 375 rfl rfl
set_option maxRecDepth 20000 in
theorem q_k_L_40 : Cond.constant RL 40 (-1000003) ∈ zTs := zq 376 rfl rfl
set_option maxRecDepth 20000 in
theorem q_ml_L_169 : Cond.methodLink RL 169 yL_values ∈ zTs := zq 377 rfl rfl
set_option maxRecDepth 20000 in
theorem q_st_L_values : Cond.static yL_values ∈ zTs := zq 378 rfl rfl
set_option maxRecDepth 20000 in
theorem q_co_L_values : Cond.code yL_values cL_values 13 (some .boolean) ∈ zTs := zq 379 rfl rfl
set_option maxRecDepth 20000 in
theorem q_ml_L_80 : Cond.methodLink RL 80 yX3_working ∈ zTs := zq 380 rfl rfl
set_option maxRecDepth 20000 in
theorem q_im_X3_working : Cond.instanceMethod yX3_working ∈ zTs := zq 381 rfl rfl
set_option maxRecDepth 20000 in
theorem q_se_X3_working : Cond.selects RX3 yX3_working yX3_working ∈ zTs := zq 382 rfl rfl
set_option maxRecDepth 20000 in
theorem q_co_X3_working : Cond.code yX3_working cX3_working 1 (some .int) ∈ zTs := zq 383 rfl rfl
set_option maxRecDepth 20000 in
theorem q_ml_X3_174 : Cond.methodLink RX3 174 yX3_workingAmong ∈ zTs := zq 384 rfl rfl
set_option maxRecDepth 20000 in
theorem q_im_X3_workingAmong : Cond.instanceMethod yX3_workingAmong ∈ zTs := zq 386 rfl rfl
set_option maxRecDepth 20000 in
theorem q_co_X3_workingAmong : Cond.code yX3_workingAmong cX3_workingAmong 5 (some .int) ∈ zTs := zq 387 rfl rfl
set_option maxRecDepth 20000 in
theorem q_ml_L_83 : Cond.methodLink RL 83 yL_bonus ∈ zTs := zq 388 rfl rfl
set_option maxRecDepth 20000 in
theorem q_st_L_bonus : Cond.static yL_bonus ∈ zTs := zq 389 rfl rfl
set_option maxRecDepth 20000 in
theorem q_cw_L_bonus : Cond.codeWith yL_bonus cL_bonus 4 (some .int) [(0, 6, 7, 16), (0, 6, 11, 19)] ∈ zTs := zq 390 rfl rfl
set_option maxRecDepth 20000 in
theorem q_cl_L_16 : Cond.classLink RL 16 "java/lang/IndexOutOfBoundsException" ∈ zTs := zq 391 rfl rfl
set_option maxRecDepth 20000 in
theorem q_cl_L_19 : Cond.classLink RL 19 "java/lang/IllegalArgumentException" ∈ zTs := zq 392 rfl rfl
set_option maxRecDepth 20000 in
theorem q_ml_L_61 : Cond.methodLink RL 61 yX3_bonus ∈ zTs := zq 393 rfl rfl
set_option maxRecDepth 20000 in
theorem q_im_X3_bonus : Cond.instanceMethod yX3_bonus ∈ zTs := zq 394 rfl rfl
set_option maxRecDepth 20000 in
theorem q_se_X3_bonus : Cond.selects RX3 yX3_bonus yX3_bonus ∈ zTs := zq 395 rfl rfl
set_option maxRecDepth 20000 in
theorem q_co_X3_bonus : Cond.code yX3_bonus cX3_bonus 3 (some .int) ∈ zTs := zq 396 rfl rfl
set_option maxRecDepth 20000 in
theorem q_cl_X3_60 : Cond.classLink RX3 60 "java/lang/IndexOutOfBoundsException" ∈ zTs := zq 397 rfl rfl
set_option maxRecDepth 20000 in
theorem q_is_java_lang_IndexOutOfBoundsException : Cond.instantiable "java/lang/IndexOutOfBoundsException" 6 ∈ zTs := zq 398 rfl rfl
set_option maxRecDepth 20000 in
theorem q_cl_X3_71 : Cond.classLink RX3 71 "java/lang/IllegalArgumentException" ∈ zTs := zq 413 rfl rfl
set_option maxRecDepth 20000 in
theorem q_is_java_lang_IllegalArgumentException : Cond.instantiable "java/lang/IllegalArgumentException" 6 ∈ zTs := zq 414 rfl rfl
set_option maxRecDepth 20000 in
theorem q_ml_X3_210 : Cond.methodLink RX3 210 yX3_bonusFrom ∈ zTs := zq 429 rfl rfl
set_option maxRecDepth 20000 in
theorem q_im_X3_bonusFrom : Cond.instanceMethod yX3_bonusFrom ∈ zTs := zq 431 rfl rfl
set_option maxRecDepth 20000 in
theorem q_co_X3_bonusFrom : Cond.code yX3_bonusFrom cX3_bonusFrom 8 (some .int) ∈ zTs := zq 432 rfl rfl
set_option maxRecDepth 20000 in
theorem q_k_L_18 : Cond.constant RL 18 (-1000001) ∈ zTs := zq 433 rfl rfl
set_option maxRecDepth 20000 in
theorem q_k_L_21 : Cond.constant RL 21 (-1000002) ∈ zTs := zq 434 rfl rfl
set_option maxRecDepth 20000 in
theorem q_ml_L_75 : Cond.methodLink RL 75 yL_level ∈ zTs := zq 435 rfl rfl
set_option maxRecDepth 20000 in
theorem q_st_L_level : Cond.static yL_level ∈ zTs := zq 436 rfl rfl
set_option maxRecDepth 20000 in
theorem q_cw_L_level : Cond.codeWith yL_level cL_level 3 (some .int) [(0, 5, 6, 16)] ∈ zTs := zq 437 rfl rfl
set_option maxRecDepth 20000 in
theorem q_ml_L_55 : Cond.methodLink RL 55 yX3_level ∈ zTs := zq 438 rfl rfl
set_option maxRecDepth 20000 in
theorem q_im_X3_level : Cond.instanceMethod yX3_level ∈ zTs := zq 439 rfl rfl
set_option maxRecDepth 20000 in
theorem q_se_X3_level : Cond.selects RX3 yX3_level yX3_level ∈ zTs := zq 440 rfl rfl
set_option maxRecDepth 20000 in
theorem q_co_X3_level : Cond.code yX3_level cX3_level 2 (some .int) ∈ zTs := zq 441 rfl rfl
set_option maxRecDepth 20000 in
theorem q_ml_X3_188 : Cond.methodLink RX3 188 yX0_levelIn ∈ zTs := zq 443 rfl rfl
set_option maxRecDepth 20000 in
theorem q_im_X0_levelIn : Cond.instanceMethod yX0_levelIn ∈ zTs := zq 444 rfl rfl
set_option maxRecDepth 20000 in
theorem q_se_X0_levelIn : Cond.selects RX0 yX0_levelIn yX0_levelIn ∈ zTs := zq 445 rfl rfl
set_option maxRecDepth 20000 in
theorem q_co_X0_levelIn : Cond.code yX0_levelIn cX0_levelIn 2 (some .int) ∈ zTs := zq 446 rfl rfl
set_option maxRecDepth 20000 in
theorem q_ml_L_86 : Cond.methodLink RL 86 yL_isRing ∈ zTs := zq 447 rfl rfl
set_option maxRecDepth 20000 in
theorem q_st_L_isRing : Cond.static yL_isRing ∈ zTs := zq 448 rfl rfl
set_option maxRecDepth 20000 in
theorem q_cw_L_isRing : Cond.codeWith yL_isRing cL_isRing 3 (some .int) [(0, 13, 14, 16)] ∈ zTs := zq 449 rfl rfl
set_option maxRecDepth 20000 in
theorem q_ml_L_64 : Cond.methodLink RL 64 yX3_isRing ∈ zTs := zq 450 rfl rfl
set_option maxRecDepth 20000 in
theorem q_im_X3_isRing : Cond.instanceMethod yX3_isRing ∈ zTs := zq 451 rfl rfl
set_option maxRecDepth 20000 in
theorem q_se_X3_isRing : Cond.selects RX3 yX3_isRing yX3_isRing ∈ zTs := zq 452 rfl rfl
set_option maxRecDepth 20000 in
theorem q_co_X3_isRing : Cond.code yX3_isRing cX3_isRing 2 (some .boolean) ∈ zTs := zq 453 rfl rfl
set_option maxRecDepth 20000 in
theorem q_ml_X3_199 : Cond.methodLink RX3 199 yX3_leadsIntoRing ∈ zTs := zq 454 rfl rfl
set_option maxRecDepth 20000 in
theorem q_im_X3_leadsIntoRing : Cond.instanceMethod yX3_leadsIntoRing ∈ zTs := zq 456 rfl rfl
set_option maxRecDepth 20000 in
theorem q_co_X3_leadsIntoRing : Cond.code yX3_leadsIntoRing cX3_leadsIntoRing 4 (some .boolean) ∈ zTs := zq 457 rfl rfl
set_option maxRecDepth 20000 in
theorem q_ml_L_88 : Cond.methodLink RL 88 yL_value ∈ zTs := zq 458 rfl rfl
set_option maxRecDepth 20000 in
theorem q_st_L_value : Cond.static yL_value ∈ zTs := zq 459 rfl rfl
set_option maxRecDepth 20000 in
theorem q_cw_L_value : Cond.codeWith yL_value cL_value 3 (some .int) [(0, 5, 6, 16), (0, 5, 10, 38)] ∈ zTs := zq 460 rfl rfl
set_option maxRecDepth 20000 in
theorem q_ml_L_58 : Cond.methodLink RL 58 yX3_value ∈ zTs := zq 461 rfl rfl
set_option maxRecDepth 20000 in
theorem q_im_X3_value : Cond.instanceMethod yX3_value ∈ zTs := zq 462 rfl rfl
set_option maxRecDepth 20000 in
theorem q_se_X3_value : Cond.selects RX3 yX3_value yX3_value ∈ zTs := zq 463 rfl rfl
set_option maxRecDepth 20000 in
theorem q_co_X3_value : Cond.code yX3_value cX3_value 2 (some .int) ∈ zTs := zq 464 rfl rfl
set_option maxRecDepth 20000 in
theorem q_ml_X3_204 : Cond.methodLink RX3 204 yX3_sumOf ∈ zTs := zq 466 rfl rfl
set_option maxRecDepth 20000 in
theorem q_im_X3_sumOf : Cond.instanceMethod yX3_sumOf ∈ zTs := zq 468 rfl rfl
set_option maxRecDepth 20000 in
theorem q_co_X3_sumOf : Cond.code yX3_sumOf cX3_sumOf 6 (some .int) ∈ zTs := zq 469 rfl rfl
set_option maxRecDepth 20000 in
theorem q_ml_X3_251 : Cond.methodLink RX3 251 yX3_modifierOf ∈ zTs := zq 470 rfl rfl
set_option maxRecDepth 20000 in
theorem q_im_X3_modifierOf : Cond.instanceMethod yX3_modifierOf ∈ zTs := zq 472 rfl rfl
set_option maxRecDepth 20000 in
theorem q_co_X3_modifierOf : Cond.code yX3_modifierOf cX3_modifierOf 2 (some .int) ∈ zTs := zq 473 rfl rfl
set_option maxRecDepth 20000 in
theorem q_ml_X3_233 : Cond.methodLink RX3 233 yJ9_floorDiv_7cf53 ∈ zTs := zq 474 rfl rfl
set_option maxRecDepth 20000 in
theorem q_st_J9_floorDiv_7cf53 : Cond.static yJ9_floorDiv_7cf53 ∈ zTs := zq 475 rfl rfl
set_option maxRecDepth 20000 in
theorem q_co_J9_floorDiv_7cf53 : Cond.code yJ9_floorDiv_7cf53 cJ9_floorDiv_7cf53 3 (some .int) ∈ zTs := zq 476 rfl rfl
set_option maxRecDepth 20000 in
theorem q_ml_L_165 : Cond.methodLink RL 165 yL_numbers ∈ zTs := zq 477 rfl rfl
set_option maxRecDepth 20000 in
theorem q_st_L_numbers : Cond.static yL_numbers ∈ zTs := zq 478 rfl rfl
set_option maxRecDepth 20000 in
theorem q_co_L_numbers : Cond.code yL_numbers cL_numbers 8 (some .boolean) ∈ zTs := zq 479 rfl rfl
set_option maxRecDepth 20000 in
theorem q_ml_L_96 : Cond.methodLink RL 96 yL_levels ∈ zTs := zq 480 rfl rfl
set_option maxRecDepth 20000 in
theorem q_st_L_levels : Cond.static yL_levels ∈ zTs := zq 481 rfl rfl
set_option maxRecDepth 20000 in
theorem q_co_L_levels : Cond.code yL_levels cL_levels 1 (some .int) ∈ zTs := zq 482 rfl rfl
set_option maxRecDepth 20000 in
theorem q_ml_L_106 : Cond.methodLink RL 106 yL_many ∈ zTs := zq 483 rfl rfl
set_option maxRecDepth 20000 in
theorem q_st_L_many : Cond.static yL_many ∈ zTs := zq 484 rfl rfl
set_option maxRecDepth 20000 in
theorem q_co_L_many : Cond.code yL_many cL_many 3 (some .int) ∈ zTs := zq 485 rfl rfl
set_option maxRecDepth 20000 in
theorem q_ml_L_109 : Cond.methodLink RL 109 yX3_attack ∈ zTs := zq 486 rfl rfl
set_option maxRecDepth 20000 in
theorem q_im_X3_attack : Cond.instanceMethod yX3_attack ∈ zTs := zq 487 rfl rfl
set_option maxRecDepth 20000 in
theorem q_se_X3_attack : Cond.selects RX3 yX3_attack yX3_attack ∈ zTs := zq 488 rfl rfl
set_option maxRecDepth 20000 in
theorem q_co_X3_attack : Cond.code yX3_attack cX3_attack 5 (some .int) ∈ zTs := zq 489 rfl rfl
set_option maxRecDepth 20000 in
theorem q_kf_X3_213 : Cond.constantFloat RX3 213 (1082130432) ∈ zTs := zq 490 rfl rfl
set_option maxRecDepth 20000 in
theorem q_kf_X3_214 : Cond.constantFloat RX3 214 (1040187392) ∈ zTs := zq 491 rfl rfl
set_option maxRecDepth 20000 in
theorem q_ml_L_173 : Cond.methodLink RL 173 yL_orders ∈ zTs := zq 492 rfl rfl
set_option maxRecDepth 20000 in
theorem q_st_L_orders : Cond.static yL_orders ∈ zTs := zq 493 rfl rfl
set_option maxRecDepth 20000 in
theorem q_co_L_orders : Cond.code yL_orders cL_orders 9 (some .boolean) ∈ zTs := zq 494 rfl rfl
set_option maxRecDepth 20000 in
theorem q_ml_L_115 : Cond.methodLink RL 115 yL_byOrders ∈ zTs := zq 495 rfl rfl
set_option maxRecDepth 20000 in
theorem q_st_L_byOrders : Cond.static yL_byOrders ∈ zTs := zq 496 rfl rfl
set_option maxRecDepth 20000 in
theorem q_cw_L_byOrders : Cond.codeWith yL_byOrders cL_byOrders 2 (some .int) [(0, 12, 13, 38)] ∈ zTs := zq 497 rfl rfl
set_option maxRecDepth 20000 in
theorem q_ml_L_68 : Cond.methodLink RL 68 yX3_isLawfulByOrders ∈ zTs := zq 498 rfl rfl
set_option maxRecDepth 20000 in
theorem q_im_X3_isLawfulByOrders : Cond.instanceMethod yX3_isLawfulByOrders ∈ zTs := zq 499 rfl rfl
set_option maxRecDepth 20000 in
theorem q_se_X3_isLawfulByOrders : Cond.selects RX3 yX3_isLawfulByOrders yX3_isLawfulByOrders ∈ zTs := zq 500 rfl rfl
set_option maxRecDepth 20000 in
theorem q_co_X3_isLawfulByOrders : Cond.code yX3_isLawfulByOrders cX3_isLawfulByOrders 2 (some .boolean) ∈ zTs := zq 501 rfl rfl
set_option maxRecDepth 20000 in
theorem q_ml_X3_217 : Cond.methodLink RX3 217 yX3_someOrderEnds ∈ zTs := zq 503 rfl rfl
set_option maxRecDepth 20000 in
theorem q_im_X3_someOrderEnds : Cond.instanceMethod yX3_someOrderEnds ∈ zTs := zq 505 rfl rfl
set_option maxRecDepth 20000 in
theorem q_co_X3_someOrderEnds : Cond.code yX3_someOrderEnds cX3_someOrderEnds 4 (some .boolean) ∈ zTs := zq 506 rfl rfl
set_option maxRecDepth 20000 in
theorem q_ml_L_118 : Cond.methodLink RL 118 yL_stepAt ∈ zTs := zq 507 rfl rfl
set_option maxRecDepth 20000 in
theorem q_st_L_stepAt : Cond.static yL_stepAt ∈ zTs := zq 508 rfl rfl
set_option maxRecDepth 20000 in
theorem q_cw_L_stepAt : Cond.codeWith yL_stepAt cL_stepAt 3 (some .int) [(0, 5, 6, 16), (0, 5, 10, 38)] ∈ zTs := zq 509 rfl rfl
set_option maxRecDepth 20000 in
theorem q_ml_L_72 : Cond.methodLink RL 72 yX3_stepAt ∈ zTs := zq 510 rfl rfl
set_option maxRecDepth 20000 in
theorem q_im_X3_stepAt : Cond.instanceMethod yX3_stepAt ∈ zTs := zq 511 rfl rfl
set_option maxRecDepth 20000 in
theorem q_se_X3_stepAt : Cond.selects RX3 yX3_stepAt yX3_stepAt ∈ zTs := zq 512 rfl rfl
set_option maxRecDepth 20000 in
theorem q_co_X3_stepAt : Cond.code yX3_stepAt cX3_stepAt 2 (some .int) ∈ zTs := zq 513 rfl rfl
set_option maxRecDepth 20000 in
theorem q_ml_X3_224 : Cond.methodLink RX3 224 yX3_stepOfFirstOrder ∈ zTs := zq 516 rfl rfl
set_option maxRecDepth 20000 in
theorem q_im_X3_stepOfFirstOrder : Cond.instanceMethod yX3_stepOfFirstOrder ∈ zTs := zq 518 rfl rfl
set_option maxRecDepth 20000 in
theorem q_co_X3_stepOfFirstOrder : Cond.code yX3_stepOfFirstOrder cX3_stepOfFirstOrder 4 (some .int) ∈ zTs := zq 519 rfl rfl
set_option maxRecDepth 20000 in
theorem q_ml_L_123 : Cond.methodLink RL 123 yL_takeLevel ∈ zTs := zq 520 rfl rfl
set_option maxRecDepth 20000 in
theorem q_st_L_takeLevel : Cond.static yL_takeLevel ∈ zTs := zq 521 rfl rfl
set_option maxRecDepth 20000 in
theorem q_cw_L_takeLevel : Cond.codeWith yL_takeLevel cL_takeLevel 3 (some .int) [(0, 5, 6, 16), (0, 5, 10, 38)] ∈ zTs := zq 522 rfl rfl
set_option maxRecDepth 20000 in
theorem q_ml_L_41 : Cond.methodLink RL 41 yX3_takeLevel ∈ zTs := zq 523 rfl rfl
set_option maxRecDepth 20000 in
theorem q_im_X3_takeLevel : Cond.instanceMethod yX3_takeLevel ∈ zTs := zq 524 rfl rfl
set_option maxRecDepth 20000 in
theorem q_se_X3_takeLevel : Cond.selects RX3 yX3_takeLevel yX3_takeLevel ∈ zTs := zq 525 rfl rfl
set_option maxRecDepth 20000 in
theorem q_co_X3_takeLevel : Cond.code yX3_takeLevel cX3_takeLevel 2 (some .int) ∈ zTs := zq 526 rfl rfl
set_option maxRecDepth 20000 in
theorem q_ml_L_125 : Cond.methodLink RL 125 yL_takeGift ∈ zTs := zq 528 rfl rfl
set_option maxRecDepth 20000 in
theorem q_st_L_takeGift : Cond.static yL_takeGift ∈ zTs := zq 529 rfl rfl
set_option maxRecDepth 20000 in
theorem q_cw_L_takeGift : Cond.codeWith yL_takeGift cL_takeGift 3 (some .int) [(0, 5, 6, 16), (0, 5, 10, 38)] ∈ zTs := zq 530 rfl rfl
set_option maxRecDepth 20000 in
theorem q_ml_L_45 : Cond.methodLink RL 45 yX3_takeGift ∈ zTs := zq 531 rfl rfl
set_option maxRecDepth 20000 in
theorem q_im_X3_takeGift : Cond.instanceMethod yX3_takeGift ∈ zTs := zq 532 rfl rfl
set_option maxRecDepth 20000 in
theorem q_se_X3_takeGift : Cond.selects RX3 yX3_takeGift yX3_takeGift ∈ zTs := zq 533 rfl rfl
set_option maxRecDepth 20000 in
theorem q_co_X3_takeGift : Cond.code yX3_takeGift cX3_takeGift 2 (some .int) ∈ zTs := zq 534 rfl rfl
set_option maxRecDepth 20000 in
theorem q_k_L_9 : Cond.constant RL 9 (2147483647) ∈ zTs := zq 537 rfl rfl
set_option maxRecDepth 20000 in
theorem q_ml_L_161 : Cond.methodLink RL 161 yL_acts ∈ zTs := zq 538 rfl rfl
set_option maxRecDepth 20000 in
theorem q_st_L_acts : Cond.static yL_acts ∈ zTs := zq 539 rfl rfl
set_option maxRecDepth 20000 in
theorem q_co_L_acts : Cond.code yL_acts cL_acts 14 (some .boolean) ∈ zTs := zq 540 rfl rfl
set_option maxRecDepth 20000 in
theorem q_ml_L_129 : Cond.methodLink RL 129 yL_low ∈ zTs := zq 541 rfl rfl
set_option maxRecDepth 20000 in
theorem q_st_L_low : Cond.static yL_low ∈ zTs := zq 542 rfl rfl
set_option maxRecDepth 20000 in
theorem q_co_L_low : Cond.code yL_low cL_low 2 (some .int) ∈ zTs := zq 543 rfl rfl
set_option maxRecDepth 20000 in
theorem q_ml_L_132 : Cond.methodLink RL 132 yL_setNeeds ∈ zTs := zq 544 rfl rfl
set_option maxRecDepth 20000 in
theorem q_st_L_setNeeds : Cond.static yL_setNeeds ∈ zTs := zq 545 rfl rfl
set_option maxRecDepth 20000 in
theorem q_cw_L_setNeeds : Cond.codeWith yL_setNeeds cL_setNeeds 8 (some .int) [(0, 14, 15, 16), (0, 14, 20, 19)] ∈ zTs := zq 546 rfl rfl
set_option maxRecDepth 20000 in
theorem q_ml_L_10 : Cond.methodLink RL 10 yX3_setNeeds ∈ zTs := zq 547 rfl rfl
set_option maxRecDepth 20000 in
theorem q_im_X3_setNeeds : Cond.instanceMethod yX3_setNeeds ∈ zTs := zq 548 rfl rfl
set_option maxRecDepth 20000 in
theorem q_se_X3_setNeeds : Cond.selects RX3 yX3_setNeeds yX3_setNeeds ∈ zTs := zq 549 rfl rfl
set_option maxRecDepth 20000 in
theorem q_co_X3_setNeeds : Cond.code yX3_setNeeds cX3_setNeeds 7 none ∈ zTs := zq 550 rfl rfl
set_option maxRecDepth 20000 in
theorem q_ml_X3_57 : Cond.methodLink RX3 57 yX3_isAmongOrNone ∈ zTs := zq 551 rfl rfl
set_option maxRecDepth 20000 in
theorem q_st_X3_isAmongOrNone : Cond.static yX3_isAmongOrNone ∈ zTs := zq 552 rfl rfl
set_option maxRecDepth 20000 in
theorem q_co_X3_isAmongOrNone : Cond.code yX3_isAmongOrNone cX3_isAmongOrNone 2 (some .boolean) ∈ zTs := zq 553 rfl rfl
set_option maxRecDepth 20000 in
theorem q_ml_X3_67 : Cond.methodLink RX3 67 yX3_isFromTo ∈ zTs := zq 555 rfl rfl
set_option maxRecDepth 20000 in
theorem q_st_X3_isFromTo : Cond.static yX3_isFromTo ∈ zTs := zq 556 rfl rfl
set_option maxRecDepth 20000 in
theorem q_co_X3_isFromTo : Cond.code yX3_isFromTo cX3_isFromTo 3 (some .boolean) ∈ zTs := zq 557 rfl rfl
set_option maxRecDepth 20000 in
theorem q_ml_L_135 : Cond.methodLink RL 135 yL_bar ∈ zTs := zq 560 rfl rfl
set_option maxRecDepth 20000 in
theorem q_st_L_bar : Cond.static yL_bar ∈ zTs := zq 561 rfl rfl
set_option maxRecDepth 20000 in
theorem q_cw_L_bar : Cond.codeWith yL_bar cL_bar 5 (some .int) [(0, 8, 9, 16), (0, 8, 14, 19)] ∈ zTs := zq 562 rfl rfl
set_option maxRecDepth 20000 in
theorem q_ml_L_22 : Cond.methodLink RL 22 yX3_bar ∈ zTs := zq 563 rfl rfl
set_option maxRecDepth 20000 in
theorem q_im_X3_bar : Cond.instanceMethod yX3_bar ∈ zTs := zq 564 rfl rfl
set_option maxRecDepth 20000 in
theorem q_se_X3_bar : Cond.selects RX3 yX3_bar yX3_bar ∈ zTs := zq 565 rfl rfl
set_option maxRecDepth 20000 in
theorem q_co_X3_bar : Cond.code yX3_bar cX3_bar 4 none ∈ zTs := zq 566 rfl rfl
set_option maxRecDepth 20000 in
theorem q_ml_L_138 : Cond.methodLink RL 138 yL_setBonus ∈ zTs := zq 568 rfl rfl
set_option maxRecDepth 20000 in
theorem q_st_L_setBonus : Cond.static yL_setBonus ∈ zTs := zq 569 rfl rfl
set_option maxRecDepth 20000 in
theorem q_cw_L_setBonus : Cond.codeWith yL_setBonus cL_setBonus 6 (some .int) [(0, 10, 11, 16), (0, 10, 16, 19)] ∈ zTs := zq 570 rfl rfl
set_option maxRecDepth 20000 in
theorem q_ml_L_26 : Cond.methodLink RL 26 yX3_setBonus ∈ zTs := zq 571 rfl rfl
set_option maxRecDepth 20000 in
theorem q_im_X3_setBonus : Cond.instanceMethod yX3_setBonus ∈ zTs := zq 572 rfl rfl
set_option maxRecDepth 20000 in
theorem q_se_X3_setBonus : Cond.selects RX3 yX3_setBonus yX3_setBonus ∈ zTs := zq 573 rfl rfl
set_option maxRecDepth 20000 in
theorem q_co_X3_setBonus : Cond.code yX3_setBonus cX3_setBonus 5 none ∈ zTs := zq 574 rfl rfl
set_option maxRecDepth 20000 in
theorem q_ml_L_141 : Cond.methodLink RL 141 yL_setValue ∈ zTs := zq 577 rfl rfl
set_option maxRecDepth 20000 in
theorem q_st_L_setValue : Cond.static yL_setValue ∈ zTs := zq 578 rfl rfl
set_option maxRecDepth 20000 in
theorem q_cw_L_setValue : Cond.codeWith yL_setValue cL_setValue 7 (some .int) [(0, 12, 13, 16), (0, 12, 18, 19)] ∈ zTs := zq 579 rfl rfl
set_option maxRecDepth 20000 in
theorem q_ml_L_30 : Cond.methodLink RL 30 yX3_setValue ∈ zTs := zq 580 rfl rfl
set_option maxRecDepth 20000 in
theorem q_im_X3_setValue : Cond.instanceMethod yX3_setValue ∈ zTs := zq 581 rfl rfl
set_option maxRecDepth 20000 in
theorem q_se_X3_setValue : Cond.selects RX3 yX3_setValue yX3_setValue ∈ zTs := zq 582 rfl rfl
set_option maxRecDepth 20000 in
theorem q_co_X3_setValue : Cond.code yX3_setValue cX3_setValue 6 none ∈ zTs := zq 583 rfl rfl
set_option maxRecDepth 20000 in
theorem q_ml_L_144 : Cond.methodLink RL 144 yL_setScore ∈ zTs := zq 586 rfl rfl
set_option maxRecDepth 20000 in
theorem q_st_L_setScore : Cond.static yL_setScore ∈ zTs := zq 587 rfl rfl
set_option maxRecDepth 20000 in
theorem q_cw_L_setScore : Cond.codeWith yL_setScore cL_setScore 4 (some .int) [(0, 6, 7, 16), (0, 6, 11, 19), (0, 6, 15, 38)] ∈ zTs := zq 588 rfl rfl
set_option maxRecDepth 20000 in
theorem q_ml_L_34 : Cond.methodLink RL 34 yX3_setScore ∈ zTs := zq 589 rfl rfl
set_option maxRecDepth 20000 in
theorem q_im_X3_setScore : Cond.instanceMethod yX3_setScore ∈ zTs := zq 590 rfl rfl
set_option maxRecDepth 20000 in
theorem q_se_X3_setScore : Cond.selects RX3 yX3_setScore yX3_setScore ∈ zTs := zq 591 rfl rfl
set_option maxRecDepth 20000 in
theorem q_co_X3_setScore : Cond.code yX3_setScore cX3_setScore 4 (some .int) ∈ zTs := zq 592 rfl rfl
set_option maxRecDepth 20000 in
theorem q_ml_L_146 : Cond.methodLink RL 146 yL_takes ∈ zTs := zq 595 rfl rfl
set_option maxRecDepth 20000 in
theorem q_st_L_takes : Cond.static yL_takes ∈ zTs := zq 596 rfl rfl
set_option maxRecDepth 20000 in
theorem q_co_L_takes : Cond.code yL_takes cL_takes 7 (some .boolean) ∈ zTs := zq 597 rfl rfl
set_option maxRecDepth 20000 in
theorem q_ml_L_152 : Cond.methodLink RL 152 yL_exchanges ∈ zTs := zq 598 rfl rfl
set_option maxRecDepth 20000 in
theorem q_st_L_exchanges : Cond.static yL_exchanges ∈ zTs := zq 599 rfl rfl
set_option maxRecDepth 20000 in
theorem q_co_L_exchanges : Cond.code yL_exchanges cL_exchanges 8 (some .boolean) ∈ zTs := zq 600 rfl rfl
set_option maxRecDepth 20000 in
theorem q_ml_L_127 : Cond.methodLink RL 127 yL_exchange ∈ zTs := zq 601 rfl rfl
set_option maxRecDepth 20000 in
theorem q_st_L_exchange : Cond.static yL_exchange ∈ zTs := zq 602 rfl rfl
set_option maxRecDepth 20000 in
theorem q_cw_L_exchange : Cond.codeWith yL_exchange cL_exchange 4 (some .int) [(0, 6, 7, 16), (0, 6, 11, 38)] ∈ zTs := zq 603 rfl rfl
set_option maxRecDepth 20000 in
theorem q_ml_L_52 : Cond.methodLink RL 52 yX3_exchange ∈ zTs := zq 604 rfl rfl
set_option maxRecDepth 20000 in
theorem q_im_X3_exchange : Cond.instanceMethod yX3_exchange ∈ zTs := zq 605 rfl rfl
set_option maxRecDepth 20000 in
theorem q_se_X3_exchange : Cond.selects RX3 yX3_exchange yX3_exchange ∈ zTs := zq 606 rfl rfl
set_option maxRecDepth 20000 in
theorem q_co_X3_exchange : Cond.code yX3_exchange cX3_exchange 5 (some .int) ∈ zTs := zq 607 rfl rfl
def zNest : Cond := Cond.methodLinkNest RX0 31 yX3_isAmong "Rulesheet"
