/-! the good words of the tables, each by its place -/
def zTs : List Cond := lw_tbl.filter goodWord
theorem zTs_in : ∀ w ∈ zTs, w ∈ lw_tbl := fun _ h => (List.mem_filter.mp h).1
theorem zTs_good : ∀ w ∈ zTs, goodWord w = true := fun _ h => (List.mem_filter.mp h).2
theorem zq {w : Cond} (i : Nat) (h : lw_tbl[i]? = some w) (g : goodWord w = true) : w ∈ zTs := List.mem_filter.mpr ⟨List.mem_of_getElem? h, g⟩
theorem zqs {ws : List Cond} (ps : List Nat) (h : ws = ps.filterMap (fun i => lw_tbl[i]?)) (g : ws.all goodWord = true) : ∀ w ∈ ws, w ∈ zTs := by
  intro w hw
  refine List.mem_filter.mpr ⟨?_, List.all_eq_true.mp g w hw⟩
  rw [h] at hw
  obtain ⟨i, -, hi⟩ := List.mem_filterMap.mp hw
  exact List.mem_of_getElem? hi
theorem inZ0 : ∀ w ∈ u_ws RX0 TX0 2, w ∈ zTs := zqs [145, 147] (by decide +kernel) (by decide +kernel)
theorem inZ1 : ∀ w ∈ u_ws RX1 TX1 10, w ∈ zTs := zqs [89, 91, 93, 95, 97, 99, 101, 103, 105, 107] (by decide +kernel) (by decide +kernel)
theorem inZ2 : ∀ w ∈ u_ws RX2 TX2 4, w ∈ zTs := zqs [126, 128, 130, 132] (by decide +kernel) (by decide +kernel)
theorem inZ3 : ∀ w ∈ u_ws RX3 TX3 8, w ∈ zTs := zqs [159, 161, 163, 165, 167, 169, 171, 173] (by decide +kernel) (by decide +kernel)
theorem inZ4 : ∀ w ∈ u_ws RX4 TX4 21, w ∈ zTs := zqs [616, 618, 620, 622, 624, 626, 628, 630, 632, 634, 636, 638, 640, 642, 644, 646, 648, 650, 652, 654, 656] (by decide +kernel) (by decide +kernel)
set_option maxRecDepth 20000 in
theorem q_se_X3_stepCount : Cond.selects RX3 yX3_stepCount yX3_stepCount ∈ zTs := zq 0 rfl rfl
set_option maxRecDepth 20000 in
theorem q_se_X3_workingAmong : Cond.selects RX3 yX3_workingAmong yX3_workingAmong ∈ zTs := zq 1 rfl rfl
set_option maxRecDepth 20000 in
theorem q_se_X3_hasScoreFor : Cond.selects RX3 yX3_hasScoreFor yX3_hasScoreFor ∈ zTs := zq 2 rfl rfl
set_option maxRecDepth 20000 in
theorem q_se_X3_hasLevelFor : Cond.selects RX3 yX3_hasLevelFor yX3_hasLevelFor ∈ zTs := zq 3 rfl rfl
set_option maxRecDepth 20000 in
theorem q_se_X3_isOtherIn : Cond.selects RX3 yX3_isOtherIn yX3_isOtherIn ∈ zTs := zq 4 rfl rfl
set_option maxRecDepth 20000 in
theorem q_se_X3_mayTake : Cond.selects RX3 yX3_mayTake yX3_mayTake ∈ zTs := zq 5 rfl rfl
set_option maxRecDepth 20000 in
theorem q_se_X3_isBarred : Cond.selects RX3 yX3_isBarred yX3_isBarred ∈ zTs := zq 6 rfl rfl
set_option maxRecDepth 20000 in
theorem q_se_X3_pointsLeft : Cond.selects RX3 yX3_pointsLeft yX3_pointsLeft ∈ zTs := zq 7 rfl rfl
set_option maxRecDepth 20000 in
theorem q_se_X3_canReach : Cond.selects RX3 yX3_canReach yX3_canReach ∈ zTs := zq 8 rfl rfl
set_option maxRecDepth 20000 in
theorem q_se_X3_markSets : Cond.selects RX3 yX3_markSets yX3_markSets ∈ zTs := zq 9 rfl rfl
set_option maxRecDepth 20000 in
theorem q_se_X3_firstStepTowards : Cond.selects RX3 yX3_firstStepTowards yX3_firstStepTowards ∈ zTs := zq 10 rfl rfl
set_option maxRecDepth 20000 in
theorem q_se_X3_isStepTowards : Cond.selects RX3 yX3_isStepTowards yX3_isStepTowards ∈ zTs := zq 11 rfl rfl
set_option maxRecDepth 20000 in
theorem q_se_X3_isMarked : Cond.selects RX3 yX3_isMarked yX3_isMarked ∈ zTs := zq 12 rfl rfl
set_option maxRecDepth 20000 in
theorem q_se_X3_wordOfTrial : Cond.selects RX3 yX3_wordOfTrial yX3_wordOfTrial ∈ zTs := zq 13 rfl rfl
set_option maxRecDepth 20000 in
theorem q_se_X3_bitOfTrial : Cond.selects RX3 yX3_bitOfTrial yX3_bitOfTrial ∈ zTs := zq 14 rfl rfl
set_option maxRecDepth 20000 in
theorem q_se_X3_mark : Cond.selects RX3 yX3_mark yX3_mark ∈ zTs := zq 15 rfl rfl
set_option maxRecDepth 20000 in
theorem q_se_X3_leadsIntoRing : Cond.selects RX3 yX3_leadsIntoRing yX3_leadsIntoRing ∈ zTs := zq 17 rfl rfl
set_option maxRecDepth 20000 in
theorem q_se_X3_sumOf : Cond.selects RX3 yX3_sumOf yX3_sumOf ∈ zTs := zq 18 rfl rfl
set_option maxRecDepth 20000 in
theorem q_se_X3_modifierOf : Cond.selects RX3 yX3_modifierOf yX3_modifierOf ∈ zTs := zq 19 rfl rfl
set_option maxRecDepth 20000 in
theorem q_se_X3_bonusFrom : Cond.selects RX3 yX3_bonusFrom yX3_bonusFrom ∈ zTs := zq 20 rfl rfl
set_option maxRecDepth 20000 in
theorem q_se_X3_someOrderEnds : Cond.selects RX3 yX3_someOrderEnds yX3_someOrderEnds ∈ zTs := zq 21 rfl rfl
set_option maxRecDepth 20000 in
theorem q_se_X3_stepOfFirstOrder : Cond.selects RX3 yX3_stepOfFirstOrder yX3_stepOfFirstOrder ∈ zTs := zq 22 rfl rfl
set_option maxRecDepth 20000 in
theorem q_se_X4_goes : Cond.selects RX4 yX4_goes yX4_goes ∈ zTs := zq 23 rfl rfl
set_option maxRecDepth 20000 in
theorem q_se_X4_cost : Cond.selects RX4 yX4_cost yX4_cost ∈ zTs := zq 24 rfl rfl
set_option maxRecDepth 20000 in
theorem q_se_X4_mayTakeNow : Cond.selects RX4 yX4_mayTakeNow yX4_mayTakeNow ∈ zTs := zq 25 rfl rfl
set_option maxRecDepth 20000 in
theorem q_se_X4_mayTake : Cond.selects RX4 yX4_mayTake yX4_mayTake ∈ zTs := zq 26 rfl rfl
set_option maxRecDepth 20000 in
theorem q_se_X4_areScores : Cond.selects RX4 yX4_areScores yX4_areScores ∈ zTs := zq 27 rfl rfl
set_option maxRecDepth 20000 in
theorem q_se_X4_isLawfulWith : Cond.selects RX4 yX4_isLawfulWith yX4_isLawfulWith ∈ zTs := zq 28 rfl rfl
set_option maxRecDepth 20000 in
theorem q_se_X4_place : Cond.selects RX4 yX4_place yX4_place ∈ zTs := zq 29 rfl rfl
set_option maxRecDepth 20000 in
theorem q_se_X4_leadsOn : Cond.selects RX4 yX4_leadsOn yX4_leadsOn ∈ zTs := zq 30 rfl rfl
set_option maxRecDepth 20000 in
theorem q_se_X4_workingOf : Cond.selects RX4 yX4_workingOf yX4_workingOf ∈ zTs := zq 31 rfl rfl
set_option maxRecDepth 20000 in
theorem q_se_X4_told : Cond.selects RX4 yX4_told yX4_told ∈ zTs := zq 32 rfl rfl
set_option maxRecDepth 20000 in
theorem q_se_X4_isEndless : Cond.selects RX4 yX4_isEndless yX4_isEndless ∈ zTs := zq 33 rfl rfl
set_option maxRecDepth 20000 in
theorem q_se_X4_alone : Cond.selects RX4 yX4_alone yX4_alone ∈ zTs := zq 34 rfl rfl
set_option maxRecDepth 20000 in
theorem q_se_X4_bonusOf : Cond.selects RX4 yX4_bonusOf yX4_bonusOf ∈ zTs := zq 35 rfl rfl
set_option maxRecDepth 20000 in
theorem q_se_X4_firstStep : Cond.selects RX4 yX4_firstStep yX4_firstStep ∈ zTs := zq 36 rfl rfl
set_option maxRecDepth 20000 in
theorem q_in_L : Cond.initialized RL ∈ zTs := zq 37 rfl rfl
set_option maxRecDepth 20000 in
theorem q_in_X3 : Cond.initialized RX3 ∈ zTs := zq 38 rfl rfl
set_option maxRecDepth 20000 in
theorem q_in_X1 : Cond.initialized RX1 ∈ zTs := zq 39 rfl rfl
set_option maxRecDepth 20000 in
theorem q_in_J7 : Cond.initialized RJ7 ∈ zTs := zq 40 rfl rfl
set_option maxRecDepth 20000 in
theorem q_in_X2 : Cond.initialized RX2 ∈ zTs := zq 41 rfl rfl
set_option maxRecDepth 20000 in
theorem q_in_X0 : Cond.initialized RX0 ∈ zTs := zq 42 rfl rfl
set_option maxRecDepth 20000 in
theorem q_in_X4 : Cond.initialized RX4 ∈ zTs := zq 43 rfl rfl
set_option maxRecDepth 20000 in
theorem q_in_java_lang_Throwable : Cond.initialized "java/lang/Throwable" ∈ zTs := zq 44 rfl rfl
set_option maxRecDepth 20000 in
theorem q_in_java_lang_Exception : Cond.initialized "java/lang/Exception" ∈ zTs := zq 45 rfl rfl
set_option maxRecDepth 20000 in
theorem q_in_java_lang_RuntimeException : Cond.initialized "java/lang/RuntimeException" ∈ zTs := zq 46 rfl rfl
set_option maxRecDepth 20000 in
theorem q_in_java_lang_IndexOutOfBoundsException : Cond.initialized "java/lang/IndexOutOfBoundsException" ∈ zTs := zq 47 rfl rfl
set_option maxRecDepth 20000 in
theorem q_in_java_lang_IllegalArgumentException : Cond.initialized "java/lang/IllegalArgumentException" ∈ zTs := zq 48 rfl rfl
set_option maxRecDepth 20000 in
theorem q_in_J9 : Cond.initialized RJ9 ∈ zTs := zq 49 rfl rfl
set_option maxRecDepth 20000 in
theorem q_in_java_lang_IllegalStateException : Cond.initialized "java/lang/IllegalStateException" ∈ zTs := zq 50 rfl rfl
set_option maxRecDepth 20000 in
theorem q_in_J6 : Cond.initialized RJ6 ∈ zTs := zq 51 rfl rfl
set_option maxRecDepth 20000 in
theorem q_cl_L_8 : Cond.classLink RL 8 RX3 ∈ zTs := zq 52 rfl rfl
set_option maxRecDepth 20000 in
theorem q_is_X3 : Cond.instantiable RX3 8 ∈ zTs := zq 53 rfl rfl
set_option maxRecDepth 20000 in
theorem q_ml_L_69 : Cond.methodLink RL 69 yX3_init ∈ zTs := zq 54 rfl rfl
set_option maxRecDepth 20000 in
theorem q_im_X3_init : Cond.instanceMethod yX3_init ∈ zTs := zq 55 rfl rfl
set_option maxRecDepth 20000 in
theorem q_co_X3_init : Cond.code yX3_init cX3_init 1 none ∈ zTs := zq 56 rfl rfl
set_option maxRecDepth 20000 in
theorem q_ml_X3_3 : Cond.methodLink RX3 3 objectInit ∈ zTs := zq 57 rfl rfl
set_option maxRecDepth 20000 in
theorem q_im_objectInit : Cond.instanceMethod objectInit ∈ zTs := zq 58 rfl rfl
set_option maxRecDepth 20000 in
theorem q_co_objectInit : Cond.code objectInit ⟨#[0xb1]⟩ 1 none ∈ zTs := zq 59 rfl rfl
set_option maxRecDepth 20000 in
theorem q_cl_X3_9 : Cond.classLink RX3 9 RX1 ∈ zTs := zq 60 rfl rfl
set_option maxRecDepth 20000 in
theorem q_is_X1 : Cond.instantiable RX1 10 ∈ zTs := zq 61 rfl rfl
set_option maxRecDepth 20000 in
theorem q_ml_X3_11 : Cond.methodLink RX3 11 yX1_init ∈ zTs := zq 62 rfl rfl
set_option maxRecDepth 20000 in
theorem q_im_X1_init : Cond.instanceMethod yX1_init ∈ zTs := zq 63 rfl rfl
set_option maxRecDepth 20000 in
theorem q_co_X1_init : Cond.code yX1_init cX1_init 1 none ∈ zTs := zq 64 rfl rfl
set_option maxRecDepth 20000 in
theorem q_ml_X1_3 : Cond.methodLink RX1 3 objectInit ∈ zTs := zq 65 rfl rfl
set_option maxRecDepth 20000 in
theorem q_ml_X1_42 : Cond.methodLink RX1 42 yJ7_fill_53178 ∈ zTs := zq 66 rfl rfl
set_option maxRecDepth 20000 in
theorem q_st_J7_fill_53178 : Cond.static yJ7_fill_53178 ∈ zTs := zq 67 rfl rfl
set_option maxRecDepth 20000 in
theorem q_co_J7_fill_53178 : Cond.code yJ7_fill_53178 cJ7_fill_53178 4 none ∈ zTs := zq 68 rfl rfl
set_option maxRecDepth 20000 in
theorem q_fl_X1_9 : Cond.fieldLink RX1 9 "Rulesheet$GiftRules" "ability" "[I" ∈ zTs := zq 69 rfl rfl
set_option maxRecDepth 20000 in
theorem q_fl_X3_78 : Cond.fieldLink RX3 78 "Rulesheet$GiftRules" "ability" "[I" ∈ zTs := zq 70 rfl rfl
set_option maxRecDepth 20000 in
theorem q_fl_X1_15 : Cond.fieldLink RX1 15 "Rulesheet$GiftRules" "score" "[I" ∈ zTs := zq 71 rfl rfl
set_option maxRecDepth 20000 in
theorem q_fl_X3_81 : Cond.fieldLink RX3 81 "Rulesheet$GiftRules" "score" "[I" ∈ zTs := zq 72 rfl rfl
set_option maxRecDepth 20000 in
theorem q_fl_X1_18 : Cond.fieldLink RX1 18 "Rulesheet$GiftRules" "calling" "[I" ∈ zTs := zq 73 rfl rfl
set_option maxRecDepth 20000 in
theorem q_fl_X3_84 : Cond.fieldLink RX3 84 "Rulesheet$GiftRules" "calling" "[I" ∈ zTs := zq 74 rfl rfl
set_option maxRecDepth 20000 in
theorem q_fl_X1_21 : Cond.fieldLink RX1 21 "Rulesheet$GiftRules" "level" "[I" ∈ zTs := zq 75 rfl rfl
set_option maxRecDepth 20000 in
theorem q_fl_X3_87 : Cond.fieldLink RX3 87 "Rulesheet$GiftRules" "level" "[I" ∈ zTs := zq 76 rfl rfl
set_option maxRecDepth 20000 in
theorem q_fl_X1_24 : Cond.fieldLink RX1 24 "Rulesheet$GiftRules" "other" "[I" ∈ zTs := zq 77 rfl rfl
set_option maxRecDepth 20000 in
theorem q_fl_X3_90 : Cond.fieldLink RX3 90 "Rulesheet$GiftRules" "other" "[I" ∈ zTs := zq 78 rfl rfl
set_option maxRecDepth 20000 in
theorem q_fl_X1_27 : Cond.fieldLink RX1 27 "Rulesheet$GiftRules" "barCalling" "[I" ∈ zTs := zq 79 rfl rfl
set_option maxRecDepth 20000 in
theorem q_fl_X3_95 : Cond.fieldLink RX3 95 "Rulesheet$GiftRules" "barCalling" "[I" ∈ zTs := zq 80 rfl rfl
set_option maxRecDepth 20000 in
theorem q_fl_X1_30 : Cond.fieldLink RX1 30 "Rulesheet$GiftRules" "barLevel" "[I" ∈ zTs := zq 81 rfl rfl
set_option maxRecDepth 20000 in
theorem q_fl_X3_98 : Cond.fieldLink RX3 98 "Rulesheet$GiftRules" "barLevel" "[I" ∈ zTs := zq 82 rfl rfl
set_option maxRecDepth 20000 in
theorem q_fl_X1_33 : Cond.fieldLink RX1 33 "Rulesheet$GiftRules" "bonusValue" "[I" ∈ zTs := zq 83 rfl rfl
set_option maxRecDepth 20000 in
theorem q_fl_X3_105 : Cond.fieldLink RX3 105 "Rulesheet$GiftRules" "bonusValue" "[I" ∈ zTs := zq 84 rfl rfl
set_option maxRecDepth 20000 in
theorem q_fl_X1_36 : Cond.fieldLink RX1 36 "Rulesheet$GiftRules" "bonusKind" "[I" ∈ zTs := zq 85 rfl rfl
set_option maxRecDepth 20000 in
theorem q_fl_X3_108 : Cond.fieldLink RX3 108 "Rulesheet$GiftRules" "bonusKind" "[I" ∈ zTs := zq 86 rfl rfl
set_option maxRecDepth 20000 in
theorem q_fl_X1_39 : Cond.fieldLink RX1 39 "Rulesheet$GiftRules" "bonusAmount" "[I" ∈ zTs := zq 87 rfl rfl
set_option maxRecDepth 20000 in
theorem q_fl_X3_111 : Cond.fieldLink RX3 111 "Rulesheet$GiftRules" "bonusAmount" "[I" ∈ zTs := zq 88 rfl rfl
set_option maxRecDepth 20000 in
theorem q_ac_int : Cond.arrayClass .int ∈ zTs := zq 110 rfl rfl
set_option maxRecDepth 20000 in
theorem q_cl_X3_16 : Cond.classLink RX3 16 RX2 ∈ zTs := zq 111 rfl rfl
set_option maxRecDepth 20000 in
theorem q_is_X2 : Cond.instantiable RX2 4 ∈ zTs := zq 112 rfl rfl
set_option maxRecDepth 20000 in
theorem q_ml_X3_18 : Cond.methodLink RX3 18 yX2_init ∈ zTs := zq 113 rfl rfl
set_option maxRecDepth 20000 in
theorem q_im_X2_init : Cond.instanceMethod yX2_init ∈ zTs := zq 114 rfl rfl
set_option maxRecDepth 20000 in
theorem q_co_X2_init : Cond.code yX2_init cX2_init 1 none ∈ zTs := zq 115 rfl rfl
set_option maxRecDepth 20000 in
theorem q_ml_X2_3 : Cond.methodLink RX2 3 objectInit ∈ zTs := zq 116 rfl rfl
set_option maxRecDepth 20000 in
theorem q_ml_X2_24 : Cond.methodLink RX2 24 yJ7_fill_53178 ∈ zTs := zq 117 rfl rfl
set_option maxRecDepth 20000 in
theorem q_fl_X2_9 : Cond.fieldLink RX2 9 "Rulesheet$ValueRules" "base" "[I" ∈ zTs := zq 118 rfl rfl
set_option maxRecDepth 20000 in
theorem q_fl_X3_118 : Cond.fieldLink RX3 118 "Rulesheet$ValueRules" "base" "[I" ∈ zTs := zq 119 rfl rfl
set_option maxRecDepth 20000 in
theorem q_fl_X2_15 : Cond.fieldLink RX2 15 "Rulesheet$ValueRules" "ability" "[I" ∈ zTs := zq 120 rfl rfl
set_option maxRecDepth 20000 in
theorem q_fl_X3_121 : Cond.fieldLink RX3 121 "Rulesheet$ValueRules" "ability" "[I" ∈ zTs := zq 121 rfl rfl
set_option maxRecDepth 20000 in
theorem q_fl_X2_18 : Cond.fieldLink RX2 18 "Rulesheet$ValueRules" "calling" "[I" ∈ zTs := zq 122 rfl rfl
set_option maxRecDepth 20000 in
theorem q_fl_X3_122 : Cond.fieldLink RX3 122 "Rulesheet$ValueRules" "calling" "[I" ∈ zTs := zq 123 rfl rfl
set_option maxRecDepth 20000 in
theorem q_fl_X2_21 : Cond.fieldLink RX2 21 "Rulesheet$ValueRules" "other" "[I" ∈ zTs := zq 124 rfl rfl
set_option maxRecDepth 20000 in
theorem q_fl_X3_123 : Cond.fieldLink RX3 123 "Rulesheet$ValueRules" "other" "[I" ∈ zTs := zq 125 rfl rfl
set_option maxRecDepth 20000 in
theorem q_cl_X3_27 : Cond.classLink RX3 27 RX0 ∈ zTs := zq 135 rfl rfl
set_option maxRecDepth 20000 in
theorem q_is_X0 : Cond.instantiable RX0 2 ∈ zTs := zq 136 rfl rfl
set_option maxRecDepth 20000 in
theorem q_im_X0_init : Cond.instanceMethod yX0_init ∈ zTs := zq 138 rfl rfl
set_option maxRecDepth 20000 in
theorem q_co_X0_init : Cond.code yX0_init cX0_init 1 none ∈ zTs := zq 139 rfl rfl
set_option maxRecDepth 20000 in
theorem q_ml_X0_3 : Cond.methodLink RX0 3 objectInit ∈ zTs := zq 140 rfl rfl
set_option maxRecDepth 20000 in
theorem q_fl_X0_9 : Cond.fieldLink RX0 9 "Rulesheet$Build" "levels" "[I" ∈ zTs := zq 141 rfl rfl
set_option maxRecDepth 20000 in
theorem q_fl_X3_236 : Cond.fieldLink RX3 236 "Rulesheet$Build" "levels" "[I" ∈ zTs := zq 142 rfl rfl
set_option maxRecDepth 20000 in
theorem q_fl_X0_15 : Cond.fieldLink RX0 15 "Rulesheet$Build" "held" "I" ∈ zTs := zq 143 rfl rfl
set_option maxRecDepth 20000 in
theorem q_fl_X3_155 : Cond.fieldLink RX3 155 "Rulesheet$Build" "held" "I" ∈ zTs := zq 144 rfl rfl
set_option maxRecDepth 20000 in
theorem q_ml_X3_47 : Cond.methodLink RX3 47 yJ7_fill_53178 ∈ zTs := zq 150 rfl rfl
set_option maxRecDepth 20000 in
theorem q_fl_X3_12 : Cond.fieldLink RX3 12 "Rulesheet" "giftRules" "LRulesheet$GiftRules;" ∈ zTs := zq 151 rfl rfl
set_option maxRecDepth 20000 in
theorem q_fl_X3_19 : Cond.fieldLink RX3 19 "Rulesheet" "valueRules" "LRulesheet$ValueRules;" ∈ zTs := zq 152 rfl rfl
set_option maxRecDepth 20000 in
theorem q_fl_X3_23 : Cond.fieldLink RX3 23 "Rulesheet" "scores" "[I" ∈ zTs := zq 153 rfl rfl
set_option maxRecDepth 20000 in
theorem q_fl_X3_30 : Cond.fieldLink RX3 30 "Rulesheet" "character" "LRulesheet$Build;" ∈ zTs := zq 154 rfl rfl
set_option maxRecDepth 20000 in
theorem q_fl_X3_34 : Cond.fieldLink RX3 34 "Rulesheet" "taken" "[I" ∈ zTs := zq 155 rfl rfl
set_option maxRecDepth 20000 in
theorem q_fl_X3_37 : Cond.fieldLink RX3 37 "Rulesheet" "takenCount" "I" ∈ zTs := zq 156 rfl rfl
set_option maxRecDepth 20000 in
theorem q_fl_X3_41 : Cond.fieldLink RX3 41 "Rulesheet" "trial" "LRulesheet$Build;" ∈ zTs := zq 157 rfl rfl
set_option maxRecDepth 20000 in
theorem q_fl_X3_44 : Cond.fieldLink RX3 44 "Rulesheet" "endings" "[I" ∈ zTs := zq 158 rfl rfl
set_option maxRecDepth 20000 in
theorem q_ml_L_112 : Cond.methodLink RL 112 yX3_clear ∈ zTs := zq 176 rfl rfl
set_option maxRecDepth 20000 in
theorem q_im_X3_clear : Cond.instanceMethod yX3_clear ∈ zTs := zq 177 rfl rfl
set_option maxRecDepth 20000 in
theorem q_se_X3_clear : Cond.selects RX3 yX3_clear yX3_clear ∈ zTs := zq 178 rfl rfl
set_option maxRecDepth 20000 in
theorem q_co_X3_clear : Cond.code yX3_clear cX3_clear 2 (some .int) ∈ zTs := zq 179 rfl rfl
set_option maxRecDepth 20000 in
theorem q_ml_X3_182 : Cond.methodLink RX3 182 yX3_stepCount ∈ zTs := zq 180 rfl rfl
set_option maxRecDepth 20000 in
theorem q_im_X3_stepCount : Cond.instanceMethod yX3_stepCount ∈ zTs := zq 182 rfl rfl
set_option maxRecDepth 20000 in
theorem q_co_X3_stepCount : Cond.code yX3_stepCount cX3_stepCount 1 (some .int) ∈ zTs := zq 183 rfl rfl
set_option maxRecDepth 20000 in
theorem q_ml_X3_158 : Cond.methodLink RX3 158 yX0_heldCount ∈ zTs := zq 184 rfl rfl
set_option maxRecDepth 20000 in
theorem q_im_X0_heldCount : Cond.instanceMethod yX0_heldCount ∈ zTs := zq 185 rfl rfl
set_option maxRecDepth 20000 in
theorem q_se_X0_heldCount : Cond.selects RX0 yX0_heldCount yX0_heldCount ∈ zTs := zq 186 rfl rfl
set_option maxRecDepth 20000 in
theorem q_co_X0_heldCount : Cond.code yX0_heldCount cX0_heldCount 1 (some .int) ∈ zTs := zq 187 rfl rfl
set_option maxRecDepth 20000 in
theorem q_ml_X0_25 : Cond.methodLink RX0 25 yJ6_bitCount_0f7a4 ∈ zTs := zq 188 rfl rfl
set_option maxRecDepth 20000 in
theorem q_st_J6_bitCount_0f7a4 : Cond.static yJ6_bitCount_0f7a4 ∈ zTs := zq 189 rfl rfl
set_option maxRecDepth 20000 in
theorem q_co_J6_bitCount_0f7a4 : Cond.code yJ6_bitCount_0f7a4 cJ6_bitCount_0f7a4 1 (some .int) ∈ zTs := zq 190 rfl rfl
set_option maxRecDepth 20000 in
theorem q_k_J6_265 : Cond.constant RJ6 265 (1431655765) ∈ zTs := zq 191 rfl rfl
set_option maxRecDepth 20000 in
theorem q_k_J6_266 : Cond.constant RJ6 266 (858993459) ∈ zTs := zq 192 rfl rfl
set_option maxRecDepth 20000 in
theorem q_k_J6_267 : Cond.constant RJ6 267 (252645135) ∈ zTs := zq 193 rfl rfl
set_option maxRecDepth 20000 in
theorem q_ml_X3_185 : Cond.methodLink RX3 185 yX0_empty ∈ zTs := zq 194 rfl rfl
set_option maxRecDepth 20000 in
theorem q_im_X0_empty : Cond.instanceMethod yX0_empty ∈ zTs := zq 195 rfl rfl
set_option maxRecDepth 20000 in
theorem q_se_X0_empty : Cond.selects RX0 yX0_empty yX0_empty ∈ zTs := zq 196 rfl rfl
set_option maxRecDepth 20000 in
theorem q_co_X0_empty : Cond.code yX0_empty cX0_empty 1 none ∈ zTs := zq 197 rfl rfl
set_option maxRecDepth 20000 in
theorem q_ml_X0_19 : Cond.methodLink RX0 19 yJ7_fill_53178 ∈ zTs := zq 198 rfl rfl
set_option maxRecDepth 20000 in
theorem q_ml_L_119 : Cond.methodLink RL 119 yX3_gifts ∈ zTs := zq 199 rfl rfl
set_option maxRecDepth 20000 in
theorem q_im_X3_gifts : Cond.instanceMethod yX3_gifts ∈ zTs := zq 200 rfl rfl
set_option maxRecDepth 20000 in
theorem q_se_X3_gifts : Cond.selects RX3 yX3_gifts yX3_gifts ∈ zTs := zq 201 rfl rfl
set_option maxRecDepth 20000 in
theorem q_co_X3_gifts : Cond.code yX3_gifts cX3_gifts 1 (some .int) ∈ zTs := zq 202 rfl rfl
set_option maxRecDepth 20000 in
theorem q_ml_L_123 : Cond.methodLink RL 123 yX3_working ∈ zTs := zq 203 rfl rfl
set_option maxRecDepth 20000 in
theorem q_im_X3_working : Cond.instanceMethod yX3_working ∈ zTs := zq 204 rfl rfl
set_option maxRecDepth 20000 in
theorem q_se_X3_working : Cond.selects RX3 yX3_working yX3_working ∈ zTs := zq 205 rfl rfl
set_option maxRecDepth 20000 in
theorem q_co_X3_working : Cond.code yX3_working cX3_working 1 (some .int) ∈ zTs := zq 206 rfl rfl
set_option maxRecDepth 20000 in
theorem q_ml_X3_174 : Cond.methodLink RX3 174 yX3_workingAmong ∈ zTs := zq 207 rfl rfl
set_option maxRecDepth 20000 in
theorem q_im_X3_workingAmong : Cond.instanceMethod yX3_workingAmong ∈ zTs := zq 209 rfl rfl
set_option maxRecDepth 20000 in
theorem q_co_X3_workingAmong : Cond.code yX3_workingAmong cX3_workingAmong 5 (some .int) ∈ zTs := zq 210 rfl rfl
set_option maxRecDepth 20000 in
theorem q_ml_X3_239 : Cond.methodLink RX3 239 yX3_hasScoreFor ∈ zTs := zq 211 rfl rfl
set_option maxRecDepth 20000 in
theorem q_im_X3_hasScoreFor : Cond.instanceMethod yX3_hasScoreFor ∈ zTs := zq 213 rfl rfl
set_option maxRecDepth 20000 in
theorem q_co_X3_hasScoreFor : Cond.code yX3_hasScoreFor cX3_hasScoreFor 3 (some .boolean) ∈ zTs := zq 214 rfl rfl
set_option maxRecDepth 20000 in
theorem q_ml_X3_242 : Cond.methodLink RX3 242 yX3_hasLevelFor ∈ zTs := zq 215 rfl rfl
set_option maxRecDepth 20000 in
theorem q_im_X3_hasLevelFor : Cond.instanceMethod yX3_hasLevelFor ∈ zTs := zq 217 rfl rfl
set_option maxRecDepth 20000 in
theorem q_co_X3_hasLevelFor : Cond.code yX3_hasLevelFor cX3_hasLevelFor 4 (some .boolean) ∈ zTs := zq 218 rfl rfl
set_option maxRecDepth 20000 in
theorem q_ml_X3_245 : Cond.methodLink RX3 245 yX3_isOtherIn ∈ zTs := zq 219 rfl rfl
set_option maxRecDepth 20000 in
theorem q_im_X3_isOtherIn : Cond.instanceMethod yX3_isOtherIn ∈ zTs := zq 221 rfl rfl
set_option maxRecDepth 20000 in
theorem q_co_X3_isOtherIn : Cond.code yX3_isOtherIn cX3_isOtherIn 4 (some .boolean) ∈ zTs := zq 222 rfl rfl
set_option maxRecDepth 20000 in
theorem q_ml_L_127 : Cond.methodLink RL 127 yX3_open ∈ zTs := zq 223 rfl rfl
set_option maxRecDepth 20000 in
theorem q_im_X3_open : Cond.instanceMethod yX3_open ∈ zTs := zq 224 rfl rfl
set_option maxRecDepth 20000 in
theorem q_se_X3_open : Cond.selects RX3 yX3_open yX3_open ∈ zTs := zq 225 rfl rfl
set_option maxRecDepth 20000 in
theorem q_co_X3_open : Cond.code yX3_open cX3_open 3 (some .int) ∈ zTs := zq 226 rfl rfl
set_option maxRecDepth 20000 in
theorem q_ml_X3_149 : Cond.methodLink RX3 149 yX3_mayTake ∈ zTs := zq 227 rfl rfl
set_option maxRecDepth 20000 in
theorem q_im_X3_mayTake : Cond.instanceMethod yX3_mayTake ∈ zTs := zq 229 rfl rfl
set_option maxRecDepth 20000 in
theorem q_co_X3_mayTake : Cond.code yX3_mayTake cX3_mayTake 3 (some .boolean) ∈ zTs := zq 230 rfl rfl
set_option maxRecDepth 20000 in
theorem q_ml_X3_165 : Cond.methodLink RX3 165 yX0_has ∈ zTs := zq 231 rfl rfl
set_option maxRecDepth 20000 in
theorem q_im_X0_has : Cond.instanceMethod yX0_has ∈ zTs := zq 232 rfl rfl
set_option maxRecDepth 20000 in
theorem q_se_X0_has : Cond.selects RX0 yX0_has yX0_has ∈ zTs := zq 233 rfl rfl
set_option maxRecDepth 20000 in
theorem q_co_X0_has : Cond.code yX0_has cX0_has 2 (some .boolean) ∈ zTs := zq 234 rfl rfl
set_option maxRecDepth 20000 in
theorem q_ml_X3_177 : Cond.methodLink RX3 177 yJ6_bitCount_0f7a4 ∈ zTs := zq 235 rfl rfl
set_option maxRecDepth 20000 in
theorem q_ml_X3_191 : Cond.methodLink RX3 191 yX0_levelInAll ∈ zTs := zq 236 rfl rfl
set_option maxRecDepth 20000 in
theorem q_im_X0_levelInAll : Cond.instanceMethod yX0_levelInAll ∈ zTs := zq 237 rfl rfl
set_option maxRecDepth 20000 in
theorem q_se_X0_levelInAll : Cond.selects RX0 yX0_levelInAll yX0_levelInAll ∈ zTs := zq 238 rfl rfl
set_option maxRecDepth 20000 in
theorem q_co_X0_levelInAll : Cond.code yX0_levelInAll cX0_levelInAll 3 (some .int) ∈ zTs := zq 239 rfl rfl
set_option maxRecDepth 20000 in
theorem q_ml_X3_194 : Cond.methodLink RX3 194 yX3_placesAt ∈ zTs := zq 240 rfl rfl
set_option maxRecDepth 20000 in
theorem q_st_X3_placesAt : Cond.static yX3_placesAt ∈ zTs := zq 241 rfl rfl
set_option maxRecDepth 20000 in
theorem q_co_X3_placesAt : Cond.code yX3_placesAt cX3_placesAt 1 (some .int) ∈ zTs := zq 242 rfl rfl
set_option maxRecDepth 20000 in
theorem q_ml_X3_248 : Cond.methodLink RX3 248 yX3_isBarred ∈ zTs := zq 243 rfl rfl
set_option maxRecDepth 20000 in
theorem q_im_X3_isBarred : Cond.instanceMethod yX3_isBarred ∈ zTs := zq 245 rfl rfl
set_option maxRecDepth 20000 in
theorem q_co_X3_isBarred : Cond.code yX3_isBarred cX3_isBarred 4 (some .boolean) ∈ zTs := zq 246 rfl rfl
set_option maxRecDepth 20000 in
theorem q_ml_L_131 : Cond.methodLink RL 131 yX3_places ∈ zTs := zq 247 rfl rfl
set_option maxRecDepth 20000 in
theorem q_im_X3_places : Cond.instanceMethod yX3_places ∈ zTs := zq 248 rfl rfl
set_option maxRecDepth 20000 in
theorem q_se_X3_places : Cond.selects RX3 yX3_places yX3_places ∈ zTs := zq 249 rfl rfl
set_option maxRecDepth 20000 in
theorem q_co_X3_places : Cond.code yX3_places cX3_places 1 (some .int) ∈ zTs := zq 250 rfl rfl
set_option maxRecDepth 20000 in
theorem q_ml_L_135 : Cond.methodLink RL 135 yX3_points ∈ zTs := zq 251 rfl rfl
set_option maxRecDepth 20000 in
theorem q_im_X3_points : Cond.instanceMethod yX3_points ∈ zTs := zq 252 rfl rfl
set_option maxRecDepth 20000 in
theorem q_se_X3_points : Cond.selects RX3 yX3_points yX3_points ∈ zTs := zq 253 rfl rfl
set_option maxRecDepth 20000 in
theorem q_co_X3_points : Cond.code yX3_points cX3_points 1 (some .int) ∈ zTs := zq 254 rfl rfl
set_option maxRecDepth 20000 in
theorem q_ml_X3_126 : Cond.methodLink RX3 126 yX3_pointsLeft ∈ zTs := zq 255 rfl rfl
set_option maxRecDepth 20000 in
theorem q_im_X3_pointsLeft : Cond.instanceMethod yX3_pointsLeft ∈ zTs := zq 257 rfl rfl
set_option maxRecDepth 20000 in
theorem q_co_X3_pointsLeft : Cond.code yX3_pointsLeft cX3_pointsLeft 3 (some .int) ∈ zTs := zq 258 rfl rfl
set_option maxRecDepth 20000 in
theorem q_ml_X3_130 : Cond.methodLink RX3 130 yX3_costOf ∈ zTs := zq 259 rfl rfl
set_option maxRecDepth 20000 in
theorem q_st_X3_costOf : Cond.static yX3_costOf ∈ zTs := zq 260 rfl rfl
set_option maxRecDepth 20000 in
theorem q_co_X3_costOf : Cond.code yX3_costOf cX3_costOf 1 (some .int) ∈ zTs := zq 261 rfl rfl
set_option maxRecDepth 20000 in
theorem q_ml_X3_227 : Cond.methodLink RX3 227 yJ9_max_7cf53 ∈ zTs := zq 262 rfl rfl
set_option maxRecDepth 20000 in
theorem q_st_J9_max_7cf53 : Cond.static yJ9_max_7cf53 ∈ zTs := zq 263 rfl rfl
set_option maxRecDepth 20000 in
theorem q_co_J9_max_7cf53 : Cond.code yJ9_max_7cf53 cJ9_max_7cf53 2 (some .int) ∈ zTs := zq 264 rfl rfl
set_option maxRecDepth 20000 in
theorem q_ml_L_148 : Cond.methodLink RL 148 yX3_attack ∈ zTs := zq 265 rfl rfl
set_option maxRecDepth 20000 in
theorem q_im_X3_attack : Cond.instanceMethod yX3_attack ∈ zTs := zq 266 rfl rfl
set_option maxRecDepth 20000 in
theorem q_se_X3_attack : Cond.selects RX3 yX3_attack yX3_attack ∈ zTs := zq 267 rfl rfl
set_option maxRecDepth 20000 in
theorem q_co_X3_attack : Cond.code yX3_attack cX3_attack 5 (some .int) ∈ zTs := zq 268 rfl rfl
set_option maxRecDepth 20000 in
theorem q_ml_X3_188 : Cond.methodLink RX3 188 yX0_levelIn ∈ zTs := zq 269 rfl rfl
set_option maxRecDepth 20000 in
theorem q_im_X0_levelIn : Cond.instanceMethod yX0_levelIn ∈ zTs := zq 270 rfl rfl
set_option maxRecDepth 20000 in
theorem q_se_X0_levelIn : Cond.selects RX0 yX0_levelIn yX0_levelIn ∈ zTs := zq 271 rfl rfl
set_option maxRecDepth 20000 in
theorem q_co_X0_levelIn : Cond.code yX0_levelIn cX0_levelIn 2 (some .int) ∈ zTs := zq 272 rfl rfl
set_option maxRecDepth 20000 in
theorem q_kf_X3_213 : Cond.constantFloat RX3 213 (1082130432) ∈ zTs := zq 273 rfl rfl
set_option maxRecDepth 20000 in
theorem q_kf_X3_214 : Cond.constantFloat RX3 214 (1040187392) ∈ zTs := zq 274 rfl rfl
set_option maxRecDepth 20000 in
theorem q_ml_L_152 : Cond.methodLink RL 152 yX3_isLawful ∈ zTs := zq 275 rfl rfl
set_option maxRecDepth 20000 in
theorem q_im_X3_isLawful : Cond.instanceMethod yX3_isLawful ∈ zTs := zq 276 rfl rfl
set_option maxRecDepth 20000 in
theorem q_se_X3_isLawful : Cond.selects RX3 yX3_isLawful yX3_isLawful ∈ zTs := zq 277 rfl rfl
set_option maxRecDepth 20000 in
theorem q_co_X3_isLawful : Cond.code yX3_isLawful cX3_isLawful 1 (some .boolean) ∈ zTs := zq 278 rfl rfl
set_option maxRecDepth 20000 in
theorem q_ml_X3_169 : Cond.methodLink RX3 169 yX3_canReach ∈ zTs := zq 279 rfl rfl
set_option maxRecDepth 20000 in
theorem q_im_X3_canReach : Cond.instanceMethod yX3_canReach ∈ zTs := zq 281 rfl rfl
set_option maxRecDepth 20000 in
theorem q_co_X3_canReach : Cond.code yX3_canReach cX3_canReach 5 (some .boolean) ∈ zTs := zq 282 rfl rfl
set_option maxRecDepth 20000 in
theorem q_ml_X3_254 : Cond.methodLink RX3 254 yX3_markSets ∈ zTs := zq 283 rfl rfl
set_option maxRecDepth 20000 in
theorem q_im_X3_markSets : Cond.instanceMethod yX3_markSets ∈ zTs := zq 285 rfl rfl
set_option maxRecDepth 20000 in
theorem q_co_X3_markSets : Cond.code yX3_markSets cX3_markSets 4 none ∈ zTs := zq 286 rfl rfl
set_option maxRecDepth 20000 in
theorem q_ml_X3_262 : Cond.methodLink RX3 262 yX3_firstStepTowards ∈ zTs := zq 287 rfl rfl
set_option maxRecDepth 20000 in
theorem q_im_X3_firstStepTowards : Cond.instanceMethod yX3_firstStepTowards ∈ zTs := zq 289 rfl rfl
set_option maxRecDepth 20000 in
theorem q_co_X3_firstStepTowards : Cond.code yX3_firstStepTowards cX3_firstStepTowards 4 (some .int) ∈ zTs := zq 290 rfl rfl
set_option maxRecDepth 20000 in
theorem q_ml_X3_268 : Cond.methodLink RX3 268 yX3_isStepTowards ∈ zTs := zq 291 rfl rfl
set_option maxRecDepth 20000 in
theorem q_im_X3_isStepTowards : Cond.instanceMethod yX3_isStepTowards ∈ zTs := zq 293 rfl rfl
set_option maxRecDepth 20000 in
theorem q_co_X3_isStepTowards : Cond.code yX3_isStepTowards cX3_isStepTowards 4 (some .boolean) ∈ zTs := zq 294 rfl rfl
set_option maxRecDepth 20000 in
theorem q_ml_X3_53 : Cond.methodLink RX3 53 yX3_isAmong ∈ zTs := zq 295 rfl rfl
set_option maxRecDepth 20000 in
theorem q_st_X3_isAmong : Cond.static yX3_isAmong ∈ zTs := zq 296 rfl rfl
set_option maxRecDepth 20000 in
theorem q_co_X3_isAmong : Cond.code yX3_isAmong cX3_isAmong 2 (some .boolean) ∈ zTs := zq 297 rfl rfl
set_option maxRecDepth 20000 in
theorem q_ml_X3_271 : Cond.methodLink RX3 271 yX0_goOn ∈ zTs := zq 298 rfl rfl
set_option maxRecDepth 20000 in
theorem q_im_X0_goOn : Cond.instanceMethod yX0_goOn ∈ zTs := zq 299 rfl rfl
set_option maxRecDepth 20000 in
theorem q_se_X0_goOn : Cond.selects RX0 yX0_goOn yX0_goOn ∈ zTs := zq 300 rfl rfl
set_option maxRecDepth 20000 in
theorem q_co_X0_goOn : Cond.code yX0_goOn cX0_goOn 2 none ∈ zTs := zq 301 rfl rfl
set_option maxRecDepth 20000 in
theorem q_ml_X0_35 : Cond.methodLink RX0 35 yX0_changeLevel ∈ zTs := zq 302 rfl rfl
set_option maxRecDepth 20000 in
theorem q_im_X0_changeLevel : Cond.instanceMethod yX0_changeLevel ∈ zTs := zq 303 rfl rfl
set_option maxRecDepth 20000 in
theorem q_se_X0_changeLevel : Cond.selects RX0 yX0_changeLevel yX0_changeLevel ∈ zTs := zq 304 rfl rfl
set_option maxRecDepth 20000 in
theorem q_co_X0_changeLevel : Cond.code yX0_changeLevel cX0_changeLevel 3 none ∈ zTs := zq 305 rfl rfl
set_option maxRecDepth 20000 in
theorem q_ml_X3_258 : Cond.methodLink RX3 258 yX3_isMarked ∈ zTs := zq 307 rfl rfl
set_option maxRecDepth 20000 in
theorem q_im_X3_isMarked : Cond.instanceMethod yX3_isMarked ∈ zTs := zq 309 rfl rfl
set_option maxRecDepth 20000 in
theorem q_co_X3_isMarked : Cond.code yX3_isMarked cX3_isMarked 2 (some .boolean) ∈ zTs := zq 310 rfl rfl
set_option maxRecDepth 20000 in
theorem q_ml_X3_277 : Cond.methodLink RX3 277 yX3_wordOfTrial ∈ zTs := zq 311 rfl rfl
set_option maxRecDepth 20000 in
theorem q_im_X3_wordOfTrial : Cond.instanceMethod yX3_wordOfTrial ∈ zTs := zq 313 rfl rfl
set_option maxRecDepth 20000 in
theorem q_co_X3_wordOfTrial : Cond.code yX3_wordOfTrial cX3_wordOfTrial 3 (some .int) ∈ zTs := zq 314 rfl rfl
set_option maxRecDepth 20000 in
theorem q_ml_X3_280 : Cond.methodLink RX3 280 yX3_bitOfTrial ∈ zTs := zq 315 rfl rfl
set_option maxRecDepth 20000 in
theorem q_im_X3_bitOfTrial : Cond.instanceMethod yX3_bitOfTrial ∈ zTs := zq 317 rfl rfl
set_option maxRecDepth 20000 in
theorem q_co_X3_bitOfTrial : Cond.code yX3_bitOfTrial cX3_bitOfTrial 1 (some .int) ∈ zTs := zq 318 rfl rfl
set_option maxRecDepth 20000 in
theorem q_ml_X3_274 : Cond.methodLink RX3 274 yX0_goBack ∈ zTs := zq 319 rfl rfl
set_option maxRecDepth 20000 in
theorem q_im_X0_goBack : Cond.instanceMethod yX0_goBack ∈ zTs := zq 320 rfl rfl
set_option maxRecDepth 20000 in
theorem q_se_X0_goBack : Cond.selects RX0 yX0_goBack yX0_goBack ∈ zTs := zq 321 rfl rfl
set_option maxRecDepth 20000 in
theorem q_co_X0_goBack : Cond.code yX0_goBack cX0_goBack 2 none ∈ zTs := zq 322 rfl rfl
set_option maxRecDepth 20000 in
theorem q_ml_X3_265 : Cond.methodLink RX3 265 yX3_mark ∈ zTs := zq 323 rfl rfl
set_option maxRecDepth 20000 in
theorem q_im_X3_mark : Cond.instanceMethod yX3_mark ∈ zTs := zq 325 rfl rfl
set_option maxRecDepth 20000 in
theorem q_co_X3_mark : Cond.code yX3_mark cX3_mark 2 none ∈ zTs := zq 326 rfl rfl
set_option maxRecDepth 20000 in
theorem q_ml_L_73 : Cond.methodLink RL 73 yL_setNeeds ∈ zTs := zq 327 rfl rfl
set_option maxRecDepth 20000 in
theorem q_st_L_setNeeds : Cond.static yL_setNeeds ∈ zTs := zq 328 rfl rfl
set_option maxRecDepth 20000 in
theorem q_cw_L_setNeeds : Cond.codeWith yL_setNeeds cL_setNeeds 8 (some .int) [(0, 13, 16, 13), (0, 13, 20, 15)] ∈ zTs := zq 329 rfl rfl
set_option maxRecDepth 20000 in
theorem q_cl_L_13 : Cond.classLink RL 13 "java/lang/IndexOutOfBoundsException" ∈ zTs := zq 330 rfl rfl
set_option maxRecDepth 20000 in
theorem q_cl_L_15 : Cond.classLink RL 15 "java/lang/IllegalArgumentException" ∈ zTs := zq 331 rfl rfl
set_option maxRecDepth 20000 in
theorem q_ml_L_7 : Cond.methodLink RL 7 yX3_setNeeds ∈ zTs := zq 332 rfl rfl
set_option maxRecDepth 20000 in
theorem q_im_X3_setNeeds : Cond.instanceMethod yX3_setNeeds ∈ zTs := zq 333 rfl rfl
set_option maxRecDepth 20000 in
theorem q_se_X3_setNeeds : Cond.selects RX3 yX3_setNeeds yX3_setNeeds ∈ zTs := zq 334 rfl rfl
set_option maxRecDepth 20000 in
theorem q_co_X3_setNeeds : Cond.code yX3_setNeeds cX3_setNeeds 7 none ∈ zTs := zq 335 rfl rfl
set_option maxRecDepth 20000 in
theorem q_ml_X3_57 : Cond.methodLink RX3 57 yX3_isAmongOrNone ∈ zTs := zq 336 rfl rfl
set_option maxRecDepth 20000 in
theorem q_st_X3_isAmongOrNone : Cond.static yX3_isAmongOrNone ∈ zTs := zq 337 rfl rfl
set_option maxRecDepth 20000 in
theorem q_co_X3_isAmongOrNone : Cond.code yX3_isAmongOrNone cX3_isAmongOrNone 2 (some .boolean) ∈ zTs := zq 338 rfl rfl
set_option maxRecDepth 20000 in
theorem q_cl_X3_60 : Cond.classLink RX3 60 "java/lang/IndexOutOfBoundsException" ∈ zTs := zq 339 rfl rfl
set_option maxRecDepth 20000 in
theorem q_is_java_lang_IndexOutOfBoundsException : Cond.instantiable "java/lang/IndexOutOfBoundsException" 6 ∈ zTs := zq 340 rfl rfl
set_option maxRecDepth 20000 in
theorem q_fl_java_lang_Throwable_198 : Cond.fieldLink "java/lang/Throwable" 198 "java/lang/Throwable" "backtrace" "Ljava/lang/Object;" ∈ zTs := zq 360 rfl rfl
set_option maxRecDepth 20000 in
theorem q_ml_java_lang_Throwable_1 : Cond.methodLink "java/lang/Throwable" 1 objectInit ∈ zTs := zq 364 rfl rfl
set_option maxRecDepth 20000 in
theorem q_fl_java_lang_Throwable_13 : Cond.fieldLink "java/lang/Throwable" 13 "java/lang/Throwable" "UNASSIGNED_STACK" "[Ljava/lang/StackTraceElement;" ∈ zTs := zq 365 rfl rfl
set_option maxRecDepth 20000 in
theorem q_fl_java_lang_Throwable_20 : Cond.fieldLink "java/lang/Throwable" 20 "java/lang/Throwable" "SUPPRESSED_SENTINEL" "Ljava/util/List;" ∈ zTs := zq 367 rfl rfl
set_option maxRecDepth 20000 in
theorem q_is_java_lang_Throwable : Cond.instantiable "java/lang/Throwable" 6 ∈ zTs := zq 378 rfl rfl
set_option maxRecDepth 20000 in
theorem q_fl_java_lang_Throwable_31 : Cond.fieldLink "java/lang/Throwable" 31 "java/lang/Throwable" "detailMessage" "Ljava/lang/String;" ∈ zTs := zq 394 rfl rfl
set_option maxRecDepth 20000 in
theorem q_fl_java_lang_Throwable_7 : Cond.fieldLink "java/lang/Throwable" 7 "java/lang/Throwable" "cause" "Ljava/lang/Throwable;" ∈ zTs := zq 395 rfl rfl
set_option maxRecDepth 20000 in
theorem q_fl_java_lang_Throwable_17 : Cond.fieldLink "java/lang/Throwable" 17 "java/lang/Throwable" "stackTrace" "[Ljava/lang/StackTraceElement;" ∈ zTs := zq 396 rfl rfl
set_option maxRecDepth 20000 in
theorem q_fl_java_lang_Throwable_24 : Cond.fieldLink "java/lang/Throwable" 24 "java/lang/Throwable" "suppressedExceptions" "Ljava/util/List;" ∈ zTs := zq 397 rfl rfl
set_option maxRecDepth 20000 in
theorem q_ac_byte : Cond.arrayClass .byte ∈ zTs := zq 406 rfl rfl
set_option maxRecDepth 20000 in
theorem q_ml_X3_67 : Cond.methodLink RX3 67 yX3_isFromTo ∈ zTs := zq 407 rfl rfl
set_option maxRecDepth 20000 in
theorem q_st_X3_isFromTo : Cond.static yX3_isFromTo ∈ zTs := zq 408 rfl rfl
set_option maxRecDepth 20000 in
theorem q_co_X3_isFromTo : Cond.code yX3_isFromTo cX3_isFromTo 3 (some .boolean) ∈ zTs := zq 409 rfl rfl
set_option maxRecDepth 20000 in
theorem q_cl_X3_71 : Cond.classLink RX3 71 "java/lang/IllegalArgumentException" ∈ zTs := zq 410 rfl rfl
set_option maxRecDepth 20000 in
theorem q_is_java_lang_IllegalArgumentException : Cond.instantiable "java/lang/IllegalArgumentException" 6 ∈ zTs := zq 411 rfl rfl
set_option maxRecDepth 20000 in
theorem q_ml_L_82 : Cond.methodLink RL 82 yL_bar ∈ zTs := zq 427 rfl rfl
set_option maxRecDepth 20000 in
theorem q_st_L_bar : Cond.static yL_bar ∈ zTs := zq 428 rfl rfl
set_option maxRecDepth 20000 in
theorem q_cw_L_bar : Cond.codeWith yL_bar cL_bar 5 (some .int) [(0, 7, 10, 13), (0, 7, 14, 15)] ∈ zTs := zq 429 rfl rfl
set_option maxRecDepth 20000 in
theorem q_ml_L_17 : Cond.methodLink RL 17 yX3_bar ∈ zTs := zq 430 rfl rfl
set_option maxRecDepth 20000 in
theorem q_im_X3_bar : Cond.instanceMethod yX3_bar ∈ zTs := zq 431 rfl rfl
set_option maxRecDepth 20000 in
theorem q_se_X3_bar : Cond.selects RX3 yX3_bar yX3_bar ∈ zTs := zq 432 rfl rfl
set_option maxRecDepth 20000 in
theorem q_co_X3_bar : Cond.code yX3_bar cX3_bar 4 none ∈ zTs := zq 433 rfl rfl
set_option maxRecDepth 20000 in
theorem q_ml_L_86 : Cond.methodLink RL 86 yL_setBonus ∈ zTs := zq 435 rfl rfl
set_option maxRecDepth 20000 in
theorem q_st_L_setBonus : Cond.static yL_setBonus ∈ zTs := zq 436 rfl rfl
set_option maxRecDepth 20000 in
theorem q_cw_L_setBonus : Cond.codeWith yL_setBonus cL_setBonus 6 (some .int) [(0, 9, 12, 13), (0, 9, 16, 15)] ∈ zTs := zq 437 rfl rfl
set_option maxRecDepth 20000 in
theorem q_ml_L_21 : Cond.methodLink RL 21 yX3_setBonus ∈ zTs := zq 438 rfl rfl
set_option maxRecDepth 20000 in
theorem q_im_X3_setBonus : Cond.instanceMethod yX3_setBonus ∈ zTs := zq 439 rfl rfl
set_option maxRecDepth 20000 in
theorem q_se_X3_setBonus : Cond.selects RX3 yX3_setBonus yX3_setBonus ∈ zTs := zq 440 rfl rfl
set_option maxRecDepth 20000 in
theorem q_co_X3_setBonus : Cond.code yX3_setBonus cX3_setBonus 5 none ∈ zTs := zq 441 rfl rfl
set_option maxRecDepth 20000 in
theorem q_ml_L_90 : Cond.methodLink RL 90 yL_setValue ∈ zTs := zq 444 rfl rfl
set_option maxRecDepth 20000 in
theorem q_st_L_setValue : Cond.static yL_setValue ∈ zTs := zq 445 rfl rfl
set_option maxRecDepth 20000 in
theorem q_cw_L_setValue : Cond.codeWith yL_setValue cL_setValue 7 (some .int) [(0, 11, 14, 13), (0, 11, 18, 15)] ∈ zTs := zq 446 rfl rfl
set_option maxRecDepth 20000 in
theorem q_ml_L_25 : Cond.methodLink RL 25 yX3_setValue ∈ zTs := zq 447 rfl rfl
set_option maxRecDepth 20000 in
theorem q_im_X3_setValue : Cond.instanceMethod yX3_setValue ∈ zTs := zq 448 rfl rfl
set_option maxRecDepth 20000 in
theorem q_se_X3_setValue : Cond.selects RX3 yX3_setValue yX3_setValue ∈ zTs := zq 449 rfl rfl
set_option maxRecDepth 20000 in
theorem q_co_X3_setValue : Cond.code yX3_setValue cX3_setValue 6 none ∈ zTs := zq 450 rfl rfl
set_option maxRecDepth 20000 in
theorem q_ml_L_94 : Cond.methodLink RL 94 yL_setScore ∈ zTs := zq 453 rfl rfl
set_option maxRecDepth 20000 in
theorem q_st_L_setScore : Cond.static yL_setScore ∈ zTs := zq 454 rfl rfl
set_option maxRecDepth 20000 in
theorem q_cw_L_setScore : Cond.codeWith yL_setScore cL_setScore 5 (some .int) [(0, 10, 13, 13), (0, 10, 17, 15), (0, 10, 21, 33)] ∈ zTs := zq 455 rfl rfl
set_option maxRecDepth 20000 in
theorem q_cl_L_33 : Cond.classLink RL 33 "java/lang/IllegalStateException" ∈ zTs := zq 456 rfl rfl
set_option maxRecDepth 20000 in
theorem q_ml_L_29 : Cond.methodLink RL 29 yX3_setScore ∈ zTs := zq 457 rfl rfl
set_option maxRecDepth 20000 in
theorem q_im_X3_setScore : Cond.instanceMethod yX3_setScore ∈ zTs := zq 458 rfl rfl
set_option maxRecDepth 20000 in
theorem q_se_X3_setScore : Cond.selects RX3 yX3_setScore yX3_setScore ∈ zTs := zq 459 rfl rfl
set_option maxRecDepth 20000 in
theorem q_co_X3_setScore : Cond.code yX3_setScore cX3_setScore 4 (some .int) ∈ zTs := zq 460 rfl rfl
set_option maxRecDepth 20000 in
theorem q_cl_X3_134 : Cond.classLink RX3 134 "java/lang/IllegalStateException" ∈ zTs := zq 462 rfl rfl
set_option maxRecDepth 20000 in
theorem q_is_java_lang_IllegalStateException : Cond.instantiable "java/lang/IllegalStateException" 6 ∈ zTs := zq 463 rfl rfl
set_option maxRecDepth 20000 in
theorem q_ml_L_98 : Cond.methodLink RL 98 yL_takeLevel ∈ zTs := zq 478 rfl rfl
set_option maxRecDepth 20000 in
theorem q_st_L_takeLevel : Cond.static yL_takeLevel ∈ zTs := zq 479 rfl rfl
set_option maxRecDepth 20000 in
theorem q_cw_L_takeLevel : Cond.codeWith yL_takeLevel cL_takeLevel 4 (some .int) [(0, 9, 12, 13), (0, 9, 15, 33)] ∈ zTs := zq 480 rfl rfl
set_option maxRecDepth 20000 in
theorem q_ml_L_35 : Cond.methodLink RL 35 yX3_takeLevel ∈ zTs := zq 481 rfl rfl
set_option maxRecDepth 20000 in
theorem q_im_X3_takeLevel : Cond.instanceMethod yX3_takeLevel ∈ zTs := zq 482 rfl rfl
set_option maxRecDepth 20000 in
theorem q_se_X3_takeLevel : Cond.selects RX3 yX3_takeLevel yX3_takeLevel ∈ zTs := zq 483 rfl rfl
set_option maxRecDepth 20000 in
theorem q_co_X3_takeLevel : Cond.code yX3_takeLevel cX3_takeLevel 2 (some .int) ∈ zTs := zq 484 rfl rfl
set_option maxRecDepth 20000 in
theorem q_ml_X3_143 : Cond.methodLink RX3 143 yX0_changeLevel ∈ zTs := zq 487 rfl rfl
set_option maxRecDepth 20000 in
theorem q_ml_L_102 : Cond.methodLink RL 102 yL_takeGift ∈ zTs := zq 488 rfl rfl
set_option maxRecDepth 20000 in
theorem q_st_L_takeGift : Cond.static yL_takeGift ∈ zTs := zq 489 rfl rfl
set_option maxRecDepth 20000 in
theorem q_cw_L_takeGift : Cond.codeWith yL_takeGift cL_takeGift 4 (some .int) [(0, 9, 12, 13), (0, 9, 15, 33)] ∈ zTs := zq 490 rfl rfl
set_option maxRecDepth 20000 in
theorem q_ml_L_39 : Cond.methodLink RL 39 yX3_takeGift ∈ zTs := zq 491 rfl rfl
set_option maxRecDepth 20000 in
theorem q_im_X3_takeGift : Cond.instanceMethod yX3_takeGift ∈ zTs := zq 492 rfl rfl
set_option maxRecDepth 20000 in
theorem q_se_X3_takeGift : Cond.selects RX3 yX3_takeGift yX3_takeGift ∈ zTs := zq 493 rfl rfl
set_option maxRecDepth 20000 in
theorem q_co_X3_takeGift : Cond.code yX3_takeGift cX3_takeGift 2 (some .int) ∈ zTs := zq 494 rfl rfl
set_option maxRecDepth 20000 in
theorem q_ml_L_105 : Cond.methodLink RL 105 yL_loseLevel ∈ zTs := zq 497 rfl rfl
set_option maxRecDepth 20000 in
theorem q_st_L_loseLevel : Cond.static yL_loseLevel ∈ zTs := zq 498 rfl rfl
set_option maxRecDepth 20000 in
theorem q_cw_L_loseLevel : Cond.codeWith yL_loseLevel cL_loseLevel 3 (some .int) [(0, 8, 11, 33)] ∈ zTs := zq 499 rfl rfl
set_option maxRecDepth 20000 in
theorem q_ml_L_42 : Cond.methodLink RL 42 yX3_loseLevel ∈ zTs := zq 500 rfl rfl
set_option maxRecDepth 20000 in
theorem q_im_X3_loseLevel : Cond.instanceMethod yX3_loseLevel ∈ zTs := zq 501 rfl rfl
set_option maxRecDepth 20000 in
theorem q_se_X3_loseLevel : Cond.selects RX3 yX3_loseLevel yX3_loseLevel ∈ zTs := zq 502 rfl rfl
set_option maxRecDepth 20000 in
theorem q_co_X3_loseLevel : Cond.code yX3_loseLevel cX3_loseLevel 2 (some .int) ∈ zTs := zq 503 rfl rfl
set_option maxRecDepth 20000 in
theorem q_ml_L_109 : Cond.methodLink RL 109 yL_exchange ∈ zTs := zq 505 rfl rfl
set_option maxRecDepth 20000 in
theorem q_st_L_exchange : Cond.static yL_exchange ∈ zTs := zq 506 rfl rfl
set_option maxRecDepth 20000 in
theorem q_cw_L_exchange : Cond.codeWith yL_exchange cL_exchange 5 (some .int) [(0, 10, 13, 13), (0, 10, 17, 33)] ∈ zTs := zq 507 rfl rfl
set_option maxRecDepth 20000 in
theorem q_ml_L_46 : Cond.methodLink RL 46 yX3_exchange ∈ zTs := zq 508 rfl rfl
set_option maxRecDepth 20000 in
theorem q_im_X3_exchange : Cond.instanceMethod yX3_exchange ∈ zTs := zq 509 rfl rfl
set_option maxRecDepth 20000 in
theorem q_se_X3_exchange : Cond.selects RX3 yX3_exchange yX3_exchange ∈ zTs := zq 510 rfl rfl
set_option maxRecDepth 20000 in
theorem q_co_X3_exchange : Cond.code yX3_exchange cX3_exchange 5 (some .int) ∈ zTs := zq 511 rfl rfl
set_option maxRecDepth 20000 in
theorem q_ml_L_116 : Cond.methodLink RL 116 yL_level ∈ zTs := zq 514 rfl rfl
set_option maxRecDepth 20000 in
theorem q_st_L_level : Cond.static yL_level ∈ zTs := zq 515 rfl rfl
set_option maxRecDepth 20000 in
theorem q_cw_L_level : Cond.codeWith yL_level cL_level 4 (some .int) [(0, 9, 12, 13)] ∈ zTs := zq 516 rfl rfl
set_option maxRecDepth 20000 in
theorem q_ml_L_49 : Cond.methodLink RL 49 yX3_level ∈ zTs := zq 517 rfl rfl
set_option maxRecDepth 20000 in
theorem q_im_X3_level : Cond.instanceMethod yX3_level ∈ zTs := zq 518 rfl rfl
set_option maxRecDepth 20000 in
theorem q_se_X3_level : Cond.selects RX3 yX3_level yX3_level ∈ zTs := zq 519 rfl rfl
set_option maxRecDepth 20000 in
theorem q_co_X3_level : Cond.code yX3_level cX3_level 2 (some .int) ∈ zTs := zq 520 rfl rfl
set_option maxRecDepth 20000 in
theorem q_ml_L_139 : Cond.methodLink RL 139 yL_value ∈ zTs := zq 521 rfl rfl
set_option maxRecDepth 20000 in
theorem q_st_L_value : Cond.static yL_value ∈ zTs := zq 522 rfl rfl
set_option maxRecDepth 20000 in
theorem q_cw_L_value : Cond.codeWith yL_value cL_value 4 (some .int) [(0, 9, 12, 13), (0, 9, 15, 33)] ∈ zTs := zq 523 rfl rfl
set_option maxRecDepth 20000 in
theorem q_ml_L_52 : Cond.methodLink RL 52 yX3_value ∈ zTs := zq 524 rfl rfl
set_option maxRecDepth 20000 in
theorem q_im_X3_value : Cond.instanceMethod yX3_value ∈ zTs := zq 525 rfl rfl
set_option maxRecDepth 20000 in
theorem q_se_X3_value : Cond.selects RX3 yX3_value yX3_value ∈ zTs := zq 526 rfl rfl
set_option maxRecDepth 20000 in
theorem q_co_X3_value : Cond.code yX3_value cX3_value 2 (some .int) ∈ zTs := zq 527 rfl rfl
set_option maxRecDepth 20000 in
theorem q_ml_X3_199 : Cond.methodLink RX3 199 yX3_leadsIntoRing ∈ zTs := zq 529 rfl rfl
set_option maxRecDepth 20000 in
theorem q_im_X3_leadsIntoRing : Cond.instanceMethod yX3_leadsIntoRing ∈ zTs := zq 531 rfl rfl
set_option maxRecDepth 20000 in
theorem q_co_X3_leadsIntoRing : Cond.code yX3_leadsIntoRing cX3_leadsIntoRing 4 (some .boolean) ∈ zTs := zq 532 rfl rfl
set_option maxRecDepth 20000 in
theorem q_ml_X3_204 : Cond.methodLink RX3 204 yX3_sumOf ∈ zTs := zq 534 rfl rfl
set_option maxRecDepth 20000 in
theorem q_im_X3_sumOf : Cond.instanceMethod yX3_sumOf ∈ zTs := zq 536 rfl rfl
set_option maxRecDepth 20000 in
theorem q_co_X3_sumOf : Cond.code yX3_sumOf cX3_sumOf 6 (some .int) ∈ zTs := zq 537 rfl rfl
set_option maxRecDepth 20000 in
theorem q_ml_X3_251 : Cond.methodLink RX3 251 yX3_modifierOf ∈ zTs := zq 538 rfl rfl
set_option maxRecDepth 20000 in
theorem q_im_X3_modifierOf : Cond.instanceMethod yX3_modifierOf ∈ zTs := zq 540 rfl rfl
set_option maxRecDepth 20000 in
theorem q_co_X3_modifierOf : Cond.code yX3_modifierOf cX3_modifierOf 2 (some .int) ∈ zTs := zq 541 rfl rfl
set_option maxRecDepth 20000 in
theorem q_ml_X3_233 : Cond.methodLink RX3 233 yJ9_floorDiv_7cf53 ∈ zTs := zq 542 rfl rfl
set_option maxRecDepth 20000 in
theorem q_st_J9_floorDiv_7cf53 : Cond.static yJ9_floorDiv_7cf53 ∈ zTs := zq 543 rfl rfl
set_option maxRecDepth 20000 in
theorem q_co_J9_floorDiv_7cf53 : Cond.code yJ9_floorDiv_7cf53 cJ9_floorDiv_7cf53 3 (some .int) ∈ zTs := zq 544 rfl rfl
set_option maxRecDepth 20000 in
theorem q_ml_X3_210 : Cond.methodLink RX3 210 yX3_bonusFrom ∈ zTs := zq 545 rfl rfl
set_option maxRecDepth 20000 in
theorem q_im_X3_bonusFrom : Cond.instanceMethod yX3_bonusFrom ∈ zTs := zq 547 rfl rfl
set_option maxRecDepth 20000 in
theorem q_co_X3_bonusFrom : Cond.code yX3_bonusFrom cX3_bonusFrom 8 (some .int) ∈ zTs := zq 548 rfl rfl
set_option maxRecDepth 20000 in
theorem q_ml_L_142 : Cond.methodLink RL 142 yL_bonus ∈ zTs := zq 549 rfl rfl
set_option maxRecDepth 20000 in
theorem q_st_L_bonus : Cond.static yL_bonus ∈ zTs := zq 550 rfl rfl
set_option maxRecDepth 20000 in
theorem q_cw_L_bonus : Cond.codeWith yL_bonus cL_bonus 5 (some .int) [(0, 10, 13, 13), (0, 10, 17, 15)] ∈ zTs := zq 551 rfl rfl
set_option maxRecDepth 20000 in
theorem q_ml_L_55 : Cond.methodLink RL 55 yX3_bonus ∈ zTs := zq 552 rfl rfl
set_option maxRecDepth 20000 in
theorem q_im_X3_bonus : Cond.instanceMethod yX3_bonus ∈ zTs := zq 553 rfl rfl
set_option maxRecDepth 20000 in
theorem q_se_X3_bonus : Cond.selects RX3 yX3_bonus yX3_bonus ∈ zTs := zq 554 rfl rfl
set_option maxRecDepth 20000 in
theorem q_co_X3_bonus : Cond.code yX3_bonus cX3_bonus 3 (some .int) ∈ zTs := zq 555 rfl rfl
set_option maxRecDepth 20000 in
theorem q_ml_L_145 : Cond.methodLink RL 145 yL_isRing ∈ zTs := zq 557 rfl rfl
set_option maxRecDepth 20000 in
theorem q_st_L_isRing : Cond.static yL_isRing ∈ zTs := zq 558 rfl rfl
set_option maxRecDepth 20000 in
theorem q_cw_L_isRing : Cond.codeWith yL_isRing cL_isRing 4 (some .int) [(0, 16, 19, 13)] ∈ zTs := zq 559 rfl rfl
set_option maxRecDepth 20000 in
theorem q_ml_L_58 : Cond.methodLink RL 58 yX3_isRing ∈ zTs := zq 560 rfl rfl
set_option maxRecDepth 20000 in
theorem q_im_X3_isRing : Cond.instanceMethod yX3_isRing ∈ zTs := zq 561 rfl rfl
set_option maxRecDepth 20000 in
theorem q_se_X3_isRing : Cond.selects RX3 yX3_isRing yX3_isRing ∈ zTs := zq 562 rfl rfl
set_option maxRecDepth 20000 in
theorem q_co_X3_isRing : Cond.code yX3_isRing cX3_isRing 2 (some .boolean) ∈ zTs := zq 563 rfl rfl
set_option maxRecDepth 20000 in
theorem q_ml_L_156 : Cond.methodLink RL 156 yL_isLawfulByOrders ∈ zTs := zq 564 rfl rfl
set_option maxRecDepth 20000 in
theorem q_st_L_isLawfulByOrders : Cond.static yL_isLawfulByOrders ∈ zTs := zq 565 rfl rfl
set_option maxRecDepth 20000 in
theorem q_cw_L_isLawfulByOrders : Cond.codeWith yL_isLawfulByOrders cL_isLawfulByOrders 3 (some .int) [(0, 15, 18, 33)] ∈ zTs := zq 566 rfl rfl
set_option maxRecDepth 20000 in
theorem q_ml_L_62 : Cond.methodLink RL 62 yX3_isLawfulByOrders ∈ zTs := zq 567 rfl rfl
set_option maxRecDepth 20000 in
theorem q_im_X3_isLawfulByOrders : Cond.instanceMethod yX3_isLawfulByOrders ∈ zTs := zq 568 rfl rfl
set_option maxRecDepth 20000 in
theorem q_se_X3_isLawfulByOrders : Cond.selects RX3 yX3_isLawfulByOrders yX3_isLawfulByOrders ∈ zTs := zq 569 rfl rfl
set_option maxRecDepth 20000 in
theorem q_co_X3_isLawfulByOrders : Cond.code yX3_isLawfulByOrders cX3_isLawfulByOrders 2 (some .boolean) ∈ zTs := zq 570 rfl rfl
set_option maxRecDepth 20000 in
theorem q_ml_X3_217 : Cond.methodLink RX3 217 yX3_someOrderEnds ∈ zTs := zq 572 rfl rfl
set_option maxRecDepth 20000 in
theorem q_im_X3_someOrderEnds : Cond.instanceMethod yX3_someOrderEnds ∈ zTs := zq 574 rfl rfl
set_option maxRecDepth 20000 in
theorem q_co_X3_someOrderEnds : Cond.code yX3_someOrderEnds cX3_someOrderEnds 4 (some .boolean) ∈ zTs := zq 575 rfl rfl
set_option maxRecDepth 20000 in
theorem q_ml_L_159 : Cond.methodLink RL 159 yL_stepAt ∈ zTs := zq 576 rfl rfl
set_option maxRecDepth 20000 in
theorem q_st_L_stepAt : Cond.static yL_stepAt ∈ zTs := zq 577 rfl rfl
set_option maxRecDepth 20000 in
theorem q_cw_L_stepAt : Cond.codeWith yL_stepAt cL_stepAt 4 (some .int) [(0, 9, 12, 13), (0, 9, 15, 33)] ∈ zTs := zq 578 rfl rfl
set_option maxRecDepth 20000 in
theorem q_ml_L_66 : Cond.methodLink RL 66 yX3_stepAt ∈ zTs := zq 579 rfl rfl
set_option maxRecDepth 20000 in
theorem q_im_X3_stepAt : Cond.instanceMethod yX3_stepAt ∈ zTs := zq 580 rfl rfl
set_option maxRecDepth 20000 in
theorem q_se_X3_stepAt : Cond.selects RX3 yX3_stepAt yX3_stepAt ∈ zTs := zq 581 rfl rfl
set_option maxRecDepth 20000 in
theorem q_co_X3_stepAt : Cond.code yX3_stepAt cX3_stepAt 2 (some .int) ∈ zTs := zq 582 rfl rfl
set_option maxRecDepth 20000 in
theorem q_ml_X3_224 : Cond.methodLink RX3 224 yX3_stepOfFirstOrder ∈ zTs := zq 585 rfl rfl
set_option maxRecDepth 20000 in
theorem q_im_X3_stepOfFirstOrder : Cond.instanceMethod yX3_stepOfFirstOrder ∈ zTs := zq 587 rfl rfl
set_option maxRecDepth 20000 in
theorem q_co_X3_stepOfFirstOrder : Cond.code yX3_stepOfFirstOrder cX3_stepOfFirstOrder 4 (some .int) ∈ zTs := zq 588 rfl rfl
set_option maxRecDepth 20000 in
theorem q_cl_L_70 : Cond.classLink RL 70 RX4 ∈ zTs := zq 589 rfl rfl
set_option maxRecDepth 20000 in
theorem q_is_X4 : Cond.instantiable RX4 21 ∈ zTs := zq 590 rfl rfl
set_option maxRecDepth 20000 in
theorem q_ml_L_72 : Cond.methodLink RL 72 yX4_init ∈ zTs := zq 591 rfl rfl
set_option maxRecDepth 20000 in
theorem q_im_X4_init : Cond.instanceMethod yX4_init ∈ zTs := zq 592 rfl rfl
set_option maxRecDepth 20000 in
theorem q_co_X4_init : Cond.code yX4_init cX4_init 2 none ∈ zTs := zq 593 rfl rfl
set_option maxRecDepth 20000 in
theorem q_ml_X4_1 : Cond.methodLink RX4 1 objectInit ∈ zTs := zq 594 rfl rfl
set_option maxRecDepth 20000 in
theorem q_fl_X4_7 : Cond.fieldLink RX4 7 "RulesheetModel" "score" "[I" ∈ zTs := zq 595 rfl rfl
set_option maxRecDepth 20000 in
theorem q_fl_X4_13 : Cond.fieldLink RX4 13 "RulesheetModel" "taken" "[I" ∈ zTs := zq 596 rfl rfl
set_option maxRecDepth 20000 in
theorem q_fl_X4_16 : Cond.fieldLink RX4 16 "RulesheetModel" "level" "[I" ∈ zTs := zq 597 rfl rfl
set_option maxRecDepth 20000 in
theorem q_fl_X4_95 : Cond.fieldLink RX4 95 "RulesheetModel" "levels" "I" ∈ zTs := zq 598 rfl rfl
set_option maxRecDepth 20000 in
theorem q_fl_X4_111 : Cond.fieldLink RX4 111 "RulesheetModel" "gifts" "I" ∈ zTs := zq 599 rfl rfl
set_option maxRecDepth 20000 in
theorem q_fl_X4_19 : Cond.fieldLink RX4 19 "RulesheetModel" "needAbility" "[I" ∈ zTs := zq 600 rfl rfl
set_option maxRecDepth 20000 in
theorem q_fl_X4_22 : Cond.fieldLink RX4 22 "RulesheetModel" "needScore" "[I" ∈ zTs := zq 601 rfl rfl
set_option maxRecDepth 20000 in
theorem q_fl_X4_25 : Cond.fieldLink RX4 25 "RulesheetModel" "needCalling" "[I" ∈ zTs := zq 602 rfl rfl
set_option maxRecDepth 20000 in
theorem q_fl_X4_28 : Cond.fieldLink RX4 28 "RulesheetModel" "needLevel" "[I" ∈ zTs := zq 603 rfl rfl
set_option maxRecDepth 20000 in
theorem q_fl_X4_31 : Cond.fieldLink RX4 31 "RulesheetModel" "needGift" "[I" ∈ zTs := zq 604 rfl rfl
set_option maxRecDepth 20000 in
theorem q_fl_X4_34 : Cond.fieldLink RX4 34 "RulesheetModel" "barCalling" "[I" ∈ zTs := zq 605 rfl rfl
set_option maxRecDepth 20000 in
theorem q_fl_X4_37 : Cond.fieldLink RX4 37 "RulesheetModel" "barLevel" "[I" ∈ zTs := zq 606 rfl rfl
set_option maxRecDepth 20000 in
theorem q_fl_X4_40 : Cond.fieldLink RX4 40 "RulesheetModel" "bonusValue" "[I" ∈ zTs := zq 607 rfl rfl
set_option maxRecDepth 20000 in
theorem q_fl_X4_43 : Cond.fieldLink RX4 43 "RulesheetModel" "bonusKind" "[I" ∈ zTs := zq 608 rfl rfl
set_option maxRecDepth 20000 in
theorem q_fl_X4_46 : Cond.fieldLink RX4 46 "RulesheetModel" "amount" "[I" ∈ zTs := zq 609 rfl rfl
set_option maxRecDepth 20000 in
theorem q_fl_X4_49 : Cond.fieldLink RX4 49 "RulesheetModel" "base" "[I" ∈ zTs := zq 610 rfl rfl
set_option maxRecDepth 20000 in
theorem q_fl_X4_52 : Cond.fieldLink RX4 52 "RulesheetModel" "ofAbility" "[I" ∈ zTs := zq 611 rfl rfl
set_option maxRecDepth 20000 in
theorem q_fl_X4_55 : Cond.fieldLink RX4 55 "RulesheetModel" "ofCalling" "[I" ∈ zTs := zq 612 rfl rfl
set_option maxRecDepth 20000 in
theorem q_fl_X4_58 : Cond.fieldLink RX4 58 "RulesheetModel" "ofValue" "[I" ∈ zTs := zq 613 rfl rfl
set_option maxRecDepth 20000 in
theorem q_fl_X4_61 : Cond.fieldLink RX4 61 "RulesheetModel" "leads" "[Z" ∈ zTs := zq 614 rfl rfl
set_option maxRecDepth 20000 in
theorem q_fl_X4_65 : Cond.fieldLink RX4 65 "RulesheetModel" "thrown" "I" ∈ zTs := zq 615 rfl rfl
set_option maxRecDepth 20000 in
theorem q_ac_boolean : Cond.arrayClass .boolean ∈ zTs := zq 659 rfl rfl
set_option maxRecDepth 20000 in
theorem q_ml_L_79 : Cond.methodLink RL 79 yX4_thrown ∈ zTs := zq 660 rfl rfl
set_option maxRecDepth 20000 in
theorem q_im_X4_thrown : Cond.instanceMethod yX4_thrown ∈ zTs := zq 661 rfl rfl
set_option maxRecDepth 20000 in
theorem q_se_X4_thrown : Cond.selects RX4 yX4_thrown yX4_thrown ∈ zTs := zq 662 rfl rfl
set_option maxRecDepth 20000 in
theorem q_co_X4_thrown : Cond.code yX4_thrown cX4_thrown 1 (some .int) ∈ zTs := zq 663 rfl rfl
set_option maxRecDepth 20000 in
theorem q_ml_L_78 : Cond.methodLink RL 78 yX4_setNeeds ∈ zTs := zq 664 rfl rfl
set_option maxRecDepth 20000 in
theorem q_im_X4_setNeeds : Cond.instanceMethod yX4_setNeeds ∈ zTs := zq 665 rfl rfl
set_option maxRecDepth 20000 in
theorem q_se_X4_setNeeds : Cond.selects RX4 yX4_setNeeds yX4_setNeeds ∈ zTs := zq 666 rfl rfl
set_option maxRecDepth 20000 in
theorem q_co_X4_setNeeds : Cond.code yX4_setNeeds cX4_setNeeds 9 none ∈ zTs := zq 667 rfl rfl
set_option maxRecDepth 20000 in
theorem q_ml_X4_73 : Cond.methodLink RX4 73 yX4_isGift ∈ zTs := zq 668 rfl rfl
set_option maxRecDepth 20000 in
theorem q_st_X4_isGift : Cond.static yX4_isGift ∈ zTs := zq 669 rfl rfl
set_option maxRecDepth 20000 in
theorem q_co_X4_isGift : Cond.code yX4_isGift cX4_isGift 1 (some .boolean) ∈ zTs := zq 670 rfl rfl
set_option maxRecDepth 20000 in
theorem q_ml_X4_69 : Cond.methodLink RX4 69 yX4_in ∈ zTs := zq 671 rfl rfl
set_option maxRecDepth 20000 in
theorem q_st_X4_in : Cond.static yX4_in ∈ zTs := zq 672 rfl rfl
set_option maxRecDepth 20000 in
theorem q_co_X4_in : Cond.code yX4_in cX4_in 3 (some .boolean) ∈ zTs := zq 673 rfl rfl
set_option maxRecDepth 20000 in
theorem q_ml_X4_77 : Cond.methodLink RX4 77 yX4_goes ∈ zTs := zq 674 rfl rfl
set_option maxRecDepth 20000 in
theorem q_im_X4_goes : Cond.instanceMethod yX4_goes ∈ zTs := zq 676 rfl rfl
set_option maxRecDepth 20000 in
theorem q_co_X4_goes : Cond.code yX4_goes cX4_goes 4 (some .boolean) ∈ zTs := zq 677 rfl rfl
set_option maxRecDepth 20000 in
theorem q_ml_L_85 : Cond.methodLink RL 85 yX4_bar ∈ zTs := zq 678 rfl rfl
set_option maxRecDepth 20000 in
theorem q_im_X4_bar : Cond.instanceMethod yX4_bar ∈ zTs := zq 679 rfl rfl
set_option maxRecDepth 20000 in
theorem q_se_X4_bar : Cond.selects RX4 yX4_bar yX4_bar ∈ zTs := zq 680 rfl rfl
set_option maxRecDepth 20000 in
theorem q_co_X4_bar : Cond.code yX4_bar cX4_bar 4 none ∈ zTs := zq 681 rfl rfl
set_option maxRecDepth 20000 in
theorem q_ml_L_89 : Cond.methodLink RL 89 yX4_setBonus ∈ zTs := zq 682 rfl rfl
set_option maxRecDepth 20000 in
theorem q_im_X4_setBonus : Cond.instanceMethod yX4_setBonus ∈ zTs := zq 683 rfl rfl
set_option maxRecDepth 20000 in
theorem q_se_X4_setBonus : Cond.selects RX4 yX4_setBonus yX4_setBonus ∈ zTs := zq 684 rfl rfl
set_option maxRecDepth 20000 in
theorem q_co_X4_setBonus : Cond.code yX4_setBonus cX4_setBonus 5 none ∈ zTs := zq 685 rfl rfl
set_option maxRecDepth 20000 in
theorem q_ml_L_93 : Cond.methodLink RL 93 yX4_setValue ∈ zTs := zq 686 rfl rfl
set_option maxRecDepth 20000 in
theorem q_im_X4_setValue : Cond.instanceMethod yX4_setValue ∈ zTs := zq 687 rfl rfl
set_option maxRecDepth 20000 in
theorem q_se_X4_setValue : Cond.selects RX4 yX4_setValue yX4_setValue ∈ zTs := zq 688 rfl rfl
set_option maxRecDepth 20000 in
theorem q_co_X4_setValue : Cond.code yX4_setValue cX4_setValue 7 none ∈ zTs := zq 689 rfl rfl
set_option maxRecDepth 20000 in
theorem q_ml_X4_81 : Cond.methodLink RX4 81 yX4_isValue ∈ zTs := zq 690 rfl rfl
set_option maxRecDepth 20000 in
theorem q_st_X4_isValue : Cond.static yX4_isValue ∈ zTs := zq 691 rfl rfl
set_option maxRecDepth 20000 in
theorem q_co_X4_isValue : Cond.code yX4_isValue cX4_isValue 1 (some .boolean) ∈ zTs := zq 692 rfl rfl
set_option maxRecDepth 20000 in
theorem q_ml_L_97 : Cond.methodLink RL 97 yX4_setScore ∈ zTs := zq 693 rfl rfl
set_option maxRecDepth 20000 in
theorem q_im_X4_setScore : Cond.instanceMethod yX4_setScore ∈ zTs := zq 694 rfl rfl
set_option maxRecDepth 20000 in
theorem q_se_X4_setScore : Cond.selects RX4 yX4_setScore yX4_setScore ∈ zTs := zq 695 rfl rfl
set_option maxRecDepth 20000 in
theorem q_co_X4_setScore : Cond.code yX4_setScore cX4_setScore 5 (some .int) ∈ zTs := zq 696 rfl rfl
set_option maxRecDepth 20000 in
theorem q_ml_X4_88 : Cond.methodLink RX4 88 yX4_cost ∈ zTs := zq 697 rfl rfl
set_option maxRecDepth 20000 in
theorem q_im_X4_cost : Cond.instanceMethod yX4_cost ∈ zTs := zq 699 rfl rfl
set_option maxRecDepth 20000 in
theorem q_co_X4_cost : Cond.code yX4_cost cX4_cost 3 (some .int) ∈ zTs := zq 700 rfl rfl
set_option maxRecDepth 20000 in
theorem q_ml_X4_84 : Cond.methodLink RX4 84 yX4_costOf ∈ zTs := zq 701 rfl rfl
set_option maxRecDepth 20000 in
theorem q_st_X4_costOf : Cond.static yX4_costOf ∈ zTs := zq 702 rfl rfl
set_option maxRecDepth 20000 in
theorem q_co_X4_costOf : Cond.code yX4_costOf cX4_costOf 1 (some .int) ∈ zTs := zq 703 rfl rfl
set_option maxRecDepth 20000 in
theorem q_ml_L_101 : Cond.methodLink RL 101 yX4_takeLevel ∈ zTs := zq 704 rfl rfl
set_option maxRecDepth 20000 in
theorem q_im_X4_takeLevel : Cond.instanceMethod yX4_takeLevel ∈ zTs := zq 705 rfl rfl
set_option maxRecDepth 20000 in
theorem q_se_X4_takeLevel : Cond.selects RX4 yX4_takeLevel yX4_takeLevel ∈ zTs := zq 706 rfl rfl
set_option maxRecDepth 20000 in
theorem q_co_X4_takeLevel : Cond.code yX4_takeLevel cX4_takeLevel 2 (some .int) ∈ zTs := zq 707 rfl rfl
set_option maxRecDepth 20000 in
theorem q_ml_X4_92 : Cond.methodLink RX4 92 yX4_isCalling ∈ zTs := zq 708 rfl rfl
set_option maxRecDepth 20000 in
theorem q_st_X4_isCalling : Cond.static yX4_isCalling ∈ zTs := zq 709 rfl rfl
set_option maxRecDepth 20000 in
theorem q_co_X4_isCalling : Cond.code yX4_isCalling cX4_isCalling 1 (some .boolean) ∈ zTs := zq 710 rfl rfl
set_option maxRecDepth 20000 in
theorem q_ml_L_104 : Cond.methodLink RL 104 yX4_takeGift ∈ zTs := zq 711 rfl rfl
set_option maxRecDepth 20000 in
theorem q_im_X4_takeGift : Cond.instanceMethod yX4_takeGift ∈ zTs := zq 712 rfl rfl
set_option maxRecDepth 20000 in
theorem q_se_X4_takeGift : Cond.selects RX4 yX4_takeGift yX4_takeGift ∈ zTs := zq 713 rfl rfl
set_option maxRecDepth 20000 in
theorem q_co_X4_takeGift : Cond.code yX4_takeGift cX4_takeGift 3 (some .int) ∈ zTs := zq 714 rfl rfl
set_option maxRecDepth 20000 in
theorem q_ml_X4_118 : Cond.methodLink RX4 118 yX4_mayTakeNow ∈ zTs := zq 715 rfl rfl
set_option maxRecDepth 20000 in
theorem q_im_X4_mayTakeNow : Cond.instanceMethod yX4_mayTakeNow ∈ zTs := zq 717 rfl rfl
set_option maxRecDepth 20000 in
theorem q_co_X4_mayTakeNow : Cond.code yX4_mayTakeNow cX4_mayTakeNow 2 (some .boolean) ∈ zTs := zq 718 rfl rfl
set_option maxRecDepth 20000 in
theorem q_ml_X4_114 : Cond.methodLink RX4 114 yX4_mayTake ∈ zTs := zq 719 rfl rfl
set_option maxRecDepth 20000 in
theorem q_im_X4_mayTake : Cond.instanceMethod yX4_mayTake ∈ zTs := zq 721 rfl rfl
set_option maxRecDepth 20000 in
theorem q_co_X4_mayTake : Cond.code yX4_mayTake cX4_mayTake 12 (some .boolean) ∈ zTs := zq 722 rfl rfl
set_option maxRecDepth 20000 in
theorem q_ml_X4_98 : Cond.methodLink RX4 98 yX4_many ∈ zTs := zq 723 rfl rfl
set_option maxRecDepth 20000 in
theorem q_st_X4_many : Cond.static yX4_many ∈ zTs := zq 724 rfl rfl
set_option maxRecDepth 20000 in
theorem q_co_X4_many : Cond.code yX4_many cX4_many 3 (some .int) ∈ zTs := zq 725 rfl rfl
set_option maxRecDepth 20000 in
theorem q_ml_X4_101 : Cond.methodLink RX4 101 yX4_half ∈ zTs := zq 726 rfl rfl
set_option maxRecDepth 20000 in
theorem q_st_X4_half : Cond.static yX4_half ∈ zTs := zq 727 rfl rfl
set_option maxRecDepth 20000 in
theorem q_co_X4_half : Cond.code yX4_half cX4_half 1 (some .int) ∈ zTs := zq 728 rfl rfl
set_option maxRecDepth 20000 in
theorem q_ml_X4_104 : Cond.methodLink RX4 104 yX4_areScores ∈ zTs := zq 729 rfl rfl
set_option maxRecDepth 20000 in
theorem q_im_X4_areScores : Cond.instanceMethod yX4_areScores ∈ zTs := zq 731 rfl rfl
set_option maxRecDepth 20000 in
theorem q_co_X4_areScores : Cond.code yX4_areScores cX4_areScores 2 (some .boolean) ∈ zTs := zq 732 rfl rfl
set_option maxRecDepth 20000 in
theorem q_ml_X4_107 : Cond.methodLink RX4 107 yX4_has ∈ zTs := zq 733 rfl rfl
set_option maxRecDepth 20000 in
theorem q_st_X4_has : Cond.static yX4_has ∈ zTs := zq 734 rfl rfl
set_option maxRecDepth 20000 in
theorem q_co_X4_has : Cond.code yX4_has cX4_has 2 (some .boolean) ∈ zTs := zq 735 rfl rfl
set_option maxRecDepth 20000 in
theorem q_ml_L_108 : Cond.methodLink RL 108 yX4_loseLevel ∈ zTs := zq 736 rfl rfl
set_option maxRecDepth 20000 in
theorem q_im_X4_loseLevel : Cond.instanceMethod yX4_loseLevel ∈ zTs := zq 737 rfl rfl
set_option maxRecDepth 20000 in
theorem q_se_X4_loseLevel : Cond.selects RX4 yX4_loseLevel yX4_loseLevel ∈ zTs := zq 738 rfl rfl
set_option maxRecDepth 20000 in
theorem q_co_X4_loseLevel : Cond.code yX4_loseLevel cX4_loseLevel 1 (some .int) ∈ zTs := zq 739 rfl rfl
set_option maxRecDepth 20000 in
theorem q_ml_L_111 : Cond.methodLink RL 111 yX4_exchange ∈ zTs := zq 740 rfl rfl
set_option maxRecDepth 20000 in
theorem q_im_X4_exchange : Cond.instanceMethod yX4_exchange ∈ zTs := zq 741 rfl rfl
set_option maxRecDepth 20000 in
theorem q_se_X4_exchange : Cond.selects RX4 yX4_exchange yX4_exchange ∈ zTs := zq 742 rfl rfl
set_option maxRecDepth 20000 in
theorem q_co_X4_exchange : Cond.code yX4_exchange cX4_exchange 7 (some .int) ∈ zTs := zq 743 rfl rfl
set_option maxRecDepth 20000 in
theorem q_ml_X4_121 : Cond.methodLink RX4 121 yX4_isLawfulWith ∈ zTs := zq 744 rfl rfl
set_option maxRecDepth 20000 in
theorem q_im_X4_isLawfulWith : Cond.instanceMethod yX4_isLawfulWith ∈ zTs := zq 746 rfl rfl
set_option maxRecDepth 20000 in
theorem q_co_X4_isLawfulWith : Cond.code yX4_isLawfulWith cX4_isLawfulWith 6 (some .boolean) ∈ zTs := zq 747 rfl rfl
set_option maxRecDepth 20000 in
theorem q_ml_X4_142 : Cond.methodLink RX4 142 yX4_place ∈ zTs := zq 748 rfl rfl
set_option maxRecDepth 20000 in
theorem q_im_X4_place : Cond.instanceMethod yX4_place ∈ zTs := zq 750 rfl rfl
set_option maxRecDepth 20000 in
theorem q_co_X4_place : Cond.code yX4_place cX4_place 5 (some .int) ∈ zTs := zq 751 rfl rfl
set_option maxRecDepth 20000 in
theorem q_ml_X4_146 : Cond.methodLink RX4 146 yX4_leadsOn ∈ zTs := zq 752 rfl rfl
set_option maxRecDepth 20000 in
theorem q_im_X4_leadsOn : Cond.instanceMethod yX4_leadsOn ∈ zTs := zq 754 rfl rfl
set_option maxRecDepth 20000 in
theorem q_co_X4_leadsOn : Cond.code yX4_leadsOn cX4_leadsOn 8 (some .boolean) ∈ zTs := zq 755 rfl rfl
set_option maxRecDepth 20000 in
theorem q_ml_X4_124 : Cond.methodLink RX4 124 yX4_workingOf ∈ zTs := zq 756 rfl rfl
set_option maxRecDepth 20000 in
theorem q_im_X4_workingOf : Cond.instanceMethod yX4_workingOf ∈ zTs := zq 758 rfl rfl
set_option maxRecDepth 20000 in
theorem q_co_X4_workingOf : Cond.code yX4_workingOf cX4_workingOf 6 (some .int) ∈ zTs := zq 759 rfl rfl
set_option maxRecDepth 20000 in
theorem q_ml_L_115 : Cond.methodLink RL 115 yX4_clear ∈ zTs := zq 760 rfl rfl
set_option maxRecDepth 20000 in
theorem q_im_X4_clear : Cond.instanceMethod yX4_clear ∈ zTs := zq 761 rfl rfl
set_option maxRecDepth 20000 in
theorem q_se_X4_clear : Cond.selects RX4 yX4_clear yX4_clear ∈ zTs := zq 762 rfl rfl
set_option maxRecDepth 20000 in
theorem q_co_X4_clear : Cond.code yX4_clear cX4_clear 3 (some .int) ∈ zTs := zq 763 rfl rfl
set_option maxRecDepth 20000 in
theorem q_ml_X4_127 : Cond.methodLink RX4 127 yX4_told ∈ zTs := zq 764 rfl rfl
set_option maxRecDepth 20000 in
theorem q_im_X4_told : Cond.instanceMethod yX4_told ∈ zTs := zq 766 rfl rfl
set_option maxRecDepth 20000 in
theorem q_co_X4_told : Cond.code yX4_told cX4_told 2 (some .int) ∈ zTs := zq 767 rfl rfl
set_option maxRecDepth 20000 in
theorem q_ml_L_118 : Cond.methodLink RL 118 yX4_level ∈ zTs := zq 768 rfl rfl
set_option maxRecDepth 20000 in
theorem q_im_X4_level : Cond.instanceMethod yX4_level ∈ zTs := zq 769 rfl rfl
set_option maxRecDepth 20000 in
theorem q_se_X4_level : Cond.selects RX4 yX4_level yX4_level ∈ zTs := zq 770 rfl rfl
set_option maxRecDepth 20000 in
theorem q_co_X4_level : Cond.code yX4_level cX4_level 2 (some .int) ∈ zTs := zq 771 rfl rfl
set_option maxRecDepth 20000 in
theorem q_ml_L_122 : Cond.methodLink RL 122 yX4_gifts ∈ zTs := zq 772 rfl rfl
set_option maxRecDepth 20000 in
theorem q_im_X4_gifts : Cond.instanceMethod yX4_gifts ∈ zTs := zq 773 rfl rfl
set_option maxRecDepth 20000 in
theorem q_se_X4_gifts : Cond.selects RX4 yX4_gifts yX4_gifts ∈ zTs := zq 774 rfl rfl
set_option maxRecDepth 20000 in
theorem q_co_X4_gifts : Cond.code yX4_gifts cX4_gifts 1 (some .int) ∈ zTs := zq 775 rfl rfl
set_option maxRecDepth 20000 in
theorem q_ml_L_126 : Cond.methodLink RL 126 yX4_working ∈ zTs := zq 776 rfl rfl
set_option maxRecDepth 20000 in
theorem q_im_X4_working : Cond.instanceMethod yX4_working ∈ zTs := zq 777 rfl rfl
set_option maxRecDepth 20000 in
theorem q_se_X4_working : Cond.selects RX4 yX4_working yX4_working ∈ zTs := zq 778 rfl rfl
set_option maxRecDepth 20000 in
theorem q_co_X4_working : Cond.code yX4_working cX4_working 1 (some .int) ∈ zTs := zq 779 rfl rfl
set_option maxRecDepth 20000 in
theorem q_ml_L_130 : Cond.methodLink RL 130 yX4_open ∈ zTs := zq 780 rfl rfl
set_option maxRecDepth 20000 in
theorem q_im_X4_open : Cond.instanceMethod yX4_open ∈ zTs := zq 781 rfl rfl
set_option maxRecDepth 20000 in
theorem q_se_X4_open : Cond.selects RX4 yX4_open yX4_open ∈ zTs := zq 782 rfl rfl
set_option maxRecDepth 20000 in
theorem q_co_X4_open : Cond.code yX4_open cX4_open 3 (some .int) ∈ zTs := zq 783 rfl rfl
set_option maxRecDepth 20000 in
theorem q_ml_L_134 : Cond.methodLink RL 134 yX4_places ∈ zTs := zq 784 rfl rfl
set_option maxRecDepth 20000 in
theorem q_im_X4_places : Cond.instanceMethod yX4_places ∈ zTs := zq 785 rfl rfl
set_option maxRecDepth 20000 in
theorem q_se_X4_places : Cond.selects RX4 yX4_places yX4_places ∈ zTs := zq 786 rfl rfl
set_option maxRecDepth 20000 in
theorem q_co_X4_places : Cond.code yX4_places cX4_places 1 (some .int) ∈ zTs := zq 787 rfl rfl
set_option maxRecDepth 20000 in
theorem q_ml_L_138 : Cond.methodLink RL 138 yX4_points ∈ zTs := zq 788 rfl rfl
set_option maxRecDepth 20000 in
theorem q_im_X4_points : Cond.instanceMethod yX4_points ∈ zTs := zq 789 rfl rfl
set_option maxRecDepth 20000 in
theorem q_se_X4_points : Cond.selects RX4 yX4_points yX4_points ∈ zTs := zq 790 rfl rfl
set_option maxRecDepth 20000 in
theorem q_co_X4_points : Cond.code yX4_points cX4_points 1 (some .int) ∈ zTs := zq 791 rfl rfl
set_option maxRecDepth 20000 in
theorem q_ml_L_141 : Cond.methodLink RL 141 yX4_value ∈ zTs := zq 792 rfl rfl
set_option maxRecDepth 20000 in
theorem q_im_X4_value : Cond.instanceMethod yX4_value ∈ zTs := zq 793 rfl rfl
set_option maxRecDepth 20000 in
theorem q_se_X4_value : Cond.selects RX4 yX4_value yX4_value ∈ zTs := zq 794 rfl rfl
set_option maxRecDepth 20000 in
theorem q_co_X4_value : Cond.code yX4_value cX4_value 7 (some .int) ∈ zTs := zq 795 rfl rfl
set_option maxRecDepth 20000 in
theorem q_ml_X4_134 : Cond.methodLink RX4 134 yX4_isEndless ∈ zTs := zq 796 rfl rfl
set_option maxRecDepth 20000 in
theorem q_im_X4_isEndless : Cond.instanceMethod yX4_isEndless ∈ zTs := zq 798 rfl rfl
set_option maxRecDepth 20000 in
theorem q_co_X4_isEndless : Cond.code yX4_isEndless cX4_isEndless 4 (some .boolean) ∈ zTs := zq 799 rfl rfl
set_option maxRecDepth 20000 in
theorem q_ml_X4_137 : Cond.methodLink RX4 137 yX4_alone ∈ zTs := zq 800 rfl rfl
set_option maxRecDepth 20000 in
theorem q_im_X4_alone : Cond.instanceMethod yX4_alone ∈ zTs := zq 802 rfl rfl
set_option maxRecDepth 20000 in
theorem q_co_X4_alone : Cond.code yX4_alone cX4_alone 4 (some .int) ∈ zTs := zq 803 rfl rfl
set_option maxRecDepth 20000 in
theorem q_ml_X4_130 : Cond.methodLink RX4 130 yX4_bonusOf ∈ zTs := zq 804 rfl rfl
set_option maxRecDepth 20000 in
theorem q_im_X4_bonusOf : Cond.instanceMethod yX4_bonusOf ∈ zTs := zq 806 rfl rfl
set_option maxRecDepth 20000 in
theorem q_co_X4_bonusOf : Cond.code yX4_bonusOf cX4_bonusOf 8 (some .int) ∈ zTs := zq 807 rfl rfl
set_option maxRecDepth 20000 in
theorem q_ml_L_144 : Cond.methodLink RL 144 yX4_bonus ∈ zTs := zq 808 rfl rfl
set_option maxRecDepth 20000 in
theorem q_im_X4_bonus : Cond.instanceMethod yX4_bonus ∈ zTs := zq 809 rfl rfl
set_option maxRecDepth 20000 in
theorem q_se_X4_bonus : Cond.selects RX4 yX4_bonus yX4_bonus ∈ zTs := zq 810 rfl rfl
set_option maxRecDepth 20000 in
theorem q_co_X4_bonus : Cond.code yX4_bonus cX4_bonus 3 (some .int) ∈ zTs := zq 811 rfl rfl
set_option maxRecDepth 20000 in
theorem q_ml_L_147 : Cond.methodLink RL 147 yX4_isRing ∈ zTs := zq 812 rfl rfl
set_option maxRecDepth 20000 in
theorem q_im_X4_isRing : Cond.instanceMethod yX4_isRing ∈ zTs := zq 813 rfl rfl
set_option maxRecDepth 20000 in
theorem q_se_X4_isRing : Cond.selects RX4 yX4_isRing yX4_isRing ∈ zTs := zq 814 rfl rfl
set_option maxRecDepth 20000 in
theorem q_co_X4_isRing : Cond.code yX4_isRing cX4_isRing 2 (some .boolean) ∈ zTs := zq 815 rfl rfl
set_option maxRecDepth 20000 in
theorem q_ml_L_151 : Cond.methodLink RL 151 yX4_attack ∈ zTs := zq 816 rfl rfl
set_option maxRecDepth 20000 in
theorem q_im_X4_attack : Cond.instanceMethod yX4_attack ∈ zTs := zq 817 rfl rfl
set_option maxRecDepth 20000 in
theorem q_se_X4_attack : Cond.selects RX4 yX4_attack yX4_attack ∈ zTs := zq 818 rfl rfl
set_option maxRecDepth 20000 in
theorem q_co_X4_attack : Cond.code yX4_attack cX4_attack 4 (some .int) ∈ zTs := zq 819 rfl rfl
set_option maxRecDepth 20000 in
theorem q_kf_X4_140 : Cond.constantFloat RX4 140 (1082130432) ∈ zTs := zq 820 rfl rfl
set_option maxRecDepth 20000 in
theorem q_kf_X4_141 : Cond.constantFloat RX4 141 (1040187392) ∈ zTs := zq 821 rfl rfl
set_option maxRecDepth 20000 in
theorem q_ml_L_155 : Cond.methodLink RL 155 yX4_isLawful ∈ zTs := zq 822 rfl rfl
set_option maxRecDepth 20000 in
theorem q_im_X4_isLawful : Cond.instanceMethod yX4_isLawful ∈ zTs := zq 823 rfl rfl
set_option maxRecDepth 20000 in
theorem q_se_X4_isLawful : Cond.selects RX4 yX4_isLawful yX4_isLawful ∈ zTs := zq 824 rfl rfl
set_option maxRecDepth 20000 in
theorem q_co_X4_isLawful : Cond.code yX4_isLawful cX4_isLawful 1 (some .boolean) ∈ zTs := zq 825 rfl rfl
set_option maxRecDepth 20000 in
theorem q_ml_L_158 : Cond.methodLink RL 158 yX4_isLawfulByOrders ∈ zTs := zq 826 rfl rfl
set_option maxRecDepth 20000 in
theorem q_im_X4_isLawfulByOrders : Cond.instanceMethod yX4_isLawfulByOrders ∈ zTs := zq 827 rfl rfl
set_option maxRecDepth 20000 in
theorem q_se_X4_isLawfulByOrders : Cond.selects RX4 yX4_isLawfulByOrders yX4_isLawfulByOrders ∈ zTs := zq 828 rfl rfl
set_option maxRecDepth 20000 in
theorem q_co_X4_isLawfulByOrders : Cond.code yX4_isLawfulByOrders cX4_isLawfulByOrders 1 (some .boolean) ∈ zTs := zq 829 rfl rfl
set_option maxRecDepth 20000 in
theorem q_ml_L_161 : Cond.methodLink RL 161 yX4_stepAt ∈ zTs := zq 830 rfl rfl
set_option maxRecDepth 20000 in
theorem q_im_X4_stepAt : Cond.instanceMethod yX4_stepAt ∈ zTs := zq 831 rfl rfl
set_option maxRecDepth 20000 in
theorem q_se_X4_stepAt : Cond.selects RX4 yX4_stepAt yX4_stepAt ∈ zTs := zq 832 rfl rfl
set_option maxRecDepth 20000 in
theorem q_co_X4_stepAt : Cond.code yX4_stepAt cX4_stepAt 8 (some .int) ∈ zTs := zq 833 rfl rfl
set_option maxRecDepth 20000 in
theorem q_ml_X4_149 : Cond.methodLink RX4 149 yX4_firstStep ∈ zTs := zq 834 rfl rfl
set_option maxRecDepth 20000 in
theorem q_im_X4_firstStep : Cond.instanceMethod yX4_firstStep ∈ zTs := zq 836 rfl rfl
set_option maxRecDepth 20000 in
theorem q_co_X4_firstStep : Cond.code yX4_firstStep cX4_firstStep 8 (some .int) ∈ zTs := zq 837 rfl rfl
set_option maxRecDepth 20000 in
theorem q_ac_long : Cond.arrayClass .long ∈ zTs := zq 838 rfl rfl
def zNest : Cond := Cond.methodLinkNest RX0 31 yX3_isAmong "Rulesheet"
