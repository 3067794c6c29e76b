theorem dL_at_0 : decode cL_at 0 = .ok (.iload_n 1, 1) := by decide +kernel
theorem dL_at_1 : decode cL_at 1 = .ok (.aload_n 0, 1) := by decide +kernel
theorem dL_at_2 : decode cL_at 2 = .ok (.arraylength, 1) := by decide +kernel
theorem dL_at_3 : decode cL_at 3 = .ok (.if_icmp .ge 9, 3) := by decide +kernel
theorem dL_at_6 : decode cL_at 6 = .ok (.aload_n 0, 1) := by decide +kernel
theorem dL_at_7 : decode cL_at 7 = .ok (.iload_n 1, 1) := by decide +kernel
theorem dL_at_8 : decode cL_at 8 = .ok (.iaload, 1) := by decide +kernel
theorem dL_at_9 : decode cL_at 9 = .ok (.goto 12, 3) := by decide +kernel
theorem dL_at_12 : decode cL_at 12 = .ok (.ldc 7, 2) := by decide +kernel
theorem dL_at_14 : decode cL_at 14 = .ok (.iload_n 1, 1) := by decide +kernel
theorem dL_at_15 : decode cL_at 15 = .ok (.iconst 1, 1) := by decide +kernel
theorem dL_at_16 : decode cL_at 16 = .ok (.iadd, 1) := by decide +kernel
theorem dL_at_17 : decode cL_at 17 = .ok (.imul, 1) := by decide +kernel
theorem dL_at_18 : decode cL_at 18 = .ok (.ldc 8, 2) := by decide +kernel
theorem dL_at_20 : decode cL_at 20 = .ok (.iadd, 1) := by decide +kernel
theorem dL_at_21 : decode cL_at 21 = .ok (.ireturn, 1) := by decide +kernel
theorem dL_low_0 : decode cL_low 0 = .ok (.iload_n 0, 1) := by decide +kernel
theorem dL_low_1 : decode cL_low 1 = .ok (.ldc 9, 2) := by decide +kernel
theorem dL_low_3 : decode cL_low 3 = .ok (.iand, 1) := by decide +kernel
theorem dL_low_4 : decode cL_low 4 = .ok (.iload_n 1, 1) := by decide +kernel
theorem dL_low_5 : decode cL_low 5 = .ok (.irem, 1) := by decide +kernel
theorem dL_low_6 : decode cL_low 6 = .ok (.ireturn, 1) := by decide +kernel
theorem dL_setNeeds_0 : decode cL_setNeeds 0 = .ok (.aload_n 0, 1) := by decide +kernel
theorem dL_setNeeds_1 : decode cL_setNeeds 1 = .ok (.iload_n 1, 1) := by decide +kernel
theorem dL_setNeeds_2 : decode cL_setNeeds 2 = .ok (.iload_n 2, 1) := by decide +kernel
theorem dL_setNeeds_3 : decode cL_setNeeds 3 = .ok (.iload_n 3, 1) := by decide +kernel
theorem dL_setNeeds_4 : decode cL_setNeeds 4 = .ok (.iload 4, 2) := by decide +kernel
theorem dL_setNeeds_6 : decode cL_setNeeds 6 = .ok (.iload 5, 2) := by decide +kernel
theorem dL_setNeeds_8 : decode cL_setNeeds 8 = .ok (.iload 6, 2) := by decide +kernel
theorem dL_setNeeds_10 : decode cL_setNeeds 10 = .ok (.invokevirtual 10, 3) := by decide +kernel
theorem dL_setNeeds_13 : decode cL_setNeeds 13 = .ok (.iconst 0, 1) := by decide +kernel
theorem dL_setNeeds_14 : decode cL_setNeeds 14 = .ok (.ireturn, 1) := by decide +kernel
theorem dL_setNeeds_15 : decode cL_setNeeds 15 = .ok (.astore 7, 2) := by decide +kernel
theorem dL_setNeeds_17 : decode cL_setNeeds 17 = .ok (.ldc 18, 2) := by decide +kernel
theorem dL_setNeeds_19 : decode cL_setNeeds 19 = .ok (.ireturn, 1) := by decide +kernel
theorem dL_setNeeds_20 : decode cL_setNeeds 20 = .ok (.astore 7, 2) := by decide +kernel
theorem dL_setNeeds_22 : decode cL_setNeeds 22 = .ok (.ldc 21, 2) := by decide +kernel
theorem dL_setNeeds_24 : decode cL_setNeeds 24 = .ok (.ireturn, 1) := by decide +kernel
theorem dL_bar_0 : decode cL_bar 0 = .ok (.aload_n 0, 1) := by decide +kernel
theorem dL_bar_1 : decode cL_bar 1 = .ok (.iload_n 1, 1) := by decide +kernel
theorem dL_bar_2 : decode cL_bar 2 = .ok (.iload_n 2, 1) := by decide +kernel
theorem dL_bar_3 : decode cL_bar 3 = .ok (.iload_n 3, 1) := by decide +kernel
theorem dL_bar_4 : decode cL_bar 4 = .ok (.invokevirtual 22, 3) := by decide +kernel
theorem dL_bar_7 : decode cL_bar 7 = .ok (.iconst 0, 1) := by decide +kernel
theorem dL_bar_8 : decode cL_bar 8 = .ok (.ireturn, 1) := by decide +kernel
theorem dL_bar_9 : decode cL_bar 9 = .ok (.astore 4, 2) := by decide +kernel
theorem dL_bar_11 : decode cL_bar 11 = .ok (.ldc 18, 2) := by decide +kernel
theorem dL_bar_13 : decode cL_bar 13 = .ok (.ireturn, 1) := by decide +kernel
theorem dL_bar_14 : decode cL_bar 14 = .ok (.astore 4, 2) := by decide +kernel
theorem dL_bar_16 : decode cL_bar 16 = .ok (.ldc 21, 2) := by decide +kernel
theorem dL_bar_18 : decode cL_bar 18 = .ok (.ireturn, 1) := by decide +kernel
theorem dL_setBonus_0 : decode cL_setBonus 0 = .ok (.aload_n 0, 1) := by decide +kernel
theorem dL_setBonus_1 : decode cL_setBonus 1 = .ok (.iload_n 1, 1) := by decide +kernel
theorem dL_setBonus_2 : decode cL_setBonus 2 = .ok (.iload_n 2, 1) := by decide +kernel
theorem dL_setBonus_3 : decode cL_setBonus 3 = .ok (.iload_n 3, 1) := by decide +kernel
theorem dL_setBonus_4 : decode cL_setBonus 4 = .ok (.iload 4, 2) := by decide +kernel
theorem dL_setBonus_6 : decode cL_setBonus 6 = .ok (.invokevirtual 26, 3) := by decide +kernel
theorem dL_setBonus_9 : decode cL_setBonus 9 = .ok (.iconst 0, 1) := by decide +kernel
theorem dL_setBonus_10 : decode cL_setBonus 10 = .ok (.ireturn, 1) := by decide +kernel
theorem dL_setBonus_11 : decode cL_setBonus 11 = .ok (.astore 5, 2) := by decide +kernel
theorem dL_setBonus_13 : decode cL_setBonus 13 = .ok (.ldc 18, 2) := by decide +kernel
theorem dL_setBonus_15 : decode cL_setBonus 15 = .ok (.ireturn, 1) := by decide +kernel
theorem dL_setBonus_16 : decode cL_setBonus 16 = .ok (.astore 5, 2) := by decide +kernel
theorem dL_setBonus_18 : decode cL_setBonus 18 = .ok (.ldc 21, 2) := by decide +kernel
theorem dL_setBonus_20 : decode cL_setBonus 20 = .ok (.ireturn, 1) := by decide +kernel
theorem dL_setValue_0 : decode cL_setValue 0 = .ok (.aload_n 0, 1) := by decide +kernel
theorem dL_setValue_1 : decode cL_setValue 1 = .ok (.iload_n 1, 1) := by decide +kernel
theorem dL_setValue_2 : decode cL_setValue 2 = .ok (.iload_n 2, 1) := by decide +kernel
theorem dL_setValue_3 : decode cL_setValue 3 = .ok (.iload_n 3, 1) := by decide +kernel
theorem dL_setValue_4 : decode cL_setValue 4 = .ok (.iload 4, 2) := by decide +kernel
theorem dL_setValue_6 : decode cL_setValue 6 = .ok (.iload 5, 2) := by decide +kernel
theorem dL_setValue_8 : decode cL_setValue 8 = .ok (.invokevirtual 30, 3) := by decide +kernel
theorem dL_setValue_11 : decode cL_setValue 11 = .ok (.iconst 0, 1) := by decide +kernel
theorem dL_setValue_12 : decode cL_setValue 12 = .ok (.ireturn, 1) := by decide +kernel
theorem dL_setValue_13 : decode cL_setValue 13 = .ok (.astore 6, 2) := by decide +kernel
theorem dL_setValue_15 : decode cL_setValue 15 = .ok (.ldc 18, 2) := by decide +kernel
theorem dL_setValue_17 : decode cL_setValue 17 = .ok (.ireturn, 1) := by decide +kernel
theorem dL_setValue_18 : decode cL_setValue 18 = .ok (.astore 6, 2) := by decide +kernel
theorem dL_setValue_20 : decode cL_setValue 20 = .ok (.ldc 21, 2) := by decide +kernel
theorem dL_setValue_22 : decode cL_setValue 22 = .ok (.ireturn, 1) := by decide +kernel
theorem dL_setScore_0 : decode cL_setScore 0 = .ok (.aload_n 0, 1) := by decide +kernel
theorem dL_setScore_1 : decode cL_setScore 1 = .ok (.iload_n 1, 1) := by decide +kernel
theorem dL_setScore_2 : decode cL_setScore 2 = .ok (.iload_n 2, 1) := by decide +kernel
theorem dL_setScore_3 : decode cL_setScore 3 = .ok (.invokevirtual 34, 3) := by decide +kernel
theorem dL_setScore_6 : decode cL_setScore 6 = .ok (.ireturn, 1) := by decide +kernel
theorem dL_setScore_7 : decode cL_setScore 7 = .ok (.astore_n 3, 1) := by decide +kernel
theorem dL_setScore_8 : decode cL_setScore 8 = .ok (.ldc 18, 2) := by decide +kernel
theorem dL_setScore_10 : decode cL_setScore 10 = .ok (.ireturn, 1) := by decide +kernel
theorem dL_setScore_11 : decode cL_setScore 11 = .ok (.astore_n 3, 1) := by decide +kernel
theorem dL_setScore_12 : decode cL_setScore 12 = .ok (.ldc 21, 2) := by decide +kernel
theorem dL_setScore_14 : decode cL_setScore 14 = .ok (.ireturn, 1) := by decide +kernel
theorem dL_setScore_15 : decode cL_setScore 15 = .ok (.astore_n 3, 1) := by decide +kernel
theorem dL_setScore_16 : decode cL_setScore 16 = .ok (.ldc 40, 2) := by decide +kernel
theorem dL_setScore_18 : decode cL_setScore 18 = .ok (.ireturn, 1) := by decide +kernel
theorem dL_takeLevel_0 : decode cL_takeLevel 0 = .ok (.aload_n 0, 1) := by decide +kernel
theorem dL_takeLevel_1 : decode cL_takeLevel 1 = .ok (.iload_n 1, 1) := by decide +kernel
theorem dL_takeLevel_2 : decode cL_takeLevel 2 = .ok (.invokevirtual 41, 3) := by decide +kernel
theorem dL_takeLevel_5 : decode cL_takeLevel 5 = .ok (.ireturn, 1) := by decide +kernel
theorem dL_takeLevel_6 : decode cL_takeLevel 6 = .ok (.astore_n 2, 1) := by decide +kernel
theorem dL_takeLevel_7 : decode cL_takeLevel 7 = .ok (.ldc 18, 2) := by decide +kernel
theorem dL_takeLevel_9 : decode cL_takeLevel 9 = .ok (.ireturn, 1) := by decide +kernel
theorem dL_takeLevel_10 : decode cL_takeLevel 10 = .ok (.astore_n 2, 1) := by decide +kernel
theorem dL_takeLevel_11 : decode cL_takeLevel 11 = .ok (.ldc 40, 2) := by decide +kernel
theorem dL_takeLevel_13 : decode cL_takeLevel 13 = .ok (.ireturn, 1) := by decide +kernel
theorem dL_takeGift_0 : decode cL_takeGift 0 = .ok (.aload_n 0, 1) := by decide +kernel
theorem dL_takeGift_1 : decode cL_takeGift 1 = .ok (.iload_n 1, 1) := by decide +kernel
theorem dL_takeGift_2 : decode cL_takeGift 2 = .ok (.invokevirtual 45, 3) := by decide +kernel
theorem dL_takeGift_5 : decode cL_takeGift 5 = .ok (.ireturn, 1) := by decide +kernel
theorem dL_takeGift_6 : decode cL_takeGift 6 = .ok (.astore_n 2, 1) := by decide +kernel
theorem dL_takeGift_7 : decode cL_takeGift 7 = .ok (.ldc 18, 2) := by decide +kernel
theorem dL_takeGift_9 : decode cL_takeGift 9 = .ok (.ireturn, 1) := by decide +kernel
theorem dL_takeGift_10 : decode cL_takeGift 10 = .ok (.astore_n 2, 1) := by decide +kernel
theorem dL_takeGift_11 : decode cL_takeGift 11 = .ok (.ldc 40, 2) := by decide +kernel
theorem dL_takeGift_13 : decode cL_takeGift 13 = .ok (.ireturn, 1) := by decide +kernel
theorem dL_loseLevel_0 : decode cL_loseLevel 0 = .ok (.aload_n 0, 1) := by decide +kernel
theorem dL_loseLevel_1 : decode cL_loseLevel 1 = .ok (.invokevirtual 48, 3) := by decide +kernel
theorem dL_loseLevel_4 : decode cL_loseLevel 4 = .ok (.ireturn, 1) := by decide +kernel
theorem dL_loseLevel_5 : decode cL_loseLevel 5 = .ok (.astore_n 1, 1) := by decide +kernel
theorem dL_loseLevel_6 : decode cL_loseLevel 6 = .ok (.ldc 40, 2) := by decide +kernel
theorem dL_loseLevel_8 : decode cL_loseLevel 8 = .ok (.ireturn, 1) := by decide +kernel
theorem dL_exchange_0 : decode cL_exchange 0 = .ok (.aload_n 0, 1) := by decide +kernel
theorem dL_exchange_1 : decode cL_exchange 1 = .ok (.iload_n 1, 1) := by decide +kernel
theorem dL_exchange_2 : decode cL_exchange 2 = .ok (.iload_n 2, 1) := by decide +kernel
theorem dL_exchange_3 : decode cL_exchange 3 = .ok (.invokevirtual 52, 3) := by decide +kernel
theorem dL_exchange_6 : decode cL_exchange 6 = .ok (.ireturn, 1) := by decide +kernel
theorem dL_exchange_7 : decode cL_exchange 7 = .ok (.astore_n 3, 1) := by decide +kernel
theorem dL_exchange_8 : decode cL_exchange 8 = .ok (.ldc 18, 2) := by decide +kernel
theorem dL_exchange_10 : decode cL_exchange 10 = .ok (.ireturn, 1) := by decide +kernel
theorem dL_exchange_11 : decode cL_exchange 11 = .ok (.astore_n 3, 1) := by decide +kernel
theorem dL_exchange_12 : decode cL_exchange 12 = .ok (.ldc 40, 2) := by decide +kernel
theorem dL_exchange_14 : decode cL_exchange 14 = .ok (.ireturn, 1) := by decide +kernel
theorem dL_level_0 : decode cL_level 0 = .ok (.aload_n 0, 1) := by decide +kernel
theorem dL_level_1 : decode cL_level 1 = .ok (.iload_n 1, 1) := by decide +kernel
theorem dL_level_2 : decode cL_level 2 = .ok (.invokevirtual 55, 3) := by decide +kernel
theorem dL_level_5 : decode cL_level 5 = .ok (.ireturn, 1) := by decide +kernel
theorem dL_level_6 : decode cL_level 6 = .ok (.astore_n 2, 1) := by decide +kernel
theorem dL_level_7 : decode cL_level 7 = .ok (.ldc 18, 2) := by decide +kernel
theorem dL_level_9 : decode cL_level 9 = .ok (.ireturn, 1) := by decide +kernel
theorem dL_value_0 : decode cL_value 0 = .ok (.aload_n 0, 1) := by decide +kernel
theorem dL_value_1 : decode cL_value 1 = .ok (.iload_n 1, 1) := by decide +kernel
theorem dL_value_2 : decode cL_value 2 = .ok (.invokevirtual 58, 3) := by decide +kernel
theorem dL_value_5 : decode cL_value 5 = .ok (.ireturn, 1) := by decide +kernel
theorem dL_value_6 : decode cL_value 6 = .ok (.astore_n 2, 1) := by decide +kernel
theorem dL_value_7 : decode cL_value 7 = .ok (.ldc 18, 2) := by decide +kernel
theorem dL_value_9 : decode cL_value 9 = .ok (.ireturn, 1) := by decide +kernel
theorem dL_value_10 : decode cL_value 10 = .ok (.astore_n 2, 1) := by decide +kernel
theorem dL_value_11 : decode cL_value 11 = .ok (.ldc 40, 2) := by decide +kernel
theorem dL_value_13 : decode cL_value 13 = .ok (.ireturn, 1) := by decide +kernel
theorem dL_bonus_0 : decode cL_bonus 0 = .ok (.aload_n 0, 1) := by decide +kernel
theorem dL_bonus_1 : decode cL_bonus 1 = .ok (.iload_n 1, 1) := by decide +kernel
theorem dL_bonus_2 : decode cL_bonus 2 = .ok (.iload_n 2, 1) := by decide +kernel
theorem dL_bonus_3 : decode cL_bonus 3 = .ok (.invokevirtual 61, 3) := by decide +kernel
theorem dL_bonus_6 : decode cL_bonus 6 = .ok (.ireturn, 1) := by decide +kernel
theorem dL_bonus_7 : decode cL_bonus 7 = .ok (.astore_n 3, 1) := by decide +kernel
theorem dL_bonus_8 : decode cL_bonus 8 = .ok (.ldc 18, 2) := by decide +kernel
theorem dL_bonus_10 : decode cL_bonus 10 = .ok (.ireturn, 1) := by decide +kernel
theorem dL_bonus_11 : decode cL_bonus 11 = .ok (.astore_n 3, 1) := by decide +kernel
theorem dL_bonus_12 : decode cL_bonus 12 = .ok (.ldc 21, 2) := by decide +kernel
theorem dL_bonus_14 : decode cL_bonus 14 = .ok (.ireturn, 1) := by decide +kernel
theorem dL_isRing_0 : decode cL_isRing 0 = .ok (.aload_n 0, 1) := by decide +kernel
theorem dL_isRing_1 : decode cL_isRing 1 = .ok (.iload_n 1, 1) := by decide +kernel
theorem dL_isRing_2 : decode cL_isRing 2 = .ok (.invokevirtual 64, 3) := by decide +kernel
theorem dL_isRing_5 : decode cL_isRing 5 = .ok (.ifCond .eq 7, 3) := by decide +kernel
theorem dL_isRing_8 : decode cL_isRing 8 = .ok (.iconst 1, 1) := by decide +kernel
theorem dL_isRing_9 : decode cL_isRing 9 = .ok (.goto 4, 3) := by decide +kernel
theorem dL_isRing_12 : decode cL_isRing 12 = .ok (.iconst 0, 1) := by decide +kernel
theorem dL_isRing_13 : decode cL_isRing 13 = .ok (.ireturn, 1) := by decide +kernel
theorem dL_isRing_14 : decode cL_isRing 14 = .ok (.astore_n 2, 1) := by decide +kernel
theorem dL_isRing_15 : decode cL_isRing 15 = .ok (.ldc 18, 2) := by decide +kernel
theorem dL_isRing_17 : decode cL_isRing 17 = .ok (.ireturn, 1) := by decide +kernel
theorem dL_byOrders_0 : decode cL_byOrders 0 = .ok (.aload_n 0, 1) := by decide +kernel
theorem dL_byOrders_1 : decode cL_byOrders 1 = .ok (.invokevirtual 68, 3) := by decide +kernel
theorem dL_byOrders_4 : decode cL_byOrders 4 = .ok (.ifCond .eq 7, 3) := by decide +kernel
theorem dL_byOrders_7 : decode cL_byOrders 7 = .ok (.iconst 1, 1) := by decide +kernel
theorem dL_byOrders_8 : decode cL_byOrders 8 = .ok (.goto 4, 3) := by decide +kernel
theorem dL_byOrders_11 : decode cL_byOrders 11 = .ok (.iconst 0, 1) := by decide +kernel
theorem dL_byOrders_12 : decode cL_byOrders 12 = .ok (.ireturn, 1) := by decide +kernel
theorem dL_byOrders_13 : decode cL_byOrders 13 = .ok (.astore_n 1, 1) := by decide +kernel
theorem dL_byOrders_14 : decode cL_byOrders 14 = .ok (.ldc 40, 2) := by decide +kernel
theorem dL_byOrders_16 : decode cL_byOrders 16 = .ok (.ireturn, 1) := by decide +kernel
theorem dL_stepAt_0 : decode cL_stepAt 0 = .ok (.aload_n 0, 1) := by decide +kernel
theorem dL_stepAt_1 : decode cL_stepAt 1 = .ok (.iload_n 1, 1) := by decide +kernel
theorem dL_stepAt_2 : decode cL_stepAt 2 = .ok (.invokevirtual 72, 3) := by decide +kernel
theorem dL_stepAt_5 : decode cL_stepAt 5 = .ok (.ireturn, 1) := by decide +kernel
theorem dL_stepAt_6 : decode cL_stepAt 6 = .ok (.astore_n 2, 1) := by decide +kernel
theorem dL_stepAt_7 : decode cL_stepAt 7 = .ok (.ldc 18, 2) := by decide +kernel
theorem dL_stepAt_9 : decode cL_stepAt 9 = .ok (.ireturn, 1) := by decide +kernel
theorem dL_stepAt_10 : decode cL_stepAt 10 = .ok (.astore_n 2, 1) := by decide +kernel
theorem dL_stepAt_11 : decode cL_stepAt 11 = .ok (.ldc 40, 2) := by decide +kernel
theorem dL_stepAt_13 : decode cL_stepAt 13 = .ok (.ireturn, 1) := by decide +kernel
theorem dL_many_0 : decode cL_many 0 = .ok (.iconst 0, 1) := by decide +kernel
theorem dL_many_1 : decode cL_many 1 = .ok (.istore_n 1, 1) := by decide +kernel
theorem dL_many_2 : decode cL_many 2 = .ok (.iconst 0, 1) := by decide +kernel
theorem dL_many_3 : decode cL_many 3 = .ok (.istore_n 2, 1) := by decide +kernel
theorem dL_many_4 : decode cL_many 4 = .ok (.iload_n 2, 1) := by decide +kernel
theorem dL_many_5 : decode cL_many 5 = .ok (.bipush 8, 2) := by decide +kernel
theorem dL_many_7 : decode cL_many 7 = .ok (.if_icmp .ge 17, 3) := by decide +kernel
theorem dL_many_10 : decode cL_many 10 = .ok (.iload_n 1, 1) := by decide +kernel
theorem dL_many_11 : decode cL_many 11 = .ok (.iload_n 0, 1) := by decide +kernel
theorem dL_many_12 : decode cL_many 12 = .ok (.iload_n 2, 1) := by decide +kernel
theorem dL_many_13 : decode cL_many 13 = .ok (.ishr, 1) := by decide +kernel
theorem dL_many_14 : decode cL_many 14 = .ok (.iconst 1, 1) := by decide +kernel
theorem dL_many_15 : decode cL_many 15 = .ok (.iand, 1) := by decide +kernel
theorem dL_many_16 : decode cL_many 16 = .ok (.iadd, 1) := by decide +kernel
theorem dL_many_17 : decode cL_many 17 = .ok (.istore_n 1, 1) := by decide +kernel
theorem dL_many_18 : decode cL_many 18 = .ok (.iinc 2 1, 3) := by decide +kernel
theorem dL_many_21 : decode cL_many 21 = .ok (.goto (-17), 3) := by decide +kernel
theorem dL_many_24 : decode cL_many 24 = .ok (.iload_n 1, 1) := by decide +kernel
theorem dL_many_25 : decode cL_many 25 = .ok (.ireturn, 1) := by decide +kernel
theorem dL_levels_0 : decode cL_levels 0 = .ok (.aload_n 0, 1) := by decide +kernel
theorem dL_levels_1 : decode cL_levels 1 = .ok (.iconst 0, 1) := by decide +kernel
theorem dL_levels_2 : decode cL_levels 2 = .ok (.invokestatic 75, 3) := by decide +kernel
theorem dL_levels_5 : decode cL_levels 5 = .ok (.aload_n 0, 1) := by decide +kernel
theorem dL_levels_6 : decode cL_levels 6 = .ok (.iconst 1, 1) := by decide +kernel
theorem dL_levels_7 : decode cL_levels 7 = .ok (.invokestatic 75, 3) := by decide +kernel
theorem dL_levels_10 : decode cL_levels 10 = .ok (.iadd, 1) := by decide +kernel
theorem dL_levels_11 : decode cL_levels 11 = .ok (.aload_n 0, 1) := by decide +kernel
theorem dL_levels_12 : decode cL_levels 12 = .ok (.iconst 2, 1) := by decide +kernel
theorem dL_levels_13 : decode cL_levels 13 = .ok (.invokestatic 75, 3) := by decide +kernel
theorem dL_levels_16 : decode cL_levels 16 = .ok (.iadd, 1) := by decide +kernel
theorem dL_levels_17 : decode cL_levels 17 = .ok (.ireturn, 1) := by decide +kernel
theorem dL_values_0 : decode cL_values 0 = .ok (.aload_n 0, 1) := by decide +kernel
theorem dL_values_1 : decode cL_values 1 = .ok (.invokevirtual 80, 3) := by decide +kernel
theorem dL_values_4 : decode cL_values 4 = .ok (.istore 4, 2) := by decide +kernel
theorem dL_values_6 : decode cL_values 6 = .ok (.iconst 0, 1) := by decide +kernel
theorem dL_values_7 : decode cL_values 7 = .ok (.istore 5, 2) := by decide +kernel
theorem dL_values_9 : decode cL_values 9 = .ok (.iload 5, 2) := by decide +kernel
theorem dL_values_11 : decode cL_values 11 = .ok (.bipush 6, 2) := by decide +kernel
theorem dL_values_13 : decode cL_values 13 = .ok (.if_icmp .ge 371, 3) := by decide +kernel
theorem dL_values_16 : decode cL_values 16 = .ok (.aload_n 2, 1) := by decide +kernel
theorem dL_values_17 : decode cL_values 17 = .ok (.iconst 4, 1) := by decide +kernel
theorem dL_values_18 : decode cL_values 18 = .ok (.iload 5, 2) := by decide +kernel
theorem dL_values_20 : decode cL_values 20 = .ok (.imul, 1) := by decide +kernel
theorem dL_values_21 : decode cL_values 21 = .ok (.iaload, 1) := by decide +kernel
theorem dL_values_22 : decode cL_values 22 = .ok (.istore 6, 2) := by decide +kernel
theorem dL_values_24 : decode cL_values 24 = .ok (.iconst 0, 1) := by decide +kernel
theorem dL_values_25 : decode cL_values 25 = .ok (.istore 7, 2) := by decide +kernel
theorem dL_values_27 : decode cL_values 27 = .ok (.iload 7, 2) := by decide +kernel
theorem dL_values_29 : decode cL_values 29 = .ok (.iconst 4, 1) := by decide +kernel
theorem dL_values_30 : decode cL_values 30 = .ok (.if_icmp .ge 166, 3) := by decide +kernel
theorem dL_values_33 : decode cL_values 33 = .ok (.iconst 0, 1) := by decide +kernel
theorem dL_values_34 : decode cL_values 34 = .ok (.istore 8, 2) := by decide +kernel
theorem dL_values_36 : decode cL_values 36 = .ok (.iconst 0, 1) := by decide +kernel
theorem dL_values_37 : decode cL_values 37 = .ok (.istore 9, 2) := by decide +kernel
theorem dL_values_39 : decode cL_values 39 = .ok (.iconst 0, 1) := by decide +kernel
theorem dL_values_40 : decode cL_values 40 = .ok (.istore 10, 2) := by decide +kernel
theorem dL_values_42 : decode cL_values 42 = .ok (.iconst 0, 1) := by decide +kernel
theorem dL_values_43 : decode cL_values 43 = .ok (.istore 11, 2) := by decide +kernel
theorem dL_values_45 : decode cL_values 45 = .ok (.iload 11, 2) := by decide +kernel
theorem dL_values_47 : decode cL_values 47 = .ok (.bipush 8, 2) := by decide +kernel
theorem dL_values_49 : decode cL_values 49 = .ok (.if_icmp .ge 102, 3) := by decide +kernel
theorem dL_values_52 : decode cL_values 52 = .ok (.iload 4, 2) := by decide +kernel
theorem dL_values_54 : decode cL_values 54 = .ok (.iload 11, 2) := by decide +kernel
theorem dL_values_56 : decode cL_values 56 = .ok (.ishr, 1) := by decide +kernel
theorem dL_values_57 : decode cL_values 57 = .ok (.iconst 1, 1) := by decide +kernel
theorem dL_values_58 : decode cL_values 58 = .ok (.iand, 1) := by decide +kernel
theorem dL_values_59 : decode cL_values 59 = .ok (.iconst 1, 1) := by decide +kernel
theorem dL_values_60 : decode cL_values 60 = .ok (.if_icmp .ne 85, 3) := by decide +kernel
theorem dL_values_63 : decode cL_values 63 = .ok (.aload_n 1, 1) := by decide +kernel
theorem dL_values_64 : decode cL_values 64 = .ok (.iconst 3, 1) := by decide +kernel
theorem dL_values_65 : decode cL_values 65 = .ok (.iload 11, 2) := by decide +kernel
theorem dL_values_67 : decode cL_values 67 = .ok (.imul, 1) := by decide +kernel
theorem dL_values_68 : decode cL_values 68 = .ok (.iaload, 1) := by decide +kernel
theorem dL_values_69 : decode cL_values 69 = .ok (.iload 5, 2) := by decide +kernel
theorem dL_values_71 : decode cL_values 71 = .ok (.if_icmp .ne 74, 3) := by decide +kernel
theorem dL_values_74 : decode cL_values 74 = .ok (.aload_n 1, 1) := by decide +kernel
theorem dL_values_75 : decode cL_values 75 = .ok (.iconst 3, 1) := by decide +kernel
theorem dL_values_76 : decode cL_values 76 = .ok (.iload 11, 2) := by decide +kernel
theorem dL_values_78 : decode cL_values 78 = .ok (.imul, 1) := by decide +kernel
theorem dL_values_79 : decode cL_values 79 = .ok (.iconst 1, 1) := by decide +kernel
theorem dL_values_80 : decode cL_values 80 = .ok (.iadd, 1) := by decide +kernel
theorem dL_values_81 : decode cL_values 81 = .ok (.iaload, 1) := by decide +kernel
theorem dL_values_82 : decode cL_values 82 = .ok (.iload 7, 2) := by decide +kernel
theorem dL_values_84 : decode cL_values 84 = .ok (.if_icmp .ne 61, 3) := by decide +kernel
theorem dL_values_87 : decode cL_values 87 = .ok (.aload_n 1, 1) := by decide +kernel
theorem dL_values_88 : decode cL_values 88 = .ok (.iconst 3, 1) := by decide +kernel
theorem dL_values_89 : decode cL_values 89 = .ok (.iload 11, 2) := by decide +kernel
theorem dL_values_91 : decode cL_values 91 = .ok (.imul, 1) := by decide +kernel
theorem dL_values_92 : decode cL_values 92 = .ok (.iconst 2, 1) := by decide +kernel
theorem dL_values_93 : decode cL_values 93 = .ok (.iadd, 1) := by decide +kernel
theorem dL_values_94 : decode cL_values 94 = .ok (.iaload, 1) := by decide +kernel
theorem dL_values_95 : decode cL_values 95 = .ok (.istore 12, 2) := by decide +kernel
theorem dL_values_97 : decode cL_values 97 = .ok (.iload 8, 2) := by decide +kernel
theorem dL_values_99 : decode cL_values 99 = .ok (.iload 12, 2) := by decide +kernel
theorem dL_values_101 : decode cL_values 101 = .ok (.ifCond .ge 8, 3) := by decide +kernel
theorem dL_values_104 : decode cL_values 104 = .ok (.iload 12, 2) := by decide +kernel
theorem dL_values_106 : decode cL_values 106 = .ok (.goto 4, 3) := by decide +kernel
theorem dL_values_109 : decode cL_values 109 = .ok (.iconst 0, 1) := by decide +kernel
theorem dL_values_110 : decode cL_values 110 = .ok (.iadd, 1) := by decide +kernel
theorem dL_values_111 : decode cL_values 111 = .ok (.istore 8, 2) := by decide +kernel
theorem dL_values_113 : decode cL_values 113 = .ok (.iload 9, 2) := by decide +kernel
theorem dL_values_115 : decode cL_values 115 = .ok (.iload 12, 2) := by decide +kernel
theorem dL_values_117 : decode cL_values 117 = .ok (.ifCond .le 8, 3) := by decide +kernel
theorem dL_values_120 : decode cL_values 120 = .ok (.iload 12, 2) := by decide +kernel
theorem dL_values_122 : decode cL_values 122 = .ok (.goto 4, 3) := by decide +kernel
theorem dL_values_125 : decode cL_values 125 = .ok (.iconst 0, 1) := by decide +kernel
theorem dL_values_126 : decode cL_values 126 = .ok (.iadd, 1) := by decide +kernel
theorem dL_values_127 : decode cL_values 127 = .ok (.istore 9, 2) := by decide +kernel
theorem dL_values_129 : decode cL_values 129 = .ok (.iload 12, 2) := by decide +kernel
theorem dL_values_131 : decode cL_values 131 = .ok (.iload 10, 2) := by decide +kernel
theorem dL_values_133 : decode cL_values 133 = .ok (.if_icmp .le 8, 3) := by decide +kernel
theorem dL_values_136 : decode cL_values 136 = .ok (.iload 12, 2) := by decide +kernel
theorem dL_values_138 : decode cL_values 138 = .ok (.goto 5, 3) := by decide +kernel
theorem dL_values_141 : decode cL_values 141 = .ok (.iload 10, 2) := by decide +kernel
theorem dL_values_143 : decode cL_values 143 = .ok (.istore 10, 2) := by decide +kernel
theorem dL_values_145 : decode cL_values 145 = .ok (.iinc 11 1, 3) := by decide +kernel
theorem dL_values_148 : decode cL_values 148 = .ok (.goto (-103), 3) := by decide +kernel
theorem dL_values_151 : decode cL_values 151 = .ok (.iload 8, 2) := by decide +kernel
theorem dL_values_153 : decode cL_values 153 = .ok (.iload 7, 2) := by decide +kernel
theorem dL_values_155 : decode cL_values 155 = .ok (.ifCond .ne 8, 3) := by decide +kernel
theorem dL_values_158 : decode cL_values 158 = .ok (.iload 9, 2) := by decide +kernel
theorem dL_values_160 : decode cL_values 160 = .ok (.goto 5, 3) := by decide +kernel
theorem dL_values_163 : decode cL_values 163 = .ok (.iload 10, 2) := by decide +kernel
theorem dL_values_165 : decode cL_values 165 = .ok (.iadd, 1) := by decide +kernel
theorem dL_values_166 : decode cL_values 166 = .ok (.istore 11, 2) := by decide +kernel
theorem dL_values_168 : decode cL_values 168 = .ok (.aload_n 0, 1) := by decide +kernel
theorem dL_values_169 : decode cL_values 169 = .ok (.iload 5, 2) := by decide +kernel
theorem dL_values_171 : decode cL_values 171 = .ok (.iload 7, 2) := by decide +kernel
theorem dL_values_173 : decode cL_values 173 = .ok (.invokestatic 83, 3) := by decide +kernel
theorem dL_values_176 : decode cL_values 176 = .ok (.iload 11, 2) := by decide +kernel
theorem dL_values_178 : decode cL_values 178 = .ok (.if_icmp .eq 5, 3) := by decide +kernel
theorem dL_values_181 : decode cL_values 181 = .ok (.iconst 0, 1) := by decide +kernel
theorem dL_values_182 : decode cL_values 182 = .ok (.ireturn, 1) := by decide +kernel
theorem dL_values_183 : decode cL_values 183 = .ok (.iload 6, 2) := by decide +kernel
theorem dL_values_185 : decode cL_values 185 = .ok (.iload 11, 2) := by decide +kernel
theorem dL_values_187 : decode cL_values 187 = .ok (.iadd, 1) := by decide +kernel
theorem dL_values_188 : decode cL_values 188 = .ok (.istore 6, 2) := by decide +kernel
theorem dL_values_190 : decode cL_values 190 = .ok (.iinc 7 1, 3) := by decide +kernel
theorem dL_values_193 : decode cL_values 193 = .ok (.goto (-166), 3) := by decide +kernel
theorem dL_values_196 : decode cL_values 196 = .ok (.aload_n 2, 1) := by decide +kernel
theorem dL_values_197 : decode cL_values 197 = .ok (.iconst 4, 1) := by decide +kernel
theorem dL_values_198 : decode cL_values 198 = .ok (.iload 5, 2) := by decide +kernel
theorem dL_values_200 : decode cL_values 200 = .ok (.imul, 1) := by decide +kernel
theorem dL_values_201 : decode cL_values 201 = .ok (.iconst 1, 1) := by decide +kernel
theorem dL_values_202 : decode cL_values 202 = .ok (.iadd, 1) := by decide +kernel
theorem dL_values_203 : decode cL_values 203 = .ok (.iaload, 1) := by decide +kernel
theorem dL_values_204 : decode cL_values 204 = .ok (.istore 7, 2) := by decide +kernel
theorem dL_values_206 : decode cL_values 206 = .ok (.aload_n 2, 1) := by decide +kernel
theorem dL_values_207 : decode cL_values 207 = .ok (.iconst 4, 1) := by decide +kernel
theorem dL_values_208 : decode cL_values 208 = .ok (.iload 5, 2) := by decide +kernel
theorem dL_values_210 : decode cL_values 210 = .ok (.imul, 1) := by decide +kernel
theorem dL_values_211 : decode cL_values 211 = .ok (.iconst 3, 1) := by decide +kernel
theorem dL_values_212 : decode cL_values 212 = .ok (.iadd, 1) := by decide +kernel
theorem dL_values_213 : decode cL_values 213 = .ok (.iaload, 1) := by decide +kernel
theorem dL_values_214 : decode cL_values 214 = .ok (.istore 8, 2) := by decide +kernel
theorem dL_values_216 : decode cL_values 216 = .ok (.iload 6, 2) := by decide +kernel
theorem dL_values_218 : decode cL_values 218 = .ok (.iload 7, 2) := by decide +kernel
theorem dL_values_220 : decode cL_values 220 = .ok (.ifCond .ge 7, 3) := by decide +kernel
theorem dL_values_223 : decode cL_values 223 = .ok (.iconst 0, 1) := by decide +kernel
theorem dL_values_224 : decode cL_values 224 = .ok (.goto 11, 3) := by decide +kernel
theorem dL_values_227 : decode cL_values 227 = .ok (.aload_n 3, 1) := by decide +kernel
theorem dL_values_228 : decode cL_values 228 = .ok (.iload 7, 2) := by decide +kernel
theorem dL_values_230 : decode cL_values 230 = .ok (.iaload, 1) := by decide +kernel
theorem dL_values_231 : decode cL_values 231 = .ok (.iconst 2, 1) := by decide +kernel
theorem dL_values_232 : decode cL_values 232 = .ok (.idiv, 1) := by decide +kernel
theorem dL_values_233 : decode cL_values 233 = .ok (.iconst 5, 1) := by decide +kernel
theorem dL_values_234 : decode cL_values 234 = .ok (.isub, 1) := by decide +kernel
theorem dL_values_235 : decode cL_values 235 = .ok (.iadd, 1) := by decide +kernel
theorem dL_values_236 : decode cL_values 236 = .ok (.istore 6, 2) := by decide +kernel
theorem dL_values_238 : decode cL_values 238 = .ok (.iload 6, 2) := by decide +kernel
theorem dL_values_240 : decode cL_values 240 = .ok (.aload_n 2, 1) := by decide +kernel
theorem dL_values_241 : decode cL_values 241 = .ok (.iconst 4, 1) := by decide +kernel
theorem dL_values_242 : decode cL_values 242 = .ok (.iload 5, 2) := by decide +kernel
theorem dL_values_244 : decode cL_values 244 = .ok (.imul, 1) := by decide +kernel
theorem dL_values_245 : decode cL_values 245 = .ok (.iconst 2, 1) := by decide +kernel
theorem dL_values_246 : decode cL_values 246 = .ok (.iadd, 1) := by decide +kernel
theorem dL_values_247 : decode cL_values 247 = .ok (.iaload, 1) := by decide +kernel
theorem dL_values_248 : decode cL_values 248 = .ok (.ifCond .ge 7, 3) := by decide +kernel
theorem dL_values_251 : decode cL_values 251 = .ok (.iconst 0, 1) := by decide +kernel
theorem dL_values_252 : decode cL_values 252 = .ok (.goto 15, 3) := by decide +kernel
theorem dL_values_255 : decode cL_values 255 = .ok (.aload_n 0, 1) := by decide +kernel
theorem dL_values_256 : decode cL_values 256 = .ok (.aload_n 2, 1) := by decide +kernel
theorem dL_values_257 : decode cL_values 257 = .ok (.iconst 4, 1) := by decide +kernel
theorem dL_values_258 : decode cL_values 258 = .ok (.iload 5, 2) := by decide +kernel
theorem dL_values_260 : decode cL_values 260 = .ok (.imul, 1) := by decide +kernel
theorem dL_values_261 : decode cL_values 261 = .ok (.iconst 2, 1) := by decide +kernel
theorem dL_values_262 : decode cL_values 262 = .ok (.iadd, 1) := by decide +kernel
theorem dL_values_263 : decode cL_values 263 = .ok (.iaload, 1) := by decide +kernel
theorem dL_values_264 : decode cL_values 264 = .ok (.invokestatic 75, 3) := by decide +kernel
theorem dL_values_267 : decode cL_values 267 = .ok (.iadd, 1) := by decide +kernel
theorem dL_values_268 : decode cL_values 268 = .ok (.istore 6, 2) := by decide +kernel
theorem dL_values_270 : decode cL_values 270 = .ok (.aload_n 0, 1) := by decide +kernel
theorem dL_values_271 : decode cL_values 271 = .ok (.iload 5, 2) := by decide +kernel
theorem dL_values_273 : decode cL_values 273 = .ok (.invokestatic 86, 3) := by decide +kernel
theorem dL_values_276 : decode cL_values 276 = .ok (.istore 9, 2) := by decide +kernel
theorem dL_values_278 : decode cL_values 278 = .ok (.iload 8, 2) := by decide +kernel
theorem dL_values_280 : decode cL_values 280 = .ok (.ifCond .ge 11, 3) := by decide +kernel
theorem dL_values_283 : decode cL_values 283 = .ok (.iload 9, 2) := by decide +kernel
theorem dL_values_285 : decode cL_values 285 = .ok (.ifCond .eq 32, 3) := by decide +kernel
theorem dL_values_288 : decode cL_values 288 = .ok (.goto 27, 3) := by decide +kernel
theorem dL_values_291 : decode cL_values 291 = .ok (.iload 9, 2) := by decide +kernel
theorem dL_values_293 : decode cL_values 293 = .ok (.aload_n 0, 1) := by decide +kernel
theorem dL_values_294 : decode cL_values 294 = .ok (.iload 8, 2) := by decide +kernel
theorem dL_values_296 : decode cL_values 296 = .ok (.invokestatic 86, 3) := by decide +kernel
theorem dL_values_299 : decode cL_values 299 = .ok (.if_icmp .ne 16, 3) := by decide +kernel
theorem dL_values_302 : decode cL_values 302 = .ok (.iload 8, 2) := by decide +kernel
theorem dL_values_304 : decode cL_values 304 = .ok (.iload 5, 2) := by decide +kernel
theorem dL_values_306 : decode cL_values 306 = .ok (.if_icmp .ne 11, 3) := by decide +kernel
theorem dL_values_309 : decode cL_values 309 = .ok (.iload 9, 2) := by decide +kernel
theorem dL_values_311 : decode cL_values 311 = .ok (.iconst 1, 1) := by decide +kernel
theorem dL_values_312 : decode cL_values 312 = .ok (.if_icmp .eq 5, 3) := by decide +kernel
theorem dL_values_315 : decode cL_values 315 = .ok (.iconst 0, 1) := by decide +kernel
theorem dL_values_316 : decode cL_values 316 = .ok (.ireturn, 1) := by decide +kernel
theorem dL_values_317 : decode cL_values 317 = .ok (.aload_n 0, 1) := by decide +kernel
theorem dL_values_318 : decode cL_values 318 = .ok (.iload 5, 2) := by decide +kernel
theorem dL_values_320 : decode cL_values 320 = .ok (.invokestatic 88, 3) := by decide +kernel
theorem dL_values_323 : decode cL_values 323 = .ok (.istore 10, 2) := by decide +kernel
theorem dL_values_325 : decode cL_values 325 = .ok (.iload 8, 2) := by decide +kernel
theorem dL_values_327 : decode cL_values 327 = .ok (.ifCond .lt 9, 3) := by decide +kernel
theorem dL_values_330 : decode cL_values 330 = .ok (.iload 9, 2) := by decide +kernel
theorem dL_values_332 : decode cL_values 332 = .ok (.iconst 1, 1) := by decide +kernel
theorem dL_values_333 : decode cL_values 333 = .ok (.if_icmp .ne 7, 3) := by decide +kernel
theorem dL_values_336 : decode cL_values 336 = .ok (.iconst 0, 1) := by decide +kernel
theorem dL_values_337 : decode cL_values 337 = .ok (.goto 9, 3) := by decide +kernel
theorem dL_values_340 : decode cL_values 340 = .ok (.aload_n 0, 1) := by decide +kernel
theorem dL_values_341 : decode cL_values 341 = .ok (.iload 8, 2) := by decide +kernel
theorem dL_values_343 : decode cL_values 343 = .ok (.invokestatic 88, 3) := by decide +kernel
theorem dL_values_346 : decode cL_values 346 = .ok (.istore 11, 2) := by decide +kernel
theorem dL_values_348 : decode cL_values 348 = .ok (.iload 10, 2) := by decide +kernel
theorem dL_values_350 : decode cL_values 350 = .ok (.iload 9, 2) := by decide +kernel
theorem dL_values_352 : decode cL_values 352 = .ok (.iconst 1, 1) := by decide +kernel
theorem dL_values_353 : decode cL_values 353 = .ok (.if_icmp .ne 8, 3) := by decide +kernel
theorem dL_values_356 : decode cL_values 356 = .ok (.ldc 40, 2) := by decide +kernel
theorem dL_values_358 : decode cL_values 358 = .ok (.goto 15, 3) := by decide +kernel
theorem dL_values_361 : decode cL_values 361 = .ok (.iload 6, 2) := by decide +kernel
theorem dL_values_363 : decode cL_values 363 = .ok (.iload 11, 2) := by decide +kernel
theorem dL_values_365 : decode cL_values 365 = .ok (.iload 11, 2) := by decide +kernel
theorem dL_values_367 : decode cL_values 367 = .ok (.iconst 1, 1) := by decide +kernel
theorem dL_values_368 : decode cL_values 368 = .ok (.iand, 1) := by decide +kernel
theorem dL_values_369 : decode cL_values 369 = .ok (.isub, 1) := by decide +kernel
theorem dL_values_370 : decode cL_values 370 = .ok (.iconst 2, 1) := by decide +kernel
theorem dL_values_371 : decode cL_values 371 = .ok (.idiv, 1) := by decide +kernel
theorem dL_values_372 : decode cL_values 372 = .ok (.iadd, 1) := by decide +kernel
theorem dL_values_373 : decode cL_values 373 = .ok (.if_icmp .eq 5, 3) := by decide +kernel
theorem dL_values_376 : decode cL_values 376 = .ok (.iconst 0, 1) := by decide +kernel
theorem dL_values_377 : decode cL_values 377 = .ok (.ireturn, 1) := by decide +kernel
theorem dL_values_378 : decode cL_values 378 = .ok (.iinc 5 1, 3) := by decide +kernel
theorem dL_values_381 : decode cL_values 381 = .ok (.goto (-372), 3) := by decide +kernel
theorem dL_values_384 : decode cL_values 384 = .ok (.aload_n 0, 1) := by decide +kernel
theorem dL_values_385 : decode cL_values 385 = .ok (.bipush 6, 2) := by decide +kernel
theorem dL_values_387 : decode cL_values 387 = .ok (.iconst 0, 1) := by decide +kernel
theorem dL_values_388 : decode cL_values 388 = .ok (.invokestatic 83, 3) := by decide +kernel
theorem dL_values_391 : decode cL_values 391 = .ok (.ldc 18, 2) := by decide +kernel
theorem dL_values_393 : decode cL_values 393 = .ok (.if_icmp .ne 39, 3) := by decide +kernel
theorem dL_values_396 : decode cL_values 396 = .ok (.aload_n 0, 1) := by decide +kernel
theorem dL_values_397 : decode cL_values 397 = .ok (.iconst 0, 1) := by decide +kernel
theorem dL_values_398 : decode cL_values 398 = .ok (.iconst 4, 1) := by decide +kernel
theorem dL_values_399 : decode cL_values 399 = .ok (.invokestatic 83, 3) := by decide +kernel
theorem dL_values_402 : decode cL_values 402 = .ok (.ldc 21, 2) := by decide +kernel
theorem dL_values_404 : decode cL_values 404 = .ok (.if_icmp .ne 28, 3) := by decide +kernel
theorem dL_values_407 : decode cL_values 407 = .ok (.aload_n 0, 1) := by decide +kernel
theorem dL_values_408 : decode cL_values 408 = .ok (.iconst (-1), 1) := by decide +kernel
theorem dL_values_409 : decode cL_values 409 = .ok (.invokestatic 88, 3) := by decide +kernel
theorem dL_values_412 : decode cL_values 412 = .ok (.ldc 18, 2) := by decide +kernel
theorem dL_values_414 : decode cL_values 414 = .ok (.if_icmp .ne 18, 3) := by decide +kernel
theorem dL_values_417 : decode cL_values 417 = .ok (.aload_n 0, 1) := by decide +kernel
theorem dL_values_418 : decode cL_values 418 = .ok (.bipush 6, 2) := by decide +kernel
theorem dL_values_420 : decode cL_values 420 = .ok (.invokestatic 86, 3) := by decide +kernel
theorem dL_values_423 : decode cL_values 423 = .ok (.ldc 18, 2) := by decide +kernel
theorem dL_values_425 : decode cL_values 425 = .ok (.if_icmp .ne 7, 3) := by decide +kernel
theorem dL_values_428 : decode cL_values 428 = .ok (.iconst 1, 1) := by decide +kernel
theorem dL_values_429 : decode cL_values 429 = .ok (.goto 4, 3) := by decide +kernel
theorem dL_values_432 : decode cL_values 432 = .ok (.iconst 0, 1) := by decide +kernel
theorem dL_values_433 : decode cL_values 433 = .ok (.ireturn, 1) := by decide +kernel
theorem dL_numbers_0 : decode cL_numbers 0 = .ok (.iconst 0, 1) := by decide +kernel
theorem dL_numbers_1 : decode cL_numbers 1 = .ok (.istore_n 2, 1) := by decide +kernel
theorem dL_numbers_2 : decode cL_numbers 2 = .ok (.iconst 0, 1) := by decide +kernel
theorem dL_numbers_3 : decode cL_numbers 3 = .ok (.istore_n 3, 1) := by decide +kernel
theorem dL_numbers_4 : decode cL_numbers 4 = .ok (.iload_n 3, 1) := by decide +kernel
theorem dL_numbers_5 : decode cL_numbers 5 = .ok (.iconst 4, 1) := by decide +kernel
theorem dL_numbers_6 : decode cL_numbers 6 = .ok (.if_icmp .ge 37, 3) := by decide +kernel
theorem dL_numbers_9 : decode cL_numbers 9 = .ok (.iload_n 2, 1) := by decide +kernel
theorem dL_numbers_10 : decode cL_numbers 10 = .ok (.aload_n 1, 1) := by decide +kernel
theorem dL_numbers_11 : decode cL_numbers 11 = .ok (.iload_n 3, 1) := by decide +kernel
theorem dL_numbers_12 : decode cL_numbers 12 = .ok (.iaload, 1) := by decide +kernel
theorem dL_numbers_13 : decode cL_numbers 13 = .ok (.bipush 8, 2) := by decide +kernel
theorem dL_numbers_15 : decode cL_numbers 15 = .ok (.isub, 1) := by decide +kernel
theorem dL_numbers_16 : decode cL_numbers 16 = .ok (.aload_n 1, 1) := by decide +kernel
theorem dL_numbers_17 : decode cL_numbers 17 = .ok (.iload_n 3, 1) := by decide +kernel
theorem dL_numbers_18 : decode cL_numbers 18 = .ok (.iaload, 1) := by decide +kernel
theorem dL_numbers_19 : decode cL_numbers 19 = .ok (.bipush 12, 2) := by decide +kernel
theorem dL_numbers_21 : decode cL_numbers 21 = .ok (.if_icmp .le 12, 3) := by decide +kernel
theorem dL_numbers_24 : decode cL_numbers 24 = .ok (.aload_n 1, 1) := by decide +kernel
theorem dL_numbers_25 : decode cL_numbers 25 = .ok (.iload_n 3, 1) := by decide +kernel
theorem dL_numbers_26 : decode cL_numbers 26 = .ok (.iaload, 1) := by decide +kernel
theorem dL_numbers_27 : decode cL_numbers 27 = .ok (.bipush 12, 2) := by decide +kernel
theorem dL_numbers_29 : decode cL_numbers 29 = .ok (.isub, 1) := by decide +kernel
theorem dL_numbers_30 : decode cL_numbers 30 = .ok (.goto 4, 3) := by decide +kernel
theorem dL_numbers_33 : decode cL_numbers 33 = .ok (.iconst 0, 1) := by decide +kernel
theorem dL_numbers_34 : decode cL_numbers 34 = .ok (.iadd, 1) := by decide +kernel
theorem dL_numbers_35 : decode cL_numbers 35 = .ok (.iadd, 1) := by decide +kernel
theorem dL_numbers_36 : decode cL_numbers 36 = .ok (.istore_n 2, 1) := by decide +kernel
theorem dL_numbers_37 : decode cL_numbers 37 = .ok (.iinc 3 1, 3) := by decide +kernel
theorem dL_numbers_40 : decode cL_numbers 40 = .ok (.goto (-36), 3) := by decide +kernel
theorem dL_numbers_43 : decode cL_numbers 43 = .ok (.aload_n 0, 1) := by decide +kernel
theorem dL_numbers_44 : decode cL_numbers 44 = .ok (.invokevirtual 90, 3) := by decide +kernel
theorem dL_numbers_47 : decode cL_numbers 47 = .ok (.istore_n 3, 1) := by decide +kernel
theorem dL_numbers_48 : decode cL_numbers 48 = .ok (.aload_n 0, 1) := by decide +kernel
theorem dL_numbers_49 : decode cL_numbers 49 = .ok (.invokevirtual 93, 3) := by decide +kernel
theorem dL_numbers_52 : decode cL_numbers 52 = .ok (.istore 4, 2) := by decide +kernel
theorem dL_numbers_54 : decode cL_numbers 54 = .ok (.iconst 0, 1) := by decide +kernel
theorem dL_numbers_55 : decode cL_numbers 55 = .ok (.istore 5, 2) := by decide +kernel
theorem dL_numbers_57 : decode cL_numbers 57 = .ok (.iconst (-1), 1) := by decide +kernel
theorem dL_numbers_58 : decode cL_numbers 58 = .ok (.istore 6, 2) := by decide +kernel
theorem dL_numbers_60 : decode cL_numbers 60 = .ok (.iconst 0, 1) := by decide +kernel
theorem dL_numbers_61 : decode cL_numbers 61 = .ok (.istore 7, 2) := by decide +kernel
theorem dL_numbers_63 : decode cL_numbers 63 = .ok (.iload 7, 2) := by decide +kernel
theorem dL_numbers_65 : decode cL_numbers 65 = .ok (.iconst 3, 1) := by decide +kernel
theorem dL_numbers_66 : decode cL_numbers 66 = .ok (.if_icmp .ge 61, 3) := by decide +kernel
theorem dL_numbers_69 : decode cL_numbers 69 = .ok (.iload 5, 2) := by decide +kernel
theorem dL_numbers_71 : decode cL_numbers 71 = .ok (.aload_n 0, 1) := by decide +kernel
theorem dL_numbers_72 : decode cL_numbers 72 = .ok (.iload 7, 2) := by decide +kernel
theorem dL_numbers_74 : decode cL_numbers 74 = .ok (.invokestatic 75, 3) := by decide +kernel
theorem dL_numbers_77 : decode cL_numbers 77 = .ok (.iconst 2, 1) := by decide +kernel
theorem dL_numbers_78 : decode cL_numbers 78 = .ok (.iload 7, 2) := by decide +kernel
theorem dL_numbers_80 : decode cL_numbers 80 = .ok (.imul, 1) := by decide +kernel
theorem dL_numbers_81 : decode cL_numbers 81 = .ok (.iconst 4, 1) := by decide +kernel
theorem dL_numbers_82 : decode cL_numbers 82 = .ok (.iadd, 1) := by decide +kernel
theorem dL_numbers_83 : decode cL_numbers 83 = .ok (.iload 6, 2) := by decide +kernel
theorem dL_numbers_85 : decode cL_numbers 85 = .ok (.ifCond .lt 7, 3) := by decide +kernel
theorem dL_numbers_88 : decode cL_numbers 88 = .ok (.iconst 1, 1) := by decide +kernel
theorem dL_numbers_89 : decode cL_numbers 89 = .ok (.goto 4, 3) := by decide +kernel
theorem dL_numbers_92 : decode cL_numbers 92 = .ok (.iconst 0, 1) := by decide +kernel
theorem dL_numbers_93 : decode cL_numbers 93 = .ok (.isub, 1) := by decide +kernel
theorem dL_numbers_94 : decode cL_numbers 94 = .ok (.imul, 1) := by decide +kernel
theorem dL_numbers_95 : decode cL_numbers 95 = .ok (.iadd, 1) := by decide +kernel
theorem dL_numbers_96 : decode cL_numbers 96 = .ok (.istore 5, 2) := by decide +kernel
theorem dL_numbers_98 : decode cL_numbers 98 = .ok (.iload 6, 2) := by decide +kernel
theorem dL_numbers_100 : decode cL_numbers 100 = .ok (.ifCond .ge 17, 3) := by decide +kernel
theorem dL_numbers_103 : decode cL_numbers 103 = .ok (.aload_n 0, 1) := by decide +kernel
theorem dL_numbers_104 : decode cL_numbers 104 = .ok (.iload 7, 2) := by decide +kernel
theorem dL_numbers_106 : decode cL_numbers 106 = .ok (.invokestatic 75, 3) := by decide +kernel
theorem dL_numbers_109 : decode cL_numbers 109 = .ok (.ifCond .le 8, 3) := by decide +kernel
theorem dL_numbers_112 : decode cL_numbers 112 = .ok (.iload 7, 2) := by decide +kernel
theorem dL_numbers_114 : decode cL_numbers 114 = .ok (.goto 5, 3) := by decide +kernel
theorem dL_numbers_117 : decode cL_numbers 117 = .ok (.iload 6, 2) := by decide +kernel
theorem dL_numbers_119 : decode cL_numbers 119 = .ok (.istore 6, 2) := by decide +kernel
theorem dL_numbers_121 : decode cL_numbers 121 = .ok (.iinc 7 1, 3) := by decide +kernel
theorem dL_numbers_124 : decode cL_numbers 124 = .ok (.goto (-61), 3) := by decide +kernel
theorem dL_numbers_127 : decode cL_numbers 127 = .ok (.aload_n 0, 1) := by decide +kernel
theorem dL_numbers_128 : decode cL_numbers 128 = .ok (.invokestatic 96, 3) := by decide +kernel
theorem dL_numbers_131 : decode cL_numbers 131 = .ok (.aload_n 1, 1) := by decide +kernel
theorem dL_numbers_132 : decode cL_numbers 132 = .ok (.iconst 4, 1) := by decide +kernel
theorem dL_numbers_133 : decode cL_numbers 133 = .ok (.iaload, 1) := by decide +kernel
theorem dL_numbers_134 : decode cL_numbers 134 = .ok (.if_icmp .ne 122, 3) := by decide +kernel
theorem dL_numbers_137 : decode cL_numbers 137 = .ok (.aload_n 0, 1) := by decide +kernel
theorem dL_numbers_138 : decode cL_numbers 138 = .ok (.invokevirtual 100, 3) := by decide +kernel
theorem dL_numbers_141 : decode cL_numbers 141 = .ok (.iconst 1, 1) := by decide +kernel
theorem dL_numbers_142 : decode cL_numbers 142 = .ok (.aload_n 1, 1) := by decide +kernel
theorem dL_numbers_143 : decode cL_numbers 143 = .ok (.iconst 4, 1) := by decide +kernel
theorem dL_numbers_144 : decode cL_numbers 144 = .ok (.iaload, 1) := by decide +kernel
theorem dL_numbers_145 : decode cL_numbers 145 = .ok (.iconst 2, 1) := by decide +kernel
theorem dL_numbers_146 : decode cL_numbers 146 = .ok (.idiv, 1) := by decide +kernel
theorem dL_numbers_147 : decode cL_numbers 147 = .ok (.iadd, 1) := by decide +kernel
theorem dL_numbers_148 : decode cL_numbers 148 = .ok (.if_icmp .ne 108, 3) := by decide +kernel
theorem dL_numbers_151 : decode cL_numbers 151 = .ok (.aload_n 0, 1) := by decide +kernel
theorem dL_numbers_152 : decode cL_numbers 152 = .ok (.invokevirtual 103, 3) := by decide +kernel
theorem dL_numbers_155 : decode cL_numbers 155 = .ok (.bipush 20, 2) := by decide +kernel
theorem dL_numbers_157 : decode cL_numbers 157 = .ok (.iload_n 2, 1) := by decide +kernel
theorem dL_numbers_158 : decode cL_numbers 158 = .ok (.isub, 1) := by decide +kernel
theorem dL_numbers_159 : decode cL_numbers 159 = .ok (.if_icmp .ne 97, 3) := by decide +kernel
theorem dL_numbers_162 : decode cL_numbers 162 = .ok (.iload_n 3, 1) := by decide +kernel
theorem dL_numbers_163 : decode cL_numbers 163 = .ok (.ifCond .lt 93, 3) := by decide +kernel
theorem dL_numbers_166 : decode cL_numbers 166 = .ok (.iload_n 3, 1) := by decide +kernel
theorem dL_numbers_167 : decode cL_numbers 167 = .ok (.sipush 256, 3) := by decide +kernel
theorem dL_numbers_170 : decode cL_numbers 170 = .ok (.if_icmp .ge 86, 3) := by decide +kernel
theorem dL_numbers_173 : decode cL_numbers 173 = .ok (.aload_n 0, 1) := by decide +kernel
theorem dL_numbers_174 : decode cL_numbers 174 = .ok (.invokevirtual 80, 3) := by decide +kernel
theorem dL_numbers_177 : decode cL_numbers 177 = .ok (.iload_n 3, 1) := by decide +kernel
theorem dL_numbers_178 : decode cL_numbers 178 = .ok (.iconst (-1), 1) := by decide +kernel
theorem dL_numbers_179 : decode cL_numbers 179 = .ok (.ixor, 1) := by decide +kernel
theorem dL_numbers_180 : decode cL_numbers 180 = .ok (.iand, 1) := by decide +kernel
theorem dL_numbers_181 : decode cL_numbers 181 = .ok (.ifCond .ne 75, 3) := by decide +kernel
theorem dL_numbers_184 : decode cL_numbers 184 = .ok (.iload 4, 2) := by decide +kernel
theorem dL_numbers_186 : decode cL_numbers 186 = .ok (.iload_n 3, 1) := by decide +kernel
theorem dL_numbers_187 : decode cL_numbers 187 = .ok (.iand, 1) := by decide +kernel
theorem dL_numbers_188 : decode cL_numbers 188 = .ok (.ifCond .ne 68, 3) := by decide +kernel
theorem dL_numbers_191 : decode cL_numbers 191 = .ok (.iload 4, 2) := by decide +kernel
theorem dL_numbers_193 : decode cL_numbers 193 = .ok (.ifCond .lt 63, 3) := by decide +kernel
theorem dL_numbers_196 : decode cL_numbers 196 = .ok (.iload 4, 2) := by decide +kernel
theorem dL_numbers_198 : decode cL_numbers 198 = .ok (.sipush 256, 3) := by decide +kernel
theorem dL_numbers_201 : decode cL_numbers 201 = .ok (.if_icmp .ge 55, 3) := by decide +kernel
theorem dL_numbers_204 : decode cL_numbers 204 = .ok (.iload 4, 2) := by decide +kernel
theorem dL_numbers_206 : decode cL_numbers 206 = .ok (.ifCond .eq 14, 3) := by decide +kernel
theorem dL_numbers_209 : decode cL_numbers 209 = .ok (.iload_n 3, 1) := by decide +kernel
theorem dL_numbers_210 : decode cL_numbers 210 = .ok (.invokestatic 106, 3) := by decide +kernel
theorem dL_numbers_213 : decode cL_numbers 213 = .ok (.aload_n 0, 1) := by decide +kernel
theorem dL_numbers_214 : decode cL_numbers 214 = .ok (.invokevirtual 100, 3) := by decide +kernel
theorem dL_numbers_217 : decode cL_numbers 217 = .ok (.if_icmp .ge 39, 3) := by decide +kernel
theorem dL_numbers_220 : decode cL_numbers 220 = .ok (.aload_n 0, 1) := by decide +kernel
theorem dL_numbers_221 : decode cL_numbers 221 = .ok (.invokevirtual 109, 3) := by decide +kernel
theorem dL_numbers_224 : decode cL_numbers 224 = .ok (.iload 5, 2) := by decide +kernel
theorem dL_numbers_226 : decode cL_numbers 226 = .ok (.bipush 8, 2) := by decide +kernel
theorem dL_numbers_228 : decode cL_numbers 228 = .ok (.idiv, 1) := by decide +kernel
theorem dL_numbers_229 : decode cL_numbers 229 = .ok (.if_icmp .ne 27, 3) := by decide +kernel
theorem dL_numbers_232 : decode cL_numbers 232 = .ok (.aload_n 0, 1) := by decide +kernel
theorem dL_numbers_233 : decode cL_numbers 233 = .ok (.iconst 3, 1) := by decide +kernel
theorem dL_numbers_234 : decode cL_numbers 234 = .ok (.invokestatic 75, 3) := by decide +kernel
theorem dL_numbers_237 : decode cL_numbers 237 = .ok (.ldc 18, 2) := by decide +kernel
theorem dL_numbers_239 : decode cL_numbers 239 = .ok (.if_icmp .ne 17, 3) := by decide +kernel
theorem dL_numbers_242 : decode cL_numbers 242 = .ok (.aload_n 0, 1) := by decide +kernel
theorem dL_numbers_243 : decode cL_numbers 243 = .ok (.iconst (-1), 1) := by decide +kernel
theorem dL_numbers_244 : decode cL_numbers 244 = .ok (.invokestatic 75, 3) := by decide +kernel
theorem dL_numbers_247 : decode cL_numbers 247 = .ok (.ldc 18, 2) := by decide +kernel
theorem dL_numbers_249 : decode cL_numbers 249 = .ok (.if_icmp .ne 7, 3) := by decide +kernel
theorem dL_numbers_252 : decode cL_numbers 252 = .ok (.iconst 1, 1) := by decide +kernel
theorem dL_numbers_253 : decode cL_numbers 253 = .ok (.goto 4, 3) := by decide +kernel
theorem dL_numbers_256 : decode cL_numbers 256 = .ok (.iconst 0, 1) := by decide +kernel
theorem dL_numbers_257 : decode cL_numbers 257 = .ok (.ireturn, 1) := by decide +kernel
theorem dL_orders_0 : decode cL_orders 0 = .ok (.aload_n 0, 1) := by decide +kernel
theorem dL_orders_1 : decode cL_orders 1 = .ok (.invokevirtual 112, 3) := by decide +kernel
theorem dL_orders_4 : decode cL_orders 4 = .ok (.istore_n 2, 1) := by decide +kernel
theorem dL_orders_5 : decode cL_orders 5 = .ok (.aload_n 0, 1) := by decide +kernel
theorem dL_orders_6 : decode cL_orders 6 = .ok (.invokestatic 96, 3) := by decide +kernel
theorem dL_orders_9 : decode cL_orders 9 = .ok (.aload_n 0, 1) := by decide +kernel
theorem dL_orders_10 : decode cL_orders 10 = .ok (.invokevirtual 90, 3) := by decide +kernel
theorem dL_orders_13 : decode cL_orders 13 = .ok (.invokestatic 106, 3) := by decide +kernel
theorem dL_orders_16 : decode cL_orders 16 = .ok (.iadd, 1) := by decide +kernel
theorem dL_orders_17 : decode cL_orders 17 = .ok (.istore_n 3, 1) := by decide +kernel
theorem dL_orders_18 : decode cL_orders 18 = .ok (.aload_n 0, 1) := by decide +kernel
theorem dL_orders_19 : decode cL_orders 19 = .ok (.invokestatic 115, 3) := by decide +kernel
theorem dL_orders_22 : decode cL_orders 22 = .ok (.istore 4, 2) := by decide +kernel
theorem dL_orders_24 : decode cL_orders 24 = .ok (.iload 4, 2) := by decide +kernel
theorem dL_orders_26 : decode cL_orders 26 = .ok (.iload_n 3, 1) := by decide +kernel
theorem dL_orders_27 : decode cL_orders 27 = .ok (.bipush 8, 2) := by decide +kernel
theorem dL_orders_29 : decode cL_orders 29 = .ok (.if_icmp .le 8, 3) := by decide +kernel
theorem dL_orders_32 : decode cL_orders 32 = .ok (.ldc 40, 2) := by decide +kernel
theorem dL_orders_34 : decode cL_orders 34 = .ok (.goto 12, 3) := by decide +kernel
theorem dL_orders_37 : decode cL_orders 37 = .ok (.iload_n 2, 1) := by decide +kernel
theorem dL_orders_38 : decode cL_orders 38 = .ok (.ifCond .eq 7, 3) := by decide +kernel
theorem dL_orders_41 : decode cL_orders 41 = .ok (.iconst 1, 1) := by decide +kernel
theorem dL_orders_42 : decode cL_orders 42 = .ok (.goto 4, 3) := by decide +kernel
theorem dL_orders_45 : decode cL_orders 45 = .ok (.iconst 0, 1) := by decide +kernel
theorem dL_orders_46 : decode cL_orders 46 = .ok (.if_icmp .ne 13, 3) := by decide +kernel
theorem dL_orders_49 : decode cL_orders 49 = .ok (.aload_n 0, 1) := by decide +kernel
theorem dL_orders_50 : decode cL_orders 50 = .ok (.iconst (-1), 1) := by decide +kernel
theorem dL_orders_51 : decode cL_orders 51 = .ok (.invokestatic 118, 3) := by decide +kernel
theorem dL_orders_54 : decode cL_orders 54 = .ok (.ldc 18, 2) := by decide +kernel
theorem dL_orders_56 : decode cL_orders 56 = .ok (.if_icmp .eq 5, 3) := by decide +kernel
theorem dL_orders_59 : decode cL_orders 59 = .ok (.iconst 0, 1) := by decide +kernel
theorem dL_orders_60 : decode cL_orders 60 = .ok (.ireturn, 1) := by decide +kernel
theorem dL_orders_61 : decode cL_orders 61 = .ok (.iload_n 2, 1) := by decide +kernel
theorem dL_orders_62 : decode cL_orders 62 = .ok (.ifCond .ne 30, 3) := by decide +kernel
theorem dL_orders_65 : decode cL_orders 65 = .ok (.aload_n 0, 1) := by decide +kernel
theorem dL_orders_66 : decode cL_orders 66 = .ok (.iconst 0, 1) := by decide +kernel
theorem dL_orders_67 : decode cL_orders 67 = .ok (.invokestatic 118, 3) := by decide +kernel
theorem dL_orders_70 : decode cL_orders 70 = .ok (.ldc 40, 2) := by decide +kernel
theorem dL_orders_72 : decode cL_orders 72 = .ok (.if_icmp .ne 18, 3) := by decide +kernel
theorem dL_orders_75 : decode cL_orders 75 = .ok (.aload_n 0, 1) := by decide +kernel
theorem dL_orders_76 : decode cL_orders 76 = .ok (.bipush 99, 2) := by decide +kernel
theorem dL_orders_78 : decode cL_orders 78 = .ok (.invokestatic 118, 3) := by decide +kernel
theorem dL_orders_81 : decode cL_orders 81 = .ok (.ldc 40, 2) := by decide +kernel
theorem dL_orders_83 : decode cL_orders 83 = .ok (.if_icmp .ne 7, 3) := by decide +kernel
theorem dL_orders_86 : decode cL_orders 86 = .ok (.iconst 1, 1) := by decide +kernel
theorem dL_orders_87 : decode cL_orders 87 = .ok (.goto 4, 3) := by decide +kernel
theorem dL_orders_90 : decode cL_orders 90 = .ok (.iconst 0, 1) := by decide +kernel
theorem dL_orders_91 : decode cL_orders 91 = .ok (.ireturn, 1) := by decide +kernel
theorem dL_orders_92 : decode cL_orders 92 = .ok (.aload_n 1, 1) := by decide +kernel
theorem dL_orders_93 : decode cL_orders 93 = .ok (.invokevirtual 120, 3) := by decide +kernel
theorem dL_orders_96 : decode cL_orders 96 = .ok (.istore 5, 2) := by decide +kernel
theorem dL_orders_98 : decode cL_orders 98 = .ok (.iload 5, 2) := by decide +kernel
theorem dL_orders_100 : decode cL_orders 100 = .ok (.iload_n 3, 1) := by decide +kernel
theorem dL_orders_101 : decode cL_orders 101 = .ok (.if_icmp .ne 37, 3) := by decide +kernel
theorem dL_orders_104 : decode cL_orders 104 = .ok (.aload_n 1, 1) := by decide +kernel
theorem dL_orders_105 : decode cL_orders 105 = .ok (.invokevirtual 90, 3) := by decide +kernel
theorem dL_orders_108 : decode cL_orders 108 = .ok (.ifCond .ne 30, 3) := by decide +kernel
theorem dL_orders_111 : decode cL_orders 111 = .ok (.aload_n 1, 1) := by decide +kernel
theorem dL_orders_112 : decode cL_orders 112 = .ok (.invokestatic 96, 3) := by decide +kernel
theorem dL_orders_115 : decode cL_orders 115 = .ok (.ifCond .ne 23, 3) := by decide +kernel
theorem dL_orders_118 : decode cL_orders 118 = .ok (.aload_n 1, 1) := by decide +kernel
theorem dL_orders_119 : decode cL_orders 119 = .ok (.invokevirtual 112, 3) := by decide +kernel
theorem dL_orders_122 : decode cL_orders 122 = .ok (.ifCond .eq 16, 3) := by decide +kernel
theorem dL_orders_125 : decode cL_orders 125 = .ok (.aload_n 1, 1) := by decide +kernel
theorem dL_orders_126 : decode cL_orders 126 = .ok (.iconst 0, 1) := by decide +kernel
theorem dL_orders_127 : decode cL_orders 127 = .ok (.invokestatic 118, 3) := by decide +kernel
theorem dL_orders_130 : decode cL_orders 130 = .ok (.iconst (-1), 1) := by decide +kernel
theorem dL_orders_131 : decode cL_orders 131 = .ok (.if_icmp .ne 7, 3) := by decide +kernel
theorem dL_orders_134 : decode cL_orders 134 = .ok (.iconst 1, 1) := by decide +kernel
theorem dL_orders_135 : decode cL_orders 135 = .ok (.goto 4, 3) := by decide +kernel
theorem dL_orders_138 : decode cL_orders 138 = .ok (.iconst 0, 1) := by decide +kernel
theorem dL_orders_139 : decode cL_orders 139 = .ok (.istore 6, 2) := by decide +kernel
theorem dL_orders_141 : decode cL_orders 141 = .ok (.iconst 0, 1) := by decide +kernel
theorem dL_orders_142 : decode cL_orders 142 = .ok (.istore 7, 2) := by decide +kernel
theorem dL_orders_144 : decode cL_orders 144 = .ok (.iload 7, 2) := by decide +kernel
theorem dL_orders_146 : decode cL_orders 146 = .ok (.iload_n 3, 1) := by decide +kernel
theorem dL_orders_147 : decode cL_orders 147 = .ok (.if_icmp .ge 89, 3) := by decide +kernel
theorem dL_orders_150 : decode cL_orders 150 = .ok (.iload 6, 2) := by decide +kernel
theorem dL_orders_152 : decode cL_orders 152 = .ok (.ifCond .eq 84, 3) := by decide +kernel
theorem dL_orders_155 : decode cL_orders 155 = .ok (.aload_n 0, 1) := by decide +kernel
theorem dL_orders_156 : decode cL_orders 156 = .ok (.iload 7, 2) := by decide +kernel
theorem dL_orders_158 : decode cL_orders 158 = .ok (.invokestatic 118, 3) := by decide +kernel
theorem dL_orders_161 : decode cL_orders 161 = .ok (.istore 8, 2) := by decide +kernel
theorem dL_orders_163 : decode cL_orders 163 = .ok (.iload 8, 2) := by decide +kernel
theorem dL_orders_165 : decode cL_orders 165 = .ok (.bipush 10, 2) := by decide +kernel
theorem dL_orders_167 : decode cL_orders 167 = .ok (.if_icmp .ge 25, 3) := by decide +kernel
theorem dL_orders_170 : decode cL_orders 170 = .ok (.iload 8, 2) := by decide +kernel
theorem dL_orders_172 : decode cL_orders 172 = .ok (.ifCond .lt 16, 3) := by decide +kernel
theorem dL_orders_175 : decode cL_orders 175 = .ok (.aload_n 1, 1) := by decide +kernel
theorem dL_orders_176 : decode cL_orders 176 = .ok (.iload 8, 2) := by decide +kernel
theorem dL_orders_178 : decode cL_orders 178 = .ok (.invokestatic 123, 3) := by decide +kernel
theorem dL_orders_181 : decode cL_orders 181 = .ok (.ifCond .le 7, 3) := by decide +kernel
theorem dL_orders_184 : decode cL_orders 184 = .ok (.iconst 1, 1) := by decide +kernel
theorem dL_orders_185 : decode cL_orders 185 = .ok (.goto 24, 3) := by decide +kernel
theorem dL_orders_188 : decode cL_orders 188 = .ok (.iconst 0, 1) := by decide +kernel
theorem dL_orders_189 : decode cL_orders 189 = .ok (.goto 20, 3) := by decide +kernel
theorem dL_orders_192 : decode cL_orders 192 = .ok (.aload_n 1, 1) := by decide +kernel
theorem dL_orders_193 : decode cL_orders 193 = .ok (.iload 8, 2) := by decide +kernel
theorem dL_orders_195 : decode cL_orders 195 = .ok (.bipush 10, 2) := by decide +kernel
theorem dL_orders_197 : decode cL_orders 197 = .ok (.isub, 1) := by decide +kernel
theorem dL_orders_198 : decode cL_orders 198 = .ok (.invokestatic 125, 3) := by decide +kernel
theorem dL_orders_201 : decode cL_orders 201 = .ok (.ifCond .le 7, 3) := by decide +kernel
theorem dL_orders_204 : decode cL_orders 204 = .ok (.iconst 1, 1) := by decide +kernel
theorem dL_orders_205 : decode cL_orders 205 = .ok (.goto 4, 3) := by decide +kernel
theorem dL_orders_208 : decode cL_orders 208 = .ok (.iconst 0, 1) := by decide +kernel
theorem dL_orders_209 : decode cL_orders 209 = .ok (.istore 6, 2) := by decide +kernel
theorem dL_orders_211 : decode cL_orders 211 = .ok (.iload 6, 2) := by decide +kernel
theorem dL_orders_213 : decode cL_orders 213 = .ok (.ifCond .eq 14, 3) := by decide +kernel
theorem dL_orders_216 : decode cL_orders 216 = .ok (.aload_n 1, 1) := by decide +kernel
theorem dL_orders_217 : decode cL_orders 217 = .ok (.invokevirtual 112, 3) := by decide +kernel
theorem dL_orders_220 : decode cL_orders 220 = .ok (.ifCond .eq 7, 3) := by decide +kernel
theorem dL_orders_223 : decode cL_orders 223 = .ok (.iconst 1, 1) := by decide +kernel
theorem dL_orders_224 : decode cL_orders 224 = .ok (.goto 4, 3) := by decide +kernel
theorem dL_orders_227 : decode cL_orders 227 = .ok (.iconst 0, 1) := by decide +kernel
theorem dL_orders_228 : decode cL_orders 228 = .ok (.istore 6, 2) := by decide +kernel
theorem dL_orders_230 : decode cL_orders 230 = .ok (.iinc 7 1, 3) := by decide +kernel
theorem dL_orders_233 : decode cL_orders 233 = .ok (.goto (-89), 3) := by decide +kernel
theorem dL_orders_236 : decode cL_orders 236 = .ok (.iload 6, 2) := by decide +kernel
theorem dL_orders_238 : decode cL_orders 238 = .ok (.ifCond .eq 37, 3) := by decide +kernel
theorem dL_orders_241 : decode cL_orders 241 = .ok (.aload_n 0, 1) := by decide +kernel
theorem dL_orders_242 : decode cL_orders 242 = .ok (.iload_n 3, 1) := by decide +kernel
theorem dL_orders_243 : decode cL_orders 243 = .ok (.invokestatic 118, 3) := by decide +kernel
theorem dL_orders_246 : decode cL_orders 246 = .ok (.iconst (-1), 1) := by decide +kernel
theorem dL_orders_247 : decode cL_orders 247 = .ok (.if_icmp .ne 28, 3) := by decide +kernel
theorem dL_orders_250 : decode cL_orders 250 = .ok (.aload_n 0, 1) := by decide +kernel
theorem dL_orders_251 : decode cL_orders 251 = .ok (.ldc 9, 2) := by decide +kernel
theorem dL_orders_253 : decode cL_orders 253 = .ok (.invokestatic 118, 3) := by decide +kernel
theorem dL_orders_256 : decode cL_orders 256 = .ok (.iconst (-1), 1) := by decide +kernel
theorem dL_orders_257 : decode cL_orders 257 = .ok (.if_icmp .ne 18, 3) := by decide +kernel
theorem dL_orders_260 : decode cL_orders 260 = .ok (.aload_n 1, 1) := by decide +kernel
theorem dL_orders_261 : decode cL_orders 261 = .ok (.invokevirtual 90, 3) := by decide +kernel
theorem dL_orders_264 : decode cL_orders 264 = .ok (.aload_n 0, 1) := by decide +kernel
theorem dL_orders_265 : decode cL_orders 265 = .ok (.invokevirtual 90, 3) := by decide +kernel
theorem dL_orders_268 : decode cL_orders 268 = .ok (.if_icmp .ne 7, 3) := by decide +kernel
theorem dL_orders_271 : decode cL_orders 271 = .ok (.iconst 1, 1) := by decide +kernel
theorem dL_orders_272 : decode cL_orders 272 = .ok (.goto 4, 3) := by decide +kernel
theorem dL_orders_275 : decode cL_orders 275 = .ok (.iconst 0, 1) := by decide +kernel
theorem dL_orders_276 : decode cL_orders 276 = .ok (.istore 6, 2) := by decide +kernel
theorem dL_orders_278 : decode cL_orders 278 = .ok (.iconst 0, 1) := by decide +kernel
theorem dL_orders_279 : decode cL_orders 279 = .ok (.istore 7, 2) := by decide +kernel
theorem dL_orders_281 : decode cL_orders 281 = .ok (.iload 7, 2) := by decide +kernel
theorem dL_orders_283 : decode cL_orders 283 = .ok (.iconst 3, 1) := by decide +kernel
theorem dL_orders_284 : decode cL_orders 284 = .ok (.if_icmp .ge 36, 3) := by decide +kernel
theorem dL_orders_287 : decode cL_orders 287 = .ok (.iload 6, 2) := by decide +kernel
theorem dL_orders_289 : decode cL_orders 289 = .ok (.ifCond .eq 22, 3) := by decide +kernel
theorem dL_orders_292 : decode cL_orders 292 = .ok (.aload_n 1, 1) := by decide +kernel
theorem dL_orders_293 : decode cL_orders 293 = .ok (.iload 7, 2) := by decide +kernel
theorem dL_orders_295 : decode cL_orders 295 = .ok (.invokestatic 75, 3) := by decide +kernel
theorem dL_orders_298 : decode cL_orders 298 = .ok (.aload_n 0, 1) := by decide +kernel
theorem dL_orders_299 : decode cL_orders 299 = .ok (.iload 7, 2) := by decide +kernel
theorem dL_orders_301 : decode cL_orders 301 = .ok (.invokestatic 75, 3) := by decide +kernel
theorem dL_orders_304 : decode cL_orders 304 = .ok (.if_icmp .ne 7, 3) := by decide +kernel
theorem dL_orders_307 : decode cL_orders 307 = .ok (.iconst 1, 1) := by decide +kernel
theorem dL_orders_308 : decode cL_orders 308 = .ok (.goto 4, 3) := by decide +kernel
theorem dL_orders_311 : decode cL_orders 311 = .ok (.iconst 0, 1) := by decide +kernel
theorem dL_orders_312 : decode cL_orders 312 = .ok (.istore 6, 2) := by decide +kernel
theorem dL_orders_314 : decode cL_orders 314 = .ok (.iinc 7 1, 3) := by decide +kernel
theorem dL_orders_317 : decode cL_orders 317 = .ok (.goto (-36), 3) := by decide +kernel
theorem dL_orders_320 : decode cL_orders 320 = .ok (.iload 6, 2) := by decide +kernel
theorem dL_orders_322 : decode cL_orders 322 = .ok (.ifCond .eq 29, 3) := by decide +kernel
theorem dL_orders_325 : decode cL_orders 325 = .ok (.aload_n 1, 1) := by decide +kernel
theorem dL_orders_326 : decode cL_orders 326 = .ok (.invokevirtual 80, 3) := by decide +kernel
theorem dL_orders_329 : decode cL_orders 329 = .ok (.aload_n 0, 1) := by decide +kernel
theorem dL_orders_330 : decode cL_orders 330 = .ok (.invokevirtual 80, 3) := by decide +kernel
theorem dL_orders_333 : decode cL_orders 333 = .ok (.if_icmp .ne 18, 3) := by decide +kernel
theorem dL_orders_336 : decode cL_orders 336 = .ok (.aload_n 1, 1) := by decide +kernel
theorem dL_orders_337 : decode cL_orders 337 = .ok (.invokevirtual 109, 3) := by decide +kernel
theorem dL_orders_340 : decode cL_orders 340 = .ok (.aload_n 0, 1) := by decide +kernel
theorem dL_orders_341 : decode cL_orders 341 = .ok (.invokevirtual 109, 3) := by decide +kernel
theorem dL_orders_344 : decode cL_orders 344 = .ok (.if_icmp .ne 7, 3) := by decide +kernel
theorem dL_orders_347 : decode cL_orders 347 = .ok (.iconst 1, 1) := by decide +kernel
theorem dL_orders_348 : decode cL_orders 348 = .ok (.goto 4, 3) := by decide +kernel
theorem dL_orders_351 : decode cL_orders 351 = .ok (.iconst 0, 1) := by decide +kernel
theorem dL_orders_352 : decode cL_orders 352 = .ok (.ireturn, 1) := by decide +kernel
theorem dL_takes_0 : decode cL_takes 0 = .ok (.aload_n 0, 1) := by decide +kernel
theorem dL_takes_1 : decode cL_takes 1 = .ok (.invokevirtual 112, 3) := by decide +kernel
theorem dL_takes_4 : decode cL_takes 4 = .ok (.istore_n 3, 1) := by decide +kernel
theorem dL_takes_5 : decode cL_takes 5 = .ok (.aload_n 0, 1) := by decide +kernel
theorem dL_takes_6 : decode cL_takes 6 = .ok (.invokevirtual 90, 3) := by decide +kernel
theorem dL_takes_9 : decode cL_takes 9 = .ok (.istore 4, 2) := by decide +kernel
theorem dL_takes_11 : decode cL_takes 11 = .ok (.aload_n 0, 1) := by decide +kernel
theorem dL_takes_12 : decode cL_takes 12 = .ok (.invokevirtual 93, 3) := by decide +kernel
theorem dL_takes_15 : decode cL_takes 15 = .ok (.iload_n 2, 1) := by decide +kernel
theorem dL_takes_16 : decode cL_takes 16 = .ok (.ishr, 1) := by decide +kernel
theorem dL_takes_17 : decode cL_takes 17 = .ok (.iconst 1, 1) := by decide +kernel
theorem dL_takes_18 : decode cL_takes 18 = .ok (.iand, 1) := by decide +kernel
theorem dL_takes_19 : decode cL_takes 19 = .ok (.iconst 1, 1) := by decide +kernel
theorem dL_takes_20 : decode cL_takes 20 = .ok (.if_icmp .ne 7, 3) := by decide +kernel
theorem dL_takes_23 : decode cL_takes 23 = .ok (.iconst 1, 1) := by decide +kernel
theorem dL_takes_24 : decode cL_takes 24 = .ok (.goto 4, 3) := by decide +kernel
theorem dL_takes_27 : decode cL_takes 27 = .ok (.iconst 0, 1) := by decide +kernel
theorem dL_takes_28 : decode cL_takes 28 = .ok (.istore 5, 2) := by decide +kernel
theorem dL_takes_30 : decode cL_takes 30 = .ok (.aload_n 0, 1) := by decide +kernel
theorem dL_takes_31 : decode cL_takes 31 = .ok (.iload_n 2, 1) := by decide +kernel
theorem dL_takes_32 : decode cL_takes 32 = .ok (.invokestatic 125, 3) := by decide +kernel
theorem dL_takes_35 : decode cL_takes 35 = .ok (.istore 6, 2) := by decide +kernel
theorem dL_takes_37 : decode cL_takes 37 = .ok (.aload_n 1, 1) := by decide +kernel
theorem dL_takes_38 : decode cL_takes 38 = .ok (.iload_n 2, 1) := by decide +kernel
theorem dL_takes_39 : decode cL_takes 39 = .ok (.invokestatic 125, 3) := by decide +kernel
theorem dL_takes_42 : decode cL_takes 42 = .ok (.iload 6, 2) := by decide +kernel
theorem dL_takes_44 : decode cL_takes 44 = .ok (.if_icmp .ne 74, 3) := by decide +kernel
theorem dL_takes_47 : decode cL_takes 47 = .ok (.iload 6, 2) := by decide +kernel
theorem dL_takes_49 : decode cL_takes 49 = .ok (.iload 5, 2) := by decide +kernel
theorem dL_takes_51 : decode cL_takes 51 = .ok (.ifCond .eq 13, 3) := by decide +kernel
theorem dL_takes_54 : decode cL_takes 54 = .ok (.iload 4, 2) := by decide +kernel
theorem dL_takes_56 : decode cL_takes 56 = .ok (.invokestatic 106, 3) := by decide +kernel
theorem dL_takes_59 : decode cL_takes 59 = .ok (.iconst 1, 1) := by decide +kernel
theorem dL_takes_60 : decode cL_takes 60 = .ok (.iadd, 1) := by decide +kernel
theorem dL_takes_61 : decode cL_takes 61 = .ok (.goto 5, 3) := by decide +kernel
theorem dL_takes_64 : decode cL_takes 64 = .ok (.ldc 40, 2) := by decide +kernel
theorem dL_takes_66 : decode cL_takes 66 = .ok (.if_icmp .ne 52, 3) := by decide +kernel
theorem dL_takes_69 : decode cL_takes 69 = .ok (.aload_n 0, 1) := by decide +kernel
theorem dL_takes_70 : decode cL_takes 70 = .ok (.invokevirtual 90, 3) := by decide +kernel
theorem dL_takes_73 : decode cL_takes 73 = .ok (.iload 5, 2) := by decide +kernel
theorem dL_takes_75 : decode cL_takes 75 = .ok (.ifCond .eq 12, 3) := by decide +kernel
theorem dL_takes_78 : decode cL_takes 78 = .ok (.iload 4, 2) := by decide +kernel
theorem dL_takes_80 : decode cL_takes 80 = .ok (.iconst 1, 1) := by decide +kernel
theorem dL_takes_81 : decode cL_takes 81 = .ok (.iload_n 2, 1) := by decide +kernel
theorem dL_takes_82 : decode cL_takes 82 = .ok (.ishl, 1) := by decide +kernel
theorem dL_takes_83 : decode cL_takes 83 = .ok (.ior, 1) := by decide +kernel
theorem dL_takes_84 : decode cL_takes 84 = .ok (.goto 5, 3) := by decide +kernel
theorem dL_takes_87 : decode cL_takes 87 = .ok (.iload 4, 2) := by decide +kernel
theorem dL_takes_89 : decode cL_takes 89 = .ok (.if_icmp .ne 29, 3) := by decide +kernel
theorem dL_takes_92 : decode cL_takes 92 = .ok (.iload_n 3, 1) := by decide +kernel
theorem dL_takes_93 : decode cL_takes 93 = .ok (.ifCond .eq 10, 3) := by decide +kernel
theorem dL_takes_96 : decode cL_takes 96 = .ok (.aload_n 0, 1) := by decide +kernel
theorem dL_takes_97 : decode cL_takes 97 = .ok (.invokevirtual 112, 3) := by decide +kernel
theorem dL_takes_100 : decode cL_takes 100 = .ok (.ifCond .eq 18, 3) := by decide +kernel
theorem dL_takes_103 : decode cL_takes 103 = .ok (.aload_n 0, 1) := by decide +kernel
theorem dL_takes_104 : decode cL_takes 104 = .ok (.bipush 8, 2) := by decide +kernel
theorem dL_takes_106 : decode cL_takes 106 = .ok (.invokestatic 125, 3) := by decide +kernel
theorem dL_takes_109 : decode cL_takes 109 = .ok (.ldc 18, 2) := by decide +kernel
theorem dL_takes_111 : decode cL_takes 111 = .ok (.if_icmp .ne 7, 3) := by decide +kernel
theorem dL_takes_114 : decode cL_takes 114 = .ok (.iconst 1, 1) := by decide +kernel
theorem dL_takes_115 : decode cL_takes 115 = .ok (.goto 4, 3) := by decide +kernel
theorem dL_takes_118 : decode cL_takes 118 = .ok (.iconst 0, 1) := by decide +kernel
theorem dL_takes_119 : decode cL_takes 119 = .ok (.ireturn, 1) := by decide +kernel
theorem dL_exchanges_0 : decode cL_exchanges 0 = .ok (.aload_n 0, 1) := by decide +kernel
theorem dL_exchanges_1 : decode cL_exchanges 1 = .ok (.invokevirtual 90, 3) := by decide +kernel
theorem dL_exchanges_4 : decode cL_exchanges 4 = .ok (.istore 4, 2) := by decide +kernel
theorem dL_exchanges_6 : decode cL_exchanges 6 = .ok (.aload_n 0, 1) := by decide +kernel
theorem dL_exchanges_7 : decode cL_exchanges 7 = .ok (.invokevirtual 80, 3) := by decide +kernel
theorem dL_exchanges_10 : decode cL_exchanges 10 = .ok (.istore 5, 2) := by decide +kernel
theorem dL_exchanges_12 : decode cL_exchanges 12 = .ok (.aload_n 0, 1) := by decide +kernel
theorem dL_exchanges_13 : decode cL_exchanges 13 = .ok (.iload_n 2, 1) := by decide +kernel
theorem dL_exchanges_14 : decode cL_exchanges 14 = .ok (.iload_n 3, 1) := by decide +kernel
theorem dL_exchanges_15 : decode cL_exchanges 15 = .ok (.invokestatic 127, 3) := by decide +kernel
theorem dL_exchanges_18 : decode cL_exchanges 18 = .ok (.istore 6, 2) := by decide +kernel
theorem dL_exchanges_20 : decode cL_exchanges 20 = .ok (.iload 4, 2) := by decide +kernel
theorem dL_exchanges_22 : decode cL_exchanges 22 = .ok (.iload_n 2, 1) := by decide +kernel
theorem dL_exchanges_23 : decode cL_exchanges 23 = .ok (.ishr, 1) := by decide +kernel
theorem dL_exchanges_24 : decode cL_exchanges 24 = .ok (.iconst 1, 1) := by decide +kernel
theorem dL_exchanges_25 : decode cL_exchanges 25 = .ok (.iand, 1) := by decide +kernel
theorem dL_exchanges_26 : decode cL_exchanges 26 = .ok (.iconst 1, 1) := by decide +kernel
theorem dL_exchanges_27 : decode cL_exchanges 27 = .ok (.if_icmp .ne 16, 3) := by decide +kernel
theorem dL_exchanges_30 : decode cL_exchanges 30 = .ok (.iload 4, 2) := by decide +kernel
theorem dL_exchanges_32 : decode cL_exchanges 32 = .ok (.iload_n 3, 1) := by decide +kernel
theorem dL_exchanges_33 : decode cL_exchanges 33 = .ok (.ishr, 1) := by decide +kernel
theorem dL_exchanges_34 : decode cL_exchanges 34 = .ok (.iconst 1, 1) := by decide +kernel
theorem dL_exchanges_35 : decode cL_exchanges 35 = .ok (.iand, 1) := by decide +kernel
theorem dL_exchanges_36 : decode cL_exchanges 36 = .ok (.ifCond .ne 7, 3) := by decide +kernel
theorem dL_exchanges_39 : decode cL_exchanges 39 = .ok (.iconst 1, 1) := by decide +kernel
theorem dL_exchanges_40 : decode cL_exchanges 40 = .ok (.goto 4, 3) := by decide +kernel
theorem dL_exchanges_43 : decode cL_exchanges 43 = .ok (.iconst 0, 1) := by decide +kernel
theorem dL_exchanges_44 : decode cL_exchanges 44 = .ok (.istore 7, 2) := by decide +kernel
theorem dL_exchanges_46 : decode cL_exchanges 46 = .ok (.aload_n 1, 1) := by decide +kernel
theorem dL_exchanges_47 : decode cL_exchanges 47 = .ok (.iload_n 2, 1) := by decide +kernel
theorem dL_exchanges_48 : decode cL_exchanges 48 = .ok (.iload_n 3, 1) := by decide +kernel
theorem dL_exchanges_49 : decode cL_exchanges 49 = .ok (.invokestatic 127, 3) := by decide +kernel
theorem dL_exchanges_52 : decode cL_exchanges 52 = .ok (.iload 6, 2) := by decide +kernel
theorem dL_exchanges_54 : decode cL_exchanges 54 = .ok (.if_icmp .ne 15, 3) := by decide +kernel
theorem dL_exchanges_57 : decode cL_exchanges 57 = .ok (.aload_n 0, 1) := by decide +kernel
theorem dL_exchanges_58 : decode cL_exchanges 58 = .ok (.iload_n 2, 1) := by decide +kernel
theorem dL_exchanges_59 : decode cL_exchanges 59 = .ok (.bipush 8, 2) := by decide +kernel
theorem dL_exchanges_61 : decode cL_exchanges 61 = .ok (.invokestatic 127, 3) := by decide +kernel
theorem dL_exchanges_64 : decode cL_exchanges 64 = .ok (.ldc 18, 2) := by decide +kernel
theorem dL_exchanges_66 : decode cL_exchanges 66 = .ok (.if_icmp .eq 5, 3) := by decide +kernel
theorem dL_exchanges_69 : decode cL_exchanges 69 = .ok (.iconst 0, 1) := by decide +kernel
theorem dL_exchanges_70 : decode cL_exchanges 70 = .ok (.ireturn, 1) := by decide +kernel
theorem dL_exchanges_71 : decode cL_exchanges 71 = .ok (.iload 6, 2) := by decide +kernel
theorem dL_exchanges_73 : decode cL_exchanges 73 = .ok (.ifCond .ge 34, 3) := by decide +kernel
theorem dL_exchanges_76 : decode cL_exchanges 76 = .ok (.iload 6, 2) := by decide +kernel
theorem dL_exchanges_78 : decode cL_exchanges 78 = .ok (.ldc 40, 2) := by decide +kernel
theorem dL_exchanges_80 : decode cL_exchanges 80 = .ok (.if_icmp .ne 25, 3) := by decide +kernel
theorem dL_exchanges_83 : decode cL_exchanges 83 = .ok (.aload_n 0, 1) := by decide +kernel
theorem dL_exchanges_84 : decode cL_exchanges 84 = .ok (.invokevirtual 90, 3) := by decide +kernel
theorem dL_exchanges_87 : decode cL_exchanges 87 = .ok (.iload 4, 2) := by decide +kernel
theorem dL_exchanges_89 : decode cL_exchanges 89 = .ok (.if_icmp .ne 16, 3) := by decide +kernel
theorem dL_exchanges_92 : decode cL_exchanges 92 = .ok (.aload_n 0, 1) := by decide +kernel
theorem dL_exchanges_93 : decode cL_exchanges 93 = .ok (.invokevirtual 80, 3) := by decide +kernel
theorem dL_exchanges_96 : decode cL_exchanges 96 = .ok (.iload 5, 2) := by decide +kernel
theorem dL_exchanges_98 : decode cL_exchanges 98 = .ok (.if_icmp .ne 7, 3) := by decide +kernel
theorem dL_exchanges_101 : decode cL_exchanges 101 = .ok (.iconst 1, 1) := by decide +kernel
theorem dL_exchanges_102 : decode cL_exchanges 102 = .ok (.goto 4, 3) := by decide +kernel
theorem dL_exchanges_105 : decode cL_exchanges 105 = .ok (.iconst 0, 1) := by decide +kernel
theorem dL_exchanges_106 : decode cL_exchanges 106 = .ok (.ireturn, 1) := by decide +kernel
theorem dL_exchanges_107 : decode cL_exchanges 107 = .ok (.iload 7, 2) := by decide +kernel
theorem dL_exchanges_109 : decode cL_exchanges 109 = .ok (.ifCond .eq 56, 3) := by decide +kernel
theorem dL_exchanges_112 : decode cL_exchanges 112 = .ok (.aload_n 0, 1) := by decide +kernel
theorem dL_exchanges_113 : decode cL_exchanges 113 = .ok (.invokevirtual 112, 3) := by decide +kernel
theorem dL_exchanges_116 : decode cL_exchanges 116 = .ok (.ifCond .eq 49, 3) := by decide +kernel
theorem dL_exchanges_119 : decode cL_exchanges 119 = .ok (.aload_n 0, 1) := by decide +kernel
theorem dL_exchanges_120 : decode cL_exchanges 120 = .ok (.invokevirtual 90, 3) := by decide +kernel
theorem dL_exchanges_123 : decode cL_exchanges 123 = .ok (.iload 4, 2) := by decide +kernel
theorem dL_exchanges_125 : decode cL_exchanges 125 = .ok (.iconst 1, 1) := by decide +kernel
theorem dL_exchanges_126 : decode cL_exchanges 126 = .ok (.iload_n 2, 1) := by decide +kernel
theorem dL_exchanges_127 : decode cL_exchanges 127 = .ok (.ishl, 1) := by decide +kernel
theorem dL_exchanges_128 : decode cL_exchanges 128 = .ok (.iconst (-1), 1) := by decide +kernel
theorem dL_exchanges_129 : decode cL_exchanges 129 = .ok (.ixor, 1) := by decide +kernel
theorem dL_exchanges_130 : decode cL_exchanges 130 = .ok (.iand, 1) := by decide +kernel
theorem dL_exchanges_131 : decode cL_exchanges 131 = .ok (.iconst 1, 1) := by decide +kernel
theorem dL_exchanges_132 : decode cL_exchanges 132 = .ok (.iload_n 3, 1) := by decide +kernel
theorem dL_exchanges_133 : decode cL_exchanges 133 = .ok (.ishl, 1) := by decide +kernel
theorem dL_exchanges_134 : decode cL_exchanges 134 = .ok (.ior, 1) := by decide +kernel
theorem dL_exchanges_135 : decode cL_exchanges 135 = .ok (.if_icmp .ne 30, 3) := by decide +kernel
theorem dL_exchanges_138 : decode cL_exchanges 138 = .ok (.iload 6, 2) := by decide +kernel
theorem dL_exchanges_140 : decode cL_exchanges 140 = .ok (.iload 5, 2) := by decide +kernel
theorem dL_exchanges_142 : decode cL_exchanges 142 = .ok (.iconst 1, 1) := by decide +kernel
theorem dL_exchanges_143 : decode cL_exchanges 143 = .ok (.iload_n 2, 1) := by decide +kernel
theorem dL_exchanges_144 : decode cL_exchanges 144 = .ok (.ishl, 1) := by decide +kernel
theorem dL_exchanges_145 : decode cL_exchanges 145 = .ok (.iconst (-1), 1) := by decide +kernel
theorem dL_exchanges_146 : decode cL_exchanges 146 = .ok (.ixor, 1) := by decide +kernel
theorem dL_exchanges_147 : decode cL_exchanges 147 = .ok (.iand, 1) := by decide +kernel
theorem dL_exchanges_148 : decode cL_exchanges 148 = .ok (.aload_n 0, 1) := by decide +kernel
theorem dL_exchanges_149 : decode cL_exchanges 149 = .ok (.invokevirtual 80, 3) := by decide +kernel
theorem dL_exchanges_152 : decode cL_exchanges 152 = .ok (.iconst (-1), 1) := by decide +kernel
theorem dL_exchanges_153 : decode cL_exchanges 153 = .ok (.ixor, 1) := by decide +kernel
theorem dL_exchanges_154 : decode cL_exchanges 154 = .ok (.iand, 1) := by decide +kernel
theorem dL_exchanges_155 : decode cL_exchanges 155 = .ok (.invokestatic 106, 3) := by decide +kernel
theorem dL_exchanges_158 : decode cL_exchanges 158 = .ok (.if_icmp .ne 7, 3) := by decide +kernel
theorem dL_exchanges_161 : decode cL_exchanges 161 = .ok (.iconst 1, 1) := by decide +kernel
theorem dL_exchanges_162 : decode cL_exchanges 162 = .ok (.goto 4, 3) := by decide +kernel
theorem dL_exchanges_165 : decode cL_exchanges 165 = .ok (.iconst 0, 1) := by decide +kernel
theorem dL_exchanges_166 : decode cL_exchanges 166 = .ok (.ireturn, 1) := by decide +kernel
theorem dL_acts_0 : decode cL_acts 0 = .ok (.iload 5, 2) := by decide +kernel
theorem dL_acts_2 : decode cL_acts 2 = .ok (.bipush 24, 2) := by decide +kernel
theorem dL_acts_4 : decode cL_acts 4 = .ok (.invokestatic 129, 3) := by decide +kernel
theorem dL_acts_7 : decode cL_acts 7 = .ok (.istore 7, 2) := by decide +kernel
theorem dL_acts_9 : decode cL_acts 9 = .ok (.iload 5, 2) := by decide +kernel
theorem dL_acts_11 : decode cL_acts 11 = .ok (.iconst 5, 1) := by decide +kernel
theorem dL_acts_12 : decode cL_acts 12 = .ok (.ishr, 1) := by decide +kernel
theorem dL_acts_13 : decode cL_acts 13 = .ok (.bipush 8, 2) := by decide +kernel
theorem dL_acts_15 : decode cL_acts 15 = .ok (.invokestatic 129, 3) := by decide +kernel
theorem dL_acts_18 : decode cL_acts 18 = .ok (.istore 8, 2) := by decide +kernel
theorem dL_acts_20 : decode cL_acts 20 = .ok (.iload 7, 2) := by decide +kernel
theorem dL_acts_22 : decode cL_acts 22 = .ok (.iconst 3, 1) := by decide +kernel
theorem dL_acts_23 : decode cL_acts 23 = .ok (.if_icmp .ge 220, 3) := by decide +kernel
theorem dL_acts_26 : decode cL_acts 26 = .ok (.iload 6, 2) := by decide +kernel
theorem dL_acts_28 : decode cL_acts 28 = .ok (.iconst 3, 1) := by decide +kernel
theorem dL_acts_29 : decode cL_acts 29 = .ok (.invokestatic 129, 3) := by decide +kernel
theorem dL_acts_32 : decode cL_acts 32 = .ok (.ifCond .ne 14, 3) := by decide +kernel
theorem dL_acts_35 : decode cL_acts 35 = .ok (.iload 6, 2) := by decide +kernel
theorem dL_acts_37 : decode cL_acts 37 = .ok (.iconst 2, 1) := by decide +kernel
theorem dL_acts_38 : decode cL_acts 38 = .ok (.ishr, 1) := by decide +kernel
theorem dL_acts_39 : decode cL_acts 39 = .ok (.iconst 4, 1) := by decide +kernel
theorem dL_acts_40 : decode cL_acts 40 = .ok (.invokestatic 129, 3) := by decide +kernel
theorem dL_acts_43 : decode cL_acts 43 = .ok (.goto 4, 3) := by decide +kernel
theorem dL_acts_46 : decode cL_acts 46 = .ok (.iconst (-1), 1) := by decide +kernel
theorem dL_acts_47 : decode cL_acts 47 = .ok (.istore 9, 2) := by decide +kernel
theorem dL_acts_49 : decode cL_acts 49 = .ok (.bipush 8, 2) := by decide +kernel
theorem dL_acts_51 : decode cL_acts 51 = .ok (.iload 6, 2) := by decide +kernel
theorem dL_acts_53 : decode cL_acts 53 = .ok (.iconst 4, 1) := by decide +kernel
theorem dL_acts_54 : decode cL_acts 54 = .ok (.ishr, 1) := by decide +kernel
theorem dL_acts_55 : decode cL_acts 55 = .ok (.bipush 9, 2) := by decide +kernel
theorem dL_acts_57 : decode cL_acts 57 = .ok (.invokestatic 129, 3) := by decide +kernel
theorem dL_acts_60 : decode cL_acts 60 = .ok (.iadd, 1) := by decide +kernel
theorem dL_acts_61 : decode cL_acts 61 = .ok (.istore 10, 2) := by decide +kernel
theorem dL_acts_63 : decode cL_acts 63 = .ok (.iload 6, 2) := by decide +kernel
theorem dL_acts_65 : decode cL_acts 65 = .ok (.bipush 8, 2) := by decide +kernel
theorem dL_acts_67 : decode cL_acts 67 = .ok (.ishr, 1) := by decide +kernel
theorem dL_acts_68 : decode cL_acts 68 = .ok (.iconst 2, 1) := by decide +kernel
theorem dL_acts_69 : decode cL_acts 69 = .ok (.invokestatic 129, 3) := by decide +kernel
theorem dL_acts_72 : decode cL_acts 72 = .ok (.ifCond .ne 15, 3) := by decide +kernel
theorem dL_acts_75 : decode cL_acts 75 = .ok (.iload 6, 2) := by decide +kernel
theorem dL_acts_77 : decode cL_acts 77 = .ok (.bipush 9, 2) := by decide +kernel
theorem dL_acts_79 : decode cL_acts 79 = .ok (.ishr, 1) := by decide +kernel
theorem dL_acts_80 : decode cL_acts 80 = .ok (.iconst 3, 1) := by decide +kernel
theorem dL_acts_81 : decode cL_acts 81 = .ok (.invokestatic 129, 3) := by decide +kernel
theorem dL_acts_84 : decode cL_acts 84 = .ok (.goto 4, 3) := by decide +kernel
theorem dL_acts_87 : decode cL_acts 87 = .ok (.iconst (-1), 1) := by decide +kernel
theorem dL_acts_88 : decode cL_acts 88 = .ok (.istore 11, 2) := by decide +kernel
theorem dL_acts_90 : decode cL_acts 90 = .ok (.iconst 1, 1) := by decide +kernel
theorem dL_acts_91 : decode cL_acts 91 = .ok (.iload 6, 2) := by decide +kernel
theorem dL_acts_93 : decode cL_acts 93 = .ok (.bipush 11, 2) := by decide +kernel
theorem dL_acts_95 : decode cL_acts 95 = .ok (.ishr, 1) := by decide +kernel
theorem dL_acts_96 : decode cL_acts 96 = .ok (.iconst 4, 1) := by decide +kernel
theorem dL_acts_97 : decode cL_acts 97 = .ok (.invokestatic 129, 3) := by decide +kernel
theorem dL_acts_100 : decode cL_acts 100 = .ok (.iadd, 1) := by decide +kernel
theorem dL_acts_101 : decode cL_acts 101 = .ok (.istore 12, 2) := by decide +kernel
theorem dL_acts_103 : decode cL_acts 103 = .ok (.iload 6, 2) := by decide +kernel
theorem dL_acts_105 : decode cL_acts 105 = .ok (.bipush 13, 2) := by decide +kernel
theorem dL_acts_107 : decode cL_acts 107 = .ok (.ishr, 1) := by decide +kernel
theorem dL_acts_108 : decode cL_acts 108 = .ok (.iconst 3, 1) := by decide +kernel
theorem dL_acts_109 : decode cL_acts 109 = .ok (.invokestatic 129, 3) := by decide +kernel
theorem dL_acts_112 : decode cL_acts 112 = .ok (.ifCond .ne 16, 3) := by decide +kernel
theorem dL_acts_115 : decode cL_acts 115 = .ok (.iload 6, 2) := by decide +kernel
theorem dL_acts_117 : decode cL_acts 117 = .ok (.bipush 15, 2) := by decide +kernel
theorem dL_acts_119 : decode cL_acts 119 = .ok (.ishr, 1) := by decide +kernel
theorem dL_acts_120 : decode cL_acts 120 = .ok (.bipush 8, 2) := by decide +kernel
theorem dL_acts_122 : decode cL_acts 122 = .ok (.invokestatic 129, 3) := by decide +kernel
theorem dL_acts_125 : decode cL_acts 125 = .ok (.goto 4, 3) := by decide +kernel
theorem dL_acts_128 : decode cL_acts 128 = .ok (.iconst (-1), 1) := by decide +kernel
theorem dL_acts_129 : decode cL_acts 129 = .ok (.istore 13, 2) := by decide +kernel
theorem dL_acts_131 : decode cL_acts 131 = .ok (.aload_n 0, 1) := by decide +kernel
theorem dL_acts_132 : decode cL_acts 132 = .ok (.iload 8, 2) := by decide +kernel
theorem dL_acts_134 : decode cL_acts 134 = .ok (.iload 9, 2) := by decide +kernel
theorem dL_acts_136 : decode cL_acts 136 = .ok (.iload 10, 2) := by decide +kernel
theorem dL_acts_138 : decode cL_acts 138 = .ok (.iload 11, 2) := by decide +kernel
theorem dL_acts_140 : decode cL_acts 140 = .ok (.iload 12, 2) := by decide +kernel
theorem dL_acts_142 : decode cL_acts 142 = .ok (.iload 13, 2) := by decide +kernel
theorem dL_acts_144 : decode cL_acts 144 = .ok (.invokestatic 132, 3) := by decide +kernel
theorem dL_acts_147 : decode cL_acts 147 = .ok (.ifCond .ne 94, 3) := by decide +kernel
theorem dL_acts_150 : decode cL_acts 150 = .ok (.aload_n 1, 1) := by decide +kernel
theorem dL_acts_151 : decode cL_acts 151 = .ok (.iload 8, 2) := by decide +kernel
theorem dL_acts_153 : decode cL_acts 153 = .ok (.iload 9, 2) := by decide +kernel
theorem dL_acts_155 : decode cL_acts 155 = .ok (.iload 10, 2) := by decide +kernel
theorem dL_acts_157 : decode cL_acts 157 = .ok (.iload 11, 2) := by decide +kernel
theorem dL_acts_159 : decode cL_acts 159 = .ok (.iload 12, 2) := by decide +kernel
theorem dL_acts_161 : decode cL_acts 161 = .ok (.iload 13, 2) := by decide +kernel
theorem dL_acts_163 : decode cL_acts 163 = .ok (.invokestatic 132, 3) := by decide +kernel
theorem dL_acts_166 : decode cL_acts 166 = .ok (.ifCond .ne 75, 3) := by decide +kernel
theorem dL_acts_169 : decode cL_acts 169 = .ok (.aload_n 0, 1) := by decide +kernel
theorem dL_acts_170 : decode cL_acts 170 = .ok (.iload 8, 2) := by decide +kernel
theorem dL_acts_172 : decode cL_acts 172 = .ok (.iconst 0, 1) := by decide +kernel
theorem dL_acts_173 : decode cL_acts 173 = .ok (.bipush 7, 2) := by decide +kernel
theorem dL_acts_175 : decode cL_acts 175 = .ok (.iconst (-1), 1) := by decide +kernel
theorem dL_acts_176 : decode cL_acts 176 = .ok (.iconst 0, 1) := by decide +kernel
theorem dL_acts_177 : decode cL_acts 177 = .ok (.iconst (-1), 1) := by decide +kernel
theorem dL_acts_178 : decode cL_acts 178 = .ok (.invokestatic 132, 3) := by decide +kernel
theorem dL_acts_181 : decode cL_acts 181 = .ok (.ldc 21, 2) := by decide +kernel
theorem dL_acts_183 : decode cL_acts 183 = .ok (.if_icmp .ne 58, 3) := by decide +kernel
theorem dL_acts_186 : decode cL_acts 186 = .ok (.aload_n 0, 1) := by decide +kernel
theorem dL_acts_187 : decode cL_acts 187 = .ok (.iload 8, 2) := by decide +kernel
theorem dL_acts_189 : decode cL_acts 189 = .ok (.iconst (-1), 1) := by decide +kernel
theorem dL_acts_190 : decode cL_acts 190 = .ok (.iconst 0, 1) := by decide +kernel
theorem dL_acts_191 : decode cL_acts 191 = .ok (.iconst 0, 1) := by decide +kernel
theorem dL_acts_192 : decode cL_acts 192 = .ok (.bipush 9, 2) := by decide +kernel
theorem dL_acts_194 : decode cL_acts 194 = .ok (.iconst (-1), 1) := by decide +kernel
theorem dL_acts_195 : decode cL_acts 195 = .ok (.invokestatic 132, 3) := by decide +kernel
theorem dL_acts_198 : decode cL_acts 198 = .ok (.ldc 21, 2) := by decide +kernel
theorem dL_acts_200 : decode cL_acts 200 = .ok (.if_icmp .ne 41, 3) := by decide +kernel
theorem dL_acts_203 : decode cL_acts 203 = .ok (.aload_n 0, 1) := by decide +kernel
theorem dL_acts_204 : decode cL_acts 204 = .ok (.iload 8, 2) := by decide +kernel
theorem dL_acts_206 : decode cL_acts 206 = .ok (.iconst 4, 1) := by decide +kernel
theorem dL_acts_207 : decode cL_acts 207 = .ok (.iconst 0, 1) := by decide +kernel
theorem dL_acts_208 : decode cL_acts 208 = .ok (.iconst 0, 1) := by decide +kernel
theorem dL_acts_209 : decode cL_acts 209 = .ok (.iconst 0, 1) := by decide +kernel
theorem dL_acts_210 : decode cL_acts 210 = .ok (.iconst 0, 1) := by decide +kernel
theorem dL_acts_211 : decode cL_acts 211 = .ok (.invokestatic 132, 3) := by decide +kernel
theorem dL_acts_214 : decode cL_acts 214 = .ok (.ldc 18, 2) := by decide +kernel
theorem dL_acts_216 : decode cL_acts 216 = .ok (.if_icmp .ne 25, 3) := by decide +kernel
theorem dL_acts_219 : decode cL_acts 219 = .ok (.aload_n 0, 1) := by decide +kernel
theorem dL_acts_220 : decode cL_acts 220 = .ok (.iload 8, 2) := by decide +kernel
theorem dL_acts_222 : decode cL_acts 222 = .ok (.bipush (-2), 2) := by decide +kernel
theorem dL_acts_224 : decode cL_acts 224 = .ok (.bipush 8, 2) := by decide +kernel
theorem dL_acts_226 : decode cL_acts 226 = .ok (.iconst 0, 1) := by decide +kernel
theorem dL_acts_227 : decode cL_acts 227 = .ok (.iconst 1, 1) := by decide +kernel
theorem dL_acts_228 : decode cL_acts 228 = .ok (.iconst 0, 1) := by decide +kernel
theorem dL_acts_229 : decode cL_acts 229 = .ok (.invokestatic 132, 3) := by decide +kernel
theorem dL_acts_232 : decode cL_acts 232 = .ok (.ldc 18, 2) := by decide +kernel
theorem dL_acts_234 : decode cL_acts 234 = .ok (.if_icmp .ne 7, 3) := by decide +kernel
theorem dL_acts_237 : decode cL_acts 237 = .ok (.iconst 1, 1) := by decide +kernel
theorem dL_acts_238 : decode cL_acts 238 = .ok (.goto 4, 3) := by decide +kernel
theorem dL_acts_241 : decode cL_acts 241 = .ok (.iconst 0, 1) := by decide +kernel
theorem dL_acts_242 : decode cL_acts 242 = .ok (.ireturn, 1) := by decide +kernel
theorem dL_acts_243 : decode cL_acts 243 = .ok (.iload 7, 2) := by decide +kernel
theorem dL_acts_245 : decode cL_acts 245 = .ok (.iconst 3, 1) := by decide +kernel
theorem dL_acts_246 : decode cL_acts 246 = .ok (.if_icmp .ne 83, 3) := by decide +kernel
theorem dL_acts_249 : decode cL_acts 249 = .ok (.iload 6, 2) := by decide +kernel
theorem dL_acts_251 : decode cL_acts 251 = .ok (.iconst 4, 1) := by decide +kernel
theorem dL_acts_252 : decode cL_acts 252 = .ok (.invokestatic 129, 3) := by decide +kernel
theorem dL_acts_255 : decode cL_acts 255 = .ok (.iconst 1, 1) := by decide +kernel
theorem dL_acts_256 : decode cL_acts 256 = .ok (.isub, 1) := by decide +kernel
theorem dL_acts_257 : decode cL_acts 257 = .ok (.istore 9, 2) := by decide +kernel
theorem dL_acts_259 : decode cL_acts 259 = .ok (.iload 6, 2) := by decide +kernel
theorem dL_acts_261 : decode cL_acts 261 = .ok (.iconst 3, 1) := by decide +kernel
theorem dL_acts_262 : decode cL_acts 262 = .ok (.ishr, 1) := by decide +kernel
theorem dL_acts_263 : decode cL_acts 263 = .ok (.iconst 4, 1) := by decide +kernel
theorem dL_acts_264 : decode cL_acts 264 = .ok (.invokestatic 129, 3) := by decide +kernel
theorem dL_acts_267 : decode cL_acts 267 = .ok (.istore 10, 2) := by decide +kernel
theorem dL_acts_269 : decode cL_acts 269 = .ok (.aload_n 0, 1) := by decide +kernel
theorem dL_acts_270 : decode cL_acts 270 = .ok (.iload 8, 2) := by decide +kernel
theorem dL_acts_272 : decode cL_acts 272 = .ok (.iload 9, 2) := by decide +kernel
theorem dL_acts_274 : decode cL_acts 274 = .ok (.iload 10, 2) := by decide +kernel
theorem dL_acts_276 : decode cL_acts 276 = .ok (.invokestatic 135, 3) := by decide +kernel
theorem dL_acts_279 : decode cL_acts 279 = .ok (.ifCond .ne 48, 3) := by decide +kernel
theorem dL_acts_282 : decode cL_acts 282 = .ok (.aload_n 1, 1) := by decide +kernel
theorem dL_acts_283 : decode cL_acts 283 = .ok (.iload 8, 2) := by decide +kernel
theorem dL_acts_285 : decode cL_acts 285 = .ok (.iload 9, 2) := by decide +kernel
theorem dL_acts_287 : decode cL_acts 287 = .ok (.iload 10, 2) := by decide +kernel
theorem dL_acts_289 : decode cL_acts 289 = .ok (.invokestatic 135, 3) := by decide +kernel
theorem dL_acts_292 : decode cL_acts 292 = .ok (.ifCond .ne 35, 3) := by decide +kernel
theorem dL_acts_295 : decode cL_acts 295 = .ok (.aload_n 0, 1) := by decide +kernel
theorem dL_acts_296 : decode cL_acts 296 = .ok (.iload 8, 2) := by decide +kernel
theorem dL_acts_298 : decode cL_acts 298 = .ok (.iconst 0, 1) := by decide +kernel
theorem dL_acts_299 : decode cL_acts 299 = .ok (.bipush 8, 2) := by decide +kernel
theorem dL_acts_301 : decode cL_acts 301 = .ok (.invokestatic 135, 3) := by decide +kernel
theorem dL_acts_304 : decode cL_acts 304 = .ok (.ldc 21, 2) := by decide +kernel
theorem dL_acts_306 : decode cL_acts 306 = .ok (.if_icmp .ne 21, 3) := by decide +kernel
theorem dL_acts_309 : decode cL_acts 309 = .ok (.aload_n 0, 1) := by decide +kernel
theorem dL_acts_310 : decode cL_acts 310 = .ok (.iload 8, 2) := by decide +kernel
theorem dL_acts_312 : decode cL_acts 312 = .ok (.iconst 3, 1) := by decide +kernel
theorem dL_acts_313 : decode cL_acts 313 = .ok (.bipush 9, 2) := by decide +kernel
theorem dL_acts_315 : decode cL_acts 315 = .ok (.invokestatic 135, 3) := by decide +kernel
theorem dL_acts_318 : decode cL_acts 318 = .ok (.ldc 18, 2) := by decide +kernel
theorem dL_acts_320 : decode cL_acts 320 = .ok (.if_icmp .ne 7, 3) := by decide +kernel
theorem dL_acts_323 : decode cL_acts 323 = .ok (.iconst 1, 1) := by decide +kernel
theorem dL_acts_324 : decode cL_acts 324 = .ok (.goto 4, 3) := by decide +kernel
theorem dL_acts_327 : decode cL_acts 327 = .ok (.iconst 0, 1) := by decide +kernel
theorem dL_acts_328 : decode cL_acts 328 = .ok (.ireturn, 1) := by decide +kernel
theorem dL_acts_329 : decode cL_acts 329 = .ok (.iload 7, 2) := by decide +kernel
theorem dL_acts_331 : decode cL_acts 331 = .ok (.bipush 7, 2) := by decide +kernel
theorem dL_acts_333 : decode cL_acts 333 = .ok (.if_icmp .ge 183, 3) := by decide +kernel
theorem dL_acts_336 : decode cL_acts 336 = .ok (.aload_n 2, 1) := by decide +kernel
theorem dL_acts_337 : decode cL_acts 337 = .ok (.iconst 3, 1) := by decide +kernel
theorem dL_acts_338 : decode cL_acts 338 = .ok (.iload 8, 2) := by decide +kernel
theorem dL_acts_340 : decode cL_acts 340 = .ok (.imul, 1) := by decide +kernel
theorem dL_acts_341 : decode cL_acts 341 = .ok (.iload 6, 2) := by decide +kernel
theorem dL_acts_343 : decode cL_acts 343 = .ok (.bipush 9, 2) := by decide +kernel
theorem dL_acts_345 : decode cL_acts 345 = .ok (.invokestatic 129, 3) := by decide +kernel
theorem dL_acts_348 : decode cL_acts 348 = .ok (.bipush 6, 2) := by decide +kernel
theorem dL_acts_350 : decode cL_acts 350 = .ok (.if_icmp .ge 15, 3) := by decide +kernel
theorem dL_acts_353 : decode cL_acts 353 = .ok (.iload 6, 2) := by decide +kernel
theorem dL_acts_355 : decode cL_acts 355 = .ok (.bipush 9, 2) := by decide +kernel
theorem dL_acts_357 : decode cL_acts 357 = .ok (.invokestatic 129, 3) := by decide +kernel
theorem dL_acts_360 : decode cL_acts 360 = .ok (.iconst 3, 1) := by decide +kernel
theorem dL_acts_361 : decode cL_acts 361 = .ok (.irem, 1) := by decide +kernel
theorem dL_acts_362 : decode cL_acts 362 = .ok (.goto 4, 3) := by decide +kernel
theorem dL_acts_365 : decode cL_acts 365 = .ok (.iconst (-1), 1) := by decide +kernel
theorem dL_acts_366 : decode cL_acts 366 = .ok (.iastore, 1) := by decide +kernel
theorem dL_acts_367 : decode cL_acts 367 = .ok (.aload_n 2, 1) := by decide +kernel
theorem dL_acts_368 : decode cL_acts 368 = .ok (.iconst 3, 1) := by decide +kernel
theorem dL_acts_369 : decode cL_acts 369 = .ok (.iload 8, 2) := by decide +kernel
theorem dL_acts_371 : decode cL_acts 371 = .ok (.imul, 1) := by decide +kernel
theorem dL_acts_372 : decode cL_acts 372 = .ok (.iconst 1, 1) := by decide +kernel
theorem dL_acts_373 : decode cL_acts 373 = .ok (.iadd, 1) := by decide +kernel
theorem dL_acts_374 : decode cL_acts 374 = .ok (.iload 6, 2) := by decide +kernel
theorem dL_acts_376 : decode cL_acts 376 = .ok (.iconst 4, 1) := by decide +kernel
theorem dL_acts_377 : decode cL_acts 377 = .ok (.ishr, 1) := by decide +kernel
theorem dL_acts_378 : decode cL_acts 378 = .ok (.iconst 4, 1) := by decide +kernel
theorem dL_acts_379 : decode cL_acts 379 = .ok (.invokestatic 129, 3) := by decide +kernel
theorem dL_acts_382 : decode cL_acts 382 = .ok (.iastore, 1) := by decide +kernel
theorem dL_acts_383 : decode cL_acts 383 = .ok (.aload_n 2, 1) := by decide +kernel
theorem dL_acts_384 : decode cL_acts 384 = .ok (.iconst 3, 1) := by decide +kernel
theorem dL_acts_385 : decode cL_acts 385 = .ok (.iload 8, 2) := by decide +kernel
theorem dL_acts_387 : decode cL_acts 387 = .ok (.imul, 1) := by decide +kernel
theorem dL_acts_388 : decode cL_acts 388 = .ok (.iconst 2, 1) := by decide +kernel
theorem dL_acts_389 : decode cL_acts 389 = .ok (.iadd, 1) := by decide +kernel
theorem dL_acts_390 : decode cL_acts 390 = .ok (.iload 6, 2) := by decide +kernel
theorem dL_acts_392 : decode cL_acts 392 = .ok (.bipush 6, 2) := by decide +kernel
theorem dL_acts_394 : decode cL_acts 394 = .ok (.ishr, 1) := by decide +kernel
theorem dL_acts_395 : decode cL_acts 395 = .ok (.bipush 19, 2) := by decide +kernel
theorem dL_acts_397 : decode cL_acts 397 = .ok (.invokestatic 129, 3) := by decide +kernel
theorem dL_acts_400 : decode cL_acts 400 = .ok (.bipush 9, 2) := by decide +kernel
theorem dL_acts_402 : decode cL_acts 402 = .ok (.isub, 1) := by decide +kernel
theorem dL_acts_403 : decode cL_acts 403 = .ok (.iastore, 1) := by decide +kernel
theorem dL_acts_404 : decode cL_acts 404 = .ok (.aload_n 0, 1) := by decide +kernel
theorem dL_acts_405 : decode cL_acts 405 = .ok (.iload 8, 2) := by decide +kernel
theorem dL_acts_407 : decode cL_acts 407 = .ok (.aload_n 2, 1) := by decide +kernel
theorem dL_acts_408 : decode cL_acts 408 = .ok (.iconst 3, 1) := by decide +kernel
theorem dL_acts_409 : decode cL_acts 409 = .ok (.iload 8, 2) := by decide +kernel
theorem dL_acts_411 : decode cL_acts 411 = .ok (.imul, 1) := by decide +kernel
theorem dL_acts_412 : decode cL_acts 412 = .ok (.iaload, 1) := by decide +kernel
theorem dL_acts_413 : decode cL_acts 413 = .ok (.aload_n 2, 1) := by decide +kernel
theorem dL_acts_414 : decode cL_acts 414 = .ok (.iconst 3, 1) := by decide +kernel
theorem dL_acts_415 : decode cL_acts 415 = .ok (.iload 8, 2) := by decide +kernel
theorem dL_acts_417 : decode cL_acts 417 = .ok (.imul, 1) := by decide +kernel
theorem dL_acts_418 : decode cL_acts 418 = .ok (.iconst 1, 1) := by decide +kernel
theorem dL_acts_419 : decode cL_acts 419 = .ok (.iadd, 1) := by decide +kernel
theorem dL_acts_420 : decode cL_acts 420 = .ok (.iaload, 1) := by decide +kernel
theorem dL_acts_421 : decode cL_acts 421 = .ok (.aload_n 2, 1) := by decide +kernel
theorem dL_acts_422 : decode cL_acts 422 = .ok (.iconst 3, 1) := by decide +kernel
theorem dL_acts_423 : decode cL_acts 423 = .ok (.iload 8, 2) := by decide +kernel
theorem dL_acts_425 : decode cL_acts 425 = .ok (.imul, 1) := by decide +kernel
theorem dL_acts_426 : decode cL_acts 426 = .ok (.iconst 2, 1) := by decide +kernel
theorem dL_acts_427 : decode cL_acts 427 = .ok (.iadd, 1) := by decide +kernel
theorem dL_acts_428 : decode cL_acts 428 = .ok (.iaload, 1) := by decide +kernel
theorem dL_acts_429 : decode cL_acts 429 = .ok (.invokestatic 138, 3) := by decide +kernel
theorem dL_acts_432 : decode cL_acts 432 = .ok (.ifCond .ne 82, 3) := by decide +kernel
theorem dL_acts_435 : decode cL_acts 435 = .ok (.aload_n 1, 1) := by decide +kernel
theorem dL_acts_436 : decode cL_acts 436 = .ok (.iload 8, 2) := by decide +kernel
theorem dL_acts_438 : decode cL_acts 438 = .ok (.aload_n 2, 1) := by decide +kernel
theorem dL_acts_439 : decode cL_acts 439 = .ok (.iconst 3, 1) := by decide +kernel
theorem dL_acts_440 : decode cL_acts 440 = .ok (.iload 8, 2) := by decide +kernel
theorem dL_acts_442 : decode cL_acts 442 = .ok (.imul, 1) := by decide +kernel
theorem dL_acts_443 : decode cL_acts 443 = .ok (.iaload, 1) := by decide +kernel
theorem dL_acts_444 : decode cL_acts 444 = .ok (.aload_n 2, 1) := by decide +kernel
theorem dL_acts_445 : decode cL_acts 445 = .ok (.iconst 3, 1) := by decide +kernel
theorem dL_acts_446 : decode cL_acts 446 = .ok (.iload 8, 2) := by decide +kernel
theorem dL_acts_448 : decode cL_acts 448 = .ok (.imul, 1) := by decide +kernel
theorem dL_acts_449 : decode cL_acts 449 = .ok (.iconst 1, 1) := by decide +kernel
theorem dL_acts_450 : decode cL_acts 450 = .ok (.iadd, 1) := by decide +kernel
theorem dL_acts_451 : decode cL_acts 451 = .ok (.iaload, 1) := by decide +kernel
theorem dL_acts_452 : decode cL_acts 452 = .ok (.aload_n 2, 1) := by decide +kernel
theorem dL_acts_453 : decode cL_acts 453 = .ok (.iconst 3, 1) := by decide +kernel
theorem dL_acts_454 : decode cL_acts 454 = .ok (.iload 8, 2) := by decide +kernel
theorem dL_acts_456 : decode cL_acts 456 = .ok (.imul, 1) := by decide +kernel
theorem dL_acts_457 : decode cL_acts 457 = .ok (.iconst 2, 1) := by decide +kernel
theorem dL_acts_458 : decode cL_acts 458 = .ok (.iadd, 1) := by decide +kernel
theorem dL_acts_459 : decode cL_acts 459 = .ok (.iaload, 1) := by decide +kernel
theorem dL_acts_460 : decode cL_acts 460 = .ok (.invokestatic 138, 3) := by decide +kernel
theorem dL_acts_463 : decode cL_acts 463 = .ok (.ifCond .ne 51, 3) := by decide +kernel
theorem dL_acts_466 : decode cL_acts 466 = .ok (.aload_n 0, 1) := by decide +kernel
theorem dL_acts_467 : decode cL_acts 467 = .ok (.iload 8, 2) := by decide +kernel
theorem dL_acts_469 : decode cL_acts 469 = .ok (.iconst (-1), 1) := by decide +kernel
theorem dL_acts_470 : decode cL_acts 470 = .ok (.iconst 4, 1) := by decide +kernel
theorem dL_acts_471 : decode cL_acts 471 = .ok (.iconst 0, 1) := by decide +kernel
theorem dL_acts_472 : decode cL_acts 472 = .ok (.invokestatic 138, 3) := by decide +kernel
theorem dL_acts_475 : decode cL_acts 475 = .ok (.ldc 21, 2) := by decide +kernel
theorem dL_acts_477 : decode cL_acts 477 = .ok (.if_icmp .ne 37, 3) := by decide +kernel
theorem dL_acts_480 : decode cL_acts 480 = .ok (.aload_n 0, 1) := by decide +kernel
theorem dL_acts_481 : decode cL_acts 481 = .ok (.iload 8, 2) := by decide +kernel
theorem dL_acts_483 : decode cL_acts 483 = .ok (.iconst 0, 1) := by decide +kernel
theorem dL_acts_484 : decode cL_acts 484 = .ok (.iconst 0, 1) := by decide +kernel
theorem dL_acts_485 : decode cL_acts 485 = .ok (.bipush 10, 2) := by decide +kernel
theorem dL_acts_487 : decode cL_acts 487 = .ok (.invokestatic 138, 3) := by decide +kernel
theorem dL_acts_490 : decode cL_acts 490 = .ok (.ldc 21, 2) := by decide +kernel
theorem dL_acts_492 : decode cL_acts 492 = .ok (.if_icmp .ne 22, 3) := by decide +kernel
theorem dL_acts_495 : decode cL_acts 495 = .ok (.aload_n 0, 1) := by decide +kernel
theorem dL_acts_496 : decode cL_acts 496 = .ok (.bipush 8, 2) := by decide +kernel
theorem dL_acts_498 : decode cL_acts 498 = .ok (.iconst 0, 1) := by decide +kernel
theorem dL_acts_499 : decode cL_acts 499 = .ok (.bipush 9, 2) := by decide +kernel
theorem dL_acts_501 : decode cL_acts 501 = .ok (.iconst 0, 1) := by decide +kernel
theorem dL_acts_502 : decode cL_acts 502 = .ok (.invokestatic 138, 3) := by decide +kernel
theorem dL_acts_505 : decode cL_acts 505 = .ok (.ldc 18, 2) := by decide +kernel
theorem dL_acts_507 : decode cL_acts 507 = .ok (.if_icmp .ne 7, 3) := by decide +kernel
theorem dL_acts_510 : decode cL_acts 510 = .ok (.iconst 1, 1) := by decide +kernel
theorem dL_acts_511 : decode cL_acts 511 = .ok (.goto 4, 3) := by decide +kernel
theorem dL_acts_514 : decode cL_acts 514 = .ok (.iconst 0, 1) := by decide +kernel
theorem dL_acts_515 : decode cL_acts 515 = .ok (.ireturn, 1) := by decide +kernel
theorem dL_acts_516 : decode cL_acts 516 = .ok (.iload 7, 2) := by decide +kernel
theorem dL_acts_518 : decode cL_acts 518 = .ok (.bipush 9, 2) := by decide +kernel
theorem dL_acts_520 : decode cL_acts 520 = .ok (.if_icmp .ge 204, 3) := by decide +kernel
theorem dL_acts_523 : decode cL_acts 523 = .ok (.iload 6, 2) := by decide +kernel
theorem dL_acts_525 : decode cL_acts 525 = .ok (.bipush 6, 2) := by decide +kernel
theorem dL_acts_527 : decode cL_acts 527 = .ok (.invokestatic 129, 3) := by decide +kernel
theorem dL_acts_530 : decode cL_acts 530 = .ok (.istore 9, 2) := by decide +kernel
theorem dL_acts_532 : decode cL_acts 532 = .ok (.aload_n 3, 1) := by decide +kernel
theorem dL_acts_533 : decode cL_acts 533 = .ok (.iconst 4, 1) := by decide +kernel
theorem dL_acts_534 : decode cL_acts 534 = .ok (.iload 9, 2) := by decide +kernel
theorem dL_acts_536 : decode cL_acts 536 = .ok (.imul, 1) := by decide +kernel
theorem dL_acts_537 : decode cL_acts 537 = .ok (.iload 6, 2) := by decide +kernel
theorem dL_acts_539 : decode cL_acts 539 = .ok (.iconst 3, 1) := by decide +kernel
theorem dL_acts_540 : decode cL_acts 540 = .ok (.ishr, 1) := by decide +kernel
theorem dL_acts_541 : decode cL_acts 541 = .ok (.bipush 101, 2) := by decide +kernel
theorem dL_acts_543 : decode cL_acts 543 = .ok (.invokestatic 129, 3) := by decide +kernel
theorem dL_acts_546 : decode cL_acts 546 = .ok (.bipush 50, 2) := by decide +kernel
theorem dL_acts_548 : decode cL_acts 548 = .ok (.isub, 1) := by decide +kernel
theorem dL_acts_549 : decode cL_acts 549 = .ok (.iastore, 1) := by decide +kernel
theorem dL_acts_550 : decode cL_acts 550 = .ok (.aload_n 3, 1) := by decide +kernel
theorem dL_acts_551 : decode cL_acts 551 = .ok (.iconst 4, 1) := by decide +kernel
theorem dL_acts_552 : decode cL_acts 552 = .ok (.iload 9, 2) := by decide +kernel
theorem dL_acts_554 : decode cL_acts 554 = .ok (.imul, 1) := by decide +kernel
theorem dL_acts_555 : decode cL_acts 555 = .ok (.iconst 1, 1) := by decide +kernel
theorem dL_acts_556 : decode cL_acts 556 = .ok (.iadd, 1) := by decide +kernel
theorem dL_acts_557 : decode cL_acts 557 = .ok (.iload 6, 2) := by decide +kernel
theorem dL_acts_559 : decode cL_acts 559 = .ok (.bipush 9, 2) := by decide +kernel
theorem dL_acts_561 : decode cL_acts 561 = .ok (.ishr, 1) := by decide +kernel
theorem dL_acts_562 : decode cL_acts 562 = .ok (.iconst 5, 1) := by decide +kernel
theorem dL_acts_563 : decode cL_acts 563 = .ok (.invokestatic 129, 3) := by decide +kernel
theorem dL_acts_566 : decode cL_acts 566 = .ok (.iconst 1, 1) := by decide +kernel
theorem dL_acts_567 : decode cL_acts 567 = .ok (.isub, 1) := by decide +kernel
theorem dL_acts_568 : decode cL_acts 568 = .ok (.iastore, 1) := by decide +kernel
theorem dL_acts_569 : decode cL_acts 569 = .ok (.aload_n 3, 1) := by decide +kernel
theorem dL_acts_570 : decode cL_acts 570 = .ok (.iconst 4, 1) := by decide +kernel
theorem dL_acts_571 : decode cL_acts 571 = .ok (.iload 9, 2) := by decide +kernel
theorem dL_acts_573 : decode cL_acts 573 = .ok (.imul, 1) := by decide +kernel
theorem dL_acts_574 : decode cL_acts 574 = .ok (.iconst 2, 1) := by decide +kernel
theorem dL_acts_575 : decode cL_acts 575 = .ok (.iadd, 1) := by decide +kernel
theorem dL_acts_576 : decode cL_acts 576 = .ok (.iload 6, 2) := by decide +kernel
theorem dL_acts_578 : decode cL_acts 578 = .ok (.bipush 12, 2) := by decide +kernel
theorem dL_acts_580 : decode cL_acts 580 = .ok (.ishr, 1) := by decide +kernel
theorem dL_acts_581 : decode cL_acts 581 = .ok (.iconst 4, 1) := by decide +kernel
theorem dL_acts_582 : decode cL_acts 582 = .ok (.invokestatic 129, 3) := by decide +kernel
theorem dL_acts_585 : decode cL_acts 585 = .ok (.iconst 1, 1) := by decide +kernel
theorem dL_acts_586 : decode cL_acts 586 = .ok (.isub, 1) := by decide +kernel
theorem dL_acts_587 : decode cL_acts 587 = .ok (.iastore, 1) := by decide +kernel
theorem dL_acts_588 : decode cL_acts 588 = .ok (.aload_n 3, 1) := by decide +kernel
theorem dL_acts_589 : decode cL_acts 589 = .ok (.iconst 4, 1) := by decide +kernel
theorem dL_acts_590 : decode cL_acts 590 = .ok (.iload 9, 2) := by decide +kernel
theorem dL_acts_592 : decode cL_acts 592 = .ok (.imul, 1) := by decide +kernel
theorem dL_acts_593 : decode cL_acts 593 = .ok (.iconst 3, 1) := by decide +kernel
theorem dL_acts_594 : decode cL_acts 594 = .ok (.iadd, 1) := by decide +kernel
theorem dL_acts_595 : decode cL_acts 595 = .ok (.iload 6, 2) := by decide +kernel
theorem dL_acts_597 : decode cL_acts 597 = .ok (.bipush 14, 2) := by decide +kernel
theorem dL_acts_599 : decode cL_acts 599 = .ok (.ishr, 1) := by decide +kernel
theorem dL_acts_600 : decode cL_acts 600 = .ok (.bipush 7, 2) := by decide +kernel
theorem dL_acts_602 : decode cL_acts 602 = .ok (.invokestatic 129, 3) := by decide +kernel
theorem dL_acts_605 : decode cL_acts 605 = .ok (.iconst 1, 1) := by decide +kernel
theorem dL_acts_606 : decode cL_acts 606 = .ok (.isub, 1) := by decide +kernel
theorem dL_acts_607 : decode cL_acts 607 = .ok (.iastore, 1) := by decide +kernel
theorem dL_acts_608 : decode cL_acts 608 = .ok (.aload_n 0, 1) := by decide +kernel
theorem dL_acts_609 : decode cL_acts 609 = .ok (.iload 9, 2) := by decide +kernel
theorem dL_acts_611 : decode cL_acts 611 = .ok (.aload_n 3, 1) := by decide +kernel
theorem dL_acts_612 : decode cL_acts 612 = .ok (.iconst 4, 1) := by decide +kernel
theorem dL_acts_613 : decode cL_acts 613 = .ok (.iload 9, 2) := by decide +kernel
theorem dL_acts_615 : decode cL_acts 615 = .ok (.imul, 1) := by decide +kernel
theorem dL_acts_616 : decode cL_acts 616 = .ok (.iaload, 1) := by decide +kernel
theorem dL_acts_617 : decode cL_acts 617 = .ok (.aload_n 3, 1) := by decide +kernel
theorem dL_acts_618 : decode cL_acts 618 = .ok (.iconst 4, 1) := by decide +kernel
theorem dL_acts_619 : decode cL_acts 619 = .ok (.iload 9, 2) := by decide +kernel
theorem dL_acts_621 : decode cL_acts 621 = .ok (.imul, 1) := by decide +kernel
theorem dL_acts_622 : decode cL_acts 622 = .ok (.iconst 1, 1) := by decide +kernel
theorem dL_acts_623 : decode cL_acts 623 = .ok (.iadd, 1) := by decide +kernel
theorem dL_acts_624 : decode cL_acts 624 = .ok (.iaload, 1) := by decide +kernel
theorem dL_acts_625 : decode cL_acts 625 = .ok (.aload_n 3, 1) := by decide +kernel
theorem dL_acts_626 : decode cL_acts 626 = .ok (.iconst 4, 1) := by decide +kernel
theorem dL_acts_627 : decode cL_acts 627 = .ok (.iload 9, 2) := by decide +kernel
theorem dL_acts_629 : decode cL_acts 629 = .ok (.imul, 1) := by decide +kernel
theorem dL_acts_630 : decode cL_acts 630 = .ok (.iconst 2, 1) := by decide +kernel
theorem dL_acts_631 : decode cL_acts 631 = .ok (.iadd, 1) := by decide +kernel
theorem dL_acts_632 : decode cL_acts 632 = .ok (.iaload, 1) := by decide +kernel
theorem dL_acts_633 : decode cL_acts 633 = .ok (.aload_n 3, 1) := by decide +kernel
theorem dL_acts_634 : decode cL_acts 634 = .ok (.iconst 4, 1) := by decide +kernel
theorem dL_acts_635 : decode cL_acts 635 = .ok (.iload 9, 2) := by decide +kernel
theorem dL_acts_637 : decode cL_acts 637 = .ok (.imul, 1) := by decide +kernel
theorem dL_acts_638 : decode cL_acts 638 = .ok (.iconst 3, 1) := by decide +kernel
theorem dL_acts_639 : decode cL_acts 639 = .ok (.iadd, 1) := by decide +kernel
theorem dL_acts_640 : decode cL_acts 640 = .ok (.iaload, 1) := by decide +kernel
theorem dL_acts_641 : decode cL_acts 641 = .ok (.invokestatic 141, 3) := by decide +kernel
theorem dL_acts_644 : decode cL_acts 644 = .ok (.ifCond .ne 78, 3) := by decide +kernel
theorem dL_acts_647 : decode cL_acts 647 = .ok (.aload_n 1, 1) := by decide +kernel
theorem dL_acts_648 : decode cL_acts 648 = .ok (.iload 9, 2) := by decide +kernel
theorem dL_acts_650 : decode cL_acts 650 = .ok (.aload_n 3, 1) := by decide +kernel
theorem dL_acts_651 : decode cL_acts 651 = .ok (.iconst 4, 1) := by decide +kernel
theorem dL_acts_652 : decode cL_acts 652 = .ok (.iload 9, 2) := by decide +kernel
theorem dL_acts_654 : decode cL_acts 654 = .ok (.imul, 1) := by decide +kernel
theorem dL_acts_655 : decode cL_acts 655 = .ok (.iaload, 1) := by decide +kernel
theorem dL_acts_656 : decode cL_acts 656 = .ok (.aload_n 3, 1) := by decide +kernel
theorem dL_acts_657 : decode cL_acts 657 = .ok (.iconst 4, 1) := by decide +kernel
theorem dL_acts_658 : decode cL_acts 658 = .ok (.iload 9, 2) := by decide +kernel
theorem dL_acts_660 : decode cL_acts 660 = .ok (.imul, 1) := by decide +kernel
theorem dL_acts_661 : decode cL_acts 661 = .ok (.iconst 1, 1) := by decide +kernel
theorem dL_acts_662 : decode cL_acts 662 = .ok (.iadd, 1) := by decide +kernel
theorem dL_acts_663 : decode cL_acts 663 = .ok (.iaload, 1) := by decide +kernel
theorem dL_acts_664 : decode cL_acts 664 = .ok (.aload_n 3, 1) := by decide +kernel
theorem dL_acts_665 : decode cL_acts 665 = .ok (.iconst 4, 1) := by decide +kernel
theorem dL_acts_666 : decode cL_acts 666 = .ok (.iload 9, 2) := by decide +kernel
theorem dL_acts_668 : decode cL_acts 668 = .ok (.imul, 1) := by decide +kernel
theorem dL_acts_669 : decode cL_acts 669 = .ok (.iconst 2, 1) := by decide +kernel
theorem dL_acts_670 : decode cL_acts 670 = .ok (.iadd, 1) := by decide +kernel
theorem dL_acts_671 : decode cL_acts 671 = .ok (.iaload, 1) := by decide +kernel
theorem dL_acts_672 : decode cL_acts 672 = .ok (.aload_n 3, 1) := by decide +kernel
theorem dL_acts_673 : decode cL_acts 673 = .ok (.iconst 4, 1) := by decide +kernel
theorem dL_acts_674 : decode cL_acts 674 = .ok (.iload 9, 2) := by decide +kernel
theorem dL_acts_676 : decode cL_acts 676 = .ok (.imul, 1) := by decide +kernel
theorem dL_acts_677 : decode cL_acts 677 = .ok (.iconst 3, 1) := by decide +kernel
theorem dL_acts_678 : decode cL_acts 678 = .ok (.iadd, 1) := by decide +kernel
theorem dL_acts_679 : decode cL_acts 679 = .ok (.iaload, 1) := by decide +kernel
theorem dL_acts_680 : decode cL_acts 680 = .ok (.invokestatic 141, 3) := by decide +kernel
theorem dL_acts_683 : decode cL_acts 683 = .ok (.ifCond .ne 39, 3) := by decide +kernel
theorem dL_acts_686 : decode cL_acts 686 = .ok (.aload_n 0, 1) := by decide +kernel
theorem dL_acts_687 : decode cL_acts 687 = .ok (.iload 9, 2) := by decide +kernel
theorem dL_acts_689 : decode cL_acts 689 = .ok (.bipush 51, 2) := by decide +kernel
theorem dL_acts_691 : decode cL_acts 691 = .ok (.iconst (-1), 1) := by decide +kernel
theorem dL_acts_692 : decode cL_acts 692 = .ok (.iconst (-1), 1) := by decide +kernel
theorem dL_acts_693 : decode cL_acts 693 = .ok (.iconst (-1), 1) := by decide +kernel
theorem dL_acts_694 : decode cL_acts 694 = .ok (.invokestatic 141, 3) := by decide +kernel
theorem dL_acts_697 : decode cL_acts 697 = .ok (.ldc 21, 2) := by decide +kernel
theorem dL_acts_699 : decode cL_acts 699 = .ok (.if_icmp .ne 23, 3) := by decide +kernel
theorem dL_acts_702 : decode cL_acts 702 = .ok (.aload_n 0, 1) := by decide +kernel
theorem dL_acts_703 : decode cL_acts 703 = .ok (.iload 9, 2) := by decide +kernel
theorem dL_acts_705 : decode cL_acts 705 = .ok (.bipush 51, 2) := by decide +kernel
theorem dL_acts_707 : decode cL_acts 707 = .ok (.iconst (-1), 1) := by decide +kernel
theorem dL_acts_708 : decode cL_acts 708 = .ok (.iconst 3, 1) := by decide +kernel
theorem dL_acts_709 : decode cL_acts 709 = .ok (.iconst (-1), 1) := by decide +kernel
theorem dL_acts_710 : decode cL_acts 710 = .ok (.invokestatic 141, 3) := by decide +kernel
theorem dL_acts_713 : decode cL_acts 713 = .ok (.ldc 18, 2) := by decide +kernel
theorem dL_acts_715 : decode cL_acts 715 = .ok (.if_icmp .ne 7, 3) := by decide +kernel
theorem dL_acts_718 : decode cL_acts 718 = .ok (.iconst 1, 1) := by decide +kernel
theorem dL_acts_719 : decode cL_acts 719 = .ok (.goto 4, 3) := by decide +kernel
theorem dL_acts_722 : decode cL_acts 722 = .ok (.iconst 0, 1) := by decide +kernel
theorem dL_acts_723 : decode cL_acts 723 = .ok (.ireturn, 1) := by decide +kernel
theorem dL_acts_724 : decode cL_acts 724 = .ok (.iload 7, 2) := by decide +kernel
theorem dL_acts_726 : decode cL_acts 726 = .ok (.bipush 11, 2) := by decide +kernel
theorem dL_acts_728 : decode cL_acts 728 = .ok (.if_icmp .ge 146, 3) := by decide +kernel
theorem dL_acts_731 : decode cL_acts 731 = .ok (.iload 6, 2) := by decide +kernel
theorem dL_acts_733 : decode cL_acts 733 = .ok (.iconst 4, 1) := by decide +kernel
theorem dL_acts_734 : decode cL_acts 734 = .ok (.invokestatic 129, 3) := by decide +kernel
theorem dL_acts_737 : decode cL_acts 737 = .ok (.istore 9, 2) := by decide +kernel
theorem dL_acts_739 : decode cL_acts 739 = .ok (.bipush 8, 2) := by decide +kernel
theorem dL_acts_741 : decode cL_acts 741 = .ok (.iload 6, 2) := by decide +kernel
theorem dL_acts_743 : decode cL_acts 743 = .ok (.iconst 2, 1) := by decide +kernel
theorem dL_acts_744 : decode cL_acts 744 = .ok (.ishr, 1) := by decide +kernel
theorem dL_acts_745 : decode cL_acts 745 = .ok (.bipush 9, 2) := by decide +kernel
theorem dL_acts_747 : decode cL_acts 747 = .ok (.invokestatic 129, 3) := by decide +kernel
theorem dL_acts_750 : decode cL_acts 750 = .ok (.iadd, 1) := by decide +kernel
theorem dL_acts_751 : decode cL_acts 751 = .ok (.istore 10, 2) := by decide +kernel
theorem dL_acts_753 : decode cL_acts 753 = .ok (.aload_n 0, 1) := by decide +kernel
theorem dL_acts_754 : decode cL_acts 754 = .ok (.invokevirtual 80, 3) := by decide +kernel
theorem dL_acts_757 : decode cL_acts 757 = .ok (.istore 11, 2) := by decide +kernel
theorem dL_acts_759 : decode cL_acts 759 = .ok (.aload 4, 2) := by decide +kernel
theorem dL_acts_761 : decode cL_acts 761 = .ok (.iload 9, 2) := by decide +kernel
theorem dL_acts_763 : decode cL_acts 763 = .ok (.iaload, 1) := by decide +kernel
theorem dL_acts_764 : decode cL_acts 764 = .ok (.istore 12, 2) := by decide +kernel
theorem dL_acts_766 : decode cL_acts 766 = .ok (.aload_n 0, 1) := by decide +kernel
theorem dL_acts_767 : decode cL_acts 767 = .ok (.iload 9, 2) := by decide +kernel
theorem dL_acts_769 : decode cL_acts 769 = .ok (.iload 10, 2) := by decide +kernel
theorem dL_acts_771 : decode cL_acts 771 = .ok (.invokestatic 144, 3) := by decide +kernel
theorem dL_acts_774 : decode cL_acts 774 = .ok (.istore 13, 2) := by decide +kernel
theorem dL_acts_776 : decode cL_acts 776 = .ok (.aload 4, 2) := by decide +kernel
theorem dL_acts_778 : decode cL_acts 778 = .ok (.iload 9, 2) := by decide +kernel
theorem dL_acts_780 : decode cL_acts 780 = .ok (.iload 13, 2) := by decide +kernel
theorem dL_acts_782 : decode cL_acts 782 = .ok (.ifCond .ge 8, 3) := by decide +kernel
theorem dL_acts_785 : decode cL_acts 785 = .ok (.iload 12, 2) := by decide +kernel
theorem dL_acts_787 : decode cL_acts 787 = .ok (.goto 5, 3) := by decide +kernel
theorem dL_acts_790 : decode cL_acts 790 = .ok (.iload 10, 2) := by decide +kernel
theorem dL_acts_792 : decode cL_acts 792 = .ok (.iastore, 1) := by decide +kernel
theorem dL_acts_793 : decode cL_acts 793 = .ok (.aload_n 1, 1) := by decide +kernel
theorem dL_acts_794 : decode cL_acts 794 = .ok (.iload 9, 2) := by decide +kernel
theorem dL_acts_796 : decode cL_acts 796 = .ok (.iload 10, 2) := by decide +kernel
theorem dL_acts_798 : decode cL_acts 798 = .ok (.invokestatic 144, 3) := by decide +kernel
theorem dL_acts_801 : decode cL_acts 801 = .ok (.iload 13, 2) := by decide +kernel
theorem dL_acts_803 : decode cL_acts 803 = .ok (.if_icmp .ne 69, 3) := by decide +kernel
theorem dL_acts_806 : decode cL_acts 806 = .ok (.iload 13, 2) := by decide +kernel
theorem dL_acts_808 : decode cL_acts 808 = .ok (.ldc 40, 2) := by decide +kernel
theorem dL_acts_810 : decode cL_acts 810 = .ok (.if_icmp .eq 15, 3) := by decide +kernel
theorem dL_acts_813 : decode cL_acts 813 = .ok (.iload 13, 2) := by decide +kernel
theorem dL_acts_815 : decode cL_acts 815 = .ok (.ifCond .lt 57, 3) := by decide +kernel
theorem dL_acts_818 : decode cL_acts 818 = .ok (.iload 13, 2) := by decide +kernel
theorem dL_acts_820 : decode cL_acts 820 = .ok (.bipush 20, 2) := by decide +kernel
theorem dL_acts_822 : decode cL_acts 822 = .ok (.if_icmp .gt 50, 3) := by decide +kernel
theorem dL_acts_825 : decode cL_acts 825 = .ok (.iload 10, 2) := by decide +kernel
theorem dL_acts_827 : decode cL_acts 827 = .ok (.iload 12, 2) := by decide +kernel
theorem dL_acts_829 : decode cL_acts 829 = .ok (.if_icmp .lt 15, 3) := by decide +kernel
theorem dL_acts_832 : decode cL_acts 832 = .ok (.iload 11, 2) := by decide +kernel
theorem dL_acts_834 : decode cL_acts 834 = .ok (.aload_n 0, 1) := by decide +kernel
theorem dL_acts_835 : decode cL_acts 835 = .ok (.invokevirtual 80, 3) := by decide +kernel
theorem dL_acts_838 : decode cL_acts 838 = .ok (.iconst (-1), 1) := by decide +kernel
theorem dL_acts_839 : decode cL_acts 839 = .ok (.ixor, 1) := by decide +kernel
theorem dL_acts_840 : decode cL_acts 840 = .ok (.iand, 1) := by decide +kernel
theorem dL_acts_841 : decode cL_acts 841 = .ok (.ifCond .ne 31, 3) := by decide +kernel
theorem dL_acts_844 : decode cL_acts 844 = .ok (.aload_n 0, 1) := by decide +kernel
theorem dL_acts_845 : decode cL_acts 845 = .ok (.iload 9, 2) := by decide +kernel
theorem dL_acts_847 : decode cL_acts 847 = .ok (.bipush 17, 2) := by decide +kernel
theorem dL_acts_849 : decode cL_acts 849 = .ok (.invokestatic 144, 3) := by decide +kernel
theorem dL_acts_852 : decode cL_acts 852 = .ok (.ldc 21, 2) := by decide +kernel
theorem dL_acts_854 : decode cL_acts 854 = .ok (.if_icmp .ne 18, 3) := by decide +kernel
theorem dL_acts_857 : decode cL_acts 857 = .ok (.aload_n 0, 1) := by decide +kernel
theorem dL_acts_858 : decode cL_acts 858 = .ok (.iconst 4, 1) := by decide +kernel
theorem dL_acts_859 : decode cL_acts 859 = .ok (.iconst 0, 1) := by decide +kernel
theorem dL_acts_860 : decode cL_acts 860 = .ok (.invokestatic 144, 3) := by decide +kernel
theorem dL_acts_863 : decode cL_acts 863 = .ok (.ldc 18, 2) := by decide +kernel
theorem dL_acts_865 : decode cL_acts 865 = .ok (.if_icmp .ne 7, 3) := by decide +kernel
theorem dL_acts_868 : decode cL_acts 868 = .ok (.iconst 1, 1) := by decide +kernel
theorem dL_acts_869 : decode cL_acts 869 = .ok (.goto 4, 3) := by decide +kernel
theorem dL_acts_872 : decode cL_acts 872 = .ok (.iconst 0, 1) := by decide +kernel
theorem dL_acts_873 : decode cL_acts 873 = .ok (.ireturn, 1) := by decide +kernel
theorem dL_acts_874 : decode cL_acts 874 = .ok (.iload 7, 2) := by decide +kernel
theorem dL_acts_876 : decode cL_acts 876 = .ok (.bipush 16, 2) := by decide +kernel
theorem dL_acts_878 : decode cL_acts 878 = .ok (.if_icmp .ge 140, 3) := by decide +kernel
theorem dL_acts_881 : decode cL_acts 881 = .ok (.iload 6, 2) := by decide +kernel
theorem dL_acts_883 : decode cL_acts 883 = .ok (.iconst 3, 1) := by decide +kernel
theorem dL_acts_884 : decode cL_acts 884 = .ok (.invokestatic 129, 3) := by decide +kernel
theorem dL_acts_887 : decode cL_acts 887 = .ok (.istore 9, 2) := by decide +kernel
theorem dL_acts_889 : decode cL_acts 889 = .ok (.aload_n 0, 1) := by decide +kernel
theorem dL_acts_890 : decode cL_acts 890 = .ok (.invokevirtual 112, 3) := by decide +kernel
theorem dL_acts_893 : decode cL_acts 893 = .ok (.istore 10, 2) := by decide +kernel
theorem dL_acts_895 : decode cL_acts 895 = .ok (.aload_n 0, 1) := by decide +kernel
theorem dL_acts_896 : decode cL_acts 896 = .ok (.invokevirtual 80, 3) := by decide +kernel
theorem dL_acts_899 : decode cL_acts 899 = .ok (.istore 11, 2) := by decide +kernel
theorem dL_acts_901 : decode cL_acts 901 = .ok (.aload_n 0, 1) := by decide +kernel
theorem dL_acts_902 : decode cL_acts 902 = .ok (.iload 9, 2) := by decide +kernel
theorem dL_acts_904 : decode cL_acts 904 = .ok (.invokestatic 123, 3) := by decide +kernel
theorem dL_acts_907 : decode cL_acts 907 = .ok (.istore 12, 2) := by decide +kernel
theorem dL_acts_909 : decode cL_acts 909 = .ok (.aload_n 1, 1) := by decide +kernel
theorem dL_acts_910 : decode cL_acts 910 = .ok (.iload 9, 2) := by decide +kernel
theorem dL_acts_912 : decode cL_acts 912 = .ok (.invokestatic 123, 3) := by decide +kernel
theorem dL_acts_915 : decode cL_acts 915 = .ok (.iload 12, 2) := by decide +kernel
theorem dL_acts_917 : decode cL_acts 917 = .ok (.if_icmp .ne 32, 3) := by decide +kernel
theorem dL_acts_920 : decode cL_acts 920 = .ok (.iload 12, 2) := by decide +kernel
theorem dL_acts_922 : decode cL_acts 922 = .ok (.aload 4, 2) := by decide +kernel
theorem dL_acts_924 : decode cL_acts 924 = .ok (.iconst 4, 1) := by decide +kernel
theorem dL_acts_925 : decode cL_acts 925 = .ok (.iaload, 1) := by decide +kernel
theorem dL_acts_926 : decode cL_acts 926 = .ok (.bipush 8, 2) := by decide +kernel
theorem dL_acts_928 : decode cL_acts 928 = .ok (.if_icmp .ge 12, 3) := by decide +kernel
theorem dL_acts_931 : decode cL_acts 931 = .ok (.aload 4, 2) := by decide +kernel
theorem dL_acts_933 : decode cL_acts 933 = .ok (.iconst 4, 1) := by decide +kernel
theorem dL_acts_934 : decode cL_acts 934 = .ok (.iaload, 1) := by decide +kernel
theorem dL_acts_935 : decode cL_acts 935 = .ok (.iconst 1, 1) := by decide +kernel
theorem dL_acts_936 : decode cL_acts 936 = .ok (.iadd, 1) := by decide +kernel
theorem dL_acts_937 : decode cL_acts 937 = .ok (.goto 5, 3) := by decide +kernel
theorem dL_acts_940 : decode cL_acts 940 = .ok (.ldc 40, 2) := by decide +kernel
theorem dL_acts_942 : decode cL_acts 942 = .ok (.if_icmp .ne 7, 3) := by decide +kernel
theorem dL_acts_945 : decode cL_acts 945 = .ok (.iconst 1, 1) := by decide +kernel
theorem dL_acts_946 : decode cL_acts 946 = .ok (.goto 4, 3) := by decide +kernel
theorem dL_acts_949 : decode cL_acts 949 = .ok (.iconst 0, 1) := by decide +kernel
theorem dL_acts_950 : decode cL_acts 950 = .ok (.istore 13, 2) := by decide +kernel
theorem dL_acts_952 : decode cL_acts 952 = .ok (.aload 4, 2) := by decide +kernel
theorem dL_acts_954 : decode cL_acts 954 = .ok (.iconst 4, 1) := by decide +kernel
theorem dL_acts_955 : decode cL_acts 955 = .ok (.dup2, 1) := by decide +kernel
theorem dL_acts_956 : decode cL_acts 956 = .ok (.iaload, 1) := by decide +kernel
theorem dL_acts_957 : decode cL_acts 957 = .ok (.aload 4, 2) := by decide +kernel
theorem dL_acts_959 : decode cL_acts 959 = .ok (.iconst 4, 1) := by decide +kernel
theorem dL_acts_960 : decode cL_acts 960 = .ok (.iaload, 1) := by decide +kernel
theorem dL_acts_961 : decode cL_acts 961 = .ok (.bipush 8, 2) := by decide +kernel
theorem dL_acts_963 : decode cL_acts 963 = .ok (.if_icmp .ge 7, 3) := by decide +kernel
theorem dL_acts_966 : decode cL_acts 966 = .ok (.iconst 1, 1) := by decide +kernel
theorem dL_acts_967 : decode cL_acts 967 = .ok (.goto 4, 3) := by decide +kernel
theorem dL_acts_970 : decode cL_acts 970 = .ok (.iconst 0, 1) := by decide +kernel
theorem dL_acts_971 : decode cL_acts 971 = .ok (.iadd, 1) := by decide +kernel
theorem dL_acts_972 : decode cL_acts 972 = .ok (.iastore, 1) := by decide +kernel
theorem dL_acts_973 : decode cL_acts 973 = .ok (.iload 13, 2) := by decide +kernel
theorem dL_acts_975 : decode cL_acts 975 = .ok (.ifCond .eq 41, 3) := by decide +kernel
theorem dL_acts_978 : decode cL_acts 978 = .ok (.iload 10, 2) := by decide +kernel
theorem dL_acts_980 : decode cL_acts 980 = .ok (.ifCond .eq 10, 3) := by decide +kernel
theorem dL_acts_983 : decode cL_acts 983 = .ok (.aload_n 0, 1) := by decide +kernel
theorem dL_acts_984 : decode cL_acts 984 = .ok (.invokevirtual 112, 3) := by decide +kernel
theorem dL_acts_987 : decode cL_acts 987 = .ok (.ifCond .eq 29, 3) := by decide +kernel
theorem dL_acts_990 : decode cL_acts 990 = .ok (.iload 11, 2) := by decide +kernel
theorem dL_acts_992 : decode cL_acts 992 = .ok (.aload_n 0, 1) := by decide +kernel
theorem dL_acts_993 : decode cL_acts 993 = .ok (.invokevirtual 80, 3) := by decide +kernel
theorem dL_acts_996 : decode cL_acts 996 = .ok (.iconst (-1), 1) := by decide +kernel
theorem dL_acts_997 : decode cL_acts 997 = .ok (.ixor, 1) := by decide +kernel
theorem dL_acts_998 : decode cL_acts 998 = .ok (.iand, 1) := by decide +kernel
theorem dL_acts_999 : decode cL_acts 999 = .ok (.ifCond .ne 17, 3) := by decide +kernel
theorem dL_acts_1002 : decode cL_acts 1002 = .ok (.aload_n 0, 1) := by decide +kernel
theorem dL_acts_1003 : decode cL_acts 1003 = .ok (.iconst 3, 1) := by decide +kernel
theorem dL_acts_1004 : decode cL_acts 1004 = .ok (.invokestatic 123, 3) := by decide +kernel
theorem dL_acts_1007 : decode cL_acts 1007 = .ok (.ldc 18, 2) := by decide +kernel
theorem dL_acts_1009 : decode cL_acts 1009 = .ok (.if_icmp .ne 7, 3) := by decide +kernel
theorem dL_acts_1012 : decode cL_acts 1012 = .ok (.iconst 1, 1) := by decide +kernel
theorem dL_acts_1013 : decode cL_acts 1013 = .ok (.goto 4, 3) := by decide +kernel
theorem dL_acts_1016 : decode cL_acts 1016 = .ok (.iconst 0, 1) := by decide +kernel
theorem dL_acts_1017 : decode cL_acts 1017 = .ok (.ireturn, 1) := by decide +kernel
theorem dL_acts_1018 : decode cL_acts 1018 = .ok (.iload 7, 2) := by decide +kernel
theorem dL_acts_1020 : decode cL_acts 1020 = .ok (.bipush 20, 2) := by decide +kernel
theorem dL_acts_1022 : decode cL_acts 1022 = .ok (.if_icmp .ge 16, 3) := by decide +kernel
theorem dL_acts_1025 : decode cL_acts 1025 = .ok (.aload_n 0, 1) := by decide +kernel
theorem dL_acts_1026 : decode cL_acts 1026 = .ok (.aload_n 1, 1) := by decide +kernel
theorem dL_acts_1027 : decode cL_acts 1027 = .ok (.iload 6, 2) := by decide +kernel
theorem dL_acts_1029 : decode cL_acts 1029 = .ok (.bipush 8, 2) := by decide +kernel
theorem dL_acts_1031 : decode cL_acts 1031 = .ok (.invokestatic 129, 3) := by decide +kernel
theorem dL_acts_1034 : decode cL_acts 1034 = .ok (.invokestatic 146, 3) := by decide +kernel
theorem dL_acts_1037 : decode cL_acts 1037 = .ok (.ireturn, 1) := by decide +kernel
theorem dL_acts_1038 : decode cL_acts 1038 = .ok (.iload 7, 2) := by decide +kernel
theorem dL_acts_1040 : decode cL_acts 1040 = .ok (.bipush 20, 2) := by decide +kernel
theorem dL_acts_1042 : decode cL_acts 1042 = .ok (.if_icmp .ne 156, 3) := by decide +kernel
theorem dL_acts_1045 : decode cL_acts 1045 = .ok (.aload_n 0, 1) := by decide +kernel
theorem dL_acts_1046 : decode cL_acts 1046 = .ok (.iconst 0, 1) := by decide +kernel
theorem dL_acts_1047 : decode cL_acts 1047 = .ok (.invokestatic 75, 3) := by decide +kernel
theorem dL_acts_1050 : decode cL_acts 1050 = .ok (.bipush 16, 2) := by decide +kernel
theorem dL_acts_1052 : decode cL_acts 1052 = .ok (.aload_n 0, 1) := by decide +kernel
theorem dL_acts_1053 : decode cL_acts 1053 = .ok (.iconst 1, 1) := by decide +kernel
theorem dL_acts_1054 : decode cL_acts 1054 = .ok (.invokestatic 75, 3) := by decide +kernel
theorem dL_acts_1057 : decode cL_acts 1057 = .ok (.imul, 1) := by decide +kernel
theorem dL_acts_1058 : decode cL_acts 1058 = .ok (.iadd, 1) := by decide +kernel
theorem dL_acts_1059 : decode cL_acts 1059 = .ok (.sipush 256, 3) := by decide +kernel
theorem dL_acts_1062 : decode cL_acts 1062 = .ok (.aload_n 0, 1) := by decide +kernel
theorem dL_acts_1063 : decode cL_acts 1063 = .ok (.iconst 2, 1) := by decide +kernel
theorem dL_acts_1064 : decode cL_acts 1064 = .ok (.invokestatic 75, 3) := by decide +kernel
theorem dL_acts_1067 : decode cL_acts 1067 = .ok (.imul, 1) := by decide +kernel
theorem dL_acts_1068 : decode cL_acts 1068 = .ok (.iadd, 1) := by decide +kernel
theorem dL_acts_1069 : decode cL_acts 1069 = .ok (.istore 9, 2) := by decide +kernel
theorem dL_acts_1071 : decode cL_acts 1071 = .ok (.aload_n 0, 1) := by decide +kernel
theorem dL_acts_1072 : decode cL_acts 1072 = .ok (.invokevirtual 90, 3) := by decide +kernel
theorem dL_acts_1075 : decode cL_acts 1075 = .ok (.istore 10, 2) := by decide +kernel
theorem dL_acts_1077 : decode cL_acts 1077 = .ok (.aload_n 0, 1) := by decide +kernel
theorem dL_acts_1078 : decode cL_acts 1078 = .ok (.invokestatic 150, 3) := by decide +kernel
theorem dL_acts_1081 : decode cL_acts 1081 = .ok (.istore 11, 2) := by decide +kernel
theorem dL_acts_1083 : decode cL_acts 1083 = .ok (.aload_n 1, 1) := by decide +kernel
theorem dL_acts_1084 : decode cL_acts 1084 = .ok (.invokestatic 150, 3) := by decide +kernel
theorem dL_acts_1087 : decode cL_acts 1087 = .ok (.iload 11, 2) := by decide +kernel
theorem dL_acts_1089 : decode cL_acts 1089 = .ok (.if_icmp .ne 35, 3) := by decide +kernel
theorem dL_acts_1092 : decode cL_acts 1092 = .ok (.iload 11, 2) := by decide +kernel
theorem dL_acts_1094 : decode cL_acts 1094 = .ok (.aload 4, 2) := by decide +kernel
theorem dL_acts_1096 : decode cL_acts 1096 = .ok (.iconst 4, 1) := by decide +kernel
theorem dL_acts_1097 : decode cL_acts 1097 = .ok (.iaload, 1) := by decide +kernel
theorem dL_acts_1098 : decode cL_acts 1098 = .ok (.ifCond .ne 8, 3) := by decide +kernel
theorem dL_acts_1101 : decode cL_acts 1101 = .ok (.ldc 40, 2) := by decide +kernel
theorem dL_acts_1103 : decode cL_acts 1103 = .ok (.goto 5, 3) := by decide +kernel
theorem dL_acts_1106 : decode cL_acts 1106 = .ok (.iload 11, 2) := by decide +kernel
theorem dL_acts_1108 : decode cL_acts 1108 = .ok (.if_icmp .ne 16, 3) := by decide +kernel
theorem dL_acts_1111 : decode cL_acts 1111 = .ok (.aload_n 0, 1) := by decide +kernel
theorem dL_acts_1112 : decode cL_acts 1112 = .ok (.invokevirtual 90, 3) := by decide +kernel
theorem dL_acts_1115 : decode cL_acts 1115 = .ok (.iload 10, 2) := by decide +kernel
theorem dL_acts_1117 : decode cL_acts 1117 = .ok (.if_icmp .ne 7, 3) := by decide +kernel
theorem dL_acts_1120 : decode cL_acts 1120 = .ok (.iconst 1, 1) := by decide +kernel
theorem dL_acts_1121 : decode cL_acts 1121 = .ok (.goto 4, 3) := by decide +kernel
theorem dL_acts_1124 : decode cL_acts 1124 = .ok (.iconst 0, 1) := by decide +kernel
theorem dL_acts_1125 : decode cL_acts 1125 = .ok (.istore 12, 2) := by decide +kernel
theorem dL_acts_1127 : decode cL_acts 1127 = .ok (.aload 4, 2) := by decide +kernel
theorem dL_acts_1129 : decode cL_acts 1129 = .ok (.iconst 4, 1) := by decide +kernel
theorem dL_acts_1130 : decode cL_acts 1130 = .ok (.dup2, 1) := by decide +kernel
theorem dL_acts_1131 : decode cL_acts 1131 = .ok (.iaload, 1) := by decide +kernel
theorem dL_acts_1132 : decode cL_acts 1132 = .ok (.aload 4, 2) := by decide +kernel
theorem dL_acts_1134 : decode cL_acts 1134 = .ok (.iconst 4, 1) := by decide +kernel
theorem dL_acts_1135 : decode cL_acts 1135 = .ok (.iaload, 1) := by decide +kernel
theorem dL_acts_1136 : decode cL_acts 1136 = .ok (.ifCond .le 7, 3) := by decide +kernel
theorem dL_acts_1139 : decode cL_acts 1139 = .ok (.iconst 1, 1) := by decide +kernel
theorem dL_acts_1140 : decode cL_acts 1140 = .ok (.goto 4, 3) := by decide +kernel
theorem dL_acts_1143 : decode cL_acts 1143 = .ok (.iconst 0, 1) := by decide +kernel
theorem dL_acts_1144 : decode cL_acts 1144 = .ok (.isub, 1) := by decide +kernel
theorem dL_acts_1145 : decode cL_acts 1145 = .ok (.iastore, 1) := by decide +kernel
theorem dL_acts_1146 : decode cL_acts 1146 = .ok (.iload 12, 2) := by decide +kernel
theorem dL_acts_1148 : decode cL_acts 1148 = .ok (.ifCond .eq 48, 3) := by decide +kernel
theorem dL_acts_1151 : decode cL_acts 1151 = .ok (.iload 11, 2) := by decide +kernel
theorem dL_acts_1153 : decode cL_acts 1153 = .ok (.ifCond .lt 39, 3) := by decide +kernel
theorem dL_acts_1156 : decode cL_acts 1156 = .ok (.aload_n 0, 1) := by decide +kernel
theorem dL_acts_1157 : decode cL_acts 1157 = .ok (.iconst 0, 1) := by decide +kernel
theorem dL_acts_1158 : decode cL_acts 1158 = .ok (.invokestatic 75, 3) := by decide +kernel
theorem dL_acts_1161 : decode cL_acts 1161 = .ok (.bipush 16, 2) := by decide +kernel
theorem dL_acts_1163 : decode cL_acts 1163 = .ok (.aload_n 0, 1) := by decide +kernel
theorem dL_acts_1164 : decode cL_acts 1164 = .ok (.iconst 1, 1) := by decide +kernel
theorem dL_acts_1165 : decode cL_acts 1165 = .ok (.invokestatic 75, 3) := by decide +kernel
theorem dL_acts_1168 : decode cL_acts 1168 = .ok (.imul, 1) := by decide +kernel
theorem dL_acts_1169 : decode cL_acts 1169 = .ok (.iadd, 1) := by decide +kernel
theorem dL_acts_1170 : decode cL_acts 1170 = .ok (.sipush 256, 3) := by decide +kernel
theorem dL_acts_1173 : decode cL_acts 1173 = .ok (.aload_n 0, 1) := by decide +kernel
theorem dL_acts_1174 : decode cL_acts 1174 = .ok (.iconst 2, 1) := by decide +kernel
theorem dL_acts_1175 : decode cL_acts 1175 = .ok (.invokestatic 75, 3) := by decide +kernel
theorem dL_acts_1178 : decode cL_acts 1178 = .ok (.imul, 1) := by decide +kernel
theorem dL_acts_1179 : decode cL_acts 1179 = .ok (.iadd, 1) := by decide +kernel
theorem dL_acts_1180 : decode cL_acts 1180 = .ok (.iload 9, 2) := by decide +kernel
theorem dL_acts_1182 : decode cL_acts 1182 = .ok (.iconst 1, 1) := by decide +kernel
theorem dL_acts_1183 : decode cL_acts 1183 = .ok (.iconst 4, 1) := by decide +kernel
theorem dL_acts_1184 : decode cL_acts 1184 = .ok (.iload 11, 2) := by decide +kernel
theorem dL_acts_1186 : decode cL_acts 1186 = .ok (.imul, 1) := by decide +kernel
theorem dL_acts_1187 : decode cL_acts 1187 = .ok (.ishl, 1) := by decide +kernel
theorem dL_acts_1188 : decode cL_acts 1188 = .ok (.isub, 1) := by decide +kernel
theorem dL_acts_1189 : decode cL_acts 1189 = .ok (.if_icmp .ne 7, 3) := by decide +kernel
theorem dL_acts_1192 : decode cL_acts 1192 = .ok (.iconst 1, 1) := by decide +kernel
theorem dL_acts_1193 : decode cL_acts 1193 = .ok (.goto 4, 3) := by decide +kernel
theorem dL_acts_1196 : decode cL_acts 1196 = .ok (.iconst 0, 1) := by decide +kernel
theorem dL_acts_1197 : decode cL_acts 1197 = .ok (.ireturn, 1) := by decide +kernel
theorem dL_acts_1198 : decode cL_acts 1198 = .ok (.iload 7, 2) := by decide +kernel
theorem dL_acts_1200 : decode cL_acts 1200 = .ok (.bipush 21, 2) := by decide +kernel
theorem dL_acts_1202 : decode cL_acts 1202 = .ok (.if_icmp .ne 71, 3) := by decide +kernel
theorem dL_acts_1205 : decode cL_acts 1205 = .ok (.aload 4, 2) := by decide +kernel
theorem dL_acts_1207 : decode cL_acts 1207 = .ok (.iconst 4, 1) := by decide +kernel
theorem dL_acts_1208 : decode cL_acts 1208 = .ok (.iaload, 1) := by decide +kernel
theorem dL_acts_1209 : decode cL_acts 1209 = .ok (.aload_n 0, 1) := by decide +kernel
theorem dL_acts_1210 : decode cL_acts 1210 = .ok (.invokevirtual 90, 3) := by decide +kernel
theorem dL_acts_1213 : decode cL_acts 1213 = .ok (.invokestatic 106, 3) := by decide +kernel
theorem dL_acts_1216 : decode cL_acts 1216 = .ok (.iadd, 1) := by decide +kernel
theorem dL_acts_1217 : decode cL_acts 1217 = .ok (.istore 9, 2) := by decide +kernel
theorem dL_acts_1219 : decode cL_acts 1219 = .ok (.aload 4, 2) := by decide +kernel
theorem dL_acts_1221 : decode cL_acts 1221 = .ok (.iconst 4, 1) := by decide +kernel
theorem dL_acts_1222 : decode cL_acts 1222 = .ok (.iload 6, 2) := by decide +kernel
theorem dL_acts_1224 : decode cL_acts 1224 = .ok (.iconst 4, 1) := by decide +kernel
theorem dL_acts_1225 : decode cL_acts 1225 = .ok (.invokestatic 129, 3) := by decide +kernel
theorem dL_acts_1228 : decode cL_acts 1228 = .ok (.ifCond .ne 7, 3) := by decide +kernel
theorem dL_acts_1231 : decode cL_acts 1231 = .ok (.iconst 0, 1) := by decide +kernel
theorem dL_acts_1232 : decode cL_acts 1232 = .ok (.goto 7, 3) := by decide +kernel
theorem dL_acts_1235 : decode cL_acts 1235 = .ok (.aload 4, 2) := by decide +kernel
theorem dL_acts_1237 : decode cL_acts 1237 = .ok (.iconst 4, 1) := by decide +kernel
theorem dL_acts_1238 : decode cL_acts 1238 = .ok (.iaload, 1) := by decide +kernel
theorem dL_acts_1239 : decode cL_acts 1239 = .ok (.iastore, 1) := by decide +kernel
theorem dL_acts_1240 : decode cL_acts 1240 = .ok (.iload 6, 2) := by decide +kernel
theorem dL_acts_1242 : decode cL_acts 1242 = .ok (.iconst 4, 1) := by decide +kernel
theorem dL_acts_1243 : decode cL_acts 1243 = .ok (.invokestatic 129, 3) := by decide +kernel
theorem dL_acts_1246 : decode cL_acts 1246 = .ok (.ifCond .gt 21, 3) := by decide +kernel
theorem dL_acts_1249 : decode cL_acts 1249 = .ok (.aload_n 0, 1) := by decide +kernel
theorem dL_acts_1250 : decode cL_acts 1250 = .ok (.invokevirtual 120, 3) := by decide +kernel
theorem dL_acts_1253 : decode cL_acts 1253 = .ok (.iload 9, 2) := by decide +kernel
theorem dL_acts_1255 : decode cL_acts 1255 = .ok (.if_icmp .ne 16, 3) := by decide +kernel
theorem dL_acts_1258 : decode cL_acts 1258 = .ok (.aload_n 1, 1) := by decide +kernel
theorem dL_acts_1259 : decode cL_acts 1259 = .ok (.invokevirtual 120, 3) := by decide +kernel
theorem dL_acts_1262 : decode cL_acts 1262 = .ok (.iload 9, 2) := by decide +kernel
theorem dL_acts_1264 : decode cL_acts 1264 = .ok (.if_icmp .ne 7, 3) := by decide +kernel
theorem dL_acts_1267 : decode cL_acts 1267 = .ok (.iconst 1, 1) := by decide +kernel
theorem dL_acts_1268 : decode cL_acts 1268 = .ok (.goto 4, 3) := by decide +kernel
theorem dL_acts_1271 : decode cL_acts 1271 = .ok (.iconst 0, 1) := by decide +kernel
theorem dL_acts_1272 : decode cL_acts 1272 = .ok (.ireturn, 1) := by decide +kernel
theorem dL_acts_1273 : decode cL_acts 1273 = .ok (.aload_n 0, 1) := by decide +kernel
theorem dL_acts_1274 : decode cL_acts 1274 = .ok (.aload_n 1, 1) := by decide +kernel
theorem dL_acts_1275 : decode cL_acts 1275 = .ok (.iload 6, 2) := by decide +kernel
theorem dL_acts_1277 : decode cL_acts 1277 = .ok (.bipush 8, 2) := by decide +kernel
theorem dL_acts_1279 : decode cL_acts 1279 = .ok (.invokestatic 129, 3) := by decide +kernel
theorem dL_acts_1282 : decode cL_acts 1282 = .ok (.iload 6, 2) := by decide +kernel
theorem dL_acts_1284 : decode cL_acts 1284 = .ok (.iconst 3, 1) := by decide +kernel
theorem dL_acts_1285 : decode cL_acts 1285 = .ok (.ishr, 1) := by decide +kernel
theorem dL_acts_1286 : decode cL_acts 1286 = .ok (.bipush 8, 2) := by decide +kernel
theorem dL_acts_1288 : decode cL_acts 1288 = .ok (.invokestatic 129, 3) := by decide +kernel
theorem dL_acts_1291 : decode cL_acts 1291 = .ok (.invokestatic 152, 3) := by decide +kernel
theorem dL_acts_1294 : decode cL_acts 1294 = .ok (.ireturn, 1) := by decide +kernel
theorem dL_law_0 : decode cL_law 0 = .ok (.new 11, 3) := by decide +kernel
theorem dL_law_3 : decode cL_law 3 = .ok (.dup, 1) := by decide +kernel
theorem dL_law_4 : decode cL_law 4 = .ok (.invokespecial 156, 3) := by decide +kernel
theorem dL_law_7 : decode cL_law 7 = .ok (.astore_n 1, 1) := by decide +kernel
theorem dL_law_8 : decode cL_law 8 = .ok (.new 11, 3) := by decide +kernel
theorem dL_law_11 : decode cL_law 11 = .ok (.dup, 1) := by decide +kernel
theorem dL_law_12 : decode cL_law 12 = .ok (.invokespecial 156, 3) := by decide +kernel
theorem dL_law_15 : decode cL_law 15 = .ok (.astore_n 2, 1) := by decide +kernel
theorem dL_law_16 : decode cL_law 16 = .ok (.bipush 24, 2) := by decide +kernel
theorem dL_law_18 : decode cL_law 18 = .ok (.newarray .int, 2) := by decide +kernel
theorem dL_law_20 : decode cL_law 20 = .ok (.astore_n 3, 1) := by decide +kernel
theorem dL_law_21 : decode cL_law 21 = .ok (.bipush 24, 2) := by decide +kernel
theorem dL_law_23 : decode cL_law 23 = .ok (.newarray .int, 2) := by decide +kernel
theorem dL_law_25 : decode cL_law 25 = .ok (.astore 4, 2) := by decide +kernel
theorem dL_law_27 : decode cL_law 27 = .ok (.iconst 5, 1) := by decide +kernel
theorem dL_law_28 : decode cL_law 28 = .ok (.newarray .int, 2) := by decide +kernel
theorem dL_law_30 : decode cL_law 30 = .ok (.astore 5, 2) := by decide +kernel
theorem dL_law_32 : decode cL_law 32 = .ok (.iconst 0, 1) := by decide +kernel
theorem dL_law_33 : decode cL_law 33 = .ok (.istore 6, 2) := by decide +kernel
theorem dL_law_35 : decode cL_law 35 = .ok (.iload 6, 2) := by decide +kernel
theorem dL_law_37 : decode cL_law 37 = .ok (.bipush 24, 2) := by decide +kernel
theorem dL_law_39 : decode cL_law 39 = .ok (.if_icmp .ge 42, 3) := by decide +kernel
theorem dL_law_42 : decode cL_law 42 = .ok (.aload_n 3, 1) := by decide +kernel
theorem dL_law_43 : decode cL_law 43 = .ok (.iload 6, 2) := by decide +kernel
theorem dL_law_45 : decode cL_law 45 = .ok (.iload 6, 2) := by decide +kernel
theorem dL_law_47 : decode cL_law 47 = .ok (.iconst 3, 1) := by decide +kernel
theorem dL_law_48 : decode cL_law 48 = .ok (.irem, 1) := by decide +kernel
theorem dL_law_49 : decode cL_law 49 = .ok (.ifCond .ne 7, 3) := by decide +kernel
theorem dL_law_52 : decode cL_law 52 = .ok (.iconst (-1), 1) := by decide +kernel
theorem dL_law_53 : decode cL_law 53 = .ok (.goto 4, 3) := by decide +kernel
theorem dL_law_56 : decode cL_law 56 = .ok (.iconst 0, 1) := by decide +kernel
theorem dL_law_57 : decode cL_law 57 = .ok (.iastore, 1) := by decide +kernel
theorem dL_law_58 : decode cL_law 58 = .ok (.aload 4, 2) := by decide +kernel
theorem dL_law_60 : decode cL_law 60 = .ok (.iload 6, 2) := by decide +kernel
theorem dL_law_62 : decode cL_law 62 = .ok (.iload 6, 2) := by decide +kernel
theorem dL_law_64 : decode cL_law 64 = .ok (.iconst 4, 1) := by decide +kernel
theorem dL_law_65 : decode cL_law 65 = .ok (.irem, 1) := by decide +kernel
theorem dL_law_66 : decode cL_law 66 = .ok (.ifCond .ne 7, 3) := by decide +kernel
theorem dL_law_69 : decode cL_law 69 = .ok (.iconst 0, 1) := by decide +kernel
theorem dL_law_70 : decode cL_law 70 = .ok (.goto 4, 3) := by decide +kernel
theorem dL_law_73 : decode cL_law 73 = .ok (.iconst (-1), 1) := by decide +kernel
theorem dL_law_74 : decode cL_law 74 = .ok (.iastore, 1) := by decide +kernel
theorem dL_law_75 : decode cL_law 75 = .ok (.iinc 6 1, 3) := by decide +kernel
theorem dL_law_78 : decode cL_law 78 = .ok (.goto (-43), 3) := by decide +kernel
theorem dL_law_81 : decode cL_law 81 = .ok (.iconst 0, 1) := by decide +kernel
theorem dL_law_82 : decode cL_law 82 = .ok (.istore 6, 2) := by decide +kernel
theorem dL_law_84 : decode cL_law 84 = .ok (.iload 6, 2) := by decide +kernel
theorem dL_law_86 : decode cL_law 86 = .ok (.iconst 4, 1) := by decide +kernel
theorem dL_law_87 : decode cL_law 87 = .ok (.if_icmp .ge 16, 3) := by decide +kernel
theorem dL_law_90 : decode cL_law 90 = .ok (.aload 5, 2) := by decide +kernel
theorem dL_law_92 : decode cL_law 92 = .ok (.iload 6, 2) := by decide +kernel
theorem dL_law_94 : decode cL_law 94 = .ok (.bipush 8, 2) := by decide +kernel
theorem dL_law_96 : decode cL_law 96 = .ok (.iastore, 1) := by decide +kernel
theorem dL_law_97 : decode cL_law 97 = .ok (.iinc 6 1, 3) := by decide +kernel
theorem dL_law_100 : decode cL_law 100 = .ok (.goto (-16), 3) := by decide +kernel
theorem dL_law_103 : decode cL_law 103 = .ok (.aload_n 1, 1) := by decide +kernel
theorem dL_law_104 : decode cL_law 104 = .ok (.invokevirtual 112, 3) := by decide +kernel
theorem dL_law_107 : decode cL_law 107 = .ok (.ifCond .eq 57, 3) := by decide +kernel
theorem dL_law_110 : decode cL_law 110 = .ok (.aload_n 1, 1) := by decide +kernel
theorem dL_law_111 : decode cL_law 111 = .ok (.invokevirtual 90, 3) := by decide +kernel
theorem dL_law_114 : decode cL_law 114 = .ok (.ifCond .ne 50, 3) := by decide +kernel
theorem dL_law_117 : decode cL_law 117 = .ok (.aload_n 1, 1) := by decide +kernel
theorem dL_law_118 : decode cL_law 118 = .ok (.invokevirtual 93, 3) := by decide +kernel
theorem dL_law_121 : decode cL_law 121 = .ok (.sipush 255, 3) := by decide +kernel
theorem dL_law_124 : decode cL_law 124 = .ok (.if_icmp .ne 40, 3) := by decide +kernel
theorem dL_law_127 : decode cL_law 127 = .ok (.aload_n 1, 1) := by decide +kernel
theorem dL_law_128 : decode cL_law 128 = .ok (.invokevirtual 100, 3) := by decide +kernel
theorem dL_law_131 : decode cL_law 131 = .ok (.iconst 1, 1) := by decide +kernel
theorem dL_law_132 : decode cL_law 132 = .ok (.if_icmp .ne 32, 3) := by decide +kernel
theorem dL_law_135 : decode cL_law 135 = .ok (.aload_n 1, 1) := by decide +kernel
theorem dL_law_136 : decode cL_law 136 = .ok (.invokevirtual 103, 3) := by decide +kernel
theorem dL_law_139 : decode cL_law 139 = .ok (.bipush 20, 2) := by decide +kernel
theorem dL_law_141 : decode cL_law 141 = .ok (.if_icmp .ne 23, 3) := by decide +kernel
theorem dL_law_144 : decode cL_law 144 = .ok (.aload_n 1, 1) := by decide +kernel
theorem dL_law_145 : decode cL_law 145 = .ok (.invokestatic 150, 3) := by decide +kernel
theorem dL_law_148 : decode cL_law 148 = .ok (.ldc 40, 2) := by decide +kernel
theorem dL_law_150 : decode cL_law 150 = .ok (.if_icmp .ne 14, 3) := by decide +kernel
theorem dL_law_153 : decode cL_law 153 = .ok (.aload_n 1, 1) := by decide +kernel
theorem dL_law_154 : decode cL_law 154 = .ok (.invokevirtual 120, 3) := by decide +kernel
theorem dL_law_157 : decode cL_law 157 = .ok (.ifCond .ne 7, 3) := by decide +kernel
theorem dL_law_160 : decode cL_law 160 = .ok (.iconst 1, 1) := by decide +kernel
theorem dL_law_161 : decode cL_law 161 = .ok (.goto 4, 3) := by decide +kernel
theorem dL_law_164 : decode cL_law 164 = .ok (.iconst 0, 1) := by decide +kernel
theorem dL_law_165 : decode cL_law 165 = .ok (.istore 6, 2) := by decide +kernel
theorem dL_law_167 : decode cL_law 167 = .ok (.iconst 0, 1) := by decide +kernel
theorem dL_law_168 : decode cL_law 168 = .ok (.istore 7, 2) := by decide +kernel
theorem dL_law_170 : decode cL_law 170 = .ok (.iload 7, 2) := by decide +kernel
theorem dL_law_172 : decode cL_law 172 = .ok (.bipush 90, 2) := by decide +kernel
theorem dL_law_174 : decode cL_law 174 = .ok (.if_icmp .ge 151, 3) := by decide +kernel
theorem dL_law_177 : decode cL_law 177 = .ok (.iload 6, 2) := by decide +kernel
theorem dL_law_179 : decode cL_law 179 = .ok (.ifCond .eq 146, 3) := by decide +kernel
theorem dL_law_182 : decode cL_law 182 = .ok (.aload_n 1, 1) := by decide +kernel
theorem dL_law_183 : decode cL_law 183 = .ok (.aload_n 2, 1) := by decide +kernel
theorem dL_law_184 : decode cL_law 184 = .ok (.aload_n 3, 1) := by decide +kernel
theorem dL_law_185 : decode cL_law 185 = .ok (.aload 4, 2) := by decide +kernel
theorem dL_law_187 : decode cL_law 187 = .ok (.aload 5, 2) := by decide +kernel
theorem dL_law_189 : decode cL_law 189 = .ok (.aload_n 0, 1) := by decide +kernel
theorem dL_law_190 : decode cL_law 190 = .ok (.iconst 2, 1) := by decide +kernel
theorem dL_law_191 : decode cL_law 191 = .ok (.iload 7, 2) := by decide +kernel
theorem dL_law_193 : decode cL_law 193 = .ok (.imul, 1) := by decide +kernel
theorem dL_law_194 : decode cL_law 194 = .ok (.invokestatic 157, 3) := by decide +kernel
theorem dL_law_197 : decode cL_law 197 = .ok (.aload_n 0, 1) := by decide +kernel
theorem dL_law_198 : decode cL_law 198 = .ok (.iconst 2, 1) := by decide +kernel
theorem dL_law_199 : decode cL_law 199 = .ok (.iload 7, 2) := by decide +kernel
theorem dL_law_201 : decode cL_law 201 = .ok (.imul, 1) := by decide +kernel
theorem dL_law_202 : decode cL_law 202 = .ok (.iconst 1, 1) := by decide +kernel
theorem dL_law_203 : decode cL_law 203 = .ok (.iadd, 1) := by decide +kernel
theorem dL_law_204 : decode cL_law 204 = .ok (.invokestatic 157, 3) := by decide +kernel
theorem dL_law_207 : decode cL_law 207 = .ok (.invokestatic 161, 3) := by decide +kernel
theorem dL_law_210 : decode cL_law 210 = .ok (.ifCond .eq 28, 3) := by decide +kernel
theorem dL_law_213 : decode cL_law 213 = .ok (.aload_n 1, 1) := by decide +kernel
theorem dL_law_214 : decode cL_law 214 = .ok (.aload 5, 2) := by decide +kernel
theorem dL_law_216 : decode cL_law 216 = .ok (.invokestatic 165, 3) := by decide +kernel
theorem dL_law_219 : decode cL_law 219 = .ok (.ifCond .eq 19, 3) := by decide +kernel
theorem dL_law_222 : decode cL_law 222 = .ok (.aload_n 1, 1) := by decide +kernel
theorem dL_law_223 : decode cL_law 223 = .ok (.aload_n 3, 1) := by decide +kernel
theorem dL_law_224 : decode cL_law 224 = .ok (.aload 4, 2) := by decide +kernel
theorem dL_law_226 : decode cL_law 226 = .ok (.aload 5, 2) := by decide +kernel
theorem dL_law_228 : decode cL_law 228 = .ok (.invokestatic 169, 3) := by decide +kernel
theorem dL_law_231 : decode cL_law 231 = .ok (.ifCond .eq 7, 3) := by decide +kernel
theorem dL_law_234 : decode cL_law 234 = .ok (.iconst 1, 1) := by decide +kernel
theorem dL_law_235 : decode cL_law 235 = .ok (.goto 4, 3) := by decide +kernel
theorem dL_law_238 : decode cL_law 238 = .ok (.iconst 0, 1) := by decide +kernel
theorem dL_law_239 : decode cL_law 239 = .ok (.istore 6, 2) := by decide +kernel
theorem dL_law_241 : decode cL_law 241 = .ok (.iload 6, 2) := by decide +kernel
theorem dL_law_243 : decode cL_law 243 = .ok (.ifCond .eq 76, 3) := by decide +kernel
theorem dL_law_246 : decode cL_law 246 = .ok (.iload 7, 2) := by decide +kernel
theorem dL_law_248 : decode cL_law 248 = .ok (.bipush 10, 2) := by decide +kernel
theorem dL_law_250 : decode cL_law 250 = .ok (.irem, 1) := by decide +kernel
theorem dL_law_251 : decode cL_law 251 = .ok (.bipush 9, 2) := by decide +kernel
theorem dL_law_253 : decode cL_law 253 = .ok (.if_icmp .ne 66, 3) := by decide +kernel
theorem dL_law_256 : decode cL_law 256 = .ok (.aload_n 1, 1) := by decide +kernel
theorem dL_law_257 : decode cL_law 257 = .ok (.invokevirtual 112, 3) := by decide +kernel
theorem dL_law_260 : decode cL_law 260 = .ok (.istore 8, 2) := by decide +kernel
theorem dL_law_262 : decode cL_law 262 = .ok (.aload_n 1, 1) := by decide +kernel
theorem dL_law_263 : decode cL_law 263 = .ok (.aload_n 2, 1) := by decide +kernel
theorem dL_law_264 : decode cL_law 264 = .ok (.invokestatic 173, 3) := by decide +kernel
theorem dL_law_267 : decode cL_law 267 = .ok (.istore 6, 2) := by decide +kernel
theorem dL_law_269 : decode cL_law 269 = .ok (.aload 5, 2) := by decide +kernel
theorem dL_law_271 : decode cL_law 271 = .ok (.iconst 4, 1) := by decide +kernel
theorem dL_law_272 : decode cL_law 272 = .ok (.iload 6, 2) := by decide +kernel
theorem dL_law_274 : decode cL_law 274 = .ok (.ifCond .eq 12, 3) := by decide +kernel
theorem dL_law_277 : decode cL_law 277 = .ok (.iload 8, 2) := by decide +kernel
theorem dL_law_279 : decode cL_law 279 = .ok (.ifCond .eq 7, 3) := by decide +kernel
theorem dL_law_282 : decode cL_law 282 = .ok (.iconst 0, 1) := by decide +kernel
theorem dL_law_283 : decode cL_law 283 = .ok (.goto 7, 3) := by decide +kernel
theorem dL_law_286 : decode cL_law 286 = .ok (.aload 5, 2) := by decide +kernel
theorem dL_law_288 : decode cL_law 288 = .ok (.iconst 4, 1) := by decide +kernel
theorem dL_law_289 : decode cL_law 289 = .ok (.iaload, 1) := by decide +kernel
theorem dL_law_290 : decode cL_law 290 = .ok (.iastore, 1) := by decide +kernel
theorem dL_law_291 : decode cL_law 291 = .ok (.iload 6, 2) := by decide +kernel
theorem dL_law_293 : decode cL_law 293 = .ok (.ifCond .eq 23, 3) := by decide +kernel
theorem dL_law_296 : decode cL_law 296 = .ok (.iload 8, 2) := by decide +kernel
theorem dL_law_298 : decode cL_law 298 = .ok (.ifCond .eq 14, 3) := by decide +kernel
theorem dL_law_301 : decode cL_law 301 = .ok (.aload_n 2, 1) := by decide +kernel
theorem dL_law_302 : decode cL_law 302 = .ok (.invokevirtual 120, 3) := by decide +kernel
theorem dL_law_305 : decode cL_law 305 = .ok (.aload_n 1, 1) := by decide +kernel
theorem dL_law_306 : decode cL_law 306 = .ok (.invokevirtual 120, 3) := by decide +kernel
theorem dL_law_309 : decode cL_law 309 = .ok (.if_icmp .ne 7, 3) := by decide +kernel
theorem dL_law_312 : decode cL_law 312 = .ok (.iconst 1, 1) := by decide +kernel
theorem dL_law_313 : decode cL_law 313 = .ok (.goto 4, 3) := by decide +kernel
theorem dL_law_316 : decode cL_law 316 = .ok (.iconst 0, 1) := by decide +kernel
theorem dL_law_317 : decode cL_law 317 = .ok (.istore 6, 2) := by decide +kernel
theorem dL_law_319 : decode cL_law 319 = .ok (.iinc 7 1, 3) := by decide +kernel
theorem dL_law_322 : decode cL_law 322 = .ok (.goto (-152), 3) := by decide +kernel
theorem dL_law_325 : decode cL_law 325 = .ok (.iload 6, 2) := by decide +kernel
theorem dL_law_327 : decode cL_law 327 = .ok (.ireturn, 1) := by decide +kernel
