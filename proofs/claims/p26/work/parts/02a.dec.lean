theorem dX0_init_0 : decode cX0_init 0 = .ok (.aload_n 0, 1) := by decide +kernel
theorem dX0_init_1 : decode cX0_init 1 = .ok (.invokespecial 3, 3) := by decide +kernel
theorem dX0_init_4 : decode cX0_init 4 = .ok (.aload_n 0, 1) := by decide +kernel
theorem dX0_init_5 : decode cX0_init 5 = .ok (.iconst 3, 1) := by decide +kernel
theorem dX0_init_6 : decode cX0_init 6 = .ok (.newarray .int, 2) := by decide +kernel
theorem dX0_init_8 : decode cX0_init 8 = .ok (.putfield 9, 3) := by decide +kernel
theorem dX0_init_11 : decode cX0_init 11 = .ok (.aload_n 0, 1) := by decide +kernel
theorem dX0_init_12 : decode cX0_init 12 = .ok (.iconst 0, 1) := by decide +kernel
theorem dX0_init_13 : decode cX0_init 13 = .ok (.putfield 15, 3) := by decide +kernel
theorem dX0_init_16 : decode cX0_init 16 = .ok (.return_, 1) := by decide +kernel
theorem dX0_empty_0 : decode cX0_empty 0 = .ok (.aload_n 0, 1) := by decide +kernel
theorem dX0_empty_1 : decode cX0_empty 1 = .ok (.getfield 9, 3) := by decide +kernel
theorem dX0_empty_4 : decode cX0_empty 4 = .ok (.iconst 0, 1) := by decide +kernel
theorem dX0_empty_5 : decode cX0_empty 5 = .ok (.invokestatic 19, 3) := by decide +kernel
theorem dX0_empty_8 : decode cX0_empty 8 = .ok (.aload_n 0, 1) := by decide +kernel
theorem dX0_empty_9 : decode cX0_empty 9 = .ok (.iconst 0, 1) := by decide +kernel
theorem dX0_empty_10 : decode cX0_empty 10 = .ok (.putfield 15, 3) := by decide +kernel
theorem dX0_empty_13 : decode cX0_empty 13 = .ok (.return_, 1) := by decide +kernel
theorem dX0_has_0 : decode cX0_has 0 = .ok (.aload_n 0, 1) := by decide +kernel
theorem dX0_has_1 : decode cX0_has 1 = .ok (.getfield 15, 3) := by decide +kernel
theorem dX0_has_4 : decode cX0_has 4 = .ok (.iload_n 1, 1) := by decide +kernel
theorem dX0_has_5 : decode cX0_has 5 = .ok (.ishr, 1) := by decide +kernel
theorem dX0_has_6 : decode cX0_has 6 = .ok (.iconst 1, 1) := by decide +kernel
theorem dX0_has_7 : decode cX0_has 7 = .ok (.iand, 1) := by decide +kernel
theorem dX0_has_8 : decode cX0_has 8 = .ok (.ifCond .eq 7, 3) := by decide +kernel
theorem dX0_has_11 : decode cX0_has 11 = .ok (.iconst 1, 1) := by decide +kernel
theorem dX0_has_12 : decode cX0_has 12 = .ok (.goto 4, 3) := by decide +kernel
theorem dX0_has_15 : decode cX0_has 15 = .ok (.iconst 0, 1) := by decide +kernel
theorem dX0_has_16 : decode cX0_has 16 = .ok (.ireturn, 1) := by decide +kernel
theorem dX0_heldCount_0 : decode cX0_heldCount 0 = .ok (.aload_n 0, 1) := by decide +kernel
theorem dX0_heldCount_1 : decode cX0_heldCount 1 = .ok (.getfield 15, 3) := by decide +kernel
theorem dX0_heldCount_4 : decode cX0_heldCount 4 = .ok (.invokestatic 25, 3) := by decide +kernel
theorem dX0_heldCount_7 : decode cX0_heldCount 7 = .ok (.ireturn, 1) := by decide +kernel
theorem dX0_levelIn_0 : decode cX0_levelIn 0 = .ok (.iload_n 1, 1) := by decide +kernel
theorem dX0_levelIn_1 : decode cX0_levelIn 1 = .ok (.ifCond .lt 17, 3) := by decide +kernel
theorem dX0_levelIn_4 : decode cX0_levelIn 4 = .ok (.iload_n 1, 1) := by decide +kernel
theorem dX0_levelIn_5 : decode cX0_levelIn 5 = .ok (.iconst 3, 1) := by decide +kernel
theorem dX0_levelIn_6 : decode cX0_levelIn 6 = .ok (.if_icmp .ge 12, 3) := by decide +kernel
theorem dX0_levelIn_9 : decode cX0_levelIn 9 = .ok (.aload_n 0, 1) := by decide +kernel
theorem dX0_levelIn_10 : decode cX0_levelIn 10 = .ok (.getfield 9, 3) := by decide +kernel
theorem dX0_levelIn_13 : decode cX0_levelIn 13 = .ok (.iload_n 1, 1) := by decide +kernel
theorem dX0_levelIn_14 : decode cX0_levelIn 14 = .ok (.iaload, 1) := by decide +kernel
theorem dX0_levelIn_15 : decode cX0_levelIn 15 = .ok (.goto 4, 3) := by decide +kernel
theorem dX0_levelIn_18 : decode cX0_levelIn 18 = .ok (.iconst 0, 1) := by decide +kernel
theorem dX0_levelIn_19 : decode cX0_levelIn 19 = .ok (.ireturn, 1) := by decide +kernel
theorem dX0_levelInAll_0 : decode cX0_levelInAll 0 = .ok (.iconst 0, 1) := by decide +kernel
theorem dX0_levelInAll_1 : decode cX0_levelInAll 1 = .ok (.istore_n 1, 1) := by decide +kernel
theorem dX0_levelInAll_2 : decode cX0_levelInAll 2 = .ok (.iconst 0, 1) := by decide +kernel
theorem dX0_levelInAll_3 : decode cX0_levelInAll 3 = .ok (.istore_n 2, 1) := by decide +kernel
theorem dX0_levelInAll_4 : decode cX0_levelInAll 4 = .ok (.iload_n 2, 1) := by decide +kernel
theorem dX0_levelInAll_5 : decode cX0_levelInAll 5 = .ok (.iconst 3, 1) := by decide +kernel
theorem dX0_levelInAll_6 : decode cX0_levelInAll 6 = .ok (.if_icmp .ge 18, 3) := by decide +kernel
theorem dX0_levelInAll_9 : decode cX0_levelInAll 9 = .ok (.iload_n 1, 1) := by decide +kernel
theorem dX0_levelInAll_10 : decode cX0_levelInAll 10 = .ok (.aload_n 0, 1) := by decide +kernel
theorem dX0_levelInAll_11 : decode cX0_levelInAll 11 = .ok (.getfield 9, 3) := by decide +kernel
theorem dX0_levelInAll_14 : decode cX0_levelInAll 14 = .ok (.iload_n 2, 1) := by decide +kernel
theorem dX0_levelInAll_15 : decode cX0_levelInAll 15 = .ok (.iaload, 1) := by decide +kernel
theorem dX0_levelInAll_16 : decode cX0_levelInAll 16 = .ok (.iadd, 1) := by decide +kernel
theorem dX0_levelInAll_17 : decode cX0_levelInAll 17 = .ok (.istore_n 1, 1) := by decide +kernel
theorem dX0_levelInAll_18 : decode cX0_levelInAll 18 = .ok (.iinc 2 1, 3) := by decide +kernel
theorem dX0_levelInAll_21 : decode cX0_levelInAll 21 = .ok (.goto (-17), 3) := by decide +kernel
theorem dX0_levelInAll_24 : decode cX0_levelInAll 24 = .ok (.iload_n 1, 1) := by decide +kernel
theorem dX0_levelInAll_25 : decode cX0_levelInAll 25 = .ok (.ireturn, 1) := by decide +kernel
theorem dX0_changeLevel_0 : decode cX0_changeLevel 0 = .ok (.iload_n 1, 1) := by decide +kernel
theorem dX0_changeLevel_1 : decode cX0_changeLevel 1 = .ok (.iconst 3, 1) := by decide +kernel
theorem dX0_changeLevel_2 : decode cX0_changeLevel 2 = .ok (.invokestatic 31, 3) := by decide +kernel
theorem dX0_changeLevel_5 : decode cX0_changeLevel 5 = .ok (.ifCond .eq 13, 3) := by decide +kernel
theorem dX0_changeLevel_8 : decode cX0_changeLevel 8 = .ok (.aload_n 0, 1) := by decide +kernel
theorem dX0_changeLevel_9 : decode cX0_changeLevel 9 = .ok (.getfield 9, 3) := by decide +kernel
theorem dX0_changeLevel_12 : decode cX0_changeLevel 12 = .ok (.iload_n 1, 1) := by decide +kernel
theorem dX0_changeLevel_13 : decode cX0_changeLevel 13 = .ok (.dup2, 1) := by decide +kernel
theorem dX0_changeLevel_14 : decode cX0_changeLevel 14 = .ok (.iaload, 1) := by decide +kernel
theorem dX0_changeLevel_15 : decode cX0_changeLevel 15 = .ok (.iload_n 2, 1) := by decide +kernel
theorem dX0_changeLevel_16 : decode cX0_changeLevel 16 = .ok (.iadd, 1) := by decide +kernel
theorem dX0_changeLevel_17 : decode cX0_changeLevel 17 = .ok (.iastore, 1) := by decide +kernel
theorem dX0_changeLevel_18 : decode cX0_changeLevel 18 = .ok (.return_, 1) := by decide +kernel
theorem dX0_goOn_0 : decode cX0_goOn 0 = .ok (.iload_n 1, 1) := by decide +kernel
theorem dX0_goOn_1 : decode cX0_goOn 1 = .ok (.iconst 3, 1) := by decide +kernel
theorem dX0_goOn_2 : decode cX0_goOn 2 = .ok (.if_icmp .lt 20, 3) := by decide +kernel
theorem dX0_goOn_5 : decode cX0_goOn 5 = .ok (.aload_n 0, 1) := by decide +kernel
theorem dX0_goOn_6 : decode cX0_goOn 6 = .ok (.dup, 1) := by decide +kernel
theorem dX0_goOn_7 : decode cX0_goOn 7 = .ok (.getfield 15, 3) := by decide +kernel
theorem dX0_goOn_10 : decode cX0_goOn 10 = .ok (.iconst 1, 1) := by decide +kernel
theorem dX0_goOn_11 : decode cX0_goOn 11 = .ok (.iload_n 1, 1) := by decide +kernel
theorem dX0_goOn_12 : decode cX0_goOn 12 = .ok (.iconst 3, 1) := by decide +kernel
theorem dX0_goOn_13 : decode cX0_goOn 13 = .ok (.isub, 1) := by decide +kernel
theorem dX0_goOn_14 : decode cX0_goOn 14 = .ok (.ishl, 1) := by decide +kernel
theorem dX0_goOn_15 : decode cX0_goOn 15 = .ok (.ior, 1) := by decide +kernel
theorem dX0_goOn_16 : decode cX0_goOn 16 = .ok (.putfield 15, 3) := by decide +kernel
theorem dX0_goOn_19 : decode cX0_goOn 19 = .ok (.goto 9, 3) := by decide +kernel
theorem dX0_goOn_22 : decode cX0_goOn 22 = .ok (.aload_n 0, 1) := by decide +kernel
theorem dX0_goOn_23 : decode cX0_goOn 23 = .ok (.iload_n 1, 1) := by decide +kernel
theorem dX0_goOn_24 : decode cX0_goOn 24 = .ok (.iconst 1, 1) := by decide +kernel
theorem dX0_goOn_25 : decode cX0_goOn 25 = .ok (.invokevirtual 35, 3) := by decide +kernel
theorem dX0_goOn_28 : decode cX0_goOn 28 = .ok (.return_, 1) := by decide +kernel
theorem dX0_goBack_0 : decode cX0_goBack 0 = .ok (.iload_n 1, 1) := by decide +kernel
theorem dX0_goBack_1 : decode cX0_goBack 1 = .ok (.iconst 3, 1) := by decide +kernel
theorem dX0_goBack_2 : decode cX0_goBack 2 = .ok (.if_icmp .lt 22, 3) := by decide +kernel
theorem dX0_goBack_5 : decode cX0_goBack 5 = .ok (.aload_n 0, 1) := by decide +kernel
theorem dX0_goBack_6 : decode cX0_goBack 6 = .ok (.dup, 1) := by decide +kernel
theorem dX0_goBack_7 : decode cX0_goBack 7 = .ok (.getfield 15, 3) := by decide +kernel
theorem dX0_goBack_10 : decode cX0_goBack 10 = .ok (.iconst 1, 1) := by decide +kernel
theorem dX0_goBack_11 : decode cX0_goBack 11 = .ok (.iload_n 1, 1) := by decide +kernel
theorem dX0_goBack_12 : decode cX0_goBack 12 = .ok (.iconst 3, 1) := by decide +kernel
theorem dX0_goBack_13 : decode cX0_goBack 13 = .ok (.isub, 1) := by decide +kernel
theorem dX0_goBack_14 : decode cX0_goBack 14 = .ok (.ishl, 1) := by decide +kernel
theorem dX0_goBack_15 : decode cX0_goBack 15 = .ok (.iconst (-1), 1) := by decide +kernel
theorem dX0_goBack_16 : decode cX0_goBack 16 = .ok (.ixor, 1) := by decide +kernel
theorem dX0_goBack_17 : decode cX0_goBack 17 = .ok (.iand, 1) := by decide +kernel
theorem dX0_goBack_18 : decode cX0_goBack 18 = .ok (.putfield 15, 3) := by decide +kernel
theorem dX0_goBack_21 : decode cX0_goBack 21 = .ok (.goto 9, 3) := by decide +kernel
theorem dX0_goBack_24 : decode cX0_goBack 24 = .ok (.aload_n 0, 1) := by decide +kernel
theorem dX0_goBack_25 : decode cX0_goBack 25 = .ok (.iload_n 1, 1) := by decide +kernel
theorem dX0_goBack_26 : decode cX0_goBack 26 = .ok (.iconst (-1), 1) := by decide +kernel
theorem dX0_goBack_27 : decode cX0_goBack 27 = .ok (.invokevirtual 35, 3) := by decide +kernel
theorem dX0_goBack_30 : decode cX0_goBack 30 = .ok (.return_, 1) := by decide +kernel
theorem dX1_init_0 : decode cX1_init 0 = .ok (.aload_n 0, 1) := by decide +kernel
theorem dX1_init_1 : decode cX1_init 1 = .ok (.invokespecial 3, 3) := by decide +kernel
theorem dX1_init_4 : decode cX1_init 4 = .ok (.aload_n 0, 1) := by decide +kernel
theorem dX1_init_5 : decode cX1_init 5 = .ok (.bipush 8, 2) := by decide +kernel
theorem dX1_init_7 : decode cX1_init 7 = .ok (.newarray .int, 2) := by decide +kernel
theorem dX1_init_9 : decode cX1_init 9 = .ok (.putfield 9, 3) := by decide +kernel
theorem dX1_init_12 : decode cX1_init 12 = .ok (.aload_n 0, 1) := by decide +kernel
theorem dX1_init_13 : decode cX1_init 13 = .ok (.bipush 8, 2) := by decide +kernel
theorem dX1_init_15 : decode cX1_init 15 = .ok (.newarray .int, 2) := by decide +kernel
theorem dX1_init_17 : decode cX1_init 17 = .ok (.putfield 15, 3) := by decide +kernel
theorem dX1_init_20 : decode cX1_init 20 = .ok (.aload_n 0, 1) := by decide +kernel
theorem dX1_init_21 : decode cX1_init 21 = .ok (.bipush 8, 2) := by decide +kernel
theorem dX1_init_23 : decode cX1_init 23 = .ok (.newarray .int, 2) := by decide +kernel
theorem dX1_init_25 : decode cX1_init 25 = .ok (.putfield 18, 3) := by decide +kernel
theorem dX1_init_28 : decode cX1_init 28 = .ok (.aload_n 0, 1) := by decide +kernel
theorem dX1_init_29 : decode cX1_init 29 = .ok (.bipush 8, 2) := by decide +kernel
theorem dX1_init_31 : decode cX1_init 31 = .ok (.newarray .int, 2) := by decide +kernel
theorem dX1_init_33 : decode cX1_init 33 = .ok (.putfield 21, 3) := by decide +kernel
theorem dX1_init_36 : decode cX1_init 36 = .ok (.aload_n 0, 1) := by decide +kernel
theorem dX1_init_37 : decode cX1_init 37 = .ok (.bipush 8, 2) := by decide +kernel
theorem dX1_init_39 : decode cX1_init 39 = .ok (.newarray .int, 2) := by decide +kernel
theorem dX1_init_41 : decode cX1_init 41 = .ok (.putfield 24, 3) := by decide +kernel
theorem dX1_init_44 : decode cX1_init 44 = .ok (.aload_n 0, 1) := by decide +kernel
theorem dX1_init_45 : decode cX1_init 45 = .ok (.bipush 8, 2) := by decide +kernel
theorem dX1_init_47 : decode cX1_init 47 = .ok (.newarray .int, 2) := by decide +kernel
theorem dX1_init_49 : decode cX1_init 49 = .ok (.putfield 27, 3) := by decide +kernel
theorem dX1_init_52 : decode cX1_init 52 = .ok (.aload_n 0, 1) := by decide +kernel
theorem dX1_init_53 : decode cX1_init 53 = .ok (.bipush 8, 2) := by decide +kernel
theorem dX1_init_55 : decode cX1_init 55 = .ok (.newarray .int, 2) := by decide +kernel
theorem dX1_init_57 : decode cX1_init 57 = .ok (.putfield 30, 3) := by decide +kernel
theorem dX1_init_60 : decode cX1_init 60 = .ok (.aload_n 0, 1) := by decide +kernel
theorem dX1_init_61 : decode cX1_init 61 = .ok (.bipush 8, 2) := by decide +kernel
theorem dX1_init_63 : decode cX1_init 63 = .ok (.newarray .int, 2) := by decide +kernel
theorem dX1_init_65 : decode cX1_init 65 = .ok (.putfield 33, 3) := by decide +kernel
theorem dX1_init_68 : decode cX1_init 68 = .ok (.aload_n 0, 1) := by decide +kernel
theorem dX1_init_69 : decode cX1_init 69 = .ok (.bipush 8, 2) := by decide +kernel
theorem dX1_init_71 : decode cX1_init 71 = .ok (.newarray .int, 2) := by decide +kernel
theorem dX1_init_73 : decode cX1_init 73 = .ok (.putfield 36, 3) := by decide +kernel
theorem dX1_init_76 : decode cX1_init 76 = .ok (.aload_n 0, 1) := by decide +kernel
theorem dX1_init_77 : decode cX1_init 77 = .ok (.bipush 8, 2) := by decide +kernel
theorem dX1_init_79 : decode cX1_init 79 = .ok (.newarray .int, 2) := by decide +kernel
theorem dX1_init_81 : decode cX1_init 81 = .ok (.putfield 39, 3) := by decide +kernel
theorem dX1_init_84 : decode cX1_init 84 = .ok (.aload_n 0, 1) := by decide +kernel
theorem dX1_init_85 : decode cX1_init 85 = .ok (.getfield 9, 3) := by decide +kernel
theorem dX1_init_88 : decode cX1_init 88 = .ok (.iconst (-1), 1) := by decide +kernel
theorem dX1_init_89 : decode cX1_init 89 = .ok (.invokestatic 42, 3) := by decide +kernel
theorem dX1_init_92 : decode cX1_init 92 = .ok (.aload_n 0, 1) := by decide +kernel
theorem dX1_init_93 : decode cX1_init 93 = .ok (.getfield 18, 3) := by decide +kernel
theorem dX1_init_96 : decode cX1_init 96 = .ok (.iconst (-1), 1) := by decide +kernel
theorem dX1_init_97 : decode cX1_init 97 = .ok (.invokestatic 42, 3) := by decide +kernel
theorem dX1_init_100 : decode cX1_init 100 = .ok (.aload_n 0, 1) := by decide +kernel
theorem dX1_init_101 : decode cX1_init 101 = .ok (.getfield 24, 3) := by decide +kernel
theorem dX1_init_104 : decode cX1_init 104 = .ok (.iconst (-1), 1) := by decide +kernel
theorem dX1_init_105 : decode cX1_init 105 = .ok (.invokestatic 42, 3) := by decide +kernel
theorem dX1_init_108 : decode cX1_init 108 = .ok (.aload_n 0, 1) := by decide +kernel
theorem dX1_init_109 : decode cX1_init 109 = .ok (.getfield 27, 3) := by decide +kernel
theorem dX1_init_112 : decode cX1_init 112 = .ok (.iconst (-1), 1) := by decide +kernel
theorem dX1_init_113 : decode cX1_init 113 = .ok (.invokestatic 42, 3) := by decide +kernel
theorem dX1_init_116 : decode cX1_init 116 = .ok (.aload_n 0, 1) := by decide +kernel
theorem dX1_init_117 : decode cX1_init 117 = .ok (.getfield 33, 3) := by decide +kernel
theorem dX1_init_120 : decode cX1_init 120 = .ok (.iconst (-1), 1) := by decide +kernel
theorem dX1_init_121 : decode cX1_init 121 = .ok (.invokestatic 42, 3) := by decide +kernel
theorem dX1_init_124 : decode cX1_init 124 = .ok (.return_, 1) := by decide +kernel
theorem dX2_init_0 : decode cX2_init 0 = .ok (.aload_n 0, 1) := by decide +kernel
theorem dX2_init_1 : decode cX2_init 1 = .ok (.invokespecial 3, 3) := by decide +kernel
theorem dX2_init_4 : decode cX2_init 4 = .ok (.aload_n 0, 1) := by decide +kernel
theorem dX2_init_5 : decode cX2_init 5 = .ok (.bipush 6, 2) := by decide +kernel
theorem dX2_init_7 : decode cX2_init 7 = .ok (.newarray .int, 2) := by decide +kernel
theorem dX2_init_9 : decode cX2_init 9 = .ok (.putfield 9, 3) := by decide +kernel
theorem dX2_init_12 : decode cX2_init 12 = .ok (.aload_n 0, 1) := by decide +kernel
theorem dX2_init_13 : decode cX2_init 13 = .ok (.bipush 6, 2) := by decide +kernel
theorem dX2_init_15 : decode cX2_init 15 = .ok (.newarray .int, 2) := by decide +kernel
theorem dX2_init_17 : decode cX2_init 17 = .ok (.putfield 15, 3) := by decide +kernel
theorem dX2_init_20 : decode cX2_init 20 = .ok (.aload_n 0, 1) := by decide +kernel
theorem dX2_init_21 : decode cX2_init 21 = .ok (.bipush 6, 2) := by decide +kernel
theorem dX2_init_23 : decode cX2_init 23 = .ok (.newarray .int, 2) := by decide +kernel
theorem dX2_init_25 : decode cX2_init 25 = .ok (.putfield 18, 3) := by decide +kernel
theorem dX2_init_28 : decode cX2_init 28 = .ok (.aload_n 0, 1) := by decide +kernel
theorem dX2_init_29 : decode cX2_init 29 = .ok (.bipush 6, 2) := by decide +kernel
theorem dX2_init_31 : decode cX2_init 31 = .ok (.newarray .int, 2) := by decide +kernel
theorem dX2_init_33 : decode cX2_init 33 = .ok (.putfield 21, 3) := by decide +kernel
theorem dX2_init_36 : decode cX2_init 36 = .ok (.aload_n 0, 1) := by decide +kernel
theorem dX2_init_37 : decode cX2_init 37 = .ok (.getfield 15, 3) := by decide +kernel
theorem dX2_init_40 : decode cX2_init 40 = .ok (.iconst (-1), 1) := by decide +kernel
theorem dX2_init_41 : decode cX2_init 41 = .ok (.invokestatic 24, 3) := by decide +kernel
theorem dX2_init_44 : decode cX2_init 44 = .ok (.aload_n 0, 1) := by decide +kernel
theorem dX2_init_45 : decode cX2_init 45 = .ok (.getfield 18, 3) := by decide +kernel
theorem dX2_init_48 : decode cX2_init 48 = .ok (.iconst (-1), 1) := by decide +kernel
theorem dX2_init_49 : decode cX2_init 49 = .ok (.invokestatic 24, 3) := by decide +kernel
theorem dX2_init_52 : decode cX2_init 52 = .ok (.aload_n 0, 1) := by decide +kernel
theorem dX2_init_53 : decode cX2_init 53 = .ok (.getfield 21, 3) := by decide +kernel
theorem dX2_init_56 : decode cX2_init 56 = .ok (.iconst (-1), 1) := by decide +kernel
theorem dX2_init_57 : decode cX2_init 57 = .ok (.invokestatic 24, 3) := by decide +kernel
theorem dX2_init_60 : decode cX2_init 60 = .ok (.return_, 1) := by decide +kernel
theorem dX3_init_0 : decode cX3_init 0 = .ok (.aload_n 0, 1) := by decide +kernel
theorem dX3_init_1 : decode cX3_init 1 = .ok (.invokespecial 3, 3) := by decide +kernel
theorem dX3_init_4 : decode cX3_init 4 = .ok (.aload_n 0, 1) := by decide +kernel
theorem dX3_init_5 : decode cX3_init 5 = .ok (.new 9, 3) := by decide +kernel
theorem dX3_init_8 : decode cX3_init 8 = .ok (.dup, 1) := by decide +kernel
theorem dX3_init_9 : decode cX3_init 9 = .ok (.invokespecial 11, 3) := by decide +kernel
theorem dX3_init_12 : decode cX3_init 12 = .ok (.putfield 12, 3) := by decide +kernel
theorem dX3_init_15 : decode cX3_init 15 = .ok (.aload_n 0, 1) := by decide +kernel
theorem dX3_init_16 : decode cX3_init 16 = .ok (.new 16, 3) := by decide +kernel
theorem dX3_init_19 : decode cX3_init 19 = .ok (.dup, 1) := by decide +kernel
theorem dX3_init_20 : decode cX3_init 20 = .ok (.invokespecial 18, 3) := by decide +kernel
theorem dX3_init_23 : decode cX3_init 23 = .ok (.putfield 19, 3) := by decide +kernel
theorem dX3_init_26 : decode cX3_init 26 = .ok (.aload_n 0, 1) := by decide +kernel
theorem dX3_init_27 : decode cX3_init 27 = .ok (.iconst 4, 1) := by decide +kernel
theorem dX3_init_28 : decode cX3_init 28 = .ok (.newarray .int, 2) := by decide +kernel
theorem dX3_init_30 : decode cX3_init 30 = .ok (.putfield 23, 3) := by decide +kernel
theorem dX3_init_33 : decode cX3_init 33 = .ok (.aload_n 0, 1) := by decide +kernel
theorem dX3_init_34 : decode cX3_init 34 = .ok (.new 27, 3) := by decide +kernel
theorem dX3_init_37 : decode cX3_init 37 = .ok (.dup, 1) := by decide +kernel
theorem dX3_init_38 : decode cX3_init 38 = .ok (.invokespecial 29, 3) := by decide +kernel
theorem dX3_init_41 : decode cX3_init 41 = .ok (.putfield 30, 3) := by decide +kernel
theorem dX3_init_44 : decode cX3_init 44 = .ok (.aload_n 0, 1) := by decide +kernel
theorem dX3_init_45 : decode cX3_init 45 = .ok (.bipush 8, 2) := by decide +kernel
theorem dX3_init_47 : decode cX3_init 47 = .ok (.newarray .int, 2) := by decide +kernel
theorem dX3_init_49 : decode cX3_init 49 = .ok (.putfield 34, 3) := by decide +kernel
theorem dX3_init_52 : decode cX3_init 52 = .ok (.aload_n 0, 1) := by decide +kernel
theorem dX3_init_53 : decode cX3_init 53 = .ok (.iconst 0, 1) := by decide +kernel
theorem dX3_init_54 : decode cX3_init 54 = .ok (.putfield 37, 3) := by decide +kernel
theorem dX3_init_57 : decode cX3_init 57 = .ok (.aload_n 0, 1) := by decide +kernel
theorem dX3_init_58 : decode cX3_init 58 = .ok (.new 27, 3) := by decide +kernel
theorem dX3_init_61 : decode cX3_init 61 = .ok (.dup, 1) := by decide +kernel
theorem dX3_init_62 : decode cX3_init 62 = .ok (.invokespecial 29, 3) := by decide +kernel
theorem dX3_init_65 : decode cX3_init 65 = .ok (.putfield 41, 3) := by decide +kernel
theorem dX3_init_68 : decode cX3_init 68 = .ok (.aload_n 0, 1) := by decide +kernel
theorem dX3_init_69 : decode cX3_init 69 = .ok (.sipush 384, 3) := by decide +kernel
theorem dX3_init_72 : decode cX3_init 72 = .ok (.newarray .int, 2) := by decide +kernel
theorem dX3_init_74 : decode cX3_init 74 = .ok (.putfield 44, 3) := by decide +kernel
theorem dX3_init_77 : decode cX3_init 77 = .ok (.aload_n 0, 1) := by decide +kernel
theorem dX3_init_78 : decode cX3_init 78 = .ok (.getfield 23, 3) := by decide +kernel
theorem dX3_init_81 : decode cX3_init 81 = .ok (.bipush 8, 2) := by decide +kernel
theorem dX3_init_83 : decode cX3_init 83 = .ok (.invokestatic 47, 3) := by decide +kernel
theorem dX3_init_86 : decode cX3_init 86 = .ok (.return_, 1) := by decide +kernel
theorem dX3_setNeeds_0 : decode cX3_setNeeds 0 = .ok (.iload_n 1, 1) := by decide +kernel
theorem dX3_setNeeds_1 : decode cX3_setNeeds 1 = .ok (.bipush 8, 2) := by decide +kernel
theorem dX3_setNeeds_3 : decode cX3_setNeeds 3 = .ok (.invokestatic 53, 3) := by decide +kernel
theorem dX3_setNeeds_6 : decode cX3_setNeeds 6 = .ok (.ifCond .eq 30, 3) := by decide +kernel
theorem dX3_setNeeds_9 : decode cX3_setNeeds 9 = .ok (.iload_n 2, 1) := by decide +kernel
theorem dX3_setNeeds_10 : decode cX3_setNeeds 10 = .ok (.iconst 4, 1) := by decide +kernel
theorem dX3_setNeeds_11 : decode cX3_setNeeds 11 = .ok (.invokestatic 57, 3) := by decide +kernel
theorem dX3_setNeeds_14 : decode cX3_setNeeds 14 = .ok (.ifCond .eq 22, 3) := by decide +kernel
theorem dX3_setNeeds_17 : decode cX3_setNeeds 17 = .ok (.iload 4, 2) := by decide +kernel
theorem dX3_setNeeds_19 : decode cX3_setNeeds 19 = .ok (.iconst 3, 1) := by decide +kernel
theorem dX3_setNeeds_20 : decode cX3_setNeeds 20 = .ok (.invokestatic 57, 3) := by decide +kernel
theorem dX3_setNeeds_23 : decode cX3_setNeeds 23 = .ok (.ifCond .eq 13, 3) := by decide +kernel
theorem dX3_setNeeds_26 : decode cX3_setNeeds 26 = .ok (.iload 6, 2) := by decide +kernel
theorem dX3_setNeeds_28 : decode cX3_setNeeds 28 = .ok (.bipush 8, 2) := by decide +kernel
theorem dX3_setNeeds_30 : decode cX3_setNeeds 30 = .ok (.invokestatic 57, 3) := by decide +kernel
theorem dX3_setNeeds_33 : decode cX3_setNeeds 33 = .ok (.ifCond .ne 13, 3) := by decide +kernel
theorem dX3_setNeeds_36 : decode cX3_setNeeds 36 = .ok (.new 60, 3) := by decide +kernel
theorem dX3_setNeeds_39 : decode cX3_setNeeds 39 = .ok (.dup, 1) := by decide +kernel
theorem dX3_setNeeds_40 : decode cX3_setNeeds 40 = .ok (.ldc 62, 2) := by decide +kernel
theorem dX3_setNeeds_42 : decode cX3_setNeeds 42 = .ok (.invokespecial 64, 3) := by decide +kernel
theorem dX3_setNeeds_45 : decode cX3_setNeeds 45 = .ok (.athrow, 1) := by decide +kernel
theorem dX3_setNeeds_46 : decode cX3_setNeeds 46 = .ok (.iload_n 2, 1) := by decide +kernel
theorem dX3_setNeeds_47 : decode cX3_setNeeds 47 = .ok (.iconst (-1), 1) := by decide +kernel
theorem dX3_setNeeds_48 : decode cX3_setNeeds 48 = .ok (.if_icmp .eq 24, 3) := by decide +kernel
theorem dX3_setNeeds_51 : decode cX3_setNeeds 51 = .ok (.iload_n 3, 1) := by decide +kernel
theorem dX3_setNeeds_52 : decode cX3_setNeeds 52 = .ok (.bipush 8, 2) := by decide +kernel
theorem dX3_setNeeds_54 : decode cX3_setNeeds 54 = .ok (.bipush 16, 2) := by decide +kernel
theorem dX3_setNeeds_56 : decode cX3_setNeeds 56 = .ok (.invokestatic 67, 3) := by decide +kernel
theorem dX3_setNeeds_59 : decode cX3_setNeeds 59 = .ok (.ifCond .ne 13, 3) := by decide +kernel
theorem dX3_setNeeds_62 : decode cX3_setNeeds 62 = .ok (.new 71, 3) := by decide +kernel
theorem dX3_setNeeds_65 : decode cX3_setNeeds 65 = .ok (.dup, 1) := by decide +kernel
theorem dX3_setNeeds_66 : decode cX3_setNeeds 66 = .ok (.ldc 73, 2) := by decide +kernel
theorem dX3_setNeeds_68 : decode cX3_setNeeds 68 = .ok (.invokespecial 75, 3) := by decide +kernel
theorem dX3_setNeeds_71 : decode cX3_setNeeds 71 = .ok (.athrow, 1) := by decide +kernel
theorem dX3_setNeeds_72 : decode cX3_setNeeds 72 = .ok (.iload 4, 2) := by decide +kernel
theorem dX3_setNeeds_74 : decode cX3_setNeeds 74 = .ok (.iconst (-1), 1) := by decide +kernel
theorem dX3_setNeeds_75 : decode cX3_setNeeds 75 = .ok (.if_icmp .eq 24, 3) := by decide +kernel
theorem dX3_setNeeds_78 : decode cX3_setNeeds 78 = .ok (.iload 5, 2) := by decide +kernel
theorem dX3_setNeeds_80 : decode cX3_setNeeds 80 = .ok (.iconst 1, 1) := by decide +kernel
theorem dX3_setNeeds_81 : decode cX3_setNeeds 81 = .ok (.bipush 8, 2) := by decide +kernel
theorem dX3_setNeeds_83 : decode cX3_setNeeds 83 = .ok (.invokestatic 67, 3) := by decide +kernel
theorem dX3_setNeeds_86 : decode cX3_setNeeds 86 = .ok (.ifCond .ne 13, 3) := by decide +kernel
theorem dX3_setNeeds_89 : decode cX3_setNeeds 89 = .ok (.new 71, 3) := by decide +kernel
theorem dX3_setNeeds_92 : decode cX3_setNeeds 92 = .ok (.dup, 1) := by decide +kernel
theorem dX3_setNeeds_93 : decode cX3_setNeeds 93 = .ok (.ldc 76, 2) := by decide +kernel
theorem dX3_setNeeds_95 : decode cX3_setNeeds 95 = .ok (.invokespecial 75, 3) := by decide +kernel
theorem dX3_setNeeds_98 : decode cX3_setNeeds 98 = .ok (.athrow, 1) := by decide +kernel
theorem dX3_setNeeds_99 : decode cX3_setNeeds 99 = .ok (.aload_n 0, 1) := by decide +kernel
theorem dX3_setNeeds_100 : decode cX3_setNeeds 100 = .ok (.getfield 12, 3) := by decide +kernel
theorem dX3_setNeeds_103 : decode cX3_setNeeds 103 = .ok (.getfield 78, 3) := by decide +kernel
theorem dX3_setNeeds_106 : decode cX3_setNeeds 106 = .ok (.iload_n 1, 1) := by decide +kernel
theorem dX3_setNeeds_107 : decode cX3_setNeeds 107 = .ok (.iload_n 2, 1) := by decide +kernel
theorem dX3_setNeeds_108 : decode cX3_setNeeds 108 = .ok (.iastore, 1) := by decide +kernel
theorem dX3_setNeeds_109 : decode cX3_setNeeds 109 = .ok (.aload_n 0, 1) := by decide +kernel
theorem dX3_setNeeds_110 : decode cX3_setNeeds 110 = .ok (.getfield 12, 3) := by decide +kernel
theorem dX3_setNeeds_113 : decode cX3_setNeeds 113 = .ok (.getfield 81, 3) := by decide +kernel
theorem dX3_setNeeds_116 : decode cX3_setNeeds 116 = .ok (.iload_n 1, 1) := by decide +kernel
theorem dX3_setNeeds_117 : decode cX3_setNeeds 117 = .ok (.iload_n 3, 1) := by decide +kernel
theorem dX3_setNeeds_118 : decode cX3_setNeeds 118 = .ok (.iastore, 1) := by decide +kernel
theorem dX3_setNeeds_119 : decode cX3_setNeeds 119 = .ok (.aload_n 0, 1) := by decide +kernel
theorem dX3_setNeeds_120 : decode cX3_setNeeds 120 = .ok (.getfield 12, 3) := by decide +kernel
theorem dX3_setNeeds_123 : decode cX3_setNeeds 123 = .ok (.getfield 84, 3) := by decide +kernel
theorem dX3_setNeeds_126 : decode cX3_setNeeds 126 = .ok (.iload_n 1, 1) := by decide +kernel
theorem dX3_setNeeds_127 : decode cX3_setNeeds 127 = .ok (.iload 4, 2) := by decide +kernel
theorem dX3_setNeeds_129 : decode cX3_setNeeds 129 = .ok (.iastore, 1) := by decide +kernel
theorem dX3_setNeeds_130 : decode cX3_setNeeds 130 = .ok (.aload_n 0, 1) := by decide +kernel
theorem dX3_setNeeds_131 : decode cX3_setNeeds 131 = .ok (.getfield 12, 3) := by decide +kernel
theorem dX3_setNeeds_134 : decode cX3_setNeeds 134 = .ok (.getfield 87, 3) := by decide +kernel
theorem dX3_setNeeds_137 : decode cX3_setNeeds 137 = .ok (.iload_n 1, 1) := by decide +kernel
theorem dX3_setNeeds_138 : decode cX3_setNeeds 138 = .ok (.iload 5, 2) := by decide +kernel
theorem dX3_setNeeds_140 : decode cX3_setNeeds 140 = .ok (.iastore, 1) := by decide +kernel
theorem dX3_setNeeds_141 : decode cX3_setNeeds 141 = .ok (.aload_n 0, 1) := by decide +kernel
theorem dX3_setNeeds_142 : decode cX3_setNeeds 142 = .ok (.getfield 12, 3) := by decide +kernel
theorem dX3_setNeeds_145 : decode cX3_setNeeds 145 = .ok (.getfield 90, 3) := by decide +kernel
theorem dX3_setNeeds_148 : decode cX3_setNeeds 148 = .ok (.iload_n 1, 1) := by decide +kernel
theorem dX3_setNeeds_149 : decode cX3_setNeeds 149 = .ok (.iload 6, 2) := by decide +kernel
theorem dX3_setNeeds_151 : decode cX3_setNeeds 151 = .ok (.iastore, 1) := by decide +kernel
theorem dX3_setNeeds_152 : decode cX3_setNeeds 152 = .ok (.return_, 1) := by decide +kernel
theorem dX3_bar_0 : decode cX3_bar 0 = .ok (.iload_n 1, 1) := by decide +kernel
theorem dX3_bar_1 : decode cX3_bar 1 = .ok (.bipush 8, 2) := by decide +kernel
theorem dX3_bar_3 : decode cX3_bar 3 = .ok (.invokestatic 53, 3) := by decide +kernel
theorem dX3_bar_6 : decode cX3_bar 6 = .ok (.ifCond .eq 11, 3) := by decide +kernel
theorem dX3_bar_9 : decode cX3_bar 9 = .ok (.iload_n 2, 1) := by decide +kernel
theorem dX3_bar_10 : decode cX3_bar 10 = .ok (.iconst 3, 1) := by decide +kernel
theorem dX3_bar_11 : decode cX3_bar 11 = .ok (.invokestatic 57, 3) := by decide +kernel
theorem dX3_bar_14 : decode cX3_bar 14 = .ok (.ifCond .ne 13, 3) := by decide +kernel
theorem dX3_bar_17 : decode cX3_bar 17 = .ok (.new 60, 3) := by decide +kernel
theorem dX3_bar_20 : decode cX3_bar 20 = .ok (.dup, 1) := by decide +kernel
theorem dX3_bar_21 : decode cX3_bar 21 = .ok (.ldc 93, 2) := by decide +kernel
theorem dX3_bar_23 : decode cX3_bar 23 = .ok (.invokespecial 64, 3) := by decide +kernel
theorem dX3_bar_26 : decode cX3_bar 26 = .ok (.athrow, 1) := by decide +kernel
theorem dX3_bar_27 : decode cX3_bar 27 = .ok (.iload_n 2, 1) := by decide +kernel
theorem dX3_bar_28 : decode cX3_bar 28 = .ok (.iconst (-1), 1) := by decide +kernel
theorem dX3_bar_29 : decode cX3_bar 29 = .ok (.if_icmp .eq 23, 3) := by decide +kernel
theorem dX3_bar_32 : decode cX3_bar 32 = .ok (.iload_n 3, 1) := by decide +kernel
theorem dX3_bar_33 : decode cX3_bar 33 = .ok (.iconst 0, 1) := by decide +kernel
theorem dX3_bar_34 : decode cX3_bar 34 = .ok (.bipush 7, 2) := by decide +kernel
theorem dX3_bar_36 : decode cX3_bar 36 = .ok (.invokestatic 67, 3) := by decide +kernel
theorem dX3_bar_39 : decode cX3_bar 39 = .ok (.ifCond .ne 13, 3) := by decide +kernel
theorem dX3_bar_42 : decode cX3_bar 42 = .ok (.new 71, 3) := by decide +kernel
theorem dX3_bar_45 : decode cX3_bar 45 = .ok (.dup, 1) := by decide +kernel
theorem dX3_bar_46 : decode cX3_bar 46 = .ok (.ldc 76, 2) := by decide +kernel
theorem dX3_bar_48 : decode cX3_bar 48 = .ok (.invokespecial 75, 3) := by decide +kernel
theorem dX3_bar_51 : decode cX3_bar 51 = .ok (.athrow, 1) := by decide +kernel
theorem dX3_bar_52 : decode cX3_bar 52 = .ok (.aload_n 0, 1) := by decide +kernel
theorem dX3_bar_53 : decode cX3_bar 53 = .ok (.getfield 12, 3) := by decide +kernel
theorem dX3_bar_56 : decode cX3_bar 56 = .ok (.getfield 95, 3) := by decide +kernel
theorem dX3_bar_59 : decode cX3_bar 59 = .ok (.iload_n 1, 1) := by decide +kernel
theorem dX3_bar_60 : decode cX3_bar 60 = .ok (.iload_n 2, 1) := by decide +kernel
theorem dX3_bar_61 : decode cX3_bar 61 = .ok (.iastore, 1) := by decide +kernel
theorem dX3_bar_62 : decode cX3_bar 62 = .ok (.aload_n 0, 1) := by decide +kernel
theorem dX3_bar_63 : decode cX3_bar 63 = .ok (.getfield 12, 3) := by decide +kernel
theorem dX3_bar_66 : decode cX3_bar 66 = .ok (.getfield 98, 3) := by decide +kernel
theorem dX3_bar_69 : decode cX3_bar 69 = .ok (.iload_n 1, 1) := by decide +kernel
theorem dX3_bar_70 : decode cX3_bar 70 = .ok (.iload_n 3, 1) := by decide +kernel
theorem dX3_bar_71 : decode cX3_bar 71 = .ok (.iastore, 1) := by decide +kernel
theorem dX3_bar_72 : decode cX3_bar 72 = .ok (.return_, 1) := by decide +kernel
theorem dX3_setBonus_0 : decode cX3_setBonus 0 = .ok (.iload_n 1, 1) := by decide +kernel
theorem dX3_setBonus_1 : decode cX3_setBonus 1 = .ok (.bipush 8, 2) := by decide +kernel
theorem dX3_setBonus_3 : decode cX3_setBonus 3 = .ok (.invokestatic 53, 3) := by decide +kernel
theorem dX3_setBonus_6 : decode cX3_setBonus 6 = .ok (.ifCond .eq 12, 3) := by decide +kernel
theorem dX3_setBonus_9 : decode cX3_setBonus 9 = .ok (.iload_n 2, 1) := by decide +kernel
theorem dX3_setBonus_10 : decode cX3_setBonus 10 = .ok (.bipush 6, 2) := by decide +kernel
theorem dX3_setBonus_12 : decode cX3_setBonus 12 = .ok (.invokestatic 57, 3) := by decide +kernel
theorem dX3_setBonus_15 : decode cX3_setBonus 15 = .ok (.ifCond .ne 13, 3) := by decide +kernel
theorem dX3_setBonus_18 : decode cX3_setBonus 18 = .ok (.new 60, 3) := by decide +kernel
theorem dX3_setBonus_21 : decode cX3_setBonus 21 = .ok (.dup, 1) := by decide +kernel
theorem dX3_setBonus_22 : decode cX3_setBonus 22 = .ok (.ldc 101, 2) := by decide +kernel
theorem dX3_setBonus_24 : decode cX3_setBonus 24 = .ok (.invokespecial 64, 3) := by decide +kernel
theorem dX3_setBonus_27 : decode cX3_setBonus 27 = .ok (.athrow, 1) := by decide +kernel
theorem dX3_setBonus_28 : decode cX3_setBonus 28 = .ok (.iload_n 3, 1) := by decide +kernel
theorem dX3_setBonus_29 : decode cX3_setBonus 29 = .ok (.iconst 4, 1) := by decide +kernel
theorem dX3_setBonus_30 : decode cX3_setBonus 30 = .ok (.invokestatic 53, 3) := by decide +kernel
theorem dX3_setBonus_33 : decode cX3_setBonus 33 = .ok (.ifCond .eq 15, 3) := by decide +kernel
theorem dX3_setBonus_36 : decode cX3_setBonus 36 = .ok (.iload 4, 2) := by decide +kernel
theorem dX3_setBonus_38 : decode cX3_setBonus 38 = .ok (.bipush (-9), 2) := by decide +kernel
theorem dX3_setBonus_40 : decode cX3_setBonus 40 = .ok (.bipush 9, 2) := by decide +kernel
theorem dX3_setBonus_42 : decode cX3_setBonus 42 = .ok (.invokestatic 67, 3) := by decide +kernel
theorem dX3_setBonus_45 : decode cX3_setBonus 45 = .ok (.ifCond .ne 13, 3) := by decide +kernel
theorem dX3_setBonus_48 : decode cX3_setBonus 48 = .ok (.new 71, 3) := by decide +kernel
theorem dX3_setBonus_51 : decode cX3_setBonus 51 = .ok (.dup, 1) := by decide +kernel
theorem dX3_setBonus_52 : decode cX3_setBonus 52 = .ok (.ldc 103, 2) := by decide +kernel
theorem dX3_setBonus_54 : decode cX3_setBonus 54 = .ok (.invokespecial 75, 3) := by decide +kernel
theorem dX3_setBonus_57 : decode cX3_setBonus 57 = .ok (.athrow, 1) := by decide +kernel
theorem dX3_setBonus_58 : decode cX3_setBonus 58 = .ok (.aload_n 0, 1) := by decide +kernel
theorem dX3_setBonus_59 : decode cX3_setBonus 59 = .ok (.getfield 12, 3) := by decide +kernel
theorem dX3_setBonus_62 : decode cX3_setBonus 62 = .ok (.getfield 105, 3) := by decide +kernel
theorem dX3_setBonus_65 : decode cX3_setBonus 65 = .ok (.iload_n 1, 1) := by decide +kernel
theorem dX3_setBonus_66 : decode cX3_setBonus 66 = .ok (.iload_n 2, 1) := by decide +kernel
theorem dX3_setBonus_67 : decode cX3_setBonus 67 = .ok (.iastore, 1) := by decide +kernel
theorem dX3_setBonus_68 : decode cX3_setBonus 68 = .ok (.aload_n 0, 1) := by decide +kernel
theorem dX3_setBonus_69 : decode cX3_setBonus 69 = .ok (.getfield 12, 3) := by decide +kernel
theorem dX3_setBonus_72 : decode cX3_setBonus 72 = .ok (.getfield 108, 3) := by decide +kernel
theorem dX3_setBonus_75 : decode cX3_setBonus 75 = .ok (.iload_n 1, 1) := by decide +kernel
theorem dX3_setBonus_76 : decode cX3_setBonus 76 = .ok (.iload_n 3, 1) := by decide +kernel
theorem dX3_setBonus_77 : decode cX3_setBonus 77 = .ok (.iastore, 1) := by decide +kernel
theorem dX3_setBonus_78 : decode cX3_setBonus 78 = .ok (.aload_n 0, 1) := by decide +kernel
theorem dX3_setBonus_79 : decode cX3_setBonus 79 = .ok (.getfield 12, 3) := by decide +kernel
theorem dX3_setBonus_82 : decode cX3_setBonus 82 = .ok (.getfield 111, 3) := by decide +kernel
theorem dX3_setBonus_85 : decode cX3_setBonus 85 = .ok (.iload_n 1, 1) := by decide +kernel
theorem dX3_setBonus_86 : decode cX3_setBonus 86 = .ok (.iload 4, 2) := by decide +kernel
theorem dX3_setBonus_88 : decode cX3_setBonus 88 = .ok (.iastore, 1) := by decide +kernel
theorem dX3_setBonus_89 : decode cX3_setBonus 89 = .ok (.return_, 1) := by decide +kernel
theorem dX3_setValue_0 : decode cX3_setValue 0 = .ok (.iload_n 1, 1) := by decide +kernel
theorem dX3_setValue_1 : decode cX3_setValue 1 = .ok (.bipush 6, 2) := by decide +kernel
theorem dX3_setValue_3 : decode cX3_setValue 3 = .ok (.invokestatic 53, 3) := by decide +kernel
theorem dX3_setValue_6 : decode cX3_setValue 6 = .ok (.ifCond .eq 30, 3) := by decide +kernel
theorem dX3_setValue_9 : decode cX3_setValue 9 = .ok (.iload_n 3, 1) := by decide +kernel
theorem dX3_setValue_10 : decode cX3_setValue 10 = .ok (.iconst 4, 1) := by decide +kernel
theorem dX3_setValue_11 : decode cX3_setValue 11 = .ok (.invokestatic 57, 3) := by decide +kernel
theorem dX3_setValue_14 : decode cX3_setValue 14 = .ok (.ifCond .eq 22, 3) := by decide +kernel
theorem dX3_setValue_17 : decode cX3_setValue 17 = .ok (.iload 4, 2) := by decide +kernel
theorem dX3_setValue_19 : decode cX3_setValue 19 = .ok (.iconst 3, 1) := by decide +kernel
theorem dX3_setValue_20 : decode cX3_setValue 20 = .ok (.invokestatic 57, 3) := by decide +kernel
theorem dX3_setValue_23 : decode cX3_setValue 23 = .ok (.ifCond .eq 13, 3) := by decide +kernel
theorem dX3_setValue_26 : decode cX3_setValue 26 = .ok (.iload 5, 2) := by decide +kernel
theorem dX3_setValue_28 : decode cX3_setValue 28 = .ok (.bipush 6, 2) := by decide +kernel
theorem dX3_setValue_30 : decode cX3_setValue 30 = .ok (.invokestatic 57, 3) := by decide +kernel
theorem dX3_setValue_33 : decode cX3_setValue 33 = .ok (.ifCond .ne 13, 3) := by decide +kernel
theorem dX3_setValue_36 : decode cX3_setValue 36 = .ok (.new 60, 3) := by decide +kernel
theorem dX3_setValue_39 : decode cX3_setValue 39 = .ok (.dup, 1) := by decide +kernel
theorem dX3_setValue_40 : decode cX3_setValue 40 = .ok (.ldc 114, 2) := by decide +kernel
theorem dX3_setValue_42 : decode cX3_setValue 42 = .ok (.invokespecial 64, 3) := by decide +kernel
theorem dX3_setValue_45 : decode cX3_setValue 45 = .ok (.athrow, 1) := by decide +kernel
theorem dX3_setValue_46 : decode cX3_setValue 46 = .ok (.iload_n 2, 1) := by decide +kernel
theorem dX3_setValue_47 : decode cX3_setValue 47 = .ok (.bipush (-50), 2) := by decide +kernel
theorem dX3_setValue_49 : decode cX3_setValue 49 = .ok (.bipush 50, 2) := by decide +kernel
theorem dX3_setValue_51 : decode cX3_setValue 51 = .ok (.invokestatic 67, 3) := by decide +kernel
theorem dX3_setValue_54 : decode cX3_setValue 54 = .ok (.ifCond .ne 13, 3) := by decide +kernel
theorem dX3_setValue_57 : decode cX3_setValue 57 = .ok (.new 71, 3) := by decide +kernel
theorem dX3_setValue_60 : decode cX3_setValue 60 = .ok (.dup, 1) := by decide +kernel
theorem dX3_setValue_61 : decode cX3_setValue 61 = .ok (.ldc 116, 2) := by decide +kernel
theorem dX3_setValue_63 : decode cX3_setValue 63 = .ok (.invokespecial 75, 3) := by decide +kernel
theorem dX3_setValue_66 : decode cX3_setValue 66 = .ok (.athrow, 1) := by decide +kernel
theorem dX3_setValue_67 : decode cX3_setValue 67 = .ok (.aload_n 0, 1) := by decide +kernel
theorem dX3_setValue_68 : decode cX3_setValue 68 = .ok (.getfield 19, 3) := by decide +kernel
theorem dX3_setValue_71 : decode cX3_setValue 71 = .ok (.getfield 118, 3) := by decide +kernel
theorem dX3_setValue_74 : decode cX3_setValue 74 = .ok (.iload_n 1, 1) := by decide +kernel
theorem dX3_setValue_75 : decode cX3_setValue 75 = .ok (.iload_n 2, 1) := by decide +kernel
theorem dX3_setValue_76 : decode cX3_setValue 76 = .ok (.iastore, 1) := by decide +kernel
theorem dX3_setValue_77 : decode cX3_setValue 77 = .ok (.aload_n 0, 1) := by decide +kernel
theorem dX3_setValue_78 : decode cX3_setValue 78 = .ok (.getfield 19, 3) := by decide +kernel
theorem dX3_setValue_81 : decode cX3_setValue 81 = .ok (.getfield 121, 3) := by decide +kernel
theorem dX3_setValue_84 : decode cX3_setValue 84 = .ok (.iload_n 1, 1) := by decide +kernel
theorem dX3_setValue_85 : decode cX3_setValue 85 = .ok (.iload_n 3, 1) := by decide +kernel
theorem dX3_setValue_86 : decode cX3_setValue 86 = .ok (.iastore, 1) := by decide +kernel
theorem dX3_setValue_87 : decode cX3_setValue 87 = .ok (.aload_n 0, 1) := by decide +kernel
theorem dX3_setValue_88 : decode cX3_setValue 88 = .ok (.getfield 19, 3) := by decide +kernel
theorem dX3_setValue_91 : decode cX3_setValue 91 = .ok (.getfield 122, 3) := by decide +kernel
theorem dX3_setValue_94 : decode cX3_setValue 94 = .ok (.iload_n 1, 1) := by decide +kernel
theorem dX3_setValue_95 : decode cX3_setValue 95 = .ok (.iload 4, 2) := by decide +kernel
theorem dX3_setValue_97 : decode cX3_setValue 97 = .ok (.iastore, 1) := by decide +kernel
theorem dX3_setValue_98 : decode cX3_setValue 98 = .ok (.aload_n 0, 1) := by decide +kernel
theorem dX3_setValue_99 : decode cX3_setValue 99 = .ok (.getfield 19, 3) := by decide +kernel
theorem dX3_setValue_102 : decode cX3_setValue 102 = .ok (.getfield 123, 3) := by decide +kernel
theorem dX3_setValue_105 : decode cX3_setValue 105 = .ok (.iload_n 1, 1) := by decide +kernel
theorem dX3_setValue_106 : decode cX3_setValue 106 = .ok (.iload 5, 2) := by decide +kernel
theorem dX3_setValue_108 : decode cX3_setValue 108 = .ok (.iastore, 1) := by decide +kernel
theorem dX3_setValue_109 : decode cX3_setValue 109 = .ok (.return_, 1) := by decide +kernel
theorem dX3_setScore_0 : decode cX3_setScore 0 = .ok (.iload_n 1, 1) := by decide +kernel
theorem dX3_setScore_1 : decode cX3_setScore 1 = .ok (.iconst 4, 1) := by decide +kernel
theorem dX3_setScore_2 : decode cX3_setScore 2 = .ok (.invokestatic 53, 3) := by decide +kernel
theorem dX3_setScore_5 : decode cX3_setScore 5 = .ok (.ifCond .ne 13, 3) := by decide +kernel
theorem dX3_setScore_8 : decode cX3_setScore 8 = .ok (.new 60, 3) := by decide +kernel
theorem dX3_setScore_11 : decode cX3_setScore 11 = .ok (.dup, 1) := by decide +kernel
theorem dX3_setScore_12 : decode cX3_setScore 12 = .ok (.ldc 124, 2) := by decide +kernel
theorem dX3_setScore_14 : decode cX3_setScore 14 = .ok (.invokespecial 64, 3) := by decide +kernel
theorem dX3_setScore_17 : decode cX3_setScore 17 = .ok (.athrow, 1) := by decide +kernel
theorem dX3_setScore_18 : decode cX3_setScore 18 = .ok (.iload_n 2, 1) := by decide +kernel
theorem dX3_setScore_19 : decode cX3_setScore 19 = .ok (.bipush 8, 2) := by decide +kernel
theorem dX3_setScore_21 : decode cX3_setScore 21 = .ok (.bipush 16, 2) := by decide +kernel
theorem dX3_setScore_23 : decode cX3_setScore 23 = .ok (.invokestatic 67, 3) := by decide +kernel
theorem dX3_setScore_26 : decode cX3_setScore 26 = .ok (.ifCond .ne 13, 3) := by decide +kernel
theorem dX3_setScore_29 : decode cX3_setScore 29 = .ok (.new 71, 3) := by decide +kernel
theorem dX3_setScore_32 : decode cX3_setScore 32 = .ok (.dup, 1) := by decide +kernel
theorem dX3_setScore_33 : decode cX3_setScore 33 = .ok (.ldc 73, 2) := by decide +kernel
theorem dX3_setScore_35 : decode cX3_setScore 35 = .ok (.invokespecial 75, 3) := by decide +kernel
theorem dX3_setScore_38 : decode cX3_setScore 38 = .ok (.athrow, 1) := by decide +kernel
theorem dX3_setScore_39 : decode cX3_setScore 39 = .ok (.aload_n 0, 1) := by decide +kernel
theorem dX3_setScore_40 : decode cX3_setScore 40 = .ok (.invokevirtual 126, 3) := by decide +kernel
theorem dX3_setScore_43 : decode cX3_setScore 43 = .ok (.aload_n 0, 1) := by decide +kernel
theorem dX3_setScore_44 : decode cX3_setScore 44 = .ok (.getfield 23, 3) := by decide +kernel
theorem dX3_setScore_47 : decode cX3_setScore 47 = .ok (.iload_n 1, 1) := by decide +kernel
theorem dX3_setScore_48 : decode cX3_setScore 48 = .ok (.iaload, 1) := by decide +kernel
theorem dX3_setScore_49 : decode cX3_setScore 49 = .ok (.invokestatic 130, 3) := by decide +kernel
theorem dX3_setScore_52 : decode cX3_setScore 52 = .ok (.iadd, 1) := by decide +kernel
theorem dX3_setScore_53 : decode cX3_setScore 53 = .ok (.iload_n 2, 1) := by decide +kernel
theorem dX3_setScore_54 : decode cX3_setScore 54 = .ok (.invokestatic 130, 3) := by decide +kernel
theorem dX3_setScore_57 : decode cX3_setScore 57 = .ok (.isub, 1) := by decide +kernel
theorem dX3_setScore_58 : decode cX3_setScore 58 = .ok (.istore_n 3, 1) := by decide +kernel
theorem dX3_setScore_59 : decode cX3_setScore 59 = .ok (.iload_n 3, 1) := by decide +kernel
theorem dX3_setScore_60 : decode cX3_setScore 60 = .ok (.ifCond .ge 13, 3) := by decide +kernel
theorem dX3_setScore_63 : decode cX3_setScore 63 = .ok (.new 134, 3) := by decide +kernel
theorem dX3_setScore_66 : decode cX3_setScore 66 = .ok (.dup, 1) := by decide +kernel
theorem dX3_setScore_67 : decode cX3_setScore 67 = .ok (.ldc 136, 2) := by decide +kernel
theorem dX3_setScore_69 : decode cX3_setScore 69 = .ok (.invokespecial 138, 3) := by decide +kernel
theorem dX3_setScore_72 : decode cX3_setScore 72 = .ok (.athrow, 1) := by decide +kernel
theorem dX3_setScore_73 : decode cX3_setScore 73 = .ok (.aload_n 0, 1) := by decide +kernel
theorem dX3_setScore_74 : decode cX3_setScore 74 = .ok (.getfield 23, 3) := by decide +kernel
theorem dX3_setScore_77 : decode cX3_setScore 77 = .ok (.iload_n 1, 1) := by decide +kernel
theorem dX3_setScore_78 : decode cX3_setScore 78 = .ok (.iload_n 2, 1) := by decide +kernel
theorem dX3_setScore_79 : decode cX3_setScore 79 = .ok (.iastore, 1) := by decide +kernel
theorem dX3_setScore_80 : decode cX3_setScore 80 = .ok (.iload_n 3, 1) := by decide +kernel
theorem dX3_setScore_81 : decode cX3_setScore 81 = .ok (.ireturn, 1) := by decide +kernel
theorem dX3_takeLevel_0 : decode cX3_takeLevel 0 = .ok (.iload_n 1, 1) := by decide +kernel
theorem dX3_takeLevel_1 : decode cX3_takeLevel 1 = .ok (.iconst 3, 1) := by decide +kernel
theorem dX3_takeLevel_2 : decode cX3_takeLevel 2 = .ok (.invokestatic 53, 3) := by decide +kernel
theorem dX3_takeLevel_5 : decode cX3_takeLevel 5 = .ok (.ifCond .ne 13, 3) := by decide +kernel
theorem dX3_takeLevel_8 : decode cX3_takeLevel 8 = .ok (.new 60, 3) := by decide +kernel
theorem dX3_takeLevel_11 : decode cX3_takeLevel 11 = .ok (.dup, 1) := by decide +kernel
theorem dX3_takeLevel_12 : decode cX3_takeLevel 12 = .ok (.ldc 139, 2) := by decide +kernel
theorem dX3_takeLevel_14 : decode cX3_takeLevel 14 = .ok (.invokespecial 64, 3) := by decide +kernel
theorem dX3_takeLevel_17 : decode cX3_takeLevel 17 = .ok (.athrow, 1) := by decide +kernel
theorem dX3_takeLevel_18 : decode cX3_takeLevel 18 = .ok (.aload_n 0, 1) := by decide +kernel
theorem dX3_takeLevel_19 : decode cX3_takeLevel 19 = .ok (.getfield 37, 3) := by decide +kernel
theorem dX3_takeLevel_22 : decode cX3_takeLevel 22 = .ok (.bipush 8, 2) := by decide +kernel
theorem dX3_takeLevel_24 : decode cX3_takeLevel 24 = .ok (.invokestatic 53, 3) := by decide +kernel
theorem dX3_takeLevel_27 : decode cX3_takeLevel 27 = .ok (.ifCond .ne 13, 3) := by decide +kernel
theorem dX3_takeLevel_30 : decode cX3_takeLevel 30 = .ok (.new 134, 3) := by decide +kernel
theorem dX3_takeLevel_33 : decode cX3_takeLevel 33 = .ok (.dup, 1) := by decide +kernel
theorem dX3_takeLevel_34 : decode cX3_takeLevel 34 = .ok (.ldc 141, 2) := by decide +kernel
theorem dX3_takeLevel_36 : decode cX3_takeLevel 36 = .ok (.invokespecial 138, 3) := by decide +kernel
theorem dX3_takeLevel_39 : decode cX3_takeLevel 39 = .ok (.athrow, 1) := by decide +kernel
theorem dX3_takeLevel_40 : decode cX3_takeLevel 40 = .ok (.aload_n 0, 1) := by decide +kernel
theorem dX3_takeLevel_41 : decode cX3_takeLevel 41 = .ok (.getfield 34, 3) := by decide +kernel
theorem dX3_takeLevel_44 : decode cX3_takeLevel 44 = .ok (.aload_n 0, 1) := by decide +kernel
theorem dX3_takeLevel_45 : decode cX3_takeLevel 45 = .ok (.getfield 37, 3) := by decide +kernel
theorem dX3_takeLevel_48 : decode cX3_takeLevel 48 = .ok (.iload_n 1, 1) := by decide +kernel
theorem dX3_takeLevel_49 : decode cX3_takeLevel 49 = .ok (.iastore, 1) := by decide +kernel
theorem dX3_takeLevel_50 : decode cX3_takeLevel 50 = .ok (.aload_n 0, 1) := by decide +kernel
theorem dX3_takeLevel_51 : decode cX3_takeLevel 51 = .ok (.dup, 1) := by decide +kernel
theorem dX3_takeLevel_52 : decode cX3_takeLevel 52 = .ok (.getfield 37, 3) := by decide +kernel
theorem dX3_takeLevel_55 : decode cX3_takeLevel 55 = .ok (.iconst 1, 1) := by decide +kernel
theorem dX3_takeLevel_56 : decode cX3_takeLevel 56 = .ok (.iadd, 1) := by decide +kernel
theorem dX3_takeLevel_57 : decode cX3_takeLevel 57 = .ok (.putfield 37, 3) := by decide +kernel
theorem dX3_takeLevel_60 : decode cX3_takeLevel 60 = .ok (.aload_n 0, 1) := by decide +kernel
theorem dX3_takeLevel_61 : decode cX3_takeLevel 61 = .ok (.getfield 30, 3) := by decide +kernel
theorem dX3_takeLevel_64 : decode cX3_takeLevel 64 = .ok (.iload_n 1, 1) := by decide +kernel
theorem dX3_takeLevel_65 : decode cX3_takeLevel 65 = .ok (.iconst 1, 1) := by decide +kernel
theorem dX3_takeLevel_66 : decode cX3_takeLevel 66 = .ok (.invokevirtual 143, 3) := by decide +kernel
theorem dX3_takeLevel_69 : decode cX3_takeLevel 69 = .ok (.aload_n 0, 1) := by decide +kernel
theorem dX3_takeLevel_70 : decode cX3_takeLevel 70 = .ok (.getfield 37, 3) := by decide +kernel
theorem dX3_takeLevel_73 : decode cX3_takeLevel 73 = .ok (.ireturn, 1) := by decide +kernel
theorem dX3_takeGift_0 : decode cX3_takeGift 0 = .ok (.iload_n 1, 1) := by decide +kernel
theorem dX3_takeGift_1 : decode cX3_takeGift 1 = .ok (.bipush 8, 2) := by decide +kernel
theorem dX3_takeGift_3 : decode cX3_takeGift 3 = .ok (.invokestatic 53, 3) := by decide +kernel
theorem dX3_takeGift_6 : decode cX3_takeGift 6 = .ok (.ifCond .ne 13, 3) := by decide +kernel
theorem dX3_takeGift_9 : decode cX3_takeGift 9 = .ok (.new 60, 3) := by decide +kernel
theorem dX3_takeGift_12 : decode cX3_takeGift 12 = .ok (.dup, 1) := by decide +kernel
theorem dX3_takeGift_13 : decode cX3_takeGift 13 = .ok (.ldc 147, 2) := by decide +kernel
theorem dX3_takeGift_15 : decode cX3_takeGift 15 = .ok (.invokespecial 64, 3) := by decide +kernel
theorem dX3_takeGift_18 : decode cX3_takeGift 18 = .ok (.athrow, 1) := by decide +kernel
theorem dX3_takeGift_19 : decode cX3_takeGift 19 = .ok (.aload_n 0, 1) := by decide +kernel
theorem dX3_takeGift_20 : decode cX3_takeGift 20 = .ok (.aload_n 0, 1) := by decide +kernel
theorem dX3_takeGift_21 : decode cX3_takeGift 21 = .ok (.getfield 30, 3) := by decide +kernel
theorem dX3_takeGift_24 : decode cX3_takeGift 24 = .ok (.iload_n 1, 1) := by decide +kernel
theorem dX3_takeGift_25 : decode cX3_takeGift 25 = .ok (.invokevirtual 149, 3) := by decide +kernel
theorem dX3_takeGift_28 : decode cX3_takeGift 28 = .ok (.ifCond .ne 13, 3) := by decide +kernel
theorem dX3_takeGift_31 : decode cX3_takeGift 31 = .ok (.new 134, 3) := by decide +kernel
theorem dX3_takeGift_34 : decode cX3_takeGift 34 = .ok (.dup, 1) := by decide +kernel
theorem dX3_takeGift_35 : decode cX3_takeGift 35 = .ok (.ldc 153, 2) := by decide +kernel
theorem dX3_takeGift_37 : decode cX3_takeGift 37 = .ok (.invokespecial 138, 3) := by decide +kernel
theorem dX3_takeGift_40 : decode cX3_takeGift 40 = .ok (.athrow, 1) := by decide +kernel
theorem dX3_takeGift_41 : decode cX3_takeGift 41 = .ok (.aload_n 0, 1) := by decide +kernel
theorem dX3_takeGift_42 : decode cX3_takeGift 42 = .ok (.getfield 30, 3) := by decide +kernel
theorem dX3_takeGift_45 : decode cX3_takeGift 45 = .ok (.dup, 1) := by decide +kernel
theorem dX3_takeGift_46 : decode cX3_takeGift 46 = .ok (.getfield 155, 3) := by decide +kernel
theorem dX3_takeGift_49 : decode cX3_takeGift 49 = .ok (.iconst 1, 1) := by decide +kernel
theorem dX3_takeGift_50 : decode cX3_takeGift 50 = .ok (.iload_n 1, 1) := by decide +kernel
theorem dX3_takeGift_51 : decode cX3_takeGift 51 = .ok (.ishl, 1) := by decide +kernel
theorem dX3_takeGift_52 : decode cX3_takeGift 52 = .ok (.ior, 1) := by decide +kernel
theorem dX3_takeGift_53 : decode cX3_takeGift 53 = .ok (.putfield 155, 3) := by decide +kernel
theorem dX3_takeGift_56 : decode cX3_takeGift 56 = .ok (.aload_n 0, 1) := by decide +kernel
theorem dX3_takeGift_57 : decode cX3_takeGift 57 = .ok (.getfield 30, 3) := by decide +kernel
theorem dX3_takeGift_60 : decode cX3_takeGift 60 = .ok (.invokevirtual 158, 3) := by decide +kernel
theorem dX3_takeGift_63 : decode cX3_takeGift 63 = .ok (.ireturn, 1) := by decide +kernel
theorem dX3_loseLevel_0 : decode cX3_loseLevel 0 = .ok (.aload_n 0, 1) := by decide +kernel
theorem dX3_loseLevel_1 : decode cX3_loseLevel 1 = .ok (.getfield 37, 3) := by decide +kernel
theorem dX3_loseLevel_4 : decode cX3_loseLevel 4 = .ok (.iconst 1, 1) := by decide +kernel
theorem dX3_loseLevel_5 : decode cX3_loseLevel 5 = .ok (.isub, 1) := by decide +kernel
theorem dX3_loseLevel_6 : decode cX3_loseLevel 6 = .ok (.istore_n 1, 1) := by decide +kernel
theorem dX3_loseLevel_7 : decode cX3_loseLevel 7 = .ok (.iload_n 1, 1) := by decide +kernel
theorem dX3_loseLevel_8 : decode cX3_loseLevel 8 = .ok (.bipush 8, 2) := by decide +kernel
theorem dX3_loseLevel_10 : decode cX3_loseLevel 10 = .ok (.invokestatic 53, 3) := by decide +kernel
theorem dX3_loseLevel_13 : decode cX3_loseLevel 13 = .ok (.ifCond .ne 13, 3) := by decide +kernel
theorem dX3_loseLevel_16 : decode cX3_loseLevel 16 = .ok (.new 134, 3) := by decide +kernel
theorem dX3_loseLevel_19 : decode cX3_loseLevel 19 = .ok (.dup, 1) := by decide +kernel
theorem dX3_loseLevel_20 : decode cX3_loseLevel 20 = .ok (.ldc 161, 2) := by decide +kernel
theorem dX3_loseLevel_22 : decode cX3_loseLevel 22 = .ok (.invokespecial 138, 3) := by decide +kernel
theorem dX3_loseLevel_25 : decode cX3_loseLevel 25 = .ok (.athrow, 1) := by decide +kernel
theorem dX3_loseLevel_26 : decode cX3_loseLevel 26 = .ok (.aload_n 0, 1) := by decide +kernel
theorem dX3_loseLevel_27 : decode cX3_loseLevel 27 = .ok (.iload_n 1, 1) := by decide +kernel
theorem dX3_loseLevel_28 : decode cX3_loseLevel 28 = .ok (.putfield 37, 3) := by decide +kernel
theorem dX3_loseLevel_31 : decode cX3_loseLevel 31 = .ok (.aload_n 0, 1) := by decide +kernel
theorem dX3_loseLevel_32 : decode cX3_loseLevel 32 = .ok (.getfield 30, 3) := by decide +kernel
theorem dX3_loseLevel_35 : decode cX3_loseLevel 35 = .ok (.aload_n 0, 1) := by decide +kernel
theorem dX3_loseLevel_36 : decode cX3_loseLevel 36 = .ok (.getfield 34, 3) := by decide +kernel
theorem dX3_loseLevel_39 : decode cX3_loseLevel 39 = .ok (.iload_n 1, 1) := by decide +kernel
theorem dX3_loseLevel_40 : decode cX3_loseLevel 40 = .ok (.iaload, 1) := by decide +kernel
theorem dX3_loseLevel_41 : decode cX3_loseLevel 41 = .ok (.iconst (-1), 1) := by decide +kernel
theorem dX3_loseLevel_42 : decode cX3_loseLevel 42 = .ok (.invokevirtual 143, 3) := by decide +kernel
theorem dX3_loseLevel_45 : decode cX3_loseLevel 45 = .ok (.aload_n 0, 1) := by decide +kernel
theorem dX3_loseLevel_46 : decode cX3_loseLevel 46 = .ok (.getfield 34, 3) := by decide +kernel
theorem dX3_loseLevel_49 : decode cX3_loseLevel 49 = .ok (.iload_n 1, 1) := by decide +kernel
theorem dX3_loseLevel_50 : decode cX3_loseLevel 50 = .ok (.iaload, 1) := by decide +kernel
theorem dX3_loseLevel_51 : decode cX3_loseLevel 51 = .ok (.ireturn, 1) := by decide +kernel
theorem dX3_exchange_0 : decode cX3_exchange 0 = .ok (.iload_n 1, 1) := by decide +kernel
theorem dX3_exchange_1 : decode cX3_exchange 1 = .ok (.bipush 8, 2) := by decide +kernel
theorem dX3_exchange_3 : decode cX3_exchange 3 = .ok (.invokestatic 53, 3) := by decide +kernel
theorem dX3_exchange_6 : decode cX3_exchange 6 = .ok (.ifCond .eq 12, 3) := by decide +kernel
theorem dX3_exchange_9 : decode cX3_exchange 9 = .ok (.iload_n 2, 1) := by decide +kernel
theorem dX3_exchange_10 : decode cX3_exchange 10 = .ok (.bipush 8, 2) := by decide +kernel
theorem dX3_exchange_12 : decode cX3_exchange 12 = .ok (.invokestatic 53, 3) := by decide +kernel
theorem dX3_exchange_15 : decode cX3_exchange 15 = .ok (.ifCond .ne 13, 3) := by decide +kernel
theorem dX3_exchange_18 : decode cX3_exchange 18 = .ok (.new 60, 3) := by decide +kernel
theorem dX3_exchange_21 : decode cX3_exchange 21 = .ok (.dup, 1) := by decide +kernel
theorem dX3_exchange_22 : decode cX3_exchange 22 = .ok (.ldc 163, 2) := by decide +kernel
theorem dX3_exchange_24 : decode cX3_exchange 24 = .ok (.invokespecial 64, 3) := by decide +kernel
theorem dX3_exchange_27 : decode cX3_exchange 27 = .ok (.athrow, 1) := by decide +kernel
theorem dX3_exchange_28 : decode cX3_exchange 28 = .ok (.aload_n 0, 1) := by decide +kernel
theorem dX3_exchange_29 : decode cX3_exchange 29 = .ok (.getfield 30, 3) := by decide +kernel
theorem dX3_exchange_32 : decode cX3_exchange 32 = .ok (.getfield 155, 3) := by decide +kernel
theorem dX3_exchange_35 : decode cX3_exchange 35 = .ok (.iconst 1, 1) := by decide +kernel
theorem dX3_exchange_36 : decode cX3_exchange 36 = .ok (.iload_n 1, 1) := by decide +kernel
theorem dX3_exchange_37 : decode cX3_exchange 37 = .ok (.ishl, 1) := by decide +kernel
theorem dX3_exchange_38 : decode cX3_exchange 38 = .ok (.iconst (-1), 1) := by decide +kernel
theorem dX3_exchange_39 : decode cX3_exchange 39 = .ok (.ixor, 1) := by decide +kernel
theorem dX3_exchange_40 : decode cX3_exchange 40 = .ok (.iand, 1) := by decide +kernel
theorem dX3_exchange_41 : decode cX3_exchange 41 = .ok (.iconst 1, 1) := by decide +kernel
theorem dX3_exchange_42 : decode cX3_exchange 42 = .ok (.iload_n 2, 1) := by decide +kernel
theorem dX3_exchange_43 : decode cX3_exchange 43 = .ok (.ishl, 1) := by decide +kernel
theorem dX3_exchange_44 : decode cX3_exchange 44 = .ok (.ior, 1) := by decide +kernel
theorem dX3_exchange_45 : decode cX3_exchange 45 = .ok (.istore_n 3, 1) := by decide +kernel
theorem dX3_exchange_46 : decode cX3_exchange 46 = .ok (.aload_n 0, 1) := by decide +kernel
theorem dX3_exchange_47 : decode cX3_exchange 47 = .ok (.getfield 30, 3) := by decide +kernel
theorem dX3_exchange_50 : decode cX3_exchange 50 = .ok (.iload_n 1, 1) := by decide +kernel
theorem dX3_exchange_51 : decode cX3_exchange 51 = .ok (.invokevirtual 165, 3) := by decide +kernel
theorem dX3_exchange_54 : decode cX3_exchange 54 = .ok (.ifCond .eq 22, 3) := by decide +kernel
theorem dX3_exchange_57 : decode cX3_exchange 57 = .ok (.aload_n 0, 1) := by decide +kernel
theorem dX3_exchange_58 : decode cX3_exchange 58 = .ok (.getfield 30, 3) := by decide +kernel
theorem dX3_exchange_61 : decode cX3_exchange 61 = .ok (.iload_n 2, 1) := by decide +kernel
theorem dX3_exchange_62 : decode cX3_exchange 62 = .ok (.invokevirtual 165, 3) := by decide +kernel
theorem dX3_exchange_65 : decode cX3_exchange 65 = .ok (.ifCond .ne 11, 3) := by decide +kernel
theorem dX3_exchange_68 : decode cX3_exchange 68 = .ok (.aload_n 0, 1) := by decide +kernel
theorem dX3_exchange_69 : decode cX3_exchange 69 = .ok (.iload_n 3, 1) := by decide +kernel
theorem dX3_exchange_70 : decode cX3_exchange 70 = .ok (.invokevirtual 169, 3) := by decide +kernel
theorem dX3_exchange_73 : decode cX3_exchange 73 = .ok (.ifCond .ne 13, 3) := by decide +kernel
theorem dX3_exchange_76 : decode cX3_exchange 76 = .ok (.new 134, 3) := by decide +kernel
theorem dX3_exchange_79 : decode cX3_exchange 79 = .ok (.dup, 1) := by decide +kernel
theorem dX3_exchange_80 : decode cX3_exchange 80 = .ok (.ldc 172, 2) := by decide +kernel
theorem dX3_exchange_82 : decode cX3_exchange 82 = .ok (.invokespecial 138, 3) := by decide +kernel
theorem dX3_exchange_85 : decode cX3_exchange 85 = .ok (.athrow, 1) := by decide +kernel
theorem dX3_exchange_86 : decode cX3_exchange 86 = .ok (.aload_n 0, 1) := by decide +kernel
theorem dX3_exchange_87 : decode cX3_exchange 87 = .ok (.aload_n 0, 1) := by decide +kernel
theorem dX3_exchange_88 : decode cX3_exchange 88 = .ok (.getfield 30, 3) := by decide +kernel
theorem dX3_exchange_91 : decode cX3_exchange 91 = .ok (.getfield 155, 3) := by decide +kernel
theorem dX3_exchange_94 : decode cX3_exchange 94 = .ok (.invokevirtual 174, 3) := by decide +kernel
theorem dX3_exchange_97 : decode cX3_exchange 97 = .ok (.aload_n 0, 1) := by decide +kernel
theorem dX3_exchange_98 : decode cX3_exchange 98 = .ok (.iload_n 3, 1) := by decide +kernel
theorem dX3_exchange_99 : decode cX3_exchange 99 = .ok (.invokevirtual 174, 3) := by decide +kernel
theorem dX3_exchange_102 : decode cX3_exchange 102 = .ok (.iconst (-1), 1) := by decide +kernel
theorem dX3_exchange_103 : decode cX3_exchange 103 = .ok (.ixor, 1) := by decide +kernel
theorem dX3_exchange_104 : decode cX3_exchange 104 = .ok (.iand, 1) := by decide +kernel
theorem dX3_exchange_105 : decode cX3_exchange 105 = .ok (.iconst 1, 1) := by decide +kernel
theorem dX3_exchange_106 : decode cX3_exchange 106 = .ok (.iload_n 1, 1) := by decide +kernel
theorem dX3_exchange_107 : decode cX3_exchange 107 = .ok (.ishl, 1) := by decide +kernel
theorem dX3_exchange_108 : decode cX3_exchange 108 = .ok (.iconst (-1), 1) := by decide +kernel
theorem dX3_exchange_109 : decode cX3_exchange 109 = .ok (.ixor, 1) := by decide +kernel
theorem dX3_exchange_110 : decode cX3_exchange 110 = .ok (.iand, 1) := by decide +kernel
theorem dX3_exchange_111 : decode cX3_exchange 111 = .ok (.istore 4, 2) := by decide +kernel
theorem dX3_exchange_113 : decode cX3_exchange 113 = .ok (.aload_n 0, 1) := by decide +kernel
theorem dX3_exchange_114 : decode cX3_exchange 114 = .ok (.getfield 30, 3) := by decide +kernel
theorem dX3_exchange_117 : decode cX3_exchange 117 = .ok (.iload_n 3, 1) := by decide +kernel
theorem dX3_exchange_118 : decode cX3_exchange 118 = .ok (.putfield 155, 3) := by decide +kernel
theorem dX3_exchange_121 : decode cX3_exchange 121 = .ok (.iload 4, 2) := by decide +kernel
theorem dX3_exchange_123 : decode cX3_exchange 123 = .ok (.invokestatic 177, 3) := by decide +kernel
theorem dX3_exchange_126 : decode cX3_exchange 126 = .ok (.ireturn, 1) := by decide +kernel
theorem dX3_clear_0 : decode cX3_clear 0 = .ok (.aload_n 0, 1) := by decide +kernel
theorem dX3_clear_1 : decode cX3_clear 1 = .ok (.invokevirtual 182, 3) := by decide +kernel
theorem dX3_clear_4 : decode cX3_clear 4 = .ok (.istore_n 1, 1) := by decide +kernel
theorem dX3_clear_5 : decode cX3_clear 5 = .ok (.aload_n 0, 1) := by decide +kernel
theorem dX3_clear_6 : decode cX3_clear 6 = .ok (.getfield 30, 3) := by decide +kernel
theorem dX3_clear_9 : decode cX3_clear 9 = .ok (.invokevirtual 185, 3) := by decide +kernel
theorem dX3_clear_12 : decode cX3_clear 12 = .ok (.aload_n 0, 1) := by decide +kernel
theorem dX3_clear_13 : decode cX3_clear 13 = .ok (.iconst 0, 1) := by decide +kernel
theorem dX3_clear_14 : decode cX3_clear 14 = .ok (.putfield 37, 3) := by decide +kernel
theorem dX3_clear_17 : decode cX3_clear 17 = .ok (.iload_n 1, 1) := by decide +kernel
theorem dX3_clear_18 : decode cX3_clear 18 = .ok (.ireturn, 1) := by decide +kernel
theorem dX3_level_0 : decode cX3_level 0 = .ok (.iload_n 1, 1) := by decide +kernel
theorem dX3_level_1 : decode cX3_level 1 = .ok (.iconst 3, 1) := by decide +kernel
theorem dX3_level_2 : decode cX3_level 2 = .ok (.invokestatic 53, 3) := by decide +kernel
theorem dX3_level_5 : decode cX3_level 5 = .ok (.ifCond .ne 13, 3) := by decide +kernel
theorem dX3_level_8 : decode cX3_level 8 = .ok (.new 60, 3) := by decide +kernel
theorem dX3_level_11 : decode cX3_level 11 = .ok (.dup, 1) := by decide +kernel
theorem dX3_level_12 : decode cX3_level 12 = .ok (.ldc 139, 2) := by decide +kernel
theorem dX3_level_14 : decode cX3_level 14 = .ok (.invokespecial 64, 3) := by decide +kernel
theorem dX3_level_17 : decode cX3_level 17 = .ok (.athrow, 1) := by decide +kernel
theorem dX3_level_18 : decode cX3_level 18 = .ok (.aload_n 0, 1) := by decide +kernel
theorem dX3_level_19 : decode cX3_level 19 = .ok (.getfield 30, 3) := by decide +kernel
theorem dX3_level_22 : decode cX3_level 22 = .ok (.iload_n 1, 1) := by decide +kernel
theorem dX3_level_23 : decode cX3_level 23 = .ok (.invokevirtual 188, 3) := by decide +kernel
theorem dX3_level_26 : decode cX3_level 26 = .ok (.ireturn, 1) := by decide +kernel
theorem dX3_gifts_0 : decode cX3_gifts 0 = .ok (.aload_n 0, 1) := by decide +kernel
theorem dX3_gifts_1 : decode cX3_gifts 1 = .ok (.getfield 30, 3) := by decide +kernel
theorem dX3_gifts_4 : decode cX3_gifts 4 = .ok (.getfield 155, 3) := by decide +kernel
theorem dX3_gifts_7 : decode cX3_gifts 7 = .ok (.ireturn, 1) := by decide +kernel
theorem dX3_working_0 : decode cX3_working 0 = .ok (.aload_n 0, 1) := by decide +kernel
theorem dX3_working_1 : decode cX3_working 1 = .ok (.aload_n 0, 1) := by decide +kernel
theorem dX3_working_2 : decode cX3_working 2 = .ok (.getfield 30, 3) := by decide +kernel
theorem dX3_working_5 : decode cX3_working 5 = .ok (.getfield 155, 3) := by decide +kernel
theorem dX3_working_8 : decode cX3_working 8 = .ok (.invokevirtual 174, 3) := by decide +kernel
theorem dX3_working_11 : decode cX3_working 11 = .ok (.ireturn, 1) := by decide +kernel
theorem dX3_open_0 : decode cX3_open 0 = .ok (.iconst 0, 1) := by decide +kernel
theorem dX3_open_1 : decode cX3_open 1 = .ok (.istore_n 1, 1) := by decide +kernel
theorem dX3_open_2 : decode cX3_open 2 = .ok (.iconst 0, 1) := by decide +kernel
theorem dX3_open_3 : decode cX3_open 3 = .ok (.istore_n 2, 1) := by decide +kernel
theorem dX3_open_4 : decode cX3_open 4 = .ok (.iload_n 2, 1) := by decide +kernel
theorem dX3_open_5 : decode cX3_open 5 = .ok (.bipush 8, 2) := by decide +kernel
theorem dX3_open_7 : decode cX3_open 7 = .ok (.if_icmp .ge 27, 3) := by decide +kernel
theorem dX3_open_10 : decode cX3_open 10 = .ok (.aload_n 0, 1) := by decide +kernel
theorem dX3_open_11 : decode cX3_open 11 = .ok (.aload_n 0, 1) := by decide +kernel
theorem dX3_open_12 : decode cX3_open 12 = .ok (.getfield 30, 3) := by decide +kernel
theorem dX3_open_15 : decode cX3_open 15 = .ok (.iload_n 2, 1) := by decide +kernel
theorem dX3_open_16 : decode cX3_open 16 = .ok (.invokevirtual 149, 3) := by decide +kernel
theorem dX3_open_19 : decode cX3_open 19 = .ok (.ifCond .eq 9, 3) := by decide +kernel
theorem dX3_open_22 : decode cX3_open 22 = .ok (.iload_n 1, 1) := by decide +kernel
theorem dX3_open_23 : decode cX3_open 23 = .ok (.iconst 1, 1) := by decide +kernel
theorem dX3_open_24 : decode cX3_open 24 = .ok (.iload_n 2, 1) := by decide +kernel
theorem dX3_open_25 : decode cX3_open 25 = .ok (.ishl, 1) := by decide +kernel
theorem dX3_open_26 : decode cX3_open 26 = .ok (.ior, 1) := by decide +kernel
theorem dX3_open_27 : decode cX3_open 27 = .ok (.istore_n 1, 1) := by decide +kernel
theorem dX3_open_28 : decode cX3_open 28 = .ok (.iinc 2 1, 3) := by decide +kernel
theorem dX3_open_31 : decode cX3_open 31 = .ok (.goto (-27), 3) := by decide +kernel
theorem dX3_open_34 : decode cX3_open 34 = .ok (.iload_n 1, 1) := by decide +kernel
theorem dX3_open_35 : decode cX3_open 35 = .ok (.ireturn, 1) := by decide +kernel
theorem dX3_places_0 : decode cX3_places 0 = .ok (.aload_n 0, 1) := by decide +kernel
theorem dX3_places_1 : decode cX3_places 1 = .ok (.getfield 30, 3) := by decide +kernel
theorem dX3_places_4 : decode cX3_places 4 = .ok (.invokevirtual 191, 3) := by decide +kernel
theorem dX3_places_7 : decode cX3_places 7 = .ok (.invokestatic 194, 3) := by decide +kernel
theorem dX3_places_10 : decode cX3_places 10 = .ok (.ireturn, 1) := by decide +kernel
theorem dX3_points_0 : decode cX3_points 0 = .ok (.aload_n 0, 1) := by decide +kernel
theorem dX3_points_1 : decode cX3_points 1 = .ok (.invokevirtual 126, 3) := by decide +kernel
theorem dX3_points_4 : decode cX3_points 4 = .ok (.ireturn, 1) := by decide +kernel
theorem dX3_value_0 : decode cX3_value 0 = .ok (.iload_n 1, 1) := by decide +kernel
theorem dX3_value_1 : decode cX3_value 1 = .ok (.bipush 6, 2) := by decide +kernel
theorem dX3_value_3 : decode cX3_value 3 = .ok (.invokestatic 53, 3) := by decide +kernel
theorem dX3_value_6 : decode cX3_value 6 = .ok (.ifCond .ne 13, 3) := by decide +kernel
theorem dX3_value_9 : decode cX3_value 9 = .ok (.new 60, 3) := by decide +kernel
theorem dX3_value_12 : decode cX3_value 12 = .ok (.dup, 1) := by decide +kernel
theorem dX3_value_13 : decode cX3_value 13 = .ok (.ldc 197, 2) := by decide +kernel
theorem dX3_value_15 : decode cX3_value 15 = .ok (.invokespecial 64, 3) := by decide +kernel
theorem dX3_value_18 : decode cX3_value 18 = .ok (.athrow, 1) := by decide +kernel
theorem dX3_value_19 : decode cX3_value 19 = .ok (.aload_n 0, 1) := by decide +kernel
theorem dX3_value_20 : decode cX3_value 20 = .ok (.iload_n 1, 1) := by decide +kernel
theorem dX3_value_21 : decode cX3_value 21 = .ok (.invokevirtual 199, 3) := by decide +kernel
theorem dX3_value_24 : decode cX3_value 24 = .ok (.ifCond .eq 13, 3) := by decide +kernel
theorem dX3_value_27 : decode cX3_value 27 = .ok (.new 134, 3) := by decide +kernel
theorem dX3_value_30 : decode cX3_value 30 = .ok (.dup, 1) := by decide +kernel
theorem dX3_value_31 : decode cX3_value 31 = .ok (.ldc 202, 2) := by decide +kernel
theorem dX3_value_33 : decode cX3_value 33 = .ok (.invokespecial 138, 3) := by decide +kernel
theorem dX3_value_36 : decode cX3_value 36 = .ok (.athrow, 1) := by decide +kernel
theorem dX3_value_37 : decode cX3_value 37 = .ok (.aload_n 0, 1) := by decide +kernel
theorem dX3_value_38 : decode cX3_value 38 = .ok (.iload_n 1, 1) := by decide +kernel
theorem dX3_value_39 : decode cX3_value 39 = .ok (.aload_n 0, 1) := by decide +kernel
theorem dX3_value_40 : decode cX3_value 40 = .ok (.aload_n 0, 1) := by decide +kernel
theorem dX3_value_41 : decode cX3_value 41 = .ok (.getfield 30, 3) := by decide +kernel
theorem dX3_value_44 : decode cX3_value 44 = .ok (.getfield 155, 3) := by decide +kernel
theorem dX3_value_47 : decode cX3_value 47 = .ok (.invokevirtual 174, 3) := by decide +kernel
theorem dX3_value_50 : decode cX3_value 50 = .ok (.iconst 0, 1) := by decide +kernel
theorem dX3_value_51 : decode cX3_value 51 = .ok (.invokevirtual 204, 3) := by decide +kernel
theorem dX3_value_54 : decode cX3_value 54 = .ok (.ireturn, 1) := by decide +kernel
theorem dX3_bonus_0 : decode cX3_bonus 0 = .ok (.iload_n 1, 1) := by decide +kernel
theorem dX3_bonus_1 : decode cX3_bonus 1 = .ok (.bipush 6, 2) := by decide +kernel
theorem dX3_bonus_3 : decode cX3_bonus 3 = .ok (.invokestatic 53, 3) := by decide +kernel
theorem dX3_bonus_6 : decode cX3_bonus 6 = .ok (.ifCond .ne 13, 3) := by decide +kernel
theorem dX3_bonus_9 : decode cX3_bonus 9 = .ok (.new 60, 3) := by decide +kernel
theorem dX3_bonus_12 : decode cX3_bonus 12 = .ok (.dup, 1) := by decide +kernel
theorem dX3_bonus_13 : decode cX3_bonus 13 = .ok (.ldc 197, 2) := by decide +kernel
theorem dX3_bonus_15 : decode cX3_bonus 15 = .ok (.invokespecial 64, 3) := by decide +kernel
theorem dX3_bonus_18 : decode cX3_bonus 18 = .ok (.athrow, 1) := by decide +kernel
theorem dX3_bonus_19 : decode cX3_bonus 19 = .ok (.iload_n 2, 1) := by decide +kernel
theorem dX3_bonus_20 : decode cX3_bonus 20 = .ok (.iconst 4, 1) := by decide +kernel
theorem dX3_bonus_21 : decode cX3_bonus 21 = .ok (.invokestatic 53, 3) := by decide +kernel
theorem dX3_bonus_24 : decode cX3_bonus 24 = .ok (.ifCond .ne 13, 3) := by decide +kernel
theorem dX3_bonus_27 : decode cX3_bonus 27 = .ok (.new 71, 3) := by decide +kernel
theorem dX3_bonus_30 : decode cX3_bonus 30 = .ok (.dup, 1) := by decide +kernel
theorem dX3_bonus_31 : decode cX3_bonus 31 = .ok (.ldc 208, 2) := by decide +kernel
theorem dX3_bonus_33 : decode cX3_bonus 33 = .ok (.invokespecial 75, 3) := by decide +kernel
theorem dX3_bonus_36 : decode cX3_bonus 36 = .ok (.athrow, 1) := by decide +kernel
theorem dX3_bonus_37 : decode cX3_bonus 37 = .ok (.aload_n 0, 1) := by decide +kernel
theorem dX3_bonus_38 : decode cX3_bonus 38 = .ok (.aload_n 0, 1) := by decide +kernel
theorem dX3_bonus_39 : decode cX3_bonus 39 = .ok (.aload_n 0, 1) := by decide +kernel
theorem dX3_bonus_40 : decode cX3_bonus 40 = .ok (.getfield 30, 3) := by decide +kernel
theorem dX3_bonus_43 : decode cX3_bonus 43 = .ok (.getfield 155, 3) := by decide +kernel
theorem dX3_bonus_46 : decode cX3_bonus 46 = .ok (.invokevirtual 174, 3) := by decide +kernel
theorem dX3_bonus_49 : decode cX3_bonus 49 = .ok (.iload_n 1, 1) := by decide +kernel
theorem dX3_bonus_50 : decode cX3_bonus 50 = .ok (.iload_n 2, 1) := by decide +kernel
theorem dX3_bonus_51 : decode cX3_bonus 51 = .ok (.invokevirtual 210, 3) := by decide +kernel
theorem dX3_bonus_54 : decode cX3_bonus 54 = .ok (.ireturn, 1) := by decide +kernel
theorem dX3_isRing_0 : decode cX3_isRing 0 = .ok (.iload_n 1, 1) := by decide +kernel
theorem dX3_isRing_1 : decode cX3_isRing 1 = .ok (.bipush 6, 2) := by decide +kernel
theorem dX3_isRing_3 : decode cX3_isRing 3 = .ok (.invokestatic 53, 3) := by decide +kernel
theorem dX3_isRing_6 : decode cX3_isRing 6 = .ok (.ifCond .ne 13, 3) := by decide +kernel
theorem dX3_isRing_9 : decode cX3_isRing 9 = .ok (.new 60, 3) := by decide +kernel
theorem dX3_isRing_12 : decode cX3_isRing 12 = .ok (.dup, 1) := by decide +kernel
theorem dX3_isRing_13 : decode cX3_isRing 13 = .ok (.ldc 197, 2) := by decide +kernel
theorem dX3_isRing_15 : decode cX3_isRing 15 = .ok (.invokespecial 64, 3) := by decide +kernel
theorem dX3_isRing_18 : decode cX3_isRing 18 = .ok (.athrow, 1) := by decide +kernel
theorem dX3_isRing_19 : decode cX3_isRing 19 = .ok (.aload_n 0, 1) := by decide +kernel
theorem dX3_isRing_20 : decode cX3_isRing 20 = .ok (.iload_n 1, 1) := by decide +kernel
theorem dX3_isRing_21 : decode cX3_isRing 21 = .ok (.invokevirtual 199, 3) := by decide +kernel
theorem dX3_isRing_24 : decode cX3_isRing 24 = .ok (.ireturn, 1) := by decide +kernel
theorem dX3_attack_0 : decode cX3_attack 0 = .ok (.fconst 0, 1) := by decide +kernel
theorem dX3_attack_1 : decode cX3_attack 1 = .ok (.fstore_n 1, 1) := by decide +kernel
theorem dX3_attack_2 : decode cX3_attack 2 = .ok (.iconst 0, 1) := by decide +kernel
theorem dX3_attack_3 : decode cX3_attack 3 = .ok (.istore_n 2, 1) := by decide +kernel
theorem dX3_attack_4 : decode cX3_attack 4 = .ok (.iconst 0, 1) := by decide +kernel
theorem dX3_attack_5 : decode cX3_attack 5 = .ok (.istore_n 3, 1) := by decide +kernel
theorem dX3_attack_6 : decode cX3_attack 6 = .ok (.iload_n 3, 1) := by decide +kernel
theorem dX3_attack_7 : decode cX3_attack 7 = .ok (.iconst 3, 1) := by decide +kernel
theorem dX3_attack_8 : decode cX3_attack 8 = .ok (.if_icmp .ge 61, 3) := by decide +kernel
theorem dX3_attack_11 : decode cX3_attack 11 = .ok (.aload_n 0, 1) := by decide +kernel
theorem dX3_attack_12 : decode cX3_attack 12 = .ok (.getfield 30, 3) := by decide +kernel
theorem dX3_attack_15 : decode cX3_attack 15 = .ok (.iload_n 3, 1) := by decide +kernel
theorem dX3_attack_16 : decode cX3_attack 16 = .ok (.invokevirtual 188, 3) := by decide +kernel
theorem dX3_attack_19 : decode cX3_attack 19 = .ok (.istore 4, 2) := by decide +kernel
theorem dX3_attack_21 : decode cX3_attack 21 = .ok (.fload_n 1, 1) := by decide +kernel
theorem dX3_attack_22 : decode cX3_attack 22 = .ok (.iload 4, 2) := by decide +kernel
theorem dX3_attack_24 : decode cX3_attack 24 = .ok (.i2f, 1) := by decide +kernel
theorem dX3_attack_25 : decode cX3_attack 25 = .ok (.iload_n 3, 1) := by decide +kernel
theorem dX3_attack_26 : decode cX3_attack 26 = .ok (.iconst 2, 1) := by decide +kernel
theorem dX3_attack_27 : decode cX3_attack 27 = .ok (.iadd, 1) := by decide +kernel
theorem dX3_attack_28 : decode cX3_attack 28 = .ok (.i2f, 1) := by decide +kernel
theorem dX3_attack_29 : decode cX3_attack 29 = .ok (.ldc 213, 2) := by decide +kernel
theorem dX3_attack_31 : decode cX3_attack 31 = .ok (.fdiv, 1) := by decide +kernel
theorem dX3_attack_32 : decode cX3_attack 32 = .ok (.fmul, 1) := by decide +kernel
theorem dX3_attack_33 : decode cX3_attack 33 = .ok (.fadd, 1) := by decide +kernel
theorem dX3_attack_34 : decode cX3_attack 34 = .ok (.fstore_n 1, 1) := by decide +kernel
theorem dX3_attack_35 : decode cX3_attack 35 = .ok (.iload_n 2, 1) := by decide +kernel
theorem dX3_attack_36 : decode cX3_attack 36 = .ok (.ifCond .eq 12, 3) := by decide +kernel
theorem dX3_attack_39 : decode cX3_attack 39 = .ok (.fload_n 1, 1) := by decide +kernel
theorem dX3_attack_40 : decode cX3_attack 40 = .ok (.ldc 214, 2) := by decide +kernel
theorem dX3_attack_42 : decode cX3_attack 42 = .ok (.iload 4, 2) := by decide +kernel
theorem dX3_attack_44 : decode cX3_attack 44 = .ok (.i2f, 1) := by decide +kernel
theorem dX3_attack_45 : decode cX3_attack 45 = .ok (.fmul, 1) := by decide +kernel
theorem dX3_attack_46 : decode cX3_attack 46 = .ok (.fsub, 1) := by decide +kernel
theorem dX3_attack_47 : decode cX3_attack 47 = .ok (.fstore_n 1, 1) := by decide +kernel
theorem dX3_attack_48 : decode cX3_attack 48 = .ok (.iload_n 2, 1) := by decide +kernel
theorem dX3_attack_49 : decode cX3_attack 49 = .ok (.ifCond .ne 8, 3) := by decide +kernel
theorem dX3_attack_52 : decode cX3_attack 52 = .ok (.iload 4, 2) := by decide +kernel
theorem dX3_attack_54 : decode cX3_attack 54 = .ok (.ifCond .le 7, 3) := by decide +kernel
theorem dX3_attack_57 : decode cX3_attack 57 = .ok (.iconst 1, 1) := by decide +kernel
theorem dX3_attack_58 : decode cX3_attack 58 = .ok (.goto 4, 3) := by decide +kernel
theorem dX3_attack_61 : decode cX3_attack 61 = .ok (.iconst 0, 1) := by decide +kernel
theorem dX3_attack_62 : decode cX3_attack 62 = .ok (.istore_n 2, 1) := by decide +kernel
theorem dX3_attack_63 : decode cX3_attack 63 = .ok (.iinc 3 1, 3) := by decide +kernel
theorem dX3_attack_66 : decode cX3_attack 66 = .ok (.goto (-60), 3) := by decide +kernel
theorem dX3_attack_69 : decode cX3_attack 69 = .ok (.fload_n 1, 1) := by decide +kernel
theorem dX3_attack_70 : decode cX3_attack 70 = .ok (.f2i, 1) := by decide +kernel
theorem dX3_attack_71 : decode cX3_attack 71 = .ok (.ireturn, 1) := by decide +kernel
theorem dX3_isLawful_0 : decode cX3_isLawful 0 = .ok (.aload_n 0, 1) := by decide +kernel
theorem dX3_isLawful_1 : decode cX3_isLawful 1 = .ok (.aload_n 0, 1) := by decide +kernel
theorem dX3_isLawful_2 : decode cX3_isLawful 2 = .ok (.getfield 30, 3) := by decide +kernel
theorem dX3_isLawful_5 : decode cX3_isLawful 5 = .ok (.getfield 155, 3) := by decide +kernel
theorem dX3_isLawful_8 : decode cX3_isLawful 8 = .ok (.invokevirtual 169, 3) := by decide +kernel
theorem dX3_isLawful_11 : decode cX3_isLawful 11 = .ok (.ireturn, 1) := by decide +kernel
theorem dX3_isLawfulByOrders_0 : decode cX3_isLawfulByOrders 0 = .ok (.aload_n 0, 1) := by decide +kernel
theorem dX3_isLawfulByOrders_1 : decode cX3_isLawfulByOrders 1 = .ok (.invokevirtual 182, 3) := by decide +kernel
theorem dX3_isLawfulByOrders_4 : decode cX3_isLawfulByOrders 4 = .ok (.istore_n 1, 1) := by decide +kernel
theorem dX3_isLawfulByOrders_5 : decode cX3_isLawfulByOrders 5 = .ok (.iload_n 1, 1) := by decide +kernel
theorem dX3_isLawfulByOrders_6 : decode cX3_isLawfulByOrders 6 = .ok (.bipush 8, 2) := by decide +kernel
theorem dX3_isLawfulByOrders_8 : decode cX3_isLawfulByOrders 8 = .ok (.if_icmp .le 13, 3) := by decide +kernel
theorem dX3_isLawfulByOrders_11 : decode cX3_isLawfulByOrders 11 = .ok (.new 134, 3) := by decide +kernel
theorem dX3_isLawfulByOrders_14 : decode cX3_isLawfulByOrders 14 = .ok (.dup, 1) := by decide +kernel
theorem dX3_isLawfulByOrders_15 : decode cX3_isLawfulByOrders 15 = .ok (.ldc 215, 2) := by decide +kernel
theorem dX3_isLawfulByOrders_17 : decode cX3_isLawfulByOrders 17 = .ok (.invokespecial 138, 3) := by decide +kernel
theorem dX3_isLawfulByOrders_20 : decode cX3_isLawfulByOrders 20 = .ok (.athrow, 1) := by decide +kernel
theorem dX3_isLawfulByOrders_21 : decode cX3_isLawfulByOrders 21 = .ok (.aload_n 0, 1) := by decide +kernel
theorem dX3_isLawfulByOrders_22 : decode cX3_isLawfulByOrders 22 = .ok (.getfield 41, 3) := by decide +kernel
theorem dX3_isLawfulByOrders_25 : decode cX3_isLawfulByOrders 25 = .ok (.invokevirtual 185, 3) := by decide +kernel
theorem dX3_isLawfulByOrders_28 : decode cX3_isLawfulByOrders 28 = .ok (.aload_n 0, 1) := by decide +kernel
theorem dX3_isLawfulByOrders_29 : decode cX3_isLawfulByOrders 29 = .ok (.iload_n 1, 1) := by decide +kernel
theorem dX3_isLawfulByOrders_30 : decode cX3_isLawfulByOrders 30 = .ok (.invokevirtual 217, 3) := by decide +kernel
theorem dX3_isLawfulByOrders_33 : decode cX3_isLawfulByOrders 33 = .ok (.ireturn, 1) := by decide +kernel
theorem dX3_stepAt_0 : decode cX3_stepAt 0 = .ok (.iload_n 1, 1) := by decide +kernel
theorem dX3_stepAt_1 : decode cX3_stepAt 1 = .ok (.ifCond .ge 13, 3) := by decide +kernel
theorem dX3_stepAt_4 : decode cX3_stepAt 4 = .ok (.new 60, 3) := by decide +kernel
theorem dX3_stepAt_7 : decode cX3_stepAt 7 = .ok (.dup, 1) := by decide +kernel
theorem dX3_stepAt_8 : decode cX3_stepAt 8 = .ok (.ldc 220, 2) := by decide +kernel
theorem dX3_stepAt_10 : decode cX3_stepAt 10 = .ok (.invokespecial 64, 3) := by decide +kernel
theorem dX3_stepAt_13 : decode cX3_stepAt 13 = .ok (.athrow, 1) := by decide +kernel
theorem dX3_stepAt_14 : decode cX3_stepAt 14 = .ok (.aload_n 0, 1) := by decide +kernel
theorem dX3_stepAt_15 : decode cX3_stepAt 15 = .ok (.aload_n 0, 1) := by decide +kernel
theorem dX3_stepAt_16 : decode cX3_stepAt 16 = .ok (.getfield 30, 3) := by decide +kernel
theorem dX3_stepAt_19 : decode cX3_stepAt 19 = .ok (.getfield 155, 3) := by decide +kernel
theorem dX3_stepAt_22 : decode cX3_stepAt 22 = .ok (.invokevirtual 169, 3) := by decide +kernel
theorem dX3_stepAt_25 : decode cX3_stepAt 25 = .ok (.ifCond .ne 13, 3) := by decide +kernel
theorem dX3_stepAt_28 : decode cX3_stepAt 28 = .ok (.new 134, 3) := by decide +kernel
theorem dX3_stepAt_31 : decode cX3_stepAt 31 = .ok (.dup, 1) := by decide +kernel
theorem dX3_stepAt_32 : decode cX3_stepAt 32 = .ok (.ldc 222, 2) := by decide +kernel
theorem dX3_stepAt_34 : decode cX3_stepAt 34 = .ok (.invokespecial 138, 3) := by decide +kernel
theorem dX3_stepAt_37 : decode cX3_stepAt 37 = .ok (.athrow, 1) := by decide +kernel
theorem dX3_stepAt_38 : decode cX3_stepAt 38 = .ok (.iload_n 1, 1) := by decide +kernel
theorem dX3_stepAt_39 : decode cX3_stepAt 39 = .ok (.aload_n 0, 1) := by decide +kernel
theorem dX3_stepAt_40 : decode cX3_stepAt 40 = .ok (.invokevirtual 182, 3) := by decide +kernel
theorem dX3_stepAt_43 : decode cX3_stepAt 43 = .ok (.if_icmp .ge 11, 3) := by decide +kernel
theorem dX3_stepAt_46 : decode cX3_stepAt 46 = .ok (.aload_n 0, 1) := by decide +kernel
theorem dX3_stepAt_47 : decode cX3_stepAt 47 = .ok (.iload_n 1, 1) := by decide +kernel
theorem dX3_stepAt_48 : decode cX3_stepAt 48 = .ok (.invokevirtual 224, 3) := by decide +kernel
theorem dX3_stepAt_51 : decode cX3_stepAt 51 = .ok (.goto 4, 3) := by decide +kernel
theorem dX3_stepAt_54 : decode cX3_stepAt 54 = .ok (.iconst (-1), 1) := by decide +kernel
theorem dX3_stepAt_55 : decode cX3_stepAt 55 = .ok (.ireturn, 1) := by decide +kernel
theorem dX3_isAmong_0 : decode cX3_isAmong 0 = .ok (.iload_n 0, 1) := by decide +kernel
theorem dX3_isAmong_1 : decode cX3_isAmong 1 = .ok (.ifCond .lt 12, 3) := by decide +kernel
theorem dX3_isAmong_4 : decode cX3_isAmong 4 = .ok (.iload_n 0, 1) := by decide +kernel
theorem dX3_isAmong_5 : decode cX3_isAmong 5 = .ok (.iload_n 1, 1) := by decide +kernel
theorem dX3_isAmong_6 : decode cX3_isAmong 6 = .ok (.if_icmp .ge 7, 3) := by decide +kernel
theorem dX3_isAmong_9 : decode cX3_isAmong 9 = .ok (.iconst 1, 1) := by decide +kernel
theorem dX3_isAmong_10 : decode cX3_isAmong 10 = .ok (.goto 4, 3) := by decide +kernel
theorem dX3_isAmong_13 : decode cX3_isAmong 13 = .ok (.iconst 0, 1) := by decide +kernel
theorem dX3_isAmong_14 : decode cX3_isAmong 14 = .ok (.ireturn, 1) := by decide +kernel
theorem dX3_isAmongOrNone_0 : decode cX3_isAmongOrNone 0 = .ok (.iload_n 0, 1) := by decide +kernel
theorem dX3_isAmongOrNone_1 : decode cX3_isAmongOrNone 1 = .ok (.iconst (-1), 1) := by decide +kernel
theorem dX3_isAmongOrNone_2 : decode cX3_isAmongOrNone 2 = .ok (.if_icmp .eq 11, 3) := by decide +kernel
theorem dX3_isAmongOrNone_5 : decode cX3_isAmongOrNone 5 = .ok (.iload_n 0, 1) := by decide +kernel
theorem dX3_isAmongOrNone_6 : decode cX3_isAmongOrNone 6 = .ok (.iload_n 1, 1) := by decide +kernel
theorem dX3_isAmongOrNone_7 : decode cX3_isAmongOrNone 7 = .ok (.invokestatic 53, 3) := by decide +kernel
theorem dX3_isAmongOrNone_10 : decode cX3_isAmongOrNone 10 = .ok (.ifCond .eq 7, 3) := by decide +kernel
theorem dX3_isAmongOrNone_13 : decode cX3_isAmongOrNone 13 = .ok (.iconst 1, 1) := by decide +kernel
theorem dX3_isAmongOrNone_14 : decode cX3_isAmongOrNone 14 = .ok (.goto 4, 3) := by decide +kernel
theorem dX3_isAmongOrNone_17 : decode cX3_isAmongOrNone 17 = .ok (.iconst 0, 1) := by decide +kernel
theorem dX3_isAmongOrNone_18 : decode cX3_isAmongOrNone 18 = .ok (.ireturn, 1) := by decide +kernel
theorem dX3_isFromTo_0 : decode cX3_isFromTo 0 = .ok (.iload_n 0, 1) := by decide +kernel
theorem dX3_isFromTo_1 : decode cX3_isFromTo 1 = .ok (.iload_n 1, 1) := by decide +kernel
theorem dX3_isFromTo_2 : decode cX3_isFromTo 2 = .ok (.if_icmp .lt 12, 3) := by decide +kernel
theorem dX3_isFromTo_5 : decode cX3_isFromTo 5 = .ok (.iload_n 0, 1) := by decide +kernel
theorem dX3_isFromTo_6 : decode cX3_isFromTo 6 = .ok (.iload_n 2, 1) := by decide +kernel
theorem dX3_isFromTo_7 : decode cX3_isFromTo 7 = .ok (.if_icmp .gt 7, 3) := by decide +kernel
theorem dX3_isFromTo_10 : decode cX3_isFromTo 10 = .ok (.iconst 1, 1) := by decide +kernel
theorem dX3_isFromTo_11 : decode cX3_isFromTo 11 = .ok (.goto 4, 3) := by decide +kernel
theorem dX3_isFromTo_14 : decode cX3_isFromTo 14 = .ok (.iconst 0, 1) := by decide +kernel
theorem dX3_isFromTo_15 : decode cX3_isFromTo 15 = .ok (.ireturn, 1) := by decide +kernel
theorem dX3_costOf_0 : decode cX3_costOf 0 = .ok (.iload_n 0, 1) := by decide +kernel
theorem dX3_costOf_1 : decode cX3_costOf 1 = .ok (.bipush 8, 2) := by decide +kernel
theorem dX3_costOf_3 : decode cX3_costOf 3 = .ok (.isub, 1) := by decide +kernel
theorem dX3_costOf_4 : decode cX3_costOf 4 = .ok (.iconst 0, 1) := by decide +kernel
theorem dX3_costOf_5 : decode cX3_costOf 5 = .ok (.iload_n 0, 1) := by decide +kernel
theorem dX3_costOf_6 : decode cX3_costOf 6 = .ok (.bipush 12, 2) := by decide +kernel
theorem dX3_costOf_8 : decode cX3_costOf 8 = .ok (.isub, 1) := by decide +kernel
theorem dX3_costOf_9 : decode cX3_costOf 9 = .ok (.invokestatic 227, 3) := by decide +kernel
theorem dX3_costOf_12 : decode cX3_costOf 12 = .ok (.iadd, 1) := by decide +kernel
theorem dX3_costOf_13 : decode cX3_costOf 13 = .ok (.ireturn, 1) := by decide +kernel
theorem dX3_pointsLeft_0 : decode cX3_pointsLeft 0 = .ok (.bipush 20, 2) := by decide +kernel
theorem dX3_pointsLeft_2 : decode cX3_pointsLeft 2 = .ok (.istore_n 1, 1) := by decide +kernel
theorem dX3_pointsLeft_3 : decode cX3_pointsLeft 3 = .ok (.iconst 0, 1) := by decide +kernel
theorem dX3_pointsLeft_4 : decode cX3_pointsLeft 4 = .ok (.istore_n 2, 1) := by decide +kernel
theorem dX3_pointsLeft_5 : decode cX3_pointsLeft 5 = .ok (.iload_n 2, 1) := by decide +kernel
theorem dX3_pointsLeft_6 : decode cX3_pointsLeft 6 = .ok (.iconst 4, 1) := by decide +kernel
theorem dX3_pointsLeft_7 : decode cX3_pointsLeft 7 = .ok (.if_icmp .ge 21, 3) := by decide +kernel
theorem dX3_pointsLeft_10 : decode cX3_pointsLeft 10 = .ok (.iload_n 1, 1) := by decide +kernel
theorem dX3_pointsLeft_11 : decode cX3_pointsLeft 11 = .ok (.aload_n 0, 1) := by decide +kernel
theorem dX3_pointsLeft_12 : decode cX3_pointsLeft 12 = .ok (.getfield 23, 3) := by decide +kernel
theorem dX3_pointsLeft_15 : decode cX3_pointsLeft 15 = .ok (.iload_n 2, 1) := by decide +kernel
theorem dX3_pointsLeft_16 : decode cX3_pointsLeft 16 = .ok (.iaload, 1) := by decide +kernel
theorem dX3_pointsLeft_17 : decode cX3_pointsLeft 17 = .ok (.invokestatic 130, 3) := by decide +kernel
theorem dX3_pointsLeft_20 : decode cX3_pointsLeft 20 = .ok (.isub, 1) := by decide +kernel
theorem dX3_pointsLeft_21 : decode cX3_pointsLeft 21 = .ok (.istore_n 1, 1) := by decide +kernel
theorem dX3_pointsLeft_22 : decode cX3_pointsLeft 22 = .ok (.iinc 2 1, 3) := by decide +kernel
theorem dX3_pointsLeft_25 : decode cX3_pointsLeft 25 = .ok (.goto (-20), 3) := by decide +kernel
theorem dX3_pointsLeft_28 : decode cX3_pointsLeft 28 = .ok (.iload_n 1, 1) := by decide +kernel
theorem dX3_pointsLeft_29 : decode cX3_pointsLeft 29 = .ok (.ireturn, 1) := by decide +kernel
theorem dX3_modifierOf_0 : decode cX3_modifierOf 0 = .ok (.iload_n 1, 1) := by decide +kernel
theorem dX3_modifierOf_1 : decode cX3_modifierOf 1 = .ok (.iconst 4, 1) := by decide +kernel
theorem dX3_modifierOf_2 : decode cX3_modifierOf 2 = .ok (.invokestatic 53, 3) := by decide +kernel
theorem dX3_modifierOf_5 : decode cX3_modifierOf 5 = .ok (.ifCond .eq 19, 3) := by decide +kernel
theorem dX3_modifierOf_8 : decode cX3_modifierOf 8 = .ok (.aload_n 0, 1) := by decide +kernel
theorem dX3_modifierOf_9 : decode cX3_modifierOf 9 = .ok (.getfield 23, 3) := by decide +kernel
theorem dX3_modifierOf_12 : decode cX3_modifierOf 12 = .ok (.iload_n 1, 1) := by decide +kernel
theorem dX3_modifierOf_13 : decode cX3_modifierOf 13 = .ok (.iaload, 1) := by decide +kernel
theorem dX3_modifierOf_14 : decode cX3_modifierOf 14 = .ok (.bipush 10, 2) := by decide +kernel
theorem dX3_modifierOf_16 : decode cX3_modifierOf 16 = .ok (.isub, 1) := by decide +kernel
theorem dX3_modifierOf_17 : decode cX3_modifierOf 17 = .ok (.iconst 2, 1) := by decide +kernel
theorem dX3_modifierOf_18 : decode cX3_modifierOf 18 = .ok (.invokestatic 233, 3) := by decide +kernel
theorem dX3_modifierOf_21 : decode cX3_modifierOf 21 = .ok (.goto 4, 3) := by decide +kernel
theorem dX3_modifierOf_24 : decode cX3_modifierOf 24 = .ok (.iconst 0, 1) := by decide +kernel
theorem dX3_modifierOf_25 : decode cX3_modifierOf 25 = .ok (.ireturn, 1) := by decide +kernel
theorem dX3_placesAt_0 : decode cX3_placesAt 0 = .ok (.iconst 1, 1) := by decide +kernel
theorem dX3_placesAt_1 : decode cX3_placesAt 1 = .ok (.iload_n 0, 1) := by decide +kernel
theorem dX3_placesAt_2 : decode cX3_placesAt 2 = .ok (.iconst 2, 1) := by decide +kernel
theorem dX3_placesAt_3 : decode cX3_placesAt 3 = .ok (.idiv, 1) := by decide +kernel
theorem dX3_placesAt_4 : decode cX3_placesAt 4 = .ok (.iadd, 1) := by decide +kernel
theorem dX3_placesAt_5 : decode cX3_placesAt 5 = .ok (.ireturn, 1) := by decide +kernel
theorem dX3_hasScoreFor_0 : decode cX3_hasScoreFor 0 = .ok (.aload_n 0, 1) := by decide +kernel
theorem dX3_hasScoreFor_1 : decode cX3_hasScoreFor 1 = .ok (.getfield 12, 3) := by decide +kernel
theorem dX3_hasScoreFor_4 : decode cX3_hasScoreFor 4 = .ok (.getfield 78, 3) := by decide +kernel
theorem dX3_hasScoreFor_7 : decode cX3_hasScoreFor 7 = .ok (.iload_n 1, 1) := by decide +kernel
theorem dX3_hasScoreFor_8 : decode cX3_hasScoreFor 8 = .ok (.iaload, 1) := by decide +kernel
theorem dX3_hasScoreFor_9 : decode cX3_hasScoreFor 9 = .ok (.istore_n 2, 1) := by decide +kernel
theorem dX3_hasScoreFor_10 : decode cX3_hasScoreFor 10 = .ok (.iload_n 2, 1) := by decide +kernel
theorem dX3_hasScoreFor_11 : decode cX3_hasScoreFor 11 = .ok (.ifCond .lt 26, 3) := by decide +kernel
theorem dX3_hasScoreFor_14 : decode cX3_hasScoreFor 14 = .ok (.iload_n 2, 1) := by decide +kernel
theorem dX3_hasScoreFor_15 : decode cX3_hasScoreFor 15 = .ok (.iconst 4, 1) := by decide +kernel
theorem dX3_hasScoreFor_16 : decode cX3_hasScoreFor 16 = .ok (.if_icmp .ge 21, 3) := by decide +kernel
theorem dX3_hasScoreFor_19 : decode cX3_hasScoreFor 19 = .ok (.aload_n 0, 1) := by decide +kernel
theorem dX3_hasScoreFor_20 : decode cX3_hasScoreFor 20 = .ok (.getfield 23, 3) := by decide +kernel
theorem dX3_hasScoreFor_23 : decode cX3_hasScoreFor 23 = .ok (.iload_n 2, 1) := by decide +kernel
theorem dX3_hasScoreFor_24 : decode cX3_hasScoreFor 24 = .ok (.iaload, 1) := by decide +kernel
theorem dX3_hasScoreFor_25 : decode cX3_hasScoreFor 25 = .ok (.aload_n 0, 1) := by decide +kernel
theorem dX3_hasScoreFor_26 : decode cX3_hasScoreFor 26 = .ok (.getfield 12, 3) := by decide +kernel
theorem dX3_hasScoreFor_29 : decode cX3_hasScoreFor 29 = .ok (.getfield 81, 3) := by decide +kernel
theorem dX3_hasScoreFor_32 : decode cX3_hasScoreFor 32 = .ok (.iload_n 1, 1) := by decide +kernel
theorem dX3_hasScoreFor_33 : decode cX3_hasScoreFor 33 = .ok (.iaload, 1) := by decide +kernel
theorem dX3_hasScoreFor_34 : decode cX3_hasScoreFor 34 = .ok (.if_icmp .lt 7, 3) := by decide +kernel
theorem dX3_hasScoreFor_37 : decode cX3_hasScoreFor 37 = .ok (.iconst 1, 1) := by decide +kernel
theorem dX3_hasScoreFor_38 : decode cX3_hasScoreFor 38 = .ok (.goto 4, 3) := by decide +kernel
theorem dX3_hasScoreFor_41 : decode cX3_hasScoreFor 41 = .ok (.iconst 0, 1) := by decide +kernel
theorem dX3_hasScoreFor_42 : decode cX3_hasScoreFor 42 = .ok (.ireturn, 1) := by decide +kernel
theorem dX3_hasLevelFor_0 : decode cX3_hasLevelFor 0 = .ok (.aload_n 0, 1) := by decide +kernel
theorem dX3_hasLevelFor_1 : decode cX3_hasLevelFor 1 = .ok (.getfield 12, 3) := by decide +kernel
theorem dX3_hasLevelFor_4 : decode cX3_hasLevelFor 4 = .ok (.getfield 84, 3) := by decide +kernel
theorem dX3_hasLevelFor_7 : decode cX3_hasLevelFor 7 = .ok (.iload_n 2, 1) := by decide +kernel
theorem dX3_hasLevelFor_8 : decode cX3_hasLevelFor 8 = .ok (.iaload, 1) := by decide +kernel
theorem dX3_hasLevelFor_9 : decode cX3_hasLevelFor 9 = .ok (.istore_n 3, 1) := by decide +kernel
theorem dX3_hasLevelFor_10 : decode cX3_hasLevelFor 10 = .ok (.iload_n 3, 1) := by decide +kernel
theorem dX3_hasLevelFor_11 : decode cX3_hasLevelFor 11 = .ok (.ifCond .lt 26, 3) := by decide +kernel
theorem dX3_hasLevelFor_14 : decode cX3_hasLevelFor 14 = .ok (.iload_n 3, 1) := by decide +kernel
theorem dX3_hasLevelFor_15 : decode cX3_hasLevelFor 15 = .ok (.iconst 3, 1) := by decide +kernel
theorem dX3_hasLevelFor_16 : decode cX3_hasLevelFor 16 = .ok (.if_icmp .ge 21, 3) := by decide +kernel
theorem dX3_hasLevelFor_19 : decode cX3_hasLevelFor 19 = .ok (.aload_n 1, 1) := by decide +kernel
theorem dX3_hasLevelFor_20 : decode cX3_hasLevelFor 20 = .ok (.getfield 236, 3) := by decide +kernel
theorem dX3_hasLevelFor_23 : decode cX3_hasLevelFor 23 = .ok (.iload_n 3, 1) := by decide +kernel
theorem dX3_hasLevelFor_24 : decode cX3_hasLevelFor 24 = .ok (.iaload, 1) := by decide +kernel
theorem dX3_hasLevelFor_25 : decode cX3_hasLevelFor 25 = .ok (.aload_n 0, 1) := by decide +kernel
theorem dX3_hasLevelFor_26 : decode cX3_hasLevelFor 26 = .ok (.getfield 12, 3) := by decide +kernel
theorem dX3_hasLevelFor_29 : decode cX3_hasLevelFor 29 = .ok (.getfield 87, 3) := by decide +kernel
theorem dX3_hasLevelFor_32 : decode cX3_hasLevelFor 32 = .ok (.iload_n 2, 1) := by decide +kernel
theorem dX3_hasLevelFor_33 : decode cX3_hasLevelFor 33 = .ok (.iaload, 1) := by decide +kernel
theorem dX3_hasLevelFor_34 : decode cX3_hasLevelFor 34 = .ok (.if_icmp .lt 7, 3) := by decide +kernel
theorem dX3_hasLevelFor_37 : decode cX3_hasLevelFor 37 = .ok (.iconst 1, 1) := by decide +kernel
theorem dX3_hasLevelFor_38 : decode cX3_hasLevelFor 38 = .ok (.goto 4, 3) := by decide +kernel
theorem dX3_hasLevelFor_41 : decode cX3_hasLevelFor 41 = .ok (.iconst 0, 1) := by decide +kernel
theorem dX3_hasLevelFor_42 : decode cX3_hasLevelFor 42 = .ok (.ireturn, 1) := by decide +kernel
theorem dX3_isOtherIn_0 : decode cX3_isOtherIn 0 = .ok (.aload_n 0, 1) := by decide +kernel
theorem dX3_isOtherIn_1 : decode cX3_isOtherIn 1 = .ok (.getfield 12, 3) := by decide +kernel
theorem dX3_isOtherIn_4 : decode cX3_isOtherIn 4 = .ok (.getfield 90, 3) := by decide +kernel
theorem dX3_isOtherIn_7 : decode cX3_isOtherIn 7 = .ok (.iload_n 2, 1) := by decide +kernel
theorem dX3_isOtherIn_8 : decode cX3_isOtherIn 8 = .ok (.iaload, 1) := by decide +kernel
theorem dX3_isOtherIn_9 : decode cX3_isOtherIn 9 = .ok (.istore_n 3, 1) := by decide +kernel
theorem dX3_isOtherIn_10 : decode cX3_isOtherIn 10 = .ok (.iload_n 3, 1) := by decide +kernel
theorem dX3_isOtherIn_11 : decode cX3_isOtherIn 11 = .ok (.iconst (-1), 1) := by decide +kernel
theorem dX3_isOtherIn_12 : decode cX3_isOtherIn 12 = .ok (.if_icmp .eq 11, 3) := by decide +kernel
theorem dX3_isOtherIn_15 : decode cX3_isOtherIn 15 = .ok (.iload_n 1, 1) := by decide +kernel
theorem dX3_isOtherIn_16 : decode cX3_isOtherIn 16 = .ok (.iload_n 3, 1) := by decide +kernel
theorem dX3_isOtherIn_17 : decode cX3_isOtherIn 17 = .ok (.ishr, 1) := by decide +kernel
theorem dX3_isOtherIn_18 : decode cX3_isOtherIn 18 = .ok (.iconst 1, 1) := by decide +kernel
theorem dX3_isOtherIn_19 : decode cX3_isOtherIn 19 = .ok (.iand, 1) := by decide +kernel
theorem dX3_isOtherIn_20 : decode cX3_isOtherIn 20 = .ok (.ifCond .eq 7, 3) := by decide +kernel
theorem dX3_isOtherIn_23 : decode cX3_isOtherIn 23 = .ok (.iconst 1, 1) := by decide +kernel
theorem dX3_isOtherIn_24 : decode cX3_isOtherIn 24 = .ok (.goto 4, 3) := by decide +kernel
theorem dX3_isOtherIn_27 : decode cX3_isOtherIn 27 = .ok (.iconst 0, 1) := by decide +kernel
theorem dX3_isOtherIn_28 : decode cX3_isOtherIn 28 = .ok (.ireturn, 1) := by decide +kernel
theorem dX3_isBarred_0 : decode cX3_isBarred 0 = .ok (.aload_n 0, 1) := by decide +kernel
theorem dX3_isBarred_1 : decode cX3_isBarred 1 = .ok (.getfield 12, 3) := by decide +kernel
theorem dX3_isBarred_4 : decode cX3_isBarred 4 = .ok (.getfield 95, 3) := by decide +kernel
theorem dX3_isBarred_7 : decode cX3_isBarred 7 = .ok (.iload_n 2, 1) := by decide +kernel
theorem dX3_isBarred_8 : decode cX3_isBarred 8 = .ok (.iaload, 1) := by decide +kernel
theorem dX3_isBarred_9 : decode cX3_isBarred 9 = .ok (.istore_n 3, 1) := by decide +kernel
theorem dX3_isBarred_10 : decode cX3_isBarred 10 = .ok (.iload_n 3, 1) := by decide +kernel
theorem dX3_isBarred_11 : decode cX3_isBarred 11 = .ok (.ifCond .lt 30, 3) := by decide +kernel
theorem dX3_isBarred_14 : decode cX3_isBarred 14 = .ok (.iload_n 3, 1) := by decide +kernel
theorem dX3_isBarred_15 : decode cX3_isBarred 15 = .ok (.iconst 3, 1) := by decide +kernel
theorem dX3_isBarred_16 : decode cX3_isBarred 16 = .ok (.if_icmp .ge 25, 3) := by decide +kernel
theorem dX3_isBarred_19 : decode cX3_isBarred 19 = .ok (.aload_n 1, 1) := by decide +kernel
theorem dX3_isBarred_20 : decode cX3_isBarred 20 = .ok (.getfield 236, 3) := by decide +kernel
theorem dX3_isBarred_23 : decode cX3_isBarred 23 = .ok (.iload_n 3, 1) := by decide +kernel
theorem dX3_isBarred_24 : decode cX3_isBarred 24 = .ok (.iaload, 1) := by decide +kernel
theorem dX3_isBarred_25 : decode cX3_isBarred 25 = .ok (.aload_n 0, 1) := by decide +kernel
theorem dX3_isBarred_26 : decode cX3_isBarred 26 = .ok (.getfield 12, 3) := by decide +kernel
theorem dX3_isBarred_29 : decode cX3_isBarred 29 = .ok (.getfield 98, 3) := by decide +kernel
theorem dX3_isBarred_32 : decode cX3_isBarred 32 = .ok (.iload_n 2, 1) := by decide +kernel
theorem dX3_isBarred_33 : decode cX3_isBarred 33 = .ok (.iaload, 1) := by decide +kernel
theorem dX3_isBarred_34 : decode cX3_isBarred 34 = .ok (.if_icmp .le 7, 3) := by decide +kernel
theorem dX3_isBarred_37 : decode cX3_isBarred 37 = .ok (.iconst 1, 1) := by decide +kernel
theorem dX3_isBarred_38 : decode cX3_isBarred 38 = .ok (.goto 4, 3) := by decide +kernel
theorem dX3_isBarred_41 : decode cX3_isBarred 41 = .ok (.iconst 0, 1) := by decide +kernel
theorem dX3_isBarred_42 : decode cX3_isBarred 42 = .ok (.ireturn, 1) := by decide +kernel
theorem dX3_mayTake_0 : decode cX3_mayTake 0 = .ok (.aload_n 1, 1) := by decide +kernel
theorem dX3_mayTake_1 : decode cX3_mayTake 1 = .ok (.iload_n 2, 1) := by decide +kernel
theorem dX3_mayTake_2 : decode cX3_mayTake 2 = .ok (.invokevirtual 165, 3) := by decide +kernel
theorem dX3_mayTake_5 : decode cX3_mayTake 5 = .ok (.ifCond .ne 62, 3) := by decide +kernel
theorem dX3_mayTake_8 : decode cX3_mayTake 8 = .ok (.aload_n 1, 1) := by decide +kernel
theorem dX3_mayTake_9 : decode cX3_mayTake 9 = .ok (.getfield 155, 3) := by decide +kernel
theorem dX3_mayTake_12 : decode cX3_mayTake 12 = .ok (.invokestatic 177, 3) := by decide +kernel
theorem dX3_mayTake_15 : decode cX3_mayTake 15 = .ok (.aload_n 1, 1) := by decide +kernel
theorem dX3_mayTake_16 : decode cX3_mayTake 16 = .ok (.invokevirtual 191, 3) := by decide +kernel
theorem dX3_mayTake_19 : decode cX3_mayTake 19 = .ok (.invokestatic 194, 3) := by decide +kernel
theorem dX3_mayTake_22 : decode cX3_mayTake 22 = .ok (.if_icmp .ge 45, 3) := by decide +kernel
theorem dX3_mayTake_25 : decode cX3_mayTake 25 = .ok (.aload_n 0, 1) := by decide +kernel
theorem dX3_mayTake_26 : decode cX3_mayTake 26 = .ok (.iload_n 2, 1) := by decide +kernel
theorem dX3_mayTake_27 : decode cX3_mayTake 27 = .ok (.invokevirtual 239, 3) := by decide +kernel
theorem dX3_mayTake_30 : decode cX3_mayTake 30 = .ok (.ifCond .eq 37, 3) := by decide +kernel
theorem dX3_mayTake_33 : decode cX3_mayTake 33 = .ok (.aload_n 0, 1) := by decide +kernel
theorem dX3_mayTake_34 : decode cX3_mayTake 34 = .ok (.aload_n 1, 1) := by decide +kernel
theorem dX3_mayTake_35 : decode cX3_mayTake 35 = .ok (.iload_n 2, 1) := by decide +kernel
theorem dX3_mayTake_36 : decode cX3_mayTake 36 = .ok (.invokevirtual 242, 3) := by decide +kernel
theorem dX3_mayTake_39 : decode cX3_mayTake 39 = .ok (.ifCond .eq 28, 3) := by decide +kernel
theorem dX3_mayTake_42 : decode cX3_mayTake 42 = .ok (.aload_n 0, 1) := by decide +kernel
theorem dX3_mayTake_43 : decode cX3_mayTake 43 = .ok (.aload_n 1, 1) := by decide +kernel
theorem dX3_mayTake_44 : decode cX3_mayTake 44 = .ok (.getfield 155, 3) := by decide +kernel
theorem dX3_mayTake_47 : decode cX3_mayTake 47 = .ok (.iload_n 2, 1) := by decide +kernel
theorem dX3_mayTake_48 : decode cX3_mayTake 48 = .ok (.invokevirtual 245, 3) := by decide +kernel
theorem dX3_mayTake_51 : decode cX3_mayTake 51 = .ok (.ifCond .eq 16, 3) := by decide +kernel
theorem dX3_mayTake_54 : decode cX3_mayTake 54 = .ok (.aload_n 0, 1) := by decide +kernel
theorem dX3_mayTake_55 : decode cX3_mayTake 55 = .ok (.aload_n 1, 1) := by decide +kernel
theorem dX3_mayTake_56 : decode cX3_mayTake 56 = .ok (.iload_n 2, 1) := by decide +kernel
theorem dX3_mayTake_57 : decode cX3_mayTake 57 = .ok (.invokevirtual 248, 3) := by decide +kernel
theorem dX3_mayTake_60 : decode cX3_mayTake 60 = .ok (.ifCond .ne 7, 3) := by decide +kernel
theorem dX3_mayTake_63 : decode cX3_mayTake 63 = .ok (.iconst 1, 1) := by decide +kernel
theorem dX3_mayTake_64 : decode cX3_mayTake 64 = .ok (.goto 4, 3) := by decide +kernel
theorem dX3_mayTake_67 : decode cX3_mayTake 67 = .ok (.iconst 0, 1) := by decide +kernel
theorem dX3_mayTake_68 : decode cX3_mayTake 68 = .ok (.ireturn, 1) := by decide +kernel
theorem dX3_workingAmong_0 : decode cX3_workingAmong 0 = .ok (.iconst 0, 1) := by decide +kernel
theorem dX3_workingAmong_1 : decode cX3_workingAmong 1 = .ok (.istore_n 2, 1) := by decide +kernel
theorem dX3_workingAmong_2 : decode cX3_workingAmong 2 = .ok (.iconst 0, 1) := by decide +kernel
theorem dX3_workingAmong_3 : decode cX3_workingAmong 3 = .ok (.istore_n 3, 1) := by decide +kernel
theorem dX3_workingAmong_4 : decode cX3_workingAmong 4 = .ok (.iload_n 3, 1) := by decide +kernel
theorem dX3_workingAmong_5 : decode cX3_workingAmong 5 = .ok (.bipush 8, 2) := by decide +kernel
theorem dX3_workingAmong_7 : decode cX3_workingAmong 7 = .ok (.if_icmp .ge 73, 3) := by decide +kernel
theorem dX3_workingAmong_10 : decode cX3_workingAmong 10 = .ok (.iconst 0, 1) := by decide +kernel
theorem dX3_workingAmong_11 : decode cX3_workingAmong 11 = .ok (.istore 4, 2) := by decide +kernel
theorem dX3_workingAmong_13 : decode cX3_workingAmong 13 = .ok (.iload 4, 2) := by decide +kernel
theorem dX3_workingAmong_15 : decode cX3_workingAmong 15 = .ok (.bipush 8, 2) := by decide +kernel
theorem dX3_workingAmong_17 : decode cX3_workingAmong 17 = .ok (.if_icmp .ge 57, 3) := by decide +kernel
theorem dX3_workingAmong_20 : decode cX3_workingAmong 20 = .ok (.iload_n 1, 1) := by decide +kernel
theorem dX3_workingAmong_21 : decode cX3_workingAmong 21 = .ok (.iload 4, 2) := by decide +kernel
theorem dX3_workingAmong_23 : decode cX3_workingAmong 23 = .ok (.ishr, 1) := by decide +kernel
theorem dX3_workingAmong_24 : decode cX3_workingAmong 24 = .ok (.iconst 1, 1) := by decide +kernel
theorem dX3_workingAmong_25 : decode cX3_workingAmong 25 = .ok (.iand, 1) := by decide +kernel
theorem dX3_workingAmong_26 : decode cX3_workingAmong 26 = .ok (.ifCond .eq 42, 3) := by decide +kernel
theorem dX3_workingAmong_29 : decode cX3_workingAmong 29 = .ok (.aload_n 0, 1) := by decide +kernel
theorem dX3_workingAmong_30 : decode cX3_workingAmong 30 = .ok (.iload 4, 2) := by decide +kernel
theorem dX3_workingAmong_32 : decode cX3_workingAmong 32 = .ok (.invokevirtual 239, 3) := by decide +kernel
theorem dX3_workingAmong_35 : decode cX3_workingAmong 35 = .ok (.ifCond .eq 33, 3) := by decide +kernel
theorem dX3_workingAmong_38 : decode cX3_workingAmong 38 = .ok (.aload_n 0, 1) := by decide +kernel
theorem dX3_workingAmong_39 : decode cX3_workingAmong 39 = .ok (.aload_n 0, 1) := by decide +kernel
theorem dX3_workingAmong_40 : decode cX3_workingAmong 40 = .ok (.getfield 30, 3) := by decide +kernel
theorem dX3_workingAmong_43 : decode cX3_workingAmong 43 = .ok (.iload 4, 2) := by decide +kernel
theorem dX3_workingAmong_45 : decode cX3_workingAmong 45 = .ok (.invokevirtual 242, 3) := by decide +kernel
theorem dX3_workingAmong_48 : decode cX3_workingAmong 48 = .ok (.ifCond .eq 20, 3) := by decide +kernel
theorem dX3_workingAmong_51 : decode cX3_workingAmong 51 = .ok (.aload_n 0, 1) := by decide +kernel
theorem dX3_workingAmong_52 : decode cX3_workingAmong 52 = .ok (.iload_n 2, 1) := by decide +kernel
theorem dX3_workingAmong_53 : decode cX3_workingAmong 53 = .ok (.iload 4, 2) := by decide +kernel
theorem dX3_workingAmong_55 : decode cX3_workingAmong 55 = .ok (.invokevirtual 245, 3) := by decide +kernel
theorem dX3_workingAmong_58 : decode cX3_workingAmong 58 = .ok (.ifCond .eq 10, 3) := by decide +kernel
theorem dX3_workingAmong_61 : decode cX3_workingAmong 61 = .ok (.iload_n 2, 1) := by decide +kernel
theorem dX3_workingAmong_62 : decode cX3_workingAmong 62 = .ok (.iconst 1, 1) := by decide +kernel
theorem dX3_workingAmong_63 : decode cX3_workingAmong 63 = .ok (.iload 4, 2) := by decide +kernel
theorem dX3_workingAmong_65 : decode cX3_workingAmong 65 = .ok (.ishl, 1) := by decide +kernel
theorem dX3_workingAmong_66 : decode cX3_workingAmong 66 = .ok (.ior, 1) := by decide +kernel
theorem dX3_workingAmong_67 : decode cX3_workingAmong 67 = .ok (.istore_n 2, 1) := by decide +kernel
theorem dX3_workingAmong_68 : decode cX3_workingAmong 68 = .ok (.iinc 4 1, 3) := by decide +kernel
theorem dX3_workingAmong_71 : decode cX3_workingAmong 71 = .ok (.goto (-58), 3) := by decide +kernel
theorem dX3_workingAmong_74 : decode cX3_workingAmong 74 = .ok (.iinc 3 1, 3) := by decide +kernel
theorem dX3_workingAmong_77 : decode cX3_workingAmong 77 = .ok (.goto (-73), 3) := by decide +kernel
theorem dX3_workingAmong_80 : decode cX3_workingAmong 80 = .ok (.iload_n 2, 1) := by decide +kernel
theorem dX3_workingAmong_81 : decode cX3_workingAmong 81 = .ok (.ireturn, 1) := by decide +kernel
theorem dX3_bonusFrom_0 : decode cX3_bonusFrom 0 = .ok (.iconst 0, 1) := by decide +kernel
theorem dX3_bonusFrom_1 : decode cX3_bonusFrom 1 = .ok (.istore 4, 2) := by decide +kernel
theorem dX3_bonusFrom_3 : decode cX3_bonusFrom 3 = .ok (.iconst 0, 1) := by decide +kernel
theorem dX3_bonusFrom_4 : decode cX3_bonusFrom 4 = .ok (.istore 5, 2) := by decide +kernel
theorem dX3_bonusFrom_6 : decode cX3_bonusFrom 6 = .ok (.iconst 0, 1) := by decide +kernel
theorem dX3_bonusFrom_7 : decode cX3_bonusFrom 7 = .ok (.istore 6, 2) := by decide +kernel
theorem dX3_bonusFrom_9 : decode cX3_bonusFrom 9 = .ok (.iload 6, 2) := by decide +kernel
theorem dX3_bonusFrom_11 : decode cX3_bonusFrom 11 = .ok (.bipush 8, 2) := by decide +kernel
theorem dX3_bonusFrom_13 : decode cX3_bonusFrom 13 = .ok (.if_icmp .ge 86, 3) := by decide +kernel
theorem dX3_bonusFrom_16 : decode cX3_bonusFrom 16 = .ok (.iload_n 1, 1) := by decide +kernel
theorem dX3_bonusFrom_17 : decode cX3_bonusFrom 17 = .ok (.iload 6, 2) := by decide +kernel
theorem dX3_bonusFrom_19 : decode cX3_bonusFrom 19 = .ok (.ishr, 1) := by decide +kernel
theorem dX3_bonusFrom_20 : decode cX3_bonusFrom 20 = .ok (.iconst 1, 1) := by decide +kernel
theorem dX3_bonusFrom_21 : decode cX3_bonusFrom 21 = .ok (.iand, 1) := by decide +kernel
theorem dX3_bonusFrom_22 : decode cX3_bonusFrom 22 = .ok (.ifCond .eq 71, 3) := by decide +kernel
theorem dX3_bonusFrom_25 : decode cX3_bonusFrom 25 = .ok (.aload_n 0, 1) := by decide +kernel
theorem dX3_bonusFrom_26 : decode cX3_bonusFrom 26 = .ok (.getfield 12, 3) := by decide +kernel
theorem dX3_bonusFrom_29 : decode cX3_bonusFrom 29 = .ok (.getfield 105, 3) := by decide +kernel
theorem dX3_bonusFrom_32 : decode cX3_bonusFrom 32 = .ok (.iload 6, 2) := by decide +kernel
theorem dX3_bonusFrom_34 : decode cX3_bonusFrom 34 = .ok (.iaload, 1) := by decide +kernel
theorem dX3_bonusFrom_35 : decode cX3_bonusFrom 35 = .ok (.iload_n 2, 1) := by decide +kernel
theorem dX3_bonusFrom_36 : decode cX3_bonusFrom 36 = .ok (.if_icmp .ne 57, 3) := by decide +kernel
theorem dX3_bonusFrom_39 : decode cX3_bonusFrom 39 = .ok (.aload_n 0, 1) := by decide +kernel
theorem dX3_bonusFrom_40 : decode cX3_bonusFrom 40 = .ok (.getfield 12, 3) := by decide +kernel
theorem dX3_bonusFrom_43 : decode cX3_bonusFrom 43 = .ok (.getfield 108, 3) := by decide +kernel
theorem dX3_bonusFrom_46 : decode cX3_bonusFrom 46 = .ok (.iload 6, 2) := by decide +kernel
theorem dX3_bonusFrom_48 : decode cX3_bonusFrom 48 = .ok (.iaload, 1) := by decide +kernel
theorem dX3_bonusFrom_49 : decode cX3_bonusFrom 49 = .ok (.iload_n 3, 1) := by decide +kernel
theorem dX3_bonusFrom_50 : decode cX3_bonusFrom 50 = .ok (.if_icmp .ne 43, 3) := by decide +kernel
theorem dX3_bonusFrom_53 : decode cX3_bonusFrom 53 = .ok (.aload_n 0, 1) := by decide +kernel
theorem dX3_bonusFrom_54 : decode cX3_bonusFrom 54 = .ok (.getfield 12, 3) := by decide +kernel
theorem dX3_bonusFrom_57 : decode cX3_bonusFrom 57 = .ok (.getfield 111, 3) := by decide +kernel
theorem dX3_bonusFrom_60 : decode cX3_bonusFrom 60 = .ok (.iload 6, 2) := by decide +kernel
theorem dX3_bonusFrom_62 : decode cX3_bonusFrom 62 = .ok (.iaload, 1) := by decide +kernel
theorem dX3_bonusFrom_63 : decode cX3_bonusFrom 63 = .ok (.istore 7, 2) := by decide +kernel
theorem dX3_bonusFrom_65 : decode cX3_bonusFrom 65 = .ok (.iload_n 3, 1) := by decide +kernel
theorem dX3_bonusFrom_66 : decode cX3_bonusFrom 66 = .ok (.ifCond .eq 8, 3) := by decide +kernel
theorem dX3_bonusFrom_69 : decode cX3_bonusFrom 69 = .ok (.iload 7, 2) := by decide +kernel
theorem dX3_bonusFrom_71 : decode cX3_bonusFrom 71 = .ok (.ifCond .ge 13, 3) := by decide +kernel
theorem dX3_bonusFrom_74 : decode cX3_bonusFrom 74 = .ok (.iload 4, 2) := by decide +kernel
theorem dX3_bonusFrom_76 : decode cX3_bonusFrom 76 = .ok (.iload 7, 2) := by decide +kernel
theorem dX3_bonusFrom_78 : decode cX3_bonusFrom 78 = .ok (.iadd, 1) := by decide +kernel
theorem dX3_bonusFrom_79 : decode cX3_bonusFrom 79 = .ok (.istore 4, 2) := by decide +kernel
theorem dX3_bonusFrom_81 : decode cX3_bonusFrom 81 = .ok (.goto 12, 3) := by decide +kernel
theorem dX3_bonusFrom_84 : decode cX3_bonusFrom 84 = .ok (.iload 5, 2) := by decide +kernel
theorem dX3_bonusFrom_86 : decode cX3_bonusFrom 86 = .ok (.iload 7, 2) := by decide +kernel
theorem dX3_bonusFrom_88 : decode cX3_bonusFrom 88 = .ok (.invokestatic 227, 3) := by decide +kernel
theorem dX3_bonusFrom_91 : decode cX3_bonusFrom 91 = .ok (.istore 5, 2) := by decide +kernel
theorem dX3_bonusFrom_93 : decode cX3_bonusFrom 93 = .ok (.iinc 6 1, 3) := by decide +kernel
theorem dX3_bonusFrom_96 : decode cX3_bonusFrom 96 = .ok (.goto (-87), 3) := by decide +kernel
theorem dX3_bonusFrom_99 : decode cX3_bonusFrom 99 = .ok (.iload 4, 2) := by decide +kernel
theorem dX3_bonusFrom_101 : decode cX3_bonusFrom 101 = .ok (.iload 5, 2) := by decide +kernel
theorem dX3_bonusFrom_103 : decode cX3_bonusFrom 103 = .ok (.iadd, 1) := by decide +kernel
theorem dX3_bonusFrom_104 : decode cX3_bonusFrom 104 = .ok (.ireturn, 1) := by decide +kernel
theorem dX3_sumOf_0 : decode cX3_sumOf 0 = .ok (.iload_n 1, 1) := by decide +kernel
theorem dX3_sumOf_1 : decode cX3_sumOf 1 = .ok (.bipush 6, 2) := by decide +kernel
theorem dX3_sumOf_3 : decode cX3_sumOf 3 = .ok (.invokestatic 53, 3) := by decide +kernel
theorem dX3_sumOf_6 : decode cX3_sumOf 6 = .ok (.ifCond .eq 9, 3) := by decide +kernel
theorem dX3_sumOf_9 : decode cX3_sumOf 9 = .ok (.iload_n 3, 1) := by decide +kernel
theorem dX3_sumOf_10 : decode cX3_sumOf 10 = .ok (.bipush 6, 2) := by decide +kernel
theorem dX3_sumOf_12 : decode cX3_sumOf 12 = .ok (.if_icmp .lt 5, 3) := by decide +kernel
theorem dX3_sumOf_15 : decode cX3_sumOf 15 = .ok (.iconst 0, 1) := by decide +kernel
theorem dX3_sumOf_16 : decode cX3_sumOf 16 = .ok (.ireturn, 1) := by decide +kernel
theorem dX3_sumOf_17 : decode cX3_sumOf 17 = .ok (.aload_n 0, 1) := by decide +kernel
theorem dX3_sumOf_18 : decode cX3_sumOf 18 = .ok (.getfield 19, 3) := by decide +kernel
theorem dX3_sumOf_21 : decode cX3_sumOf 21 = .ok (.getfield 118, 3) := by decide +kernel
theorem dX3_sumOf_24 : decode cX3_sumOf 24 = .ok (.iload_n 1, 1) := by decide +kernel
theorem dX3_sumOf_25 : decode cX3_sumOf 25 = .ok (.iaload, 1) := by decide +kernel
theorem dX3_sumOf_26 : decode cX3_sumOf 26 = .ok (.aload_n 0, 1) := by decide +kernel
theorem dX3_sumOf_27 : decode cX3_sumOf 27 = .ok (.aload_n 0, 1) := by decide +kernel
theorem dX3_sumOf_28 : decode cX3_sumOf 28 = .ok (.getfield 19, 3) := by decide +kernel
theorem dX3_sumOf_31 : decode cX3_sumOf 31 = .ok (.getfield 121, 3) := by decide +kernel
theorem dX3_sumOf_34 : decode cX3_sumOf 34 = .ok (.iload_n 1, 1) := by decide +kernel
theorem dX3_sumOf_35 : decode cX3_sumOf 35 = .ok (.iaload, 1) := by decide +kernel
theorem dX3_sumOf_36 : decode cX3_sumOf 36 = .ok (.invokevirtual 251, 3) := by decide +kernel
theorem dX3_sumOf_39 : decode cX3_sumOf 39 = .ok (.iadd, 1) := by decide +kernel
theorem dX3_sumOf_40 : decode cX3_sumOf 40 = .ok (.aload_n 0, 1) := by decide +kernel
theorem dX3_sumOf_41 : decode cX3_sumOf 41 = .ok (.getfield 30, 3) := by decide +kernel
theorem dX3_sumOf_44 : decode cX3_sumOf 44 = .ok (.aload_n 0, 1) := by decide +kernel
theorem dX3_sumOf_45 : decode cX3_sumOf 45 = .ok (.getfield 19, 3) := by decide +kernel
theorem dX3_sumOf_48 : decode cX3_sumOf 48 = .ok (.getfield 122, 3) := by decide +kernel
theorem dX3_sumOf_51 : decode cX3_sumOf 51 = .ok (.iload_n 1, 1) := by decide +kernel
theorem dX3_sumOf_52 : decode cX3_sumOf 52 = .ok (.iaload, 1) := by decide +kernel
theorem dX3_sumOf_53 : decode cX3_sumOf 53 = .ok (.invokevirtual 188, 3) := by decide +kernel
theorem dX3_sumOf_56 : decode cX3_sumOf 56 = .ok (.iadd, 1) := by decide +kernel
theorem dX3_sumOf_57 : decode cX3_sumOf 57 = .ok (.aload_n 0, 1) := by decide +kernel
theorem dX3_sumOf_58 : decode cX3_sumOf 58 = .ok (.aload_n 0, 1) := by decide +kernel
theorem dX3_sumOf_59 : decode cX3_sumOf 59 = .ok (.getfield 19, 3) := by decide +kernel
theorem dX3_sumOf_62 : decode cX3_sumOf 62 = .ok (.getfield 123, 3) := by decide +kernel
theorem dX3_sumOf_65 : decode cX3_sumOf 65 = .ok (.iload_n 1, 1) := by decide +kernel
theorem dX3_sumOf_66 : decode cX3_sumOf 66 = .ok (.iaload, 1) := by decide +kernel
theorem dX3_sumOf_67 : decode cX3_sumOf 67 = .ok (.iload_n 2, 1) := by decide +kernel
theorem dX3_sumOf_68 : decode cX3_sumOf 68 = .ok (.iload_n 3, 1) := by decide +kernel
theorem dX3_sumOf_69 : decode cX3_sumOf 69 = .ok (.iconst 1, 1) := by decide +kernel
theorem dX3_sumOf_70 : decode cX3_sumOf 70 = .ok (.iadd, 1) := by decide +kernel
theorem dX3_sumOf_71 : decode cX3_sumOf 71 = .ok (.invokevirtual 204, 3) := by decide +kernel
theorem dX3_sumOf_74 : decode cX3_sumOf 74 = .ok (.iconst 2, 1) := by decide +kernel
theorem dX3_sumOf_75 : decode cX3_sumOf 75 = .ok (.invokestatic 233, 3) := by decide +kernel
theorem dX3_sumOf_78 : decode cX3_sumOf 78 = .ok (.iadd, 1) := by decide +kernel
theorem dX3_sumOf_79 : decode cX3_sumOf 79 = .ok (.istore 4, 2) := by decide +kernel
theorem dX3_sumOf_81 : decode cX3_sumOf 81 = .ok (.iconst 0, 1) := by decide +kernel
theorem dX3_sumOf_82 : decode cX3_sumOf 82 = .ok (.istore 5, 2) := by decide +kernel
theorem dX3_sumOf_84 : decode cX3_sumOf 84 = .ok (.iload 5, 2) := by decide +kernel
theorem dX3_sumOf_86 : decode cX3_sumOf 86 = .ok (.iconst 4, 1) := by decide +kernel
theorem dX3_sumOf_87 : decode cX3_sumOf 87 = .ok (.if_icmp .ge 22, 3) := by decide +kernel
theorem dX3_sumOf_90 : decode cX3_sumOf 90 = .ok (.iload 4, 2) := by decide +kernel
theorem dX3_sumOf_92 : decode cX3_sumOf 92 = .ok (.aload_n 0, 1) := by decide +kernel
theorem dX3_sumOf_93 : decode cX3_sumOf 93 = .ok (.iload_n 2, 1) := by decide +kernel
theorem dX3_sumOf_94 : decode cX3_sumOf 94 = .ok (.iload_n 1, 1) := by decide +kernel
theorem dX3_sumOf_95 : decode cX3_sumOf 95 = .ok (.iload 5, 2) := by decide +kernel
theorem dX3_sumOf_97 : decode cX3_sumOf 97 = .ok (.invokevirtual 210, 3) := by decide +kernel
theorem dX3_sumOf_100 : decode cX3_sumOf 100 = .ok (.iadd, 1) := by decide +kernel
theorem dX3_sumOf_101 : decode cX3_sumOf 101 = .ok (.istore 4, 2) := by decide +kernel
theorem dX3_sumOf_103 : decode cX3_sumOf 103 = .ok (.iinc 5 1, 3) := by decide +kernel
theorem dX3_sumOf_106 : decode cX3_sumOf 106 = .ok (.goto (-22), 3) := by decide +kernel
theorem dX3_sumOf_109 : decode cX3_sumOf 109 = .ok (.iload 4, 2) := by decide +kernel
theorem dX3_sumOf_111 : decode cX3_sumOf 111 = .ok (.ireturn, 1) := by decide +kernel
theorem dX3_leadsIntoRing_0 : decode cX3_leadsIntoRing 0 = .ok (.iload_n 1, 1) := by decide +kernel
theorem dX3_leadsIntoRing_1 : decode cX3_leadsIntoRing 1 = .ok (.istore_n 2, 1) := by decide +kernel
theorem dX3_leadsIntoRing_2 : decode cX3_leadsIntoRing 2 = .ok (.iconst 0, 1) := by decide +kernel
theorem dX3_leadsIntoRing_3 : decode cX3_leadsIntoRing 3 = .ok (.istore_n 3, 1) := by decide +kernel
theorem dX3_leadsIntoRing_4 : decode cX3_leadsIntoRing 4 = .ok (.iload_n 3, 1) := by decide +kernel
theorem dX3_leadsIntoRing_5 : decode cX3_leadsIntoRing 5 = .ok (.bipush 6, 2) := by decide +kernel
theorem dX3_leadsIntoRing_7 : decode cX3_leadsIntoRing 7 = .ok (.if_icmp .ge 28, 3) := by decide +kernel
theorem dX3_leadsIntoRing_10 : decode cX3_leadsIntoRing 10 = .ok (.iload_n 2, 1) := by decide +kernel
theorem dX3_leadsIntoRing_11 : decode cX3_leadsIntoRing 11 = .ok (.bipush 6, 2) := by decide +kernel
theorem dX3_leadsIntoRing_13 : decode cX3_leadsIntoRing 13 = .ok (.invokestatic 53, 3) := by decide +kernel
theorem dX3_leadsIntoRing_16 : decode cX3_leadsIntoRing 16 = .ok (.ifCond .eq 19, 3) := by decide +kernel
theorem dX3_leadsIntoRing_19 : decode cX3_leadsIntoRing 19 = .ok (.aload_n 0, 1) := by decide +kernel
theorem dX3_leadsIntoRing_20 : decode cX3_leadsIntoRing 20 = .ok (.getfield 19, 3) := by decide +kernel
theorem dX3_leadsIntoRing_23 : decode cX3_leadsIntoRing 23 = .ok (.getfield 123, 3) := by decide +kernel
theorem dX3_leadsIntoRing_26 : decode cX3_leadsIntoRing 26 = .ok (.iload_n 2, 1) := by decide +kernel
theorem dX3_leadsIntoRing_27 : decode cX3_leadsIntoRing 27 = .ok (.iaload, 1) := by decide +kernel
theorem dX3_leadsIntoRing_28 : decode cX3_leadsIntoRing 28 = .ok (.istore_n 2, 1) := by decide +kernel
theorem dX3_leadsIntoRing_29 : decode cX3_leadsIntoRing 29 = .ok (.iinc 3 1, 3) := by decide +kernel
theorem dX3_leadsIntoRing_32 : decode cX3_leadsIntoRing 32 = .ok (.goto (-28), 3) := by decide +kernel
theorem dX3_leadsIntoRing_35 : decode cX3_leadsIntoRing 35 = .ok (.iload_n 2, 1) := by decide +kernel
theorem dX3_leadsIntoRing_36 : decode cX3_leadsIntoRing 36 = .ok (.bipush 6, 2) := by decide +kernel
theorem dX3_leadsIntoRing_38 : decode cX3_leadsIntoRing 38 = .ok (.invokestatic 53, 3) := by decide +kernel
theorem dX3_leadsIntoRing_41 : decode cX3_leadsIntoRing 41 = .ok (.ireturn, 1) := by decide +kernel
theorem dX3_stepCount_0 : decode cX3_stepCount 0 = .ok (.aload_n 0, 1) := by decide +kernel
theorem dX3_stepCount_1 : decode cX3_stepCount 1 = .ok (.getfield 37, 3) := by decide +kernel
theorem dX3_stepCount_4 : decode cX3_stepCount 4 = .ok (.aload_n 0, 1) := by decide +kernel
theorem dX3_stepCount_5 : decode cX3_stepCount 5 = .ok (.getfield 30, 3) := by decide +kernel
theorem dX3_stepCount_8 : decode cX3_stepCount 8 = .ok (.invokevirtual 158, 3) := by decide +kernel
theorem dX3_stepCount_11 : decode cX3_stepCount 11 = .ok (.iadd, 1) := by decide +kernel
theorem dX3_stepCount_12 : decode cX3_stepCount 12 = .ok (.ireturn, 1) := by decide +kernel
theorem dX3_isStepTowards_0 : decode cX3_isStepTowards 0 = .ok (.iload_n 2, 1) := by decide +kernel
theorem dX3_isStepTowards_1 : decode cX3_isStepTowards 1 = .ok (.iconst 3, 1) := by decide +kernel
theorem dX3_isStepTowards_2 : decode cX3_isStepTowards 2 = .ok (.invokestatic 53, 3) := by decide +kernel
theorem dX3_isStepTowards_5 : decode cX3_isStepTowards 5 = .ok (.ifCond .eq 30, 3) := by decide +kernel
theorem dX3_isStepTowards_8 : decode cX3_isStepTowards 8 = .ok (.aload_n 0, 1) := by decide +kernel
theorem dX3_isStepTowards_9 : decode cX3_isStepTowards 9 = .ok (.getfield 41, 3) := by decide +kernel
theorem dX3_isStepTowards_12 : decode cX3_isStepTowards 12 = .ok (.getfield 236, 3) := by decide +kernel
theorem dX3_isStepTowards_15 : decode cX3_isStepTowards 15 = .ok (.iload_n 2, 1) := by decide +kernel
theorem dX3_isStepTowards_16 : decode cX3_isStepTowards 16 = .ok (.iaload, 1) := by decide +kernel
theorem dX3_isStepTowards_17 : decode cX3_isStepTowards 17 = .ok (.aload_n 0, 1) := by decide +kernel
theorem dX3_isStepTowards_18 : decode cX3_isStepTowards 18 = .ok (.getfield 30, 3) := by decide +kernel
theorem dX3_isStepTowards_21 : decode cX3_isStepTowards 21 = .ok (.getfield 236, 3) := by decide +kernel
theorem dX3_isStepTowards_24 : decode cX3_isStepTowards 24 = .ok (.iload_n 2, 1) := by decide +kernel
theorem dX3_isStepTowards_25 : decode cX3_isStepTowards 25 = .ok (.iaload, 1) := by decide +kernel
theorem dX3_isStepTowards_26 : decode cX3_isStepTowards 26 = .ok (.if_icmp .ge 7, 3) := by decide +kernel
theorem dX3_isStepTowards_29 : decode cX3_isStepTowards 29 = .ok (.iconst 1, 1) := by decide +kernel
theorem dX3_isStepTowards_30 : decode cX3_isStepTowards 30 = .ok (.goto 4, 3) := by decide +kernel
theorem dX3_isStepTowards_33 : decode cX3_isStepTowards 33 = .ok (.iconst 0, 1) := by decide +kernel
theorem dX3_isStepTowards_34 : decode cX3_isStepTowards 34 = .ok (.ireturn, 1) := by decide +kernel
theorem dX3_isStepTowards_35 : decode cX3_isStepTowards 35 = .ok (.iload_n 2, 1) := by decide +kernel
theorem dX3_isStepTowards_36 : decode cX3_isStepTowards 36 = .ok (.iconst 3, 1) := by decide +kernel
theorem dX3_isStepTowards_37 : decode cX3_isStepTowards 37 = .ok (.isub, 1) := by decide +kernel
theorem dX3_isStepTowards_38 : decode cX3_isStepTowards 38 = .ok (.istore_n 3, 1) := by decide +kernel
theorem dX3_isStepTowards_39 : decode cX3_isStepTowards 39 = .ok (.iload_n 3, 1) := by decide +kernel
theorem dX3_isStepTowards_40 : decode cX3_isStepTowards 40 = .ok (.bipush 8, 2) := by decide +kernel
theorem dX3_isStepTowards_42 : decode cX3_isStepTowards 42 = .ok (.invokestatic 53, 3) := by decide +kernel
theorem dX3_isStepTowards_45 : decode cX3_isStepTowards 45 = .ok (.ifCond .eq 27, 3) := by decide +kernel
theorem dX3_isStepTowards_48 : decode cX3_isStepTowards 48 = .ok (.iload_n 1, 1) := by decide +kernel
theorem dX3_isStepTowards_49 : decode cX3_isStepTowards 49 = .ok (.iload_n 3, 1) := by decide +kernel
theorem dX3_isStepTowards_50 : decode cX3_isStepTowards 50 = .ok (.ishr, 1) := by decide +kernel
theorem dX3_isStepTowards_51 : decode cX3_isStepTowards 51 = .ok (.iconst 1, 1) := by decide +kernel
theorem dX3_isStepTowards_52 : decode cX3_isStepTowards 52 = .ok (.iand, 1) := by decide +kernel
theorem dX3_isStepTowards_53 : decode cX3_isStepTowards 53 = .ok (.ifCond .eq 19, 3) := by decide +kernel
theorem dX3_isStepTowards_56 : decode cX3_isStepTowards 56 = .ok (.aload_n 0, 1) := by decide +kernel
theorem dX3_isStepTowards_57 : decode cX3_isStepTowards 57 = .ok (.aload_n 0, 1) := by decide +kernel
theorem dX3_isStepTowards_58 : decode cX3_isStepTowards 58 = .ok (.getfield 41, 3) := by decide +kernel
theorem dX3_isStepTowards_61 : decode cX3_isStepTowards 61 = .ok (.iload_n 3, 1) := by decide +kernel
theorem dX3_isStepTowards_62 : decode cX3_isStepTowards 62 = .ok (.invokevirtual 149, 3) := by decide +kernel
theorem dX3_isStepTowards_65 : decode cX3_isStepTowards 65 = .ok (.ifCond .eq 7, 3) := by decide +kernel
theorem dX3_isStepTowards_68 : decode cX3_isStepTowards 68 = .ok (.iconst 1, 1) := by decide +kernel
theorem dX3_isStepTowards_69 : decode cX3_isStepTowards 69 = .ok (.goto 4, 3) := by decide +kernel
theorem dX3_isStepTowards_72 : decode cX3_isStepTowards 72 = .ok (.iconst 0, 1) := by decide +kernel
theorem dX3_isStepTowards_73 : decode cX3_isStepTowards 73 = .ok (.ireturn, 1) := by decide +kernel
theorem dX3_canReach_0 : decode cX3_canReach 0 = .ok (.aload_n 0, 1) := by decide +kernel
theorem dX3_canReach_1 : decode cX3_canReach 1 = .ok (.getfield 44, 3) := by decide +kernel
theorem dX3_canReach_4 : decode cX3_canReach 4 = .ok (.iconst 0, 1) := by decide +kernel
theorem dX3_canReach_5 : decode cX3_canReach 5 = .ok (.invokestatic 47, 3) := by decide +kernel
theorem dX3_canReach_8 : decode cX3_canReach 8 = .ok (.aload_n 0, 1) := by decide +kernel
theorem dX3_canReach_9 : decode cX3_canReach 9 = .ok (.getfield 30, 3) := by decide +kernel
theorem dX3_canReach_12 : decode cX3_canReach 12 = .ok (.getfield 236, 3) := by decide +kernel
theorem dX3_canReach_15 : decode cX3_canReach 15 = .ok (.iconst 0, 1) := by decide +kernel
theorem dX3_canReach_16 : decode cX3_canReach 16 = .ok (.iaload, 1) := by decide +kernel
theorem dX3_canReach_17 : decode cX3_canReach 17 = .ok (.istore_n 2, 1) := by decide +kernel
theorem dX3_canReach_18 : decode cX3_canReach 18 = .ok (.iload_n 2, 1) := by decide +kernel
theorem dX3_canReach_19 : decode cX3_canReach 19 = .ok (.ifCond .lt 87, 3) := by decide +kernel
theorem dX3_canReach_22 : decode cX3_canReach 22 = .ok (.aload_n 0, 1) := by decide +kernel
theorem dX3_canReach_23 : decode cX3_canReach 23 = .ok (.getfield 30, 3) := by decide +kernel
theorem dX3_canReach_26 : decode cX3_canReach 26 = .ok (.getfield 236, 3) := by decide +kernel
theorem dX3_canReach_29 : decode cX3_canReach 29 = .ok (.iconst 1, 1) := by decide +kernel
theorem dX3_canReach_30 : decode cX3_canReach 30 = .ok (.iaload, 1) := by decide +kernel
theorem dX3_canReach_31 : decode cX3_canReach 31 = .ok (.istore_n 3, 1) := by decide +kernel
theorem dX3_canReach_32 : decode cX3_canReach 32 = .ok (.iload_n 3, 1) := by decide +kernel
theorem dX3_canReach_33 : decode cX3_canReach 33 = .ok (.ifCond .lt 67, 3) := by decide +kernel
theorem dX3_canReach_36 : decode cX3_canReach 36 = .ok (.aload_n 0, 1) := by decide +kernel
theorem dX3_canReach_37 : decode cX3_canReach 37 = .ok (.getfield 30, 3) := by decide +kernel
theorem dX3_canReach_40 : decode cX3_canReach 40 = .ok (.getfield 236, 3) := by decide +kernel
theorem dX3_canReach_43 : decode cX3_canReach 43 = .ok (.iconst 2, 1) := by decide +kernel
theorem dX3_canReach_44 : decode cX3_canReach 44 = .ok (.iaload, 1) := by decide +kernel
theorem dX3_canReach_45 : decode cX3_canReach 45 = .ok (.istore 4, 2) := by decide +kernel
theorem dX3_canReach_47 : decode cX3_canReach 47 = .ok (.iload 4, 2) := by decide +kernel
theorem dX3_canReach_49 : decode cX3_canReach 49 = .ok (.ifCond .lt 45, 3) := by decide +kernel
theorem dX3_canReach_52 : decode cX3_canReach 52 = .ok (.aload_n 0, 1) := by decide +kernel
theorem dX3_canReach_53 : decode cX3_canReach 53 = .ok (.getfield 41, 3) := by decide +kernel
theorem dX3_canReach_56 : decode cX3_canReach 56 = .ok (.getfield 236, 3) := by decide +kernel
theorem dX3_canReach_59 : decode cX3_canReach 59 = .ok (.iconst 0, 1) := by decide +kernel
theorem dX3_canReach_60 : decode cX3_canReach 60 = .ok (.iload_n 2, 1) := by decide +kernel
theorem dX3_canReach_61 : decode cX3_canReach 61 = .ok (.iastore, 1) := by decide +kernel
theorem dX3_canReach_62 : decode cX3_canReach 62 = .ok (.aload_n 0, 1) := by decide +kernel
theorem dX3_canReach_63 : decode cX3_canReach 63 = .ok (.getfield 41, 3) := by decide +kernel
theorem dX3_canReach_66 : decode cX3_canReach 66 = .ok (.getfield 236, 3) := by decide +kernel
theorem dX3_canReach_69 : decode cX3_canReach 69 = .ok (.iconst 1, 1) := by decide +kernel
theorem dX3_canReach_70 : decode cX3_canReach 70 = .ok (.iload_n 3, 1) := by decide +kernel
theorem dX3_canReach_71 : decode cX3_canReach 71 = .ok (.iastore, 1) := by decide +kernel
theorem dX3_canReach_72 : decode cX3_canReach 72 = .ok (.aload_n 0, 1) := by decide +kernel
theorem dX3_canReach_73 : decode cX3_canReach 73 = .ok (.getfield 41, 3) := by decide +kernel
theorem dX3_canReach_76 : decode cX3_canReach 76 = .ok (.getfield 236, 3) := by decide +kernel
theorem dX3_canReach_79 : decode cX3_canReach 79 = .ok (.iconst 2, 1) := by decide +kernel
theorem dX3_canReach_80 : decode cX3_canReach 80 = .ok (.iload 4, 2) := by decide +kernel
theorem dX3_canReach_82 : decode cX3_canReach 82 = .ok (.iastore, 1) := by decide +kernel
theorem dX3_canReach_83 : decode cX3_canReach 83 = .ok (.aload_n 0, 1) := by decide +kernel
theorem dX3_canReach_84 : decode cX3_canReach 84 = .ok (.iload_n 1, 1) := by decide +kernel
theorem dX3_canReach_85 : decode cX3_canReach 85 = .ok (.invokevirtual 254, 3) := by decide +kernel
theorem dX3_canReach_88 : decode cX3_canReach 88 = .ok (.iinc 4 (-1), 3) := by decide +kernel
theorem dX3_canReach_91 : decode cX3_canReach 91 = .ok (.goto (-44), 3) := by decide +kernel
theorem dX3_canReach_94 : decode cX3_canReach 94 = .ok (.iinc 3 (-1), 3) := by decide +kernel
theorem dX3_canReach_97 : decode cX3_canReach 97 = .ok (.goto (-65), 3) := by decide +kernel
theorem dX3_canReach_100 : decode cX3_canReach 100 = .ok (.iinc 2 (-1), 3) := by decide +kernel
theorem dX3_canReach_103 : decode cX3_canReach 103 = .ok (.goto (-85), 3) := by decide +kernel
theorem dX3_canReach_106 : decode cX3_canReach 106 = .ok (.aload_n 0, 1) := by decide +kernel
theorem dX3_canReach_107 : decode cX3_canReach 107 = .ok (.getfield 41, 3) := by decide +kernel
theorem dX3_canReach_110 : decode cX3_canReach 110 = .ok (.invokevirtual 185, 3) := by decide +kernel
theorem dX3_canReach_113 : decode cX3_canReach 113 = .ok (.aload_n 0, 1) := by decide +kernel
theorem dX3_canReach_114 : decode cX3_canReach 114 = .ok (.invokevirtual 258, 3) := by decide +kernel
theorem dX3_canReach_117 : decode cX3_canReach 117 = .ok (.ireturn, 1) := by decide +kernel
theorem dX3_markSets_0 : decode cX3_markSets 0 = .ok (.aload_n 0, 1) := by decide +kernel
theorem dX3_markSets_1 : decode cX3_markSets 1 = .ok (.getfield 41, 3) := by decide +kernel
theorem dX3_markSets_4 : decode cX3_markSets 4 = .ok (.invokevirtual 191, 3) := by decide +kernel
theorem dX3_markSets_7 : decode cX3_markSets 7 = .ok (.aload_n 0, 1) := by decide +kernel
theorem dX3_markSets_8 : decode cX3_markSets 8 = .ok (.getfield 37, 3) := by decide +kernel
theorem dX3_markSets_11 : decode cX3_markSets 11 = .ok (.if_icmp .ne 7, 3) := by decide +kernel
theorem dX3_markSets_14 : decode cX3_markSets 14 = .ok (.iconst 1, 1) := by decide +kernel
theorem dX3_markSets_15 : decode cX3_markSets 15 = .ok (.goto 4, 3) := by decide +kernel
theorem dX3_markSets_18 : decode cX3_markSets 18 = .ok (.iconst 0, 1) := by decide +kernel
theorem dX3_markSets_19 : decode cX3_markSets 19 = .ok (.istore_n 2, 1) := by decide +kernel
theorem dX3_markSets_20 : decode cX3_markSets 20 = .ok (.iload_n 1, 1) := by decide +kernel
theorem dX3_markSets_21 : decode cX3_markSets 21 = .ok (.istore_n 3, 1) := by decide +kernel
theorem dX3_markSets_22 : decode cX3_markSets 22 = .ok (.iload_n 3, 1) := by decide +kernel
theorem dX3_markSets_23 : decode cX3_markSets 23 = .ok (.ifCond .lt 47, 3) := by decide +kernel
theorem dX3_markSets_26 : decode cX3_markSets 26 = .ok (.aload_n 0, 1) := by decide +kernel
theorem dX3_markSets_27 : decode cX3_markSets 27 = .ok (.getfield 41, 3) := by decide +kernel
theorem dX3_markSets_30 : decode cX3_markSets 30 = .ok (.iload_n 3, 1) := by decide +kernel
theorem dX3_markSets_31 : decode cX3_markSets 31 = .ok (.putfield 155, 3) := by decide +kernel
theorem dX3_markSets_34 : decode cX3_markSets 34 = .ok (.iload_n 3, 1) := by decide +kernel
theorem dX3_markSets_35 : decode cX3_markSets 35 = .ok (.iload_n 1, 1) := by decide +kernel
theorem dX3_markSets_36 : decode cX3_markSets 36 = .ok (.iconst (-1), 1) := by decide +kernel
theorem dX3_markSets_37 : decode cX3_markSets 37 = .ok (.ixor, 1) := by decide +kernel
theorem dX3_markSets_38 : decode cX3_markSets 38 = .ok (.iand, 1) := by decide +kernel
theorem dX3_markSets_39 : decode cX3_markSets 39 = .ok (.ifCond .ne 25, 3) := by decide +kernel
theorem dX3_markSets_42 : decode cX3_markSets 42 = .ok (.iload_n 2, 1) := by decide +kernel
theorem dX3_markSets_43 : decode cX3_markSets 43 = .ok (.ifCond .eq 8, 3) := by decide +kernel
theorem dX3_markSets_46 : decode cX3_markSets 46 = .ok (.iload_n 3, 1) := by decide +kernel
theorem dX3_markSets_47 : decode cX3_markSets 47 = .ok (.iload_n 1, 1) := by decide +kernel
theorem dX3_markSets_48 : decode cX3_markSets 48 = .ok (.if_icmp .eq 12, 3) := by decide +kernel
theorem dX3_markSets_51 : decode cX3_markSets 51 = .ok (.aload_n 0, 1) := by decide +kernel
theorem dX3_markSets_52 : decode cX3_markSets 52 = .ok (.iload_n 1, 1) := by decide +kernel
theorem dX3_markSets_53 : decode cX3_markSets 53 = .ok (.invokevirtual 262, 3) := by decide +kernel
theorem dX3_markSets_56 : decode cX3_markSets 56 = .ok (.iconst (-1), 1) := by decide +kernel
theorem dX3_markSets_57 : decode cX3_markSets 57 = .ok (.if_icmp .eq 7, 3) := by decide +kernel
theorem dX3_markSets_60 : decode cX3_markSets 60 = .ok (.aload_n 0, 1) := by decide +kernel
theorem dX3_markSets_61 : decode cX3_markSets 61 = .ok (.invokevirtual 265, 3) := by decide +kernel
theorem dX3_markSets_64 : decode cX3_markSets 64 = .ok (.iinc 3 (-1), 3) := by decide +kernel
theorem dX3_markSets_67 : decode cX3_markSets 67 = .ok (.goto (-45), 3) := by decide +kernel
theorem dX3_markSets_70 : decode cX3_markSets 70 = .ok (.return_, 1) := by decide +kernel
theorem dX3_firstStepTowards_0 : decode cX3_firstStepTowards 0 = .ok (.iconst 0, 1) := by decide +kernel
theorem dX3_firstStepTowards_1 : decode cX3_firstStepTowards 1 = .ok (.istore_n 2, 1) := by decide +kernel
theorem dX3_firstStepTowards_2 : decode cX3_firstStepTowards 2 = .ok (.iload_n 2, 1) := by decide +kernel
theorem dX3_firstStepTowards_3 : decode cX3_firstStepTowards 3 = .ok (.bipush 11, 2) := by decide +kernel
theorem dX3_firstStepTowards_5 : decode cX3_firstStepTowards 5 = .ok (.if_icmp .ge 45, 3) := by decide +kernel
theorem dX3_firstStepTowards_8 : decode cX3_firstStepTowards 8 = .ok (.aload_n 0, 1) := by decide +kernel
theorem dX3_firstStepTowards_9 : decode cX3_firstStepTowards 9 = .ok (.iload_n 1, 1) := by decide +kernel
theorem dX3_firstStepTowards_10 : decode cX3_firstStepTowards 10 = .ok (.iload_n 2, 1) := by decide +kernel
theorem dX3_firstStepTowards_11 : decode cX3_firstStepTowards 11 = .ok (.invokevirtual 268, 3) := by decide +kernel
theorem dX3_firstStepTowards_14 : decode cX3_firstStepTowards 14 = .ok (.ifCond .eq 30, 3) := by decide +kernel
theorem dX3_firstStepTowards_17 : decode cX3_firstStepTowards 17 = .ok (.aload_n 0, 1) := by decide +kernel
theorem dX3_firstStepTowards_18 : decode cX3_firstStepTowards 18 = .ok (.getfield 41, 3) := by decide +kernel
theorem dX3_firstStepTowards_21 : decode cX3_firstStepTowards 21 = .ok (.iload_n 2, 1) := by decide +kernel
theorem dX3_firstStepTowards_22 : decode cX3_firstStepTowards 22 = .ok (.invokevirtual 271, 3) := by decide +kernel
theorem dX3_firstStepTowards_25 : decode cX3_firstStepTowards 25 = .ok (.aload_n 0, 1) := by decide +kernel
theorem dX3_firstStepTowards_26 : decode cX3_firstStepTowards 26 = .ok (.invokevirtual 258, 3) := by decide +kernel
theorem dX3_firstStepTowards_29 : decode cX3_firstStepTowards 29 = .ok (.istore_n 3, 1) := by decide +kernel
theorem dX3_firstStepTowards_30 : decode cX3_firstStepTowards 30 = .ok (.aload_n 0, 1) := by decide +kernel
theorem dX3_firstStepTowards_31 : decode cX3_firstStepTowards 31 = .ok (.getfield 41, 3) := by decide +kernel
theorem dX3_firstStepTowards_34 : decode cX3_firstStepTowards 34 = .ok (.iload_n 2, 1) := by decide +kernel
theorem dX3_firstStepTowards_35 : decode cX3_firstStepTowards 35 = .ok (.invokevirtual 274, 3) := by decide +kernel
theorem dX3_firstStepTowards_38 : decode cX3_firstStepTowards 38 = .ok (.iload_n 3, 1) := by decide +kernel
theorem dX3_firstStepTowards_39 : decode cX3_firstStepTowards 39 = .ok (.ifCond .eq 5, 3) := by decide +kernel
theorem dX3_firstStepTowards_42 : decode cX3_firstStepTowards 42 = .ok (.iload_n 2, 1) := by decide +kernel
theorem dX3_firstStepTowards_43 : decode cX3_firstStepTowards 43 = .ok (.ireturn, 1) := by decide +kernel
theorem dX3_firstStepTowards_44 : decode cX3_firstStepTowards 44 = .ok (.iinc 2 1, 3) := by decide +kernel
theorem dX3_firstStepTowards_47 : decode cX3_firstStepTowards 47 = .ok (.goto (-45), 3) := by decide +kernel
theorem dX3_firstStepTowards_50 : decode cX3_firstStepTowards 50 = .ok (.iconst (-1), 1) := by decide +kernel
theorem dX3_firstStepTowards_51 : decode cX3_firstStepTowards 51 = .ok (.ireturn, 1) := by decide +kernel
theorem dX3_stepOfFirstOrder_0 : decode cX3_stepOfFirstOrder 0 = .ok (.iconst (-1), 1) := by decide +kernel
theorem dX3_stepOfFirstOrder_1 : decode cX3_stepOfFirstOrder 1 = .ok (.istore_n 2, 1) := by decide +kernel
theorem dX3_stepOfFirstOrder_2 : decode cX3_stepOfFirstOrder 2 = .ok (.iconst 0, 1) := by decide +kernel
theorem dX3_stepOfFirstOrder_3 : decode cX3_stepOfFirstOrder 3 = .ok (.istore_n 3, 1) := by decide +kernel
theorem dX3_stepOfFirstOrder_4 : decode cX3_stepOfFirstOrder 4 = .ok (.iload_n 3, 1) := by decide +kernel
theorem dX3_stepOfFirstOrder_5 : decode cX3_stepOfFirstOrder 5 = .ok (.iload_n 1, 1) := by decide +kernel
theorem dX3_stepOfFirstOrder_6 : decode cX3_stepOfFirstOrder 6 = .ok (.if_icmp .gt 29, 3) := by decide +kernel
theorem dX3_stepOfFirstOrder_9 : decode cX3_stepOfFirstOrder 9 = .ok (.aload_n 0, 1) := by decide +kernel
theorem dX3_stepOfFirstOrder_10 : decode cX3_stepOfFirstOrder 10 = .ok (.aload_n 0, 1) := by decide +kernel
theorem dX3_stepOfFirstOrder_11 : decode cX3_stepOfFirstOrder 11 = .ok (.getfield 30, 3) := by decide +kernel
theorem dX3_stepOfFirstOrder_14 : decode cX3_stepOfFirstOrder 14 = .ok (.getfield 155, 3) := by decide +kernel
theorem dX3_stepOfFirstOrder_17 : decode cX3_stepOfFirstOrder 17 = .ok (.invokevirtual 262, 3) := by decide +kernel
theorem dX3_stepOfFirstOrder_20 : decode cX3_stepOfFirstOrder 20 = .ok (.istore_n 2, 1) := by decide +kernel
theorem dX3_stepOfFirstOrder_21 : decode cX3_stepOfFirstOrder 21 = .ok (.aload_n 0, 1) := by decide +kernel
theorem dX3_stepOfFirstOrder_22 : decode cX3_stepOfFirstOrder 22 = .ok (.getfield 41, 3) := by decide +kernel
theorem dX3_stepOfFirstOrder_25 : decode cX3_stepOfFirstOrder 25 = .ok (.iload_n 2, 1) := by decide +kernel
theorem dX3_stepOfFirstOrder_26 : decode cX3_stepOfFirstOrder 26 = .ok (.invokevirtual 271, 3) := by decide +kernel
theorem dX3_stepOfFirstOrder_29 : decode cX3_stepOfFirstOrder 29 = .ok (.iinc 3 1, 3) := by decide +kernel
theorem dX3_stepOfFirstOrder_32 : decode cX3_stepOfFirstOrder 32 = .ok (.goto (-28), 3) := by decide +kernel
theorem dX3_stepOfFirstOrder_35 : decode cX3_stepOfFirstOrder 35 = .ok (.iload_n 2, 1) := by decide +kernel
theorem dX3_stepOfFirstOrder_36 : decode cX3_stepOfFirstOrder 36 = .ok (.iconst 3, 1) := by decide +kernel
theorem dX3_stepOfFirstOrder_37 : decode cX3_stepOfFirstOrder 37 = .ok (.if_icmp .ge 7, 3) := by decide +kernel
theorem dX3_stepOfFirstOrder_40 : decode cX3_stepOfFirstOrder 40 = .ok (.iload_n 2, 1) := by decide +kernel
theorem dX3_stepOfFirstOrder_41 : decode cX3_stepOfFirstOrder 41 = .ok (.goto 9, 3) := by decide +kernel
theorem dX3_stepOfFirstOrder_44 : decode cX3_stepOfFirstOrder 44 = .ok (.bipush 10, 2) := by decide +kernel
theorem dX3_stepOfFirstOrder_46 : decode cX3_stepOfFirstOrder 46 = .ok (.iload_n 2, 1) := by decide +kernel
theorem dX3_stepOfFirstOrder_47 : decode cX3_stepOfFirstOrder 47 = .ok (.iadd, 1) := by decide +kernel
theorem dX3_stepOfFirstOrder_48 : decode cX3_stepOfFirstOrder 48 = .ok (.iconst 3, 1) := by decide +kernel
theorem dX3_stepOfFirstOrder_49 : decode cX3_stepOfFirstOrder 49 = .ok (.isub, 1) := by decide +kernel
theorem dX3_stepOfFirstOrder_50 : decode cX3_stepOfFirstOrder 50 = .ok (.ireturn, 1) := by decide +kernel
theorem dX3_wordOfTrial_0 : decode cX3_wordOfTrial 0 = .ok (.aload_n 0, 1) := by decide +kernel
theorem dX3_wordOfTrial_1 : decode cX3_wordOfTrial 1 = .ok (.getfield 41, 3) := by decide +kernel
theorem dX3_wordOfTrial_4 : decode cX3_wordOfTrial 4 = .ok (.getfield 236, 3) := by decide +kernel
theorem dX3_wordOfTrial_7 : decode cX3_wordOfTrial 7 = .ok (.iconst 0, 1) := by decide +kernel
theorem dX3_wordOfTrial_8 : decode cX3_wordOfTrial 8 = .ok (.iaload, 1) := by decide +kernel
theorem dX3_wordOfTrial_9 : decode cX3_wordOfTrial 9 = .ok (.istore_n 1, 1) := by decide +kernel
theorem dX3_wordOfTrial_10 : decode cX3_wordOfTrial 10 = .ok (.iconst 1, 1) := by decide +kernel
theorem dX3_wordOfTrial_11 : decode cX3_wordOfTrial 11 = .ok (.istore_n 2, 1) := by decide +kernel
theorem dX3_wordOfTrial_12 : decode cX3_wordOfTrial 12 = .ok (.iload_n 2, 1) := by decide +kernel
theorem dX3_wordOfTrial_13 : decode cX3_wordOfTrial 13 = .ok (.iconst 3, 1) := by decide +kernel
theorem dX3_wordOfTrial_14 : decode cX3_wordOfTrial 14 = .ok (.if_icmp .ge 33, 3) := by decide +kernel
theorem dX3_wordOfTrial_17 : decode cX3_wordOfTrial 17 = .ok (.iload_n 1, 1) := by decide +kernel
theorem dX3_wordOfTrial_18 : decode cX3_wordOfTrial 18 = .ok (.aload_n 0, 1) := by decide +kernel
theorem dX3_wordOfTrial_19 : decode cX3_wordOfTrial 19 = .ok (.getfield 30, 3) := by decide +kernel
theorem dX3_wordOfTrial_22 : decode cX3_wordOfTrial 22 = .ok (.getfield 236, 3) := by decide +kernel
theorem dX3_wordOfTrial_25 : decode cX3_wordOfTrial 25 = .ok (.iload_n 2, 1) := by decide +kernel
theorem dX3_wordOfTrial_26 : decode cX3_wordOfTrial 26 = .ok (.iaload, 1) := by decide +kernel
theorem dX3_wordOfTrial_27 : decode cX3_wordOfTrial 27 = .ok (.iconst 1, 1) := by decide +kernel
theorem dX3_wordOfTrial_28 : decode cX3_wordOfTrial 28 = .ok (.iadd, 1) := by decide +kernel
theorem dX3_wordOfTrial_29 : decode cX3_wordOfTrial 29 = .ok (.imul, 1) := by decide +kernel
theorem dX3_wordOfTrial_30 : decode cX3_wordOfTrial 30 = .ok (.aload_n 0, 1) := by decide +kernel
theorem dX3_wordOfTrial_31 : decode cX3_wordOfTrial 31 = .ok (.getfield 41, 3) := by decide +kernel
theorem dX3_wordOfTrial_34 : decode cX3_wordOfTrial 34 = .ok (.getfield 236, 3) := by decide +kernel
theorem dX3_wordOfTrial_37 : decode cX3_wordOfTrial 37 = .ok (.iload_n 2, 1) := by decide +kernel
theorem dX3_wordOfTrial_38 : decode cX3_wordOfTrial 38 = .ok (.iaload, 1) := by decide +kernel
theorem dX3_wordOfTrial_39 : decode cX3_wordOfTrial 39 = .ok (.iadd, 1) := by decide +kernel
theorem dX3_wordOfTrial_40 : decode cX3_wordOfTrial 40 = .ok (.istore_n 1, 1) := by decide +kernel
theorem dX3_wordOfTrial_41 : decode cX3_wordOfTrial 41 = .ok (.iinc 2 1, 3) := by decide +kernel
theorem dX3_wordOfTrial_44 : decode cX3_wordOfTrial 44 = .ok (.goto (-32), 3) := by decide +kernel
theorem dX3_wordOfTrial_47 : decode cX3_wordOfTrial 47 = .ok (.iload_n 1, 1) := by decide +kernel
theorem dX3_wordOfTrial_48 : decode cX3_wordOfTrial 48 = .ok (.bipush 8, 2) := by decide +kernel
theorem dX3_wordOfTrial_50 : decode cX3_wordOfTrial 50 = .ok (.imul, 1) := by decide +kernel
theorem dX3_wordOfTrial_51 : decode cX3_wordOfTrial 51 = .ok (.aload_n 0, 1) := by decide +kernel
theorem dX3_wordOfTrial_52 : decode cX3_wordOfTrial 52 = .ok (.getfield 41, 3) := by decide +kernel
theorem dX3_wordOfTrial_55 : decode cX3_wordOfTrial 55 = .ok (.getfield 155, 3) := by decide +kernel
theorem dX3_wordOfTrial_58 : decode cX3_wordOfTrial 58 = .ok (.bipush 32, 2) := by decide +kernel
theorem dX3_wordOfTrial_60 : decode cX3_wordOfTrial 60 = .ok (.idiv, 1) := by decide +kernel
theorem dX3_wordOfTrial_61 : decode cX3_wordOfTrial 61 = .ok (.iadd, 1) := by decide +kernel
theorem dX3_wordOfTrial_62 : decode cX3_wordOfTrial 62 = .ok (.ireturn, 1) := by decide +kernel
theorem dX3_bitOfTrial_0 : decode cX3_bitOfTrial 0 = .ok (.iconst 1, 1) := by decide +kernel
theorem dX3_bitOfTrial_1 : decode cX3_bitOfTrial 1 = .ok (.aload_n 0, 1) := by decide +kernel
theorem dX3_bitOfTrial_2 : decode cX3_bitOfTrial 2 = .ok (.getfield 41, 3) := by decide +kernel
theorem dX3_bitOfTrial_5 : decode cX3_bitOfTrial 5 = .ok (.getfield 155, 3) := by decide +kernel
theorem dX3_bitOfTrial_8 : decode cX3_bitOfTrial 8 = .ok (.bipush 32, 2) := by decide +kernel
theorem dX3_bitOfTrial_10 : decode cX3_bitOfTrial 10 = .ok (.irem, 1) := by decide +kernel
theorem dX3_bitOfTrial_11 : decode cX3_bitOfTrial 11 = .ok (.ishl, 1) := by decide +kernel
theorem dX3_bitOfTrial_12 : decode cX3_bitOfTrial 12 = .ok (.ireturn, 1) := by decide +kernel
theorem dX3_mark_0 : decode cX3_mark 0 = .ok (.aload_n 0, 1) := by decide +kernel
theorem dX3_mark_1 : decode cX3_mark 1 = .ok (.invokevirtual 277, 3) := by decide +kernel
theorem dX3_mark_4 : decode cX3_mark 4 = .ok (.istore_n 1, 1) := by decide +kernel
theorem dX3_mark_5 : decode cX3_mark 5 = .ok (.iload_n 1, 1) := by decide +kernel
theorem dX3_mark_6 : decode cX3_mark 6 = .ok (.aload_n 0, 1) := by decide +kernel
theorem dX3_mark_7 : decode cX3_mark 7 = .ok (.getfield 44, 3) := by decide +kernel
theorem dX3_mark_10 : decode cX3_mark 10 = .ok (.arraylength, 1) := by decide +kernel
theorem dX3_mark_11 : decode cX3_mark 11 = .ok (.invokestatic 53, 3) := by decide +kernel
theorem dX3_mark_14 : decode cX3_mark 14 = .ok (.ifCond .eq 16, 3) := by decide +kernel
theorem dX3_mark_17 : decode cX3_mark 17 = .ok (.aload_n 0, 1) := by decide +kernel
theorem dX3_mark_18 : decode cX3_mark 18 = .ok (.getfield 44, 3) := by decide +kernel
theorem dX3_mark_21 : decode cX3_mark 21 = .ok (.iload_n 1, 1) := by decide +kernel
theorem dX3_mark_22 : decode cX3_mark 22 = .ok (.dup2, 1) := by decide +kernel
theorem dX3_mark_23 : decode cX3_mark 23 = .ok (.iaload, 1) := by decide +kernel
theorem dX3_mark_24 : decode cX3_mark 24 = .ok (.aload_n 0, 1) := by decide +kernel
theorem dX3_mark_25 : decode cX3_mark 25 = .ok (.invokevirtual 280, 3) := by decide +kernel
theorem dX3_mark_28 : decode cX3_mark 28 = .ok (.ior, 1) := by decide +kernel
theorem dX3_mark_29 : decode cX3_mark 29 = .ok (.iastore, 1) := by decide +kernel
theorem dX3_mark_30 : decode cX3_mark 30 = .ok (.return_, 1) := by decide +kernel
theorem dX3_isMarked_0 : decode cX3_isMarked 0 = .ok (.aload_n 0, 1) := by decide +kernel
theorem dX3_isMarked_1 : decode cX3_isMarked 1 = .ok (.invokevirtual 277, 3) := by decide +kernel
theorem dX3_isMarked_4 : decode cX3_isMarked 4 = .ok (.istore_n 1, 1) := by decide +kernel
theorem dX3_isMarked_5 : decode cX3_isMarked 5 = .ok (.iload_n 1, 1) := by decide +kernel
theorem dX3_isMarked_6 : decode cX3_isMarked 6 = .ok (.aload_n 0, 1) := by decide +kernel
theorem dX3_isMarked_7 : decode cX3_isMarked 7 = .ok (.getfield 44, 3) := by decide +kernel
theorem dX3_isMarked_10 : decode cX3_isMarked 10 = .ok (.arraylength, 1) := by decide +kernel
theorem dX3_isMarked_11 : decode cX3_isMarked 11 = .ok (.invokestatic 53, 3) := by decide +kernel
theorem dX3_isMarked_14 : decode cX3_isMarked 14 = .ok (.ifCond .eq 21, 3) := by decide +kernel
theorem dX3_isMarked_17 : decode cX3_isMarked 17 = .ok (.aload_n 0, 1) := by decide +kernel
theorem dX3_isMarked_18 : decode cX3_isMarked 18 = .ok (.getfield 44, 3) := by decide +kernel
theorem dX3_isMarked_21 : decode cX3_isMarked 21 = .ok (.iload_n 1, 1) := by decide +kernel
theorem dX3_isMarked_22 : decode cX3_isMarked 22 = .ok (.iaload, 1) := by decide +kernel
theorem dX3_isMarked_23 : decode cX3_isMarked 23 = .ok (.aload_n 0, 1) := by decide +kernel
theorem dX3_isMarked_24 : decode cX3_isMarked 24 = .ok (.invokevirtual 280, 3) := by decide +kernel
theorem dX3_isMarked_27 : decode cX3_isMarked 27 = .ok (.iand, 1) := by decide +kernel
theorem dX3_isMarked_28 : decode cX3_isMarked 28 = .ok (.ifCond .eq 7, 3) := by decide +kernel
theorem dX3_isMarked_31 : decode cX3_isMarked 31 = .ok (.iconst 1, 1) := by decide +kernel
theorem dX3_isMarked_32 : decode cX3_isMarked 32 = .ok (.goto 4, 3) := by decide +kernel
theorem dX3_isMarked_35 : decode cX3_isMarked 35 = .ok (.iconst 0, 1) := by decide +kernel
theorem dX3_isMarked_36 : decode cX3_isMarked 36 = .ok (.ireturn, 1) := by decide +kernel
theorem dX3_someOrderEnds_0 : decode cX3_someOrderEnds 0 = .ok (.iload_n 1, 1) := by decide +kernel
theorem dX3_someOrderEnds_1 : decode cX3_someOrderEnds 1 = .ok (.ifCond .gt 5, 3) := by decide +kernel
theorem dX3_someOrderEnds_4 : decode cX3_someOrderEnds 4 = .ok (.iconst 1, 1) := by decide +kernel
theorem dX3_someOrderEnds_5 : decode cX3_someOrderEnds 5 = .ok (.ireturn, 1) := by decide +kernel
theorem dX3_someOrderEnds_6 : decode cX3_someOrderEnds 6 = .ok (.iconst 0, 1) := by decide +kernel
theorem dX3_someOrderEnds_7 : decode cX3_someOrderEnds 7 = .ok (.istore_n 2, 1) := by decide +kernel
theorem dX3_someOrderEnds_8 : decode cX3_someOrderEnds 8 = .ok (.iload_n 2, 1) := by decide +kernel
theorem dX3_someOrderEnds_9 : decode cX3_someOrderEnds 9 = .ok (.bipush 11, 2) := by decide +kernel
theorem dX3_someOrderEnds_11 : decode cX3_someOrderEnds 11 = .ok (.if_icmp .ge 54, 3) := by decide +kernel
theorem dX3_someOrderEnds_14 : decode cX3_someOrderEnds 14 = .ok (.aload_n 0, 1) := by decide +kernel
theorem dX3_someOrderEnds_15 : decode cX3_someOrderEnds 15 = .ok (.aload_n 0, 1) := by decide +kernel
theorem dX3_someOrderEnds_16 : decode cX3_someOrderEnds 16 = .ok (.getfield 30, 3) := by decide +kernel
theorem dX3_someOrderEnds_19 : decode cX3_someOrderEnds 19 = .ok (.getfield 155, 3) := by decide +kernel
theorem dX3_someOrderEnds_22 : decode cX3_someOrderEnds 22 = .ok (.iload_n 2, 1) := by decide +kernel
theorem dX3_someOrderEnds_23 : decode cX3_someOrderEnds 23 = .ok (.invokevirtual 268, 3) := by decide +kernel
theorem dX3_someOrderEnds_26 : decode cX3_someOrderEnds 26 = .ok (.ifCond .eq 33, 3) := by decide +kernel
theorem dX3_someOrderEnds_29 : decode cX3_someOrderEnds 29 = .ok (.aload_n 0, 1) := by decide +kernel
theorem dX3_someOrderEnds_30 : decode cX3_someOrderEnds 30 = .ok (.getfield 41, 3) := by decide +kernel
theorem dX3_someOrderEnds_33 : decode cX3_someOrderEnds 33 = .ok (.iload_n 2, 1) := by decide +kernel
theorem dX3_someOrderEnds_34 : decode cX3_someOrderEnds 34 = .ok (.invokevirtual 271, 3) := by decide +kernel
theorem dX3_someOrderEnds_37 : decode cX3_someOrderEnds 37 = .ok (.aload_n 0, 1) := by decide +kernel
theorem dX3_someOrderEnds_38 : decode cX3_someOrderEnds 38 = .ok (.iload_n 1, 1) := by decide +kernel
theorem dX3_someOrderEnds_39 : decode cX3_someOrderEnds 39 = .ok (.iconst 1, 1) := by decide +kernel
theorem dX3_someOrderEnds_40 : decode cX3_someOrderEnds 40 = .ok (.isub, 1) := by decide +kernel
theorem dX3_someOrderEnds_41 : decode cX3_someOrderEnds 41 = .ok (.invokevirtual 217, 3) := by decide +kernel
theorem dX3_someOrderEnds_44 : decode cX3_someOrderEnds 44 = .ok (.istore_n 3, 1) := by decide +kernel
theorem dX3_someOrderEnds_45 : decode cX3_someOrderEnds 45 = .ok (.aload_n 0, 1) := by decide +kernel
theorem dX3_someOrderEnds_46 : decode cX3_someOrderEnds 46 = .ok (.getfield 41, 3) := by decide +kernel
theorem dX3_someOrderEnds_49 : decode cX3_someOrderEnds 49 = .ok (.iload_n 2, 1) := by decide +kernel
theorem dX3_someOrderEnds_50 : decode cX3_someOrderEnds 50 = .ok (.invokevirtual 274, 3) := by decide +kernel
theorem dX3_someOrderEnds_53 : decode cX3_someOrderEnds 53 = .ok (.iload_n 3, 1) := by decide +kernel
theorem dX3_someOrderEnds_54 : decode cX3_someOrderEnds 54 = .ok (.ifCond .eq 5, 3) := by decide +kernel
theorem dX3_someOrderEnds_57 : decode cX3_someOrderEnds 57 = .ok (.iconst 1, 1) := by decide +kernel
theorem dX3_someOrderEnds_58 : decode cX3_someOrderEnds 58 = .ok (.ireturn, 1) := by decide +kernel
theorem dX3_someOrderEnds_59 : decode cX3_someOrderEnds 59 = .ok (.iinc 2 1, 3) := by decide +kernel
theorem dX3_someOrderEnds_62 : decode cX3_someOrderEnds 62 = .ok (.goto (-54), 3) := by decide +kernel
theorem dX3_someOrderEnds_65 : decode cX3_someOrderEnds 65 = .ok (.iconst 0, 1) := by decide +kernel
theorem dX3_someOrderEnds_66 : decode cX3_someOrderEnds 66 = .ok (.ireturn, 1) := by decide +kernel
theorem dJ6_bitCount_0f7a4_0 : decode cJ6_bitCount_0f7a4 0 = .ok (.iload_n 0, 1) := by decide +kernel
theorem dJ6_bitCount_0f7a4_1 : decode cJ6_bitCount_0f7a4 1 = .ok (.iload_n 0, 1) := by decide +kernel
theorem dJ6_bitCount_0f7a4_2 : decode cJ6_bitCount_0f7a4 2 = .ok (.iconst 1, 1) := by decide +kernel
theorem dJ6_bitCount_0f7a4_3 : decode cJ6_bitCount_0f7a4 3 = .ok (.iushr, 1) := by decide +kernel
theorem dJ6_bitCount_0f7a4_4 : decode cJ6_bitCount_0f7a4 4 = .ok (.ldc_w 265, 3) := by decide +kernel
theorem dJ6_bitCount_0f7a4_7 : decode cJ6_bitCount_0f7a4 7 = .ok (.iand, 1) := by decide +kernel
theorem dJ6_bitCount_0f7a4_8 : decode cJ6_bitCount_0f7a4 8 = .ok (.isub, 1) := by decide +kernel
theorem dJ6_bitCount_0f7a4_9 : decode cJ6_bitCount_0f7a4 9 = .ok (.istore_n 0, 1) := by decide +kernel
theorem dJ6_bitCount_0f7a4_10 : decode cJ6_bitCount_0f7a4 10 = .ok (.iload_n 0, 1) := by decide +kernel
theorem dJ6_bitCount_0f7a4_11 : decode cJ6_bitCount_0f7a4 11 = .ok (.ldc_w 266, 3) := by decide +kernel
theorem dJ6_bitCount_0f7a4_14 : decode cJ6_bitCount_0f7a4 14 = .ok (.iand, 1) := by decide +kernel
theorem dJ6_bitCount_0f7a4_15 : decode cJ6_bitCount_0f7a4 15 = .ok (.iload_n 0, 1) := by decide +kernel
theorem dJ6_bitCount_0f7a4_16 : decode cJ6_bitCount_0f7a4 16 = .ok (.iconst 2, 1) := by decide +kernel
theorem dJ6_bitCount_0f7a4_17 : decode cJ6_bitCount_0f7a4 17 = .ok (.iushr, 1) := by decide +kernel
theorem dJ6_bitCount_0f7a4_18 : decode cJ6_bitCount_0f7a4 18 = .ok (.ldc_w 266, 3) := by decide +kernel
theorem dJ6_bitCount_0f7a4_21 : decode cJ6_bitCount_0f7a4 21 = .ok (.iand, 1) := by decide +kernel
theorem dJ6_bitCount_0f7a4_22 : decode cJ6_bitCount_0f7a4 22 = .ok (.iadd, 1) := by decide +kernel
theorem dJ6_bitCount_0f7a4_23 : decode cJ6_bitCount_0f7a4 23 = .ok (.istore_n 0, 1) := by decide +kernel
theorem dJ6_bitCount_0f7a4_24 : decode cJ6_bitCount_0f7a4 24 = .ok (.iload_n 0, 1) := by decide +kernel
theorem dJ6_bitCount_0f7a4_25 : decode cJ6_bitCount_0f7a4 25 = .ok (.iload_n 0, 1) := by decide +kernel
theorem dJ6_bitCount_0f7a4_26 : decode cJ6_bitCount_0f7a4 26 = .ok (.iconst 4, 1) := by decide +kernel
theorem dJ6_bitCount_0f7a4_27 : decode cJ6_bitCount_0f7a4 27 = .ok (.iushr, 1) := by decide +kernel
theorem dJ6_bitCount_0f7a4_28 : decode cJ6_bitCount_0f7a4 28 = .ok (.iadd, 1) := by decide +kernel
theorem dJ6_bitCount_0f7a4_29 : decode cJ6_bitCount_0f7a4 29 = .ok (.ldc_w 267, 3) := by decide +kernel
theorem dJ6_bitCount_0f7a4_32 : decode cJ6_bitCount_0f7a4 32 = .ok (.iand, 1) := by decide +kernel
theorem dJ6_bitCount_0f7a4_33 : decode cJ6_bitCount_0f7a4 33 = .ok (.istore_n 0, 1) := by decide +kernel
theorem dJ6_bitCount_0f7a4_34 : decode cJ6_bitCount_0f7a4 34 = .ok (.iload_n 0, 1) := by decide +kernel
theorem dJ6_bitCount_0f7a4_35 : decode cJ6_bitCount_0f7a4 35 = .ok (.iload_n 0, 1) := by decide +kernel
theorem dJ6_bitCount_0f7a4_36 : decode cJ6_bitCount_0f7a4 36 = .ok (.bipush 8, 2) := by decide +kernel
theorem dJ6_bitCount_0f7a4_38 : decode cJ6_bitCount_0f7a4 38 = .ok (.iushr, 1) := by decide +kernel
theorem dJ6_bitCount_0f7a4_39 : decode cJ6_bitCount_0f7a4 39 = .ok (.iadd, 1) := by decide +kernel
theorem dJ6_bitCount_0f7a4_40 : decode cJ6_bitCount_0f7a4 40 = .ok (.istore_n 0, 1) := by decide +kernel
theorem dJ6_bitCount_0f7a4_41 : decode cJ6_bitCount_0f7a4 41 = .ok (.iload_n 0, 1) := by decide +kernel
theorem dJ6_bitCount_0f7a4_42 : decode cJ6_bitCount_0f7a4 42 = .ok (.iload_n 0, 1) := by decide +kernel
theorem dJ6_bitCount_0f7a4_43 : decode cJ6_bitCount_0f7a4 43 = .ok (.bipush 16, 2) := by decide +kernel
theorem dJ6_bitCount_0f7a4_45 : decode cJ6_bitCount_0f7a4 45 = .ok (.iushr, 1) := by decide +kernel
theorem dJ6_bitCount_0f7a4_46 : decode cJ6_bitCount_0f7a4 46 = .ok (.iadd, 1) := by decide +kernel
theorem dJ6_bitCount_0f7a4_47 : decode cJ6_bitCount_0f7a4 47 = .ok (.istore_n 0, 1) := by decide +kernel
theorem dJ6_bitCount_0f7a4_48 : decode cJ6_bitCount_0f7a4 48 = .ok (.iload_n 0, 1) := by decide +kernel
theorem dJ6_bitCount_0f7a4_49 : decode cJ6_bitCount_0f7a4 49 = .ok (.bipush 63, 2) := by decide +kernel
theorem dJ6_bitCount_0f7a4_51 : decode cJ6_bitCount_0f7a4 51 = .ok (.iand, 1) := by decide +kernel
theorem dJ6_bitCount_0f7a4_52 : decode cJ6_bitCount_0f7a4 52 = .ok (.ireturn, 1) := by decide +kernel
theorem dJ9_floorDiv_7cf53_0 : decode cJ9_floorDiv_7cf53 0 = .ok (.iload_n 0, 1) := by decide +kernel
theorem dJ9_floorDiv_7cf53_1 : decode cJ9_floorDiv_7cf53 1 = .ok (.iload_n 1, 1) := by decide +kernel
theorem dJ9_floorDiv_7cf53_2 : decode cJ9_floorDiv_7cf53 2 = .ok (.idiv, 1) := by decide +kernel
theorem dJ9_floorDiv_7cf53_3 : decode cJ9_floorDiv_7cf53 3 = .ok (.istore_n 2, 1) := by decide +kernel
theorem dJ9_floorDiv_7cf53_4 : decode cJ9_floorDiv_7cf53 4 = .ok (.iload_n 0, 1) := by decide +kernel
theorem dJ9_floorDiv_7cf53_5 : decode cJ9_floorDiv_7cf53 5 = .ok (.iload_n 1, 1) := by decide +kernel
theorem dJ9_floorDiv_7cf53_6 : decode cJ9_floorDiv_7cf53 6 = .ok (.ixor, 1) := by decide +kernel
theorem dJ9_floorDiv_7cf53_7 : decode cJ9_floorDiv_7cf53 7 = .ok (.ifCond .ge 14, 3) := by decide +kernel
theorem dJ9_floorDiv_7cf53_10 : decode cJ9_floorDiv_7cf53 10 = .ok (.iload_n 2, 1) := by decide +kernel
theorem dJ9_floorDiv_7cf53_11 : decode cJ9_floorDiv_7cf53 11 = .ok (.iload_n 1, 1) := by decide +kernel
theorem dJ9_floorDiv_7cf53_12 : decode cJ9_floorDiv_7cf53 12 = .ok (.imul, 1) := by decide +kernel
theorem dJ9_floorDiv_7cf53_13 : decode cJ9_floorDiv_7cf53 13 = .ok (.iload_n 0, 1) := by decide +kernel
theorem dJ9_floorDiv_7cf53_14 : decode cJ9_floorDiv_7cf53 14 = .ok (.if_icmp .eq 7, 3) := by decide +kernel
theorem dJ9_floorDiv_7cf53_17 : decode cJ9_floorDiv_7cf53 17 = .ok (.iload_n 2, 1) := by decide +kernel
theorem dJ9_floorDiv_7cf53_18 : decode cJ9_floorDiv_7cf53 18 = .ok (.iconst 1, 1) := by decide +kernel
theorem dJ9_floorDiv_7cf53_19 : decode cJ9_floorDiv_7cf53 19 = .ok (.isub, 1) := by decide +kernel
theorem dJ9_floorDiv_7cf53_20 : decode cJ9_floorDiv_7cf53 20 = .ok (.ireturn, 1) := by decide +kernel
theorem dJ9_floorDiv_7cf53_21 : decode cJ9_floorDiv_7cf53 21 = .ok (.iload_n 2, 1) := by decide +kernel
theorem dJ9_floorDiv_7cf53_22 : decode cJ9_floorDiv_7cf53 22 = .ok (.ireturn, 1) := by decide +kernel
theorem dJ9_max_7cf53_0 : decode cJ9_max_7cf53 0 = .ok (.iload_n 0, 1) := by decide +kernel
theorem dJ9_max_7cf53_1 : decode cJ9_max_7cf53 1 = .ok (.iload_n 1, 1) := by decide +kernel
theorem dJ9_max_7cf53_2 : decode cJ9_max_7cf53 2 = .ok (.if_icmp .lt 7, 3) := by decide +kernel
theorem dJ9_max_7cf53_5 : decode cJ9_max_7cf53 5 = .ok (.iload_n 0, 1) := by decide +kernel
theorem dJ9_max_7cf53_6 : decode cJ9_max_7cf53 6 = .ok (.goto 4, 3) := by decide +kernel
theorem dJ9_max_7cf53_9 : decode cJ9_max_7cf53 9 = .ok (.iload_n 1, 1) := by decide +kernel
theorem dJ9_max_7cf53_10 : decode cJ9_max_7cf53 10 = .ok (.ireturn, 1) := by decide +kernel
theorem dJ7_fill_53178_0 : decode cJ7_fill_53178 0 = .ok (.iconst 0, 1) := by decide +kernel
theorem dJ7_fill_53178_1 : decode cJ7_fill_53178 1 = .ok (.istore_n 2, 1) := by decide +kernel
theorem dJ7_fill_53178_2 : decode cJ7_fill_53178 2 = .ok (.aload_n 0, 1) := by decide +kernel
theorem dJ7_fill_53178_3 : decode cJ7_fill_53178 3 = .ok (.arraylength, 1) := by decide +kernel
theorem dJ7_fill_53178_4 : decode cJ7_fill_53178 4 = .ok (.istore_n 3, 1) := by decide +kernel
theorem dJ7_fill_53178_5 : decode cJ7_fill_53178 5 = .ok (.iload_n 2, 1) := by decide +kernel
theorem dJ7_fill_53178_6 : decode cJ7_fill_53178 6 = .ok (.iload_n 3, 1) := by decide +kernel
theorem dJ7_fill_53178_7 : decode cJ7_fill_53178 7 = .ok (.if_icmp .ge 13, 3) := by decide +kernel
theorem dJ7_fill_53178_10 : decode cJ7_fill_53178 10 = .ok (.aload_n 0, 1) := by decide +kernel
theorem dJ7_fill_53178_11 : decode cJ7_fill_53178 11 = .ok (.iload_n 2, 1) := by decide +kernel
theorem dJ7_fill_53178_12 : decode cJ7_fill_53178 12 = .ok (.iload_n 1, 1) := by decide +kernel
theorem dJ7_fill_53178_13 : decode cJ7_fill_53178 13 = .ok (.iastore, 1) := by decide +kernel
theorem dJ7_fill_53178_14 : decode cJ7_fill_53178 14 = .ok (.iinc 2 1, 3) := by decide +kernel
theorem dJ7_fill_53178_17 : decode cJ7_fill_53178 17 = .ok (.goto (-12), 3) := by decide +kernel
theorem dJ7_fill_53178_20 : decode cJ7_fill_53178 20 = .ok (.return_, 1) := by decide +kernel
