theorem dX0_init_0 : decode cX0_init 0 = .ok (.aload_n 0, 1) := by decide +kernel
theorem dX0_init_1 : decode cX0_init 1 = .ok (.invokespecial 3, 3) := by decide +kernel
theorem dX0_init_4 : decode cX0_init 4 = .ok (.aload_n 0, 1) := by decide +kernel
theorem dX0_init_5 : decode cX0_init 5 = .ok (.bipush 6, 2) := by decide +kernel
theorem dX0_init_7 : decode cX0_init 7 = .ok (.newarray .int, 2) := by decide +kernel
theorem dX0_init_9 : decode cX0_init 9 = .ok (.putfield 9, 3) := by decide +kernel
theorem dX0_init_12 : decode cX0_init 12 = .ok (.aload_n 0, 1) := by decide +kernel
theorem dX0_init_13 : decode cX0_init 13 = .ok (.bipush 6, 2) := by decide +kernel
theorem dX0_init_15 : decode cX0_init 15 = .ok (.newarray .int, 2) := by decide +kernel
theorem dX0_init_17 : decode cX0_init 17 = .ok (.putfield 15, 3) := by decide +kernel
theorem dX0_init_20 : decode cX0_init 20 = .ok (.aload_n 0, 1) := by decide +kernel
theorem dX0_init_21 : decode cX0_init 21 = .ok (.bipush 6, 2) := by decide +kernel
theorem dX0_init_23 : decode cX0_init 23 = .ok (.newarray .int, 2) := by decide +kernel
theorem dX0_init_25 : decode cX0_init 25 = .ok (.putfield 18, 3) := by decide +kernel
theorem dX0_init_28 : decode cX0_init 28 = .ok (.aload_n 0, 1) := by decide +kernel
theorem dX0_init_29 : decode cX0_init 29 = .ok (.bipush 6, 2) := by decide +kernel
theorem dX0_init_31 : decode cX0_init 31 = .ok (.newarray .int, 2) := by decide +kernel
theorem dX0_init_33 : decode cX0_init 33 = .ok (.putfield 21, 3) := by decide +kernel
theorem dX0_init_36 : decode cX0_init 36 = .ok (.aload_n 0, 1) := by decide +kernel
theorem dX0_init_37 : decode cX0_init 37 = .ok (.iconst 2, 1) := by decide +kernel
theorem dX0_init_38 : decode cX0_init 38 = .ok (.newarray .int, 2) := by decide +kernel
theorem dX0_init_40 : decode cX0_init 40 = .ok (.putfield 24, 3) := by decide +kernel
theorem dX0_init_43 : decode cX0_init 43 = .ok (.aload_n 0, 1) := by decide +kernel
theorem dX0_init_44 : decode cX0_init 44 = .ok (.iconst 2, 1) := by decide +kernel
theorem dX0_init_45 : decode cX0_init 45 = .ok (.newarray .int, 2) := by decide +kernel
theorem dX0_init_47 : decode cX0_init 47 = .ok (.putfield 27, 3) := by decide +kernel
theorem dX0_init_50 : decode cX0_init 50 = .ok (.aload_n 0, 1) := by decide +kernel
theorem dX0_init_51 : decode cX0_init 51 = .ok (.iconst 2, 1) := by decide +kernel
theorem dX0_init_52 : decode cX0_init 52 = .ok (.newarray .int, 2) := by decide +kernel
theorem dX0_init_54 : decode cX0_init 54 = .ok (.putfield 30, 3) := by decide +kernel
theorem dX0_init_57 : decode cX0_init 57 = .ok (.return_, 1) := by decide +kernel
theorem dX0_clear_0 : decode cX0_clear 0 = .ok (.aload_n 0, 1) := by decide +kernel
theorem dX0_clear_1 : decode cX0_clear 1 = .ok (.iconst 0, 1) := by decide +kernel
theorem dX0_clear_2 : decode cX0_clear 2 = .ok (.putfield 33, 3) := by decide +kernel
theorem dX0_clear_5 : decode cX0_clear 5 = .ok (.aload_n 0, 1) := by decide +kernel
theorem dX0_clear_6 : decode cX0_clear 6 = .ok (.iconst 0, 1) := by decide +kernel
theorem dX0_clear_7 : decode cX0_clear 7 = .ok (.putfield 37, 3) := by decide +kernel
theorem dX0_clear_10 : decode cX0_clear 10 = .ok (.aload_n 0, 1) := by decide +kernel
theorem dX0_clear_11 : decode cX0_clear 11 = .ok (.iconst 0, 1) := by decide +kernel
theorem dX0_clear_12 : decode cX0_clear 12 = .ok (.putfield 40, 3) := by decide +kernel
theorem dX0_clear_15 : decode cX0_clear 15 = .ok (.aload_n 0, 1) := by decide +kernel
theorem dX0_clear_16 : decode cX0_clear 16 = .ok (.iconst 0, 1) := by decide +kernel
theorem dX0_clear_17 : decode cX0_clear 17 = .ok (.putfield 43, 3) := by decide +kernel
theorem dX0_clear_20 : decode cX0_clear 20 = .ok (.aload_n 0, 1) := by decide +kernel
theorem dX0_clear_21 : decode cX0_clear 21 = .ok (.iconst 0, 1) := by decide +kernel
theorem dX0_clear_22 : decode cX0_clear 22 = .ok (.putfield 46, 3) := by decide +kernel
theorem dX0_clear_25 : decode cX0_clear 25 = .ok (.return_, 1) := by decide +kernel
theorem dX0_copyFrom_0 : decode cX0_copyFrom 0 = .ok (.aload_n 0, 1) := by decide +kernel
theorem dX0_copyFrom_1 : decode cX0_copyFrom 1 = .ok (.aload_n 1, 1) := by decide +kernel
theorem dX0_copyFrom_2 : decode cX0_copyFrom 2 = .ok (.getfield 33, 3) := by decide +kernel
theorem dX0_copyFrom_5 : decode cX0_copyFrom 5 = .ok (.putfield 33, 3) := by decide +kernel
theorem dX0_copyFrom_8 : decode cX0_copyFrom 8 = .ok (.aload_n 0, 1) := by decide +kernel
theorem dX0_copyFrom_9 : decode cX0_copyFrom 9 = .ok (.aload_n 1, 1) := by decide +kernel
theorem dX0_copyFrom_10 : decode cX0_copyFrom 10 = .ok (.getfield 37, 3) := by decide +kernel
theorem dX0_copyFrom_13 : decode cX0_copyFrom 13 = .ok (.putfield 37, 3) := by decide +kernel
theorem dX0_copyFrom_16 : decode cX0_copyFrom 16 = .ok (.aload_n 0, 1) := by decide +kernel
theorem dX0_copyFrom_17 : decode cX0_copyFrom 17 = .ok (.aload_n 1, 1) := by decide +kernel
theorem dX0_copyFrom_18 : decode cX0_copyFrom 18 = .ok (.getfield 40, 3) := by decide +kernel
theorem dX0_copyFrom_21 : decode cX0_copyFrom 21 = .ok (.putfield 40, 3) := by decide +kernel
theorem dX0_copyFrom_24 : decode cX0_copyFrom 24 = .ok (.aload_n 0, 1) := by decide +kernel
theorem dX0_copyFrom_25 : decode cX0_copyFrom 25 = .ok (.aload_n 1, 1) := by decide +kernel
theorem dX0_copyFrom_26 : decode cX0_copyFrom 26 = .ok (.getfield 43, 3) := by decide +kernel
theorem dX0_copyFrom_29 : decode cX0_copyFrom 29 = .ok (.putfield 43, 3) := by decide +kernel
theorem dX0_copyFrom_32 : decode cX0_copyFrom 32 = .ok (.aload_n 0, 1) := by decide +kernel
theorem dX0_copyFrom_33 : decode cX0_copyFrom 33 = .ok (.aload_n 1, 1) := by decide +kernel
theorem dX0_copyFrom_34 : decode cX0_copyFrom 34 = .ok (.getfield 46, 3) := by decide +kernel
theorem dX0_copyFrom_37 : decode cX0_copyFrom 37 = .ok (.putfield 46, 3) := by decide +kernel
theorem dX0_copyFrom_40 : decode cX0_copyFrom 40 = .ok (.aload_n 1, 1) := by decide +kernel
theorem dX0_copyFrom_41 : decode cX0_copyFrom 41 = .ok (.getfield 9, 3) := by decide +kernel
theorem dX0_copyFrom_44 : decode cX0_copyFrom 44 = .ok (.iconst 0, 1) := by decide +kernel
theorem dX0_copyFrom_45 : decode cX0_copyFrom 45 = .ok (.aload_n 0, 1) := by decide +kernel
theorem dX0_copyFrom_46 : decode cX0_copyFrom 46 = .ok (.getfield 9, 3) := by decide +kernel
theorem dX0_copyFrom_49 : decode cX0_copyFrom 49 = .ok (.iconst 0, 1) := by decide +kernel
theorem dX0_copyFrom_50 : decode cX0_copyFrom 50 = .ok (.bipush 6, 2) := by decide +kernel
theorem dX0_copyFrom_52 : decode cX0_copyFrom 52 = .ok (.invokestatic 49, 3) := by decide +kernel
theorem dX0_copyFrom_55 : decode cX0_copyFrom 55 = .ok (.aload_n 1, 1) := by decide +kernel
theorem dX0_copyFrom_56 : decode cX0_copyFrom 56 = .ok (.getfield 15, 3) := by decide +kernel
theorem dX0_copyFrom_59 : decode cX0_copyFrom 59 = .ok (.iconst 0, 1) := by decide +kernel
theorem dX0_copyFrom_60 : decode cX0_copyFrom 60 = .ok (.aload_n 0, 1) := by decide +kernel
theorem dX0_copyFrom_61 : decode cX0_copyFrom 61 = .ok (.getfield 15, 3) := by decide +kernel
theorem dX0_copyFrom_64 : decode cX0_copyFrom 64 = .ok (.iconst 0, 1) := by decide +kernel
theorem dX0_copyFrom_65 : decode cX0_copyFrom 65 = .ok (.bipush 6, 2) := by decide +kernel
theorem dX0_copyFrom_67 : decode cX0_copyFrom 67 = .ok (.invokestatic 49, 3) := by decide +kernel
theorem dX0_copyFrom_70 : decode cX0_copyFrom 70 = .ok (.aload_n 1, 1) := by decide +kernel
theorem dX0_copyFrom_71 : decode cX0_copyFrom 71 = .ok (.getfield 18, 3) := by decide +kernel
theorem dX0_copyFrom_74 : decode cX0_copyFrom 74 = .ok (.iconst 0, 1) := by decide +kernel
theorem dX0_copyFrom_75 : decode cX0_copyFrom 75 = .ok (.aload_n 0, 1) := by decide +kernel
theorem dX0_copyFrom_76 : decode cX0_copyFrom 76 = .ok (.getfield 18, 3) := by decide +kernel
theorem dX0_copyFrom_79 : decode cX0_copyFrom 79 = .ok (.iconst 0, 1) := by decide +kernel
theorem dX0_copyFrom_80 : decode cX0_copyFrom 80 = .ok (.bipush 6, 2) := by decide +kernel
theorem dX0_copyFrom_82 : decode cX0_copyFrom 82 = .ok (.invokestatic 49, 3) := by decide +kernel
theorem dX0_copyFrom_85 : decode cX0_copyFrom 85 = .ok (.aload_n 1, 1) := by decide +kernel
theorem dX0_copyFrom_86 : decode cX0_copyFrom 86 = .ok (.getfield 21, 3) := by decide +kernel
theorem dX0_copyFrom_89 : decode cX0_copyFrom 89 = .ok (.iconst 0, 1) := by decide +kernel
theorem dX0_copyFrom_90 : decode cX0_copyFrom 90 = .ok (.aload_n 0, 1) := by decide +kernel
theorem dX0_copyFrom_91 : decode cX0_copyFrom 91 = .ok (.getfield 21, 3) := by decide +kernel
theorem dX0_copyFrom_94 : decode cX0_copyFrom 94 = .ok (.iconst 0, 1) := by decide +kernel
theorem dX0_copyFrom_95 : decode cX0_copyFrom 95 = .ok (.bipush 6, 2) := by decide +kernel
theorem dX0_copyFrom_97 : decode cX0_copyFrom 97 = .ok (.invokestatic 49, 3) := by decide +kernel
theorem dX0_copyFrom_100 : decode cX0_copyFrom 100 = .ok (.aload_n 1, 1) := by decide +kernel
theorem dX0_copyFrom_101 : decode cX0_copyFrom 101 = .ok (.getfield 24, 3) := by decide +kernel
theorem dX0_copyFrom_104 : decode cX0_copyFrom 104 = .ok (.iconst 0, 1) := by decide +kernel
theorem dX0_copyFrom_105 : decode cX0_copyFrom 105 = .ok (.aload_n 0, 1) := by decide +kernel
theorem dX0_copyFrom_106 : decode cX0_copyFrom 106 = .ok (.getfield 24, 3) := by decide +kernel
theorem dX0_copyFrom_109 : decode cX0_copyFrom 109 = .ok (.iconst 0, 1) := by decide +kernel
theorem dX0_copyFrom_110 : decode cX0_copyFrom 110 = .ok (.iconst 2, 1) := by decide +kernel
theorem dX0_copyFrom_111 : decode cX0_copyFrom 111 = .ok (.invokestatic 49, 3) := by decide +kernel
theorem dX0_copyFrom_114 : decode cX0_copyFrom 114 = .ok (.aload_n 1, 1) := by decide +kernel
theorem dX0_copyFrom_115 : decode cX0_copyFrom 115 = .ok (.getfield 27, 3) := by decide +kernel
theorem dX0_copyFrom_118 : decode cX0_copyFrom 118 = .ok (.iconst 0, 1) := by decide +kernel
theorem dX0_copyFrom_119 : decode cX0_copyFrom 119 = .ok (.aload_n 0, 1) := by decide +kernel
theorem dX0_copyFrom_120 : decode cX0_copyFrom 120 = .ok (.getfield 27, 3) := by decide +kernel
theorem dX0_copyFrom_123 : decode cX0_copyFrom 123 = .ok (.iconst 0, 1) := by decide +kernel
theorem dX0_copyFrom_124 : decode cX0_copyFrom 124 = .ok (.iconst 2, 1) := by decide +kernel
theorem dX0_copyFrom_125 : decode cX0_copyFrom 125 = .ok (.invokestatic 49, 3) := by decide +kernel
theorem dX0_copyFrom_128 : decode cX0_copyFrom 128 = .ok (.aload_n 1, 1) := by decide +kernel
theorem dX0_copyFrom_129 : decode cX0_copyFrom 129 = .ok (.getfield 30, 3) := by decide +kernel
theorem dX0_copyFrom_132 : decode cX0_copyFrom 132 = .ok (.iconst 0, 1) := by decide +kernel
theorem dX0_copyFrom_133 : decode cX0_copyFrom 133 = .ok (.aload_n 0, 1) := by decide +kernel
theorem dX0_copyFrom_134 : decode cX0_copyFrom 134 = .ok (.getfield 30, 3) := by decide +kernel
theorem dX0_copyFrom_137 : decode cX0_copyFrom 137 = .ok (.iconst 0, 1) := by decide +kernel
theorem dX0_copyFrom_138 : decode cX0_copyFrom 138 = .ok (.iconst 2, 1) := by decide +kernel
theorem dX0_copyFrom_139 : decode cX0_copyFrom 139 = .ok (.invokestatic 49, 3) := by decide +kernel
theorem dX0_copyFrom_142 : decode cX0_copyFrom 142 = .ok (.return_, 1) := by decide +kernel
theorem dX0_isTold_0 : decode cX0_isTold 0 = .ok (.aload_n 0, 1) := by decide +kernel
theorem dX0_isTold_1 : decode cX0_isTold 1 = .ok (.getfield 33, 3) := by decide +kernel
theorem dX0_isTold_4 : decode cX0_isTold 4 = .ok (.ifCond .le 7, 3) := by decide +kernel
theorem dX0_isTold_7 : decode cX0_isTold 7 = .ok (.iconst 1, 1) := by decide +kernel
theorem dX0_isTold_8 : decode cX0_isTold 8 = .ok (.goto 4, 3) := by decide +kernel
theorem dX0_isTold_11 : decode cX0_isTold 11 = .ok (.iconst 0, 1) := by decide +kernel
theorem dX0_isTold_12 : decode cX0_isTold 12 = .ok (.ireturn, 1) := by decide +kernel
theorem dX0_hasPerson_0 : decode cX0_hasPerson 0 = .ok (.iload_n 1, 1) := by decide +kernel
theorem dX0_hasPerson_1 : decode cX0_hasPerson 1 = .ok (.ifCond .lt 15, 3) := by decide +kernel
theorem dX0_hasPerson_4 : decode cX0_hasPerson 4 = .ok (.iload_n 1, 1) := by decide +kernel
theorem dX0_hasPerson_5 : decode cX0_hasPerson 5 = .ok (.aload_n 0, 1) := by decide +kernel
theorem dX0_hasPerson_6 : decode cX0_hasPerson 6 = .ok (.getfield 43, 3) := by decide +kernel
theorem dX0_hasPerson_9 : decode cX0_hasPerson 9 = .ok (.if_icmp .ge 7, 3) := by decide +kernel
theorem dX0_hasPerson_12 : decode cX0_hasPerson 12 = .ok (.iconst 1, 1) := by decide +kernel
theorem dX0_hasPerson_13 : decode cX0_hasPerson 13 = .ok (.goto 4, 3) := by decide +kernel
theorem dX0_hasPerson_16 : decode cX0_hasPerson 16 = .ok (.iconst 0, 1) := by decide +kernel
theorem dX0_hasPerson_17 : decode cX0_hasPerson 17 = .ok (.ireturn, 1) := by decide +kernel
theorem dX0_hasPersonOrNone_0 : decode cX0_hasPersonOrNone 0 = .ok (.iload_n 1, 1) := by decide +kernel
theorem dX0_hasPersonOrNone_1 : decode cX0_hasPersonOrNone 1 = .ok (.iconst (-1), 1) := by decide +kernel
theorem dX0_hasPersonOrNone_2 : decode cX0_hasPersonOrNone 2 = .ok (.if_icmp .eq 11, 3) := by decide +kernel
theorem dX0_hasPersonOrNone_5 : decode cX0_hasPersonOrNone 5 = .ok (.aload_n 0, 1) := by decide +kernel
theorem dX0_hasPersonOrNone_6 : decode cX0_hasPersonOrNone 6 = .ok (.iload_n 1, 1) := by decide +kernel
theorem dX0_hasPersonOrNone_7 : decode cX0_hasPersonOrNone 7 = .ok (.invokevirtual 55, 3) := by decide +kernel
theorem dX0_hasPersonOrNone_10 : decode cX0_hasPersonOrNone 10 = .ok (.ifCond .eq 7, 3) := by decide +kernel
theorem dX0_hasPersonOrNone_13 : decode cX0_hasPersonOrNone 13 = .ok (.iconst 1, 1) := by decide +kernel
theorem dX0_hasPersonOrNone_14 : decode cX0_hasPersonOrNone 14 = .ok (.goto 4, 3) := by decide +kernel
theorem dX0_hasPersonOrNone_17 : decode cX0_hasPersonOrNone 17 = .ok (.iconst 0, 1) := by decide +kernel
theorem dX0_hasPersonOrNone_18 : decode cX0_hasPersonOrNone 18 = .ok (.ireturn, 1) := by decide +kernel
theorem dX0_hasPost_0 : decode cX0_hasPost 0 = .ok (.iload_n 1, 1) := by decide +kernel
theorem dX0_hasPost_1 : decode cX0_hasPost 1 = .ok (.ifCond .lt 15, 3) := by decide +kernel
theorem dX0_hasPost_4 : decode cX0_hasPost 4 = .ok (.iload_n 1, 1) := by decide +kernel
theorem dX0_hasPost_5 : decode cX0_hasPost 5 = .ok (.aload_n 0, 1) := by decide +kernel
theorem dX0_hasPost_6 : decode cX0_hasPost 6 = .ok (.getfield 46, 3) := by decide +kernel
theorem dX0_hasPost_9 : decode cX0_hasPost 9 = .ok (.if_icmp .ge 7, 3) := by decide +kernel
theorem dX0_hasPost_12 : decode cX0_hasPost 12 = .ok (.iconst 1, 1) := by decide +kernel
theorem dX0_hasPost_13 : decode cX0_hasPost 13 = .ok (.goto 4, 3) := by decide +kernel
theorem dX0_hasPost_16 : decode cX0_hasPost 16 = .ok (.iconst 0, 1) := by decide +kernel
theorem dX0_hasPost_17 : decode cX0_hasPost 17 = .ok (.ireturn, 1) := by decide +kernel
theorem dX0_hasCrossing_0 : decode cX0_hasCrossing 0 = .ok (.aload_n 0, 1) := by decide +kernel
theorem dX0_hasCrossing_1 : decode cX0_hasCrossing 1 = .ok (.iload_n 1, 1) := by decide +kernel
theorem dX0_hasCrossing_2 : decode cX0_hasCrossing 2 = .ok (.invokevirtual 55, 3) := by decide +kernel
theorem dX0_hasCrossing_5 : decode cX0_hasCrossing 5 = .ok (.ifCond .eq 23, 3) := by decide +kernel
theorem dX0_hasCrossing_8 : decode cX0_hasCrossing 8 = .ok (.aload_n 0, 1) := by decide +kernel
theorem dX0_hasCrossing_9 : decode cX0_hasCrossing 9 = .ok (.iload_n 2, 1) := by decide +kernel
theorem dX0_hasCrossing_10 : decode cX0_hasCrossing 10 = .ok (.invokevirtual 59, 3) := by decide +kernel
theorem dX0_hasCrossing_13 : decode cX0_hasCrossing 13 = .ok (.ifCond .eq 15, 3) := by decide +kernel
theorem dX0_hasCrossing_16 : decode cX0_hasCrossing 16 = .ok (.aload_n 0, 1) := by decide +kernel
theorem dX0_hasCrossing_17 : decode cX0_hasCrossing 17 = .ok (.iload_n 3, 1) := by decide +kernel
theorem dX0_hasCrossing_18 : decode cX0_hasCrossing 18 = .ok (.invokevirtual 62, 3) := by decide +kernel
theorem dX0_hasCrossing_21 : decode cX0_hasCrossing 21 = .ok (.ifCond .eq 7, 3) := by decide +kernel
theorem dX0_hasCrossing_24 : decode cX0_hasCrossing 24 = .ok (.iconst 1, 1) := by decide +kernel
theorem dX0_hasCrossing_25 : decode cX0_hasCrossing 25 = .ok (.goto 4, 3) := by decide +kernel
theorem dX0_hasCrossing_28 : decode cX0_hasCrossing 28 = .ok (.iconst 0, 1) := by decide +kernel
theorem dX0_hasCrossing_29 : decode cX0_hasCrossing 29 = .ok (.ireturn, 1) := by decide +kernel
theorem dX0_isAct_0 : decode cX0_isAct 0 = .ok (.lload_n 1, 1) := by decide +kernel
theorem dX0_isAct_1 : decode cX0_isAct 1 = .ok (.lconst 0, 1) := by decide +kernel
theorem dX0_isAct_2 : decode cX0_isAct 2 = .ok (.lcmp, 1) := by decide +kernel
theorem dX0_isAct_3 : decode cX0_isAct 3 = .ok (.ifCond .lt 11, 3) := by decide +kernel
theorem dX0_isAct_6 : decode cX0_isAct 6 = .ok (.lload_n 1, 1) := by decide +kernel
theorem dX0_isAct_7 : decode cX0_isAct 7 = .ok (.ldc2_w 65, 3) := by decide +kernel
theorem dX0_isAct_10 : decode cX0_isAct 10 = .ok (.lcmp, 1) := by decide +kernel
theorem dX0_isAct_11 : decode cX0_isAct 11 = .ok (.ifCond .le 5, 3) := by decide +kernel
theorem dX0_isAct_14 : decode cX0_isAct 14 = .ok (.iconst 0, 1) := by decide +kernel
theorem dX0_isAct_15 : decode cX0_isAct 15 = .ok (.ireturn, 1) := by decide +kernel
theorem dX0_isAct_16 : decode cX0_isAct 16 = .ok (.lload_n 1, 1) := by decide +kernel
theorem dX0_isAct_17 : decode cX0_isAct 17 = .ok (.l2i, 1) := by decide +kernel
theorem dX0_isAct_18 : decode cX0_isAct 18 = .ok (.istore_n 3, 1) := by decide +kernel
theorem dX0_isAct_19 : decode cX0_isAct 19 = .ok (.iload_n 3, 1) := by decide +kernel
theorem dX0_isAct_20 : decode cX0_isAct 20 = .ok (.sipush 200, 3) := by decide +kernel
theorem dX0_isAct_23 : decode cX0_isAct 23 = .ok (.if_icmp .eq 22, 3) := by decide +kernel
theorem dX0_isAct_26 : decode cX0_isAct 26 = .ok (.aload_n 0, 1) := by decide +kernel
theorem dX0_isAct_27 : decode cX0_isAct 27 = .ok (.iload_n 3, 1) := by decide +kernel
theorem dX0_isAct_28 : decode cX0_isAct 28 = .ok (.invokestatic 67, 3) := by decide +kernel
theorem dX0_isAct_31 : decode cX0_isAct 31 = .ok (.iload_n 3, 1) := by decide +kernel
theorem dX0_isAct_32 : decode cX0_isAct 32 = .ok (.invokestatic 71, 3) := by decide +kernel
theorem dX0_isAct_35 : decode cX0_isAct 35 = .ok (.iload_n 3, 1) := by decide +kernel
theorem dX0_isAct_36 : decode cX0_isAct 36 = .ok (.invokestatic 74, 3) := by decide +kernel
theorem dX0_isAct_39 : decode cX0_isAct 39 = .ok (.invokevirtual 77, 3) := by decide +kernel
theorem dX0_isAct_42 : decode cX0_isAct 42 = .ok (.ifCond .eq 7, 3) := by decide +kernel
theorem dX0_isAct_45 : decode cX0_isAct 45 = .ok (.iconst 1, 1) := by decide +kernel
theorem dX0_isAct_46 : decode cX0_isAct 46 = .ok (.goto 4, 3) := by decide +kernel
theorem dX0_isAct_49 : decode cX0_isAct 49 = .ok (.iconst 0, 1) := by decide +kernel
theorem dX0_isAct_50 : decode cX0_isAct 50 = .ok (.ireturn, 1) := by decide +kernel
theorem dX0_isStamp_0 : decode cX0_isStamp 0 = .ok (.lload_n 1, 1) := by decide +kernel
theorem dX0_isStamp_1 : decode cX0_isStamp 1 = .ok (.lconst 0, 1) := by decide +kernel
theorem dX0_isStamp_2 : decode cX0_isStamp 2 = .ok (.lcmp, 1) := by decide +kernel
theorem dX0_isStamp_3 : decode cX0_isStamp 3 = .ok (.ifCond .eq 9, 3) := by decide +kernel
theorem dX0_isStamp_6 : decode cX0_isStamp 6 = .ok (.lload_n 1, 1) := by decide +kernel
theorem dX0_isStamp_7 : decode cX0_isStamp 7 = .ok (.lconst 1, 1) := by decide +kernel
theorem dX0_isStamp_8 : decode cX0_isStamp 8 = .ok (.lcmp, 1) := by decide +kernel
theorem dX0_isStamp_9 : decode cX0_isStamp 9 = .ok (.ifCond .ne 9, 3) := by decide +kernel
theorem dX0_isStamp_12 : decode cX0_isStamp 12 = .ok (.aload_n 0, 1) := by decide +kernel
theorem dX0_isStamp_13 : decode cX0_isStamp 13 = .ok (.iconst 0, 1) := by decide +kernel
theorem dX0_isStamp_14 : decode cX0_isStamp 14 = .ok (.invokevirtual 62, 3) := by decide +kernel
theorem dX0_isStamp_17 : decode cX0_isStamp 17 = .ok (.ireturn, 1) := by decide +kernel
theorem dX0_isStamp_18 : decode cX0_isStamp 18 = .ok (.lload_n 1, 1) := by decide +kernel
theorem dX0_isStamp_19 : decode cX0_isStamp 19 = .ok (.ldc2_w 81, 3) := by decide +kernel
theorem dX0_isStamp_22 : decode cX0_isStamp 22 = .ok (.lcmp, 1) := by decide +kernel
theorem dX0_isStamp_23 : decode cX0_isStamp 23 = .ok (.ifCond .eq 11, 3) := by decide +kernel
theorem dX0_isStamp_26 : decode cX0_isStamp 26 = .ok (.lload_n 1, 1) := by decide +kernel
theorem dX0_isStamp_27 : decode cX0_isStamp 27 = .ok (.ldc2_w 83, 3) := by decide +kernel
theorem dX0_isStamp_30 : decode cX0_isStamp 30 = .ok (.lcmp, 1) := by decide +kernel
theorem dX0_isStamp_31 : decode cX0_isStamp 31 = .ok (.ifCond .ne 15, 3) := by decide +kernel
theorem dX0_isStamp_34 : decode cX0_isStamp 34 = .ok (.aload_n 0, 1) := by decide +kernel
theorem dX0_isStamp_35 : decode cX0_isStamp 35 = .ok (.iconst 1, 1) := by decide +kernel
theorem dX0_isStamp_36 : decode cX0_isStamp 36 = .ok (.invokevirtual 62, 3) := by decide +kernel
theorem dX0_isStamp_39 : decode cX0_isStamp 39 = .ok (.ifCond .eq 7, 3) := by decide +kernel
theorem dX0_isStamp_42 : decode cX0_isStamp 42 = .ok (.iconst 1, 1) := by decide +kernel
theorem dX0_isStamp_43 : decode cX0_isStamp 43 = .ok (.goto 4, 3) := by decide +kernel
theorem dX0_isStamp_46 : decode cX0_isStamp 46 = .ok (.iconst 0, 1) := by decide +kernel
theorem dX0_isStamp_47 : decode cX0_isStamp 47 = .ok (.ireturn, 1) := by decide +kernel
theorem dX0_everyone_0 : decode cX0_everyone 0 = .ok (.iconst 1, 1) := by decide +kernel
theorem dX0_everyone_1 : decode cX0_everyone 1 = .ok (.aload_n 0, 1) := by decide +kernel
theorem dX0_everyone_2 : decode cX0_everyone 2 = .ok (.getfield 43, 3) := by decide +kernel
theorem dX0_everyone_5 : decode cX0_everyone 5 = .ok (.ishl, 1) := by decide +kernel
theorem dX0_everyone_6 : decode cX0_everyone 6 = .ok (.iconst 1, 1) := by decide +kernel
theorem dX0_everyone_7 : decode cX0_everyone 7 = .ok (.isub, 1) := by decide +kernel
theorem dX0_everyone_8 : decode cX0_everyone 8 = .ok (.ireturn, 1) := by decide +kernel
theorem dX0_children_0 : decode cX0_children 0 = .ok (.aload_n 0, 1) := by decide +kernel
theorem dX0_children_1 : decode cX0_children 1 = .ok (.aload_n 0, 1) := by decide +kernel
theorem dX0_children_2 : decode cX0_children 2 = .ok (.getfield 18, 3) := by decide +kernel
theorem dX0_children_5 : decode cX0_children 5 = .ok (.invokevirtual 85, 3) := by decide +kernel
theorem dX0_children_8 : decode cX0_children 8 = .ok (.ireturn, 1) := by decide +kernel
theorem dX0_staying_0 : decode cX0_staying 0 = .ok (.aload_n 0, 1) := by decide +kernel
theorem dX0_staying_1 : decode cX0_staying 1 = .ok (.aload_n 0, 1) := by decide +kernel
theorem dX0_staying_2 : decode cX0_staying 2 = .ok (.getfield 21, 3) := by decide +kernel
theorem dX0_staying_5 : decode cX0_staying 5 = .ok (.invokevirtual 85, 3) := by decide +kernel
theorem dX0_staying_8 : decode cX0_staying 8 = .ok (.ireturn, 1) := by decide +kernel
theorem dX0_goal_0 : decode cX0_goal 0 = .ok (.aload_n 0, 1) := by decide +kernel
theorem dX0_goal_1 : decode cX0_goal 1 = .ok (.invokevirtual 89, 3) := by decide +kernel
theorem dX0_goal_4 : decode cX0_goal 4 = .ok (.aload_n 0, 1) := by decide +kernel
theorem dX0_goal_5 : decode cX0_goal 5 = .ok (.invokevirtual 93, 3) := by decide +kernel
theorem dX0_goal_8 : decode cX0_goal 8 = .ok (.iconst (-1), 1) := by decide +kernel
theorem dX0_goal_9 : decode cX0_goal 9 = .ok (.ixor, 1) := by decide +kernel
theorem dX0_goal_10 : decode cX0_goal 10 = .ok (.iand, 1) := by decide +kernel
theorem dX0_goal_11 : decode cX0_goal 11 = .ok (.ireturn, 1) := by decide +kernel
theorem dX0_bitsOf_0 : decode cX0_bitsOf 0 = .ok (.iconst 0, 1) := by decide +kernel
theorem dX0_bitsOf_1 : decode cX0_bitsOf 1 = .ok (.istore_n 2, 1) := by decide +kernel
theorem dX0_bitsOf_2 : decode cX0_bitsOf 2 = .ok (.iconst 0, 1) := by decide +kernel
theorem dX0_bitsOf_3 : decode cX0_bitsOf 3 = .ok (.istore_n 3, 1) := by decide +kernel
theorem dX0_bitsOf_4 : decode cX0_bitsOf 4 = .ok (.iload_n 3, 1) := by decide +kernel
theorem dX0_bitsOf_5 : decode cX0_bitsOf 5 = .ok (.aload_n 0, 1) := by decide +kernel
theorem dX0_bitsOf_6 : decode cX0_bitsOf 6 = .ok (.getfield 43, 3) := by decide +kernel
theorem dX0_bitsOf_9 : decode cX0_bitsOf 9 = .ok (.if_icmp .ge 17, 3) := by decide +kernel
theorem dX0_bitsOf_12 : decode cX0_bitsOf 12 = .ok (.iload_n 2, 1) := by decide +kernel
theorem dX0_bitsOf_13 : decode cX0_bitsOf 13 = .ok (.aload_n 1, 1) := by decide +kernel
theorem dX0_bitsOf_14 : decode cX0_bitsOf 14 = .ok (.iload_n 3, 1) := by decide +kernel
theorem dX0_bitsOf_15 : decode cX0_bitsOf 15 = .ok (.iaload, 1) := by decide +kernel
theorem dX0_bitsOf_16 : decode cX0_bitsOf 16 = .ok (.iload_n 3, 1) := by decide +kernel
theorem dX0_bitsOf_17 : decode cX0_bitsOf 17 = .ok (.ishl, 1) := by decide +kernel
theorem dX0_bitsOf_18 : decode cX0_bitsOf 18 = .ok (.ior, 1) := by decide +kernel
theorem dX0_bitsOf_19 : decode cX0_bitsOf 19 = .ok (.istore_n 2, 1) := by decide +kernel
theorem dX0_bitsOf_20 : decode cX0_bitsOf 20 = .ok (.iinc 3 1, 3) := by decide +kernel
theorem dX0_bitsOf_23 : decode cX0_bitsOf 23 = .ok (.goto (-19), 3) := by decide +kernel
theorem dX0_bitsOf_26 : decode cX0_bitsOf 26 = .ok (.iload_n 2, 1) := by decide +kernel
theorem dX0_bitsOf_27 : decode cX0_bitsOf 27 = .ok (.ireturn, 1) := by decide +kernel
theorem dX0_adultsBehind_0 : decode cX0_adultsBehind 0 = .ok (.iconst 0, 1) := by decide +kernel
theorem dX0_adultsBehind_1 : decode cX0_adultsBehind 1 = .ok (.istore_n 3, 1) := by decide +kernel
theorem dX0_adultsBehind_2 : decode cX0_adultsBehind 2 = .ok (.iconst 0, 1) := by decide +kernel
theorem dX0_adultsBehind_3 : decode cX0_adultsBehind 3 = .ok (.istore 4, 2) := by decide +kernel
theorem dX0_adultsBehind_5 : decode cX0_adultsBehind 5 = .ok (.iload 4, 2) := by decide +kernel
theorem dX0_adultsBehind_7 : decode cX0_adultsBehind 7 = .ok (.aload_n 0, 1) := by decide +kernel
theorem dX0_adultsBehind_8 : decode cX0_adultsBehind 8 = .ok (.getfield 43, 3) := by decide +kernel
theorem dX0_adultsBehind_11 : decode cX0_adultsBehind 11 = .ok (.if_icmp .ge 57, 3) := by decide +kernel
theorem dX0_adultsBehind_14 : decode cX0_adultsBehind 14 = .ok (.aload_n 0, 1) := by decide +kernel
theorem dX0_adultsBehind_15 : decode cX0_adultsBehind 15 = .ok (.getfield 18, 3) := by decide +kernel
theorem dX0_adultsBehind_18 : decode cX0_adultsBehind 18 = .ok (.iload 4, 2) := by decide +kernel
theorem dX0_adultsBehind_20 : decode cX0_adultsBehind 20 = .ok (.iaload, 1) := by decide +kernel
theorem dX0_adultsBehind_21 : decode cX0_adultsBehind 21 = .ok (.ifCond .ne 41, 3) := by decide +kernel
theorem dX0_adultsBehind_24 : decode cX0_adultsBehind 24 = .ok (.iload_n 1, 1) := by decide +kernel
theorem dX0_adultsBehind_25 : decode cX0_adultsBehind 25 = .ok (.iconst (-1), 1) := by decide +kernel
theorem dX0_adultsBehind_26 : decode cX0_adultsBehind 26 = .ok (.if_icmp .eq 29, 3) := by decide +kernel
theorem dX0_adultsBehind_29 : decode cX0_adultsBehind 29 = .ok (.aload_n 0, 1) := by decide +kernel
theorem dX0_adultsBehind_30 : decode cX0_adultsBehind 30 = .ok (.getfield 15, 3) := by decide +kernel
theorem dX0_adultsBehind_33 : decode cX0_adultsBehind 33 = .ok (.iload 4, 2) := by decide +kernel
theorem dX0_adultsBehind_35 : decode cX0_adultsBehind 35 = .ok (.iaload, 1) := by decide +kernel
theorem dX0_adultsBehind_36 : decode cX0_adultsBehind 36 = .ok (.aload_n 0, 1) := by decide +kernel
theorem dX0_adultsBehind_37 : decode cX0_adultsBehind 37 = .ok (.getfield 15, 3) := by decide +kernel
theorem dX0_adultsBehind_40 : decode cX0_adultsBehind 40 = .ok (.iload_n 1, 1) := by decide +kernel
theorem dX0_adultsBehind_41 : decode cX0_adultsBehind 41 = .ok (.iaload, 1) := by decide +kernel
theorem dX0_adultsBehind_42 : decode cX0_adultsBehind 42 = .ok (.isub, 1) := by decide +kernel
theorem dX0_adultsBehind_43 : decode cX0_adultsBehind 43 = .ok (.invokestatic 96, 3) := by decide +kernel
theorem dX0_adultsBehind_46 : decode cX0_adultsBehind 46 = .ok (.aload_n 0, 1) := by decide +kernel
theorem dX0_adultsBehind_47 : decode cX0_adultsBehind 47 = .ok (.getfield 27, 3) := by decide +kernel
theorem dX0_adultsBehind_50 : decode cX0_adultsBehind 50 = .ok (.iload_n 2, 1) := by decide +kernel
theorem dX0_adultsBehind_51 : decode cX0_adultsBehind 51 = .ok (.iaload, 1) := by decide +kernel
theorem dX0_adultsBehind_52 : decode cX0_adultsBehind 52 = .ok (.if_icmp .gt 10, 3) := by decide +kernel
theorem dX0_adultsBehind_55 : decode cX0_adultsBehind 55 = .ok (.iload_n 3, 1) := by decide +kernel
theorem dX0_adultsBehind_56 : decode cX0_adultsBehind 56 = .ok (.iconst 1, 1) := by decide +kernel
theorem dX0_adultsBehind_57 : decode cX0_adultsBehind 57 = .ok (.iload 4, 2) := by decide +kernel
theorem dX0_adultsBehind_59 : decode cX0_adultsBehind 59 = .ok (.ishl, 1) := by decide +kernel
theorem dX0_adultsBehind_60 : decode cX0_adultsBehind 60 = .ok (.ior, 1) := by decide +kernel
theorem dX0_adultsBehind_61 : decode cX0_adultsBehind 61 = .ok (.istore_n 3, 1) := by decide +kernel
theorem dX0_adultsBehind_62 : decode cX0_adultsBehind 62 = .ok (.iinc 4 1, 3) := by decide +kernel
theorem dX0_adultsBehind_65 : decode cX0_adultsBehind 65 = .ok (.goto (-60), 3) := by decide +kernel
theorem dX0_adultsBehind_68 : decode cX0_adultsBehind 68 = .ok (.iload_n 3, 1) := by decide +kernel
theorem dX0_adultsBehind_69 : decode cX0_adultsBehind 69 = .ok (.ireturn, 1) := by decide +kernel
theorem dX0_riskOf_0 : decode cX0_riskOf 0 = .ok (.bipush 100, 2) := by decide +kernel
theorem dX0_riskOf_2 : decode cX0_riskOf 2 = .ok (.aload_n 0, 1) := by decide +kernel
theorem dX0_riskOf_3 : decode cX0_riskOf 3 = .ok (.getfield 9, 3) := by decide +kernel
theorem dX0_riskOf_6 : decode cX0_riskOf 6 = .ok (.iload_n 1, 1) := by decide +kernel
theorem dX0_riskOf_7 : decode cX0_riskOf 7 = .ok (.iaload, 1) := by decide +kernel
theorem dX0_riskOf_8 : decode cX0_riskOf 8 = .ok (.isub, 1) := by decide +kernel
theorem dX0_riskOf_9 : decode cX0_riskOf 9 = .ok (.aload_n 0, 1) := by decide +kernel
theorem dX0_riskOf_10 : decode cX0_riskOf 10 = .ok (.getfield 24, 3) := by decide +kernel
theorem dX0_riskOf_13 : decode cX0_riskOf 13 = .ok (.iload_n 2, 1) := by decide +kernel
theorem dX0_riskOf_14 : decode cX0_riskOf 14 = .ok (.iaload, 1) := by decide +kernel
theorem dX0_riskOf_15 : decode cX0_riskOf 15 = .ok (.imul, 1) := by decide +kernel
theorem dX0_riskOf_16 : decode cX0_riskOf 16 = .ok (.bipush 100, 2) := by decide +kernel
theorem dX0_riskOf_18 : decode cX0_riskOf 18 = .ok (.idiv, 1) := by decide +kernel
theorem dX0_riskOf_19 : decode cX0_riskOf 19 = .ok (.ireturn, 1) := by decide +kernel
theorem dX0_riskOfAct_0 : decode cX0_riskOfAct 0 = .ok (.iload_n 1, 1) := by decide +kernel
theorem dX0_riskOfAct_1 : decode cX0_riskOfAct 1 = .ok (.sipush 200, 3) := by decide +kernel
theorem dX0_riskOfAct_4 : decode cX0_riskOfAct 4 = .ok (.if_icmp .ne 7, 3) := by decide +kernel
theorem dX0_riskOfAct_7 : decode cX0_riskOfAct 7 = .ok (.iconst 0, 1) := by decide +kernel
theorem dX0_riskOfAct_8 : decode cX0_riskOfAct 8 = .ok (.goto 15, 3) := by decide +kernel
theorem dX0_riskOfAct_11 : decode cX0_riskOfAct 11 = .ok (.aload_n 0, 1) := by decide +kernel
theorem dX0_riskOfAct_12 : decode cX0_riskOfAct 12 = .ok (.iload_n 1, 1) := by decide +kernel
theorem dX0_riskOfAct_13 : decode cX0_riskOfAct 13 = .ok (.invokestatic 67, 3) := by decide +kernel
theorem dX0_riskOfAct_16 : decode cX0_riskOfAct 16 = .ok (.iload_n 1, 1) := by decide +kernel
theorem dX0_riskOfAct_17 : decode cX0_riskOfAct 17 = .ok (.invokestatic 74, 3) := by decide +kernel
theorem dX0_riskOfAct_20 : decode cX0_riskOfAct 20 = .ok (.invokevirtual 101, 3) := by decide +kernel
theorem dX0_riskOfAct_23 : decode cX0_riskOfAct 23 = .ok (.ireturn, 1) := by decide +kernel
theorem dX0_personOf_0 : decode cX0_personOf 0 = .ok (.iload_n 0, 1) := by decide +kernel
theorem dX0_personOf_1 : decode cX0_personOf 1 = .ok (.bipush 10, 2) := by decide +kernel
theorem dX0_personOf_3 : decode cX0_personOf 3 = .ok (.irem, 1) := by decide +kernel
theorem dX0_personOf_4 : decode cX0_personOf 4 = .ok (.ireturn, 1) := by decide +kernel
theorem dX0_childOf_0 : decode cX0_childOf 0 = .ok (.iload_n 0, 1) := by decide +kernel
theorem dX0_childOf_1 : decode cX0_childOf 1 = .ok (.bipush 10, 2) := by decide +kernel
theorem dX0_childOf_3 : decode cX0_childOf 3 = .ok (.idiv, 1) := by decide +kernel
theorem dX0_childOf_4 : decode cX0_childOf 4 = .ok (.bipush 10, 2) := by decide +kernel
theorem dX0_childOf_6 : decode cX0_childOf 6 = .ok (.irem, 1) := by decide +kernel
theorem dX0_childOf_7 : decode cX0_childOf 7 = .ok (.iconst 1, 1) := by decide +kernel
theorem dX0_childOf_8 : decode cX0_childOf 8 = .ok (.isub, 1) := by decide +kernel
theorem dX0_childOf_9 : decode cX0_childOf 9 = .ok (.ireturn, 1) := by decide +kernel
theorem dX0_postOf_0 : decode cX0_postOf 0 = .ok (.iload_n 0, 1) := by decide +kernel
theorem dX0_postOf_1 : decode cX0_postOf 1 = .ok (.bipush 100, 2) := by decide +kernel
theorem dX0_postOf_3 : decode cX0_postOf 3 = .ok (.idiv, 1) := by decide +kernel
theorem dX0_postOf_4 : decode cX0_postOf 4 = .ok (.ireturn, 1) := by decide +kernel
theorem dX0_actOf_0 : decode cX0_actOf 0 = .ok (.bipush 100, 2) := by decide +kernel
theorem dX0_actOf_2 : decode cX0_actOf 2 = .ok (.iload_n 2, 1) := by decide +kernel
theorem dX0_actOf_3 : decode cX0_actOf 3 = .ok (.imul, 1) := by decide +kernel
theorem dX0_actOf_4 : decode cX0_actOf 4 = .ok (.bipush 10, 2) := by decide +kernel
theorem dX0_actOf_6 : decode cX0_actOf 6 = .ok (.iload_n 1, 1) := by decide +kernel
theorem dX0_actOf_7 : decode cX0_actOf 7 = .ok (.iconst 1, 1) := by decide +kernel
theorem dX0_actOf_8 : decode cX0_actOf 8 = .ok (.iadd, 1) := by decide +kernel
theorem dX0_actOf_9 : decode cX0_actOf 9 = .ok (.imul, 1) := by decide +kernel
theorem dX0_actOf_10 : decode cX0_actOf 10 = .ok (.iadd, 1) := by decide +kernel
theorem dX0_actOf_11 : decode cX0_actOf 11 = .ok (.iload_n 0, 1) := by decide +kernel
theorem dX0_actOf_12 : decode cX0_actOf 12 = .ok (.iadd, 1) := by decide +kernel
theorem dX0_actOf_13 : decode cX0_actOf 13 = .ok (.ireturn, 1) := by decide +kernel
theorem dX1_init_0 : decode cX1_init 0 = .ok (.aload_n 0, 1) := by decide +kernel
theorem dX1_init_1 : decode cX1_init 1 = .ok (.invokespecial 1, 3) := by decide +kernel
theorem dX1_init_4 : decode cX1_init 4 = .ok (.aload_n 0, 1) := by decide +kernel
theorem dX1_init_5 : decode cX1_init 5 = .ok (.ldc 9, 2) := by decide +kernel
theorem dX1_init_7 : decode cX1_init 7 = .ok (.newarray .int, 2) := by decide +kernel
theorem dX1_init_9 : decode cX1_init 9 = .ok (.putfield 10, 3) := by decide +kernel
theorem dX1_init_12 : decode cX1_init 12 = .ok (.aload_n 0, 1) := by decide +kernel
theorem dX1_init_13 : decode cX1_init 13 = .ok (.sipush 2048, 3) := by decide +kernel
theorem dX1_init_16 : decode cX1_init 16 = .ok (.newarray .long, 2) := by decide +kernel
theorem dX1_init_18 : decode cX1_init 18 = .ok (.putfield 16, 3) := by decide +kernel
theorem dX1_init_21 : decode cX1_init 21 = .ok (.return_, 1) := by decide +kernel
theorem dX1_begin_0 : decode cX1_begin 0 = .ok (.aload_n 0, 1) := by decide +kernel
theorem dX1_begin_1 : decode cX1_begin 1 = .ok (.getfield 16, 3) := by decide +kernel
theorem dX1_begin_4 : decode cX1_begin 4 = .ok (.lconst 0, 1) := by decide +kernel
theorem dX1_begin_5 : decode cX1_begin 5 = .ok (.invokestatic 20, 3) := by decide +kernel
theorem dX1_begin_8 : decode cX1_begin 8 = .ok (.aload_n 0, 1) := by decide +kernel
theorem dX1_begin_9 : decode cX1_begin 9 = .ok (.iconst 0, 1) := by decide +kernel
theorem dX1_begin_10 : decode cX1_begin 10 = .ok (.putfield 26, 3) := by decide +kernel
theorem dX1_begin_13 : decode cX1_begin 13 = .ok (.aload_n 0, 1) := by decide +kernel
theorem dX1_begin_14 : decode cX1_begin 14 = .ok (.iload_n 1, 1) := by decide +kernel
theorem dX1_begin_15 : decode cX1_begin 15 = .ok (.invokevirtual 30, 3) := by decide +kernel
theorem dX1_begin_18 : decode cX1_begin 18 = .ok (.return_, 1) := by decide +kernel
theorem dX1_add_0 : decode cX1_add 0 = .ok (.lconst 1, 1) := by decide +kernel
theorem dX1_add_1 : decode cX1_add 1 = .ok (.iload_n 1, 1) := by decide +kernel
theorem dX1_add_2 : decode cX1_add 2 = .ok (.bipush 63, 2) := by decide +kernel
theorem dX1_add_4 : decode cX1_add 4 = .ok (.iand, 1) := by decide +kernel
theorem dX1_add_5 : decode cX1_add 5 = .ok (.lshl, 1) := by decide +kernel
theorem dX1_add_6 : decode cX1_add 6 = .ok (.lstore_n 2, 1) := by decide +kernel
theorem dX1_add_7 : decode cX1_add 7 = .ok (.aload_n 0, 1) := by decide +kernel
theorem dX1_add_8 : decode cX1_add 8 = .ok (.getfield 16, 3) := by decide +kernel
theorem dX1_add_11 : decode cX1_add 11 = .ok (.iload_n 1, 1) := by decide +kernel
theorem dX1_add_12 : decode cX1_add 12 = .ok (.bipush 64, 2) := by decide +kernel
theorem dX1_add_14 : decode cX1_add 14 = .ok (.idiv, 1) := by decide +kernel
theorem dX1_add_15 : decode cX1_add 15 = .ok (.laload, 1) := by decide +kernel
theorem dX1_add_16 : decode cX1_add 16 = .ok (.lload_n 2, 1) := by decide +kernel
theorem dX1_add_17 : decode cX1_add 17 = .ok (.land, 1) := by decide +kernel
theorem dX1_add_18 : decode cX1_add 18 = .ok (.lconst 0, 1) := by decide +kernel
theorem dX1_add_19 : decode cX1_add 19 = .ok (.lcmp, 1) := by decide +kernel
theorem dX1_add_20 : decode cX1_add 20 = .ok (.ifCond .ne 45, 3) := by decide +kernel
theorem dX1_add_23 : decode cX1_add 23 = .ok (.aload_n 0, 1) := by decide +kernel
theorem dX1_add_24 : decode cX1_add 24 = .ok (.getfield 26, 3) := by decide +kernel
theorem dX1_add_27 : decode cX1_add 27 = .ok (.ldc 9, 2) := by decide +kernel
theorem dX1_add_29 : decode cX1_add 29 = .ok (.if_icmp .ge 36, 3) := by decide +kernel
theorem dX1_add_32 : decode cX1_add 32 = .ok (.aload_n 0, 1) := by decide +kernel
theorem dX1_add_33 : decode cX1_add 33 = .ok (.getfield 16, 3) := by decide +kernel
theorem dX1_add_36 : decode cX1_add 36 = .ok (.iload_n 1, 1) := by decide +kernel
theorem dX1_add_37 : decode cX1_add 37 = .ok (.bipush 64, 2) := by decide +kernel
theorem dX1_add_39 : decode cX1_add 39 = .ok (.idiv, 1) := by decide +kernel
theorem dX1_add_40 : decode cX1_add 40 = .ok (.dup2, 1) := by decide +kernel
theorem dX1_add_41 : decode cX1_add 41 = .ok (.laload, 1) := by decide +kernel
theorem dX1_add_42 : decode cX1_add 42 = .ok (.lload_n 2, 1) := by decide +kernel
theorem dX1_add_43 : decode cX1_add 43 = .ok (.lor, 1) := by decide +kernel
theorem dX1_add_44 : decode cX1_add 44 = .ok (.lastore, 1) := by decide +kernel
theorem dX1_add_45 : decode cX1_add 45 = .ok (.aload_n 0, 1) := by decide +kernel
theorem dX1_add_46 : decode cX1_add 46 = .ok (.getfield 10, 3) := by decide +kernel
theorem dX1_add_49 : decode cX1_add 49 = .ok (.aload_n 0, 1) := by decide +kernel
theorem dX1_add_50 : decode cX1_add 50 = .ok (.getfield 26, 3) := by decide +kernel
theorem dX1_add_53 : decode cX1_add 53 = .ok (.iload_n 1, 1) := by decide +kernel
theorem dX1_add_54 : decode cX1_add 54 = .ok (.iastore, 1) := by decide +kernel
theorem dX1_add_55 : decode cX1_add 55 = .ok (.aload_n 0, 1) := by decide +kernel
theorem dX1_add_56 : decode cX1_add 56 = .ok (.dup, 1) := by decide +kernel
theorem dX1_add_57 : decode cX1_add 57 = .ok (.getfield 26, 3) := by decide +kernel
theorem dX1_add_60 : decode cX1_add 60 = .ok (.iconst 1, 1) := by decide +kernel
theorem dX1_add_61 : decode cX1_add 61 = .ok (.iadd, 1) := by decide +kernel
theorem dX1_add_62 : decode cX1_add 62 = .ok (.putfield 26, 3) := by decide +kernel
theorem dX1_add_65 : decode cX1_add 65 = .ok (.return_, 1) := by decide +kernel
theorem dX1_addBehind_0 : decode cX1_addBehind 0 = .ok (.aload_n 1, 1) := by decide +kernel
theorem dX1_addBehind_1 : decode cX1_addBehind 1 = .ok (.iload_n 2, 1) := by decide +kernel
theorem dX1_addBehind_2 : decode cX1_addBehind 2 = .ok (.invokevirtual 34, 3) := by decide +kernel
theorem dX1_addBehind_5 : decode cX1_addBehind 5 = .ok (.istore_n 3, 1) := by decide +kernel
theorem dX1_addBehind_6 : decode cX1_addBehind 6 = .ok (.iconst 0, 1) := by decide +kernel
theorem dX1_addBehind_7 : decode cX1_addBehind 7 = .ok (.istore 4, 2) := by decide +kernel
theorem dX1_addBehind_9 : decode cX1_addBehind 9 = .ok (.iload 4, 2) := by decide +kernel
theorem dX1_addBehind_11 : decode cX1_addBehind 11 = .ok (.iload_n 3, 1) := by decide +kernel
theorem dX1_addBehind_12 : decode cX1_addBehind 12 = .ok (.if_icmp .ge 20, 3) := by decide +kernel
theorem dX1_addBehind_15 : decode cX1_addBehind 15 = .ok (.aload_n 0, 1) := by decide +kernel
theorem dX1_addBehind_16 : decode cX1_addBehind 16 = .ok (.aload_n 1, 1) := by decide +kernel
theorem dX1_addBehind_17 : decode cX1_addBehind 17 = .ok (.getfield 38, 3) := by decide +kernel
theorem dX1_addBehind_20 : decode cX1_addBehind 20 = .ok (.iload 4, 2) := by decide +kernel
theorem dX1_addBehind_22 : decode cX1_addBehind 22 = .ok (.iaload, 1) := by decide +kernel
theorem dX1_addBehind_23 : decode cX1_addBehind 23 = .ok (.invokevirtual 30, 3) := by decide +kernel
theorem dX1_addBehind_26 : decode cX1_addBehind 26 = .ok (.iinc 4 1, 3) := by decide +kernel
theorem dX1_addBehind_29 : decode cX1_addBehind 29 = .ok (.goto (-20), 3) := by decide +kernel
theorem dX1_addBehind_32 : decode cX1_addBehind 32 = .ok (.return_, 1) := by decide +kernel
theorem dX1_fill_0 : decode cX1_fill 0 = .ok (.aload_n 0, 1) := by decide +kernel
theorem dX1_fill_1 : decode cX1_fill 1 = .ok (.iload_n 2, 1) := by decide +kernel
theorem dX1_fill_2 : decode cX1_fill 2 = .ok (.invokevirtual 41, 3) := by decide +kernel
theorem dX1_fill_5 : decode cX1_fill 5 = .ok (.iconst 0, 1) := by decide +kernel
theorem dX1_fill_6 : decode cX1_fill 6 = .ok (.istore_n 3, 1) := by decide +kernel
theorem dX1_fill_7 : decode cX1_fill 7 = .ok (.iload_n 3, 1) := by decide +kernel
theorem dX1_fill_8 : decode cX1_fill 8 = .ok (.aload_n 0, 1) := by decide +kernel
theorem dX1_fill_9 : decode cX1_fill 9 = .ok (.getfield 26, 3) := by decide +kernel
theorem dX1_fill_12 : decode cX1_fill 12 = .ok (.if_icmp .ge 26, 3) := by decide +kernel
theorem dX1_fill_15 : decode cX1_fill 15 = .ok (.iload_n 3, 1) := by decide +kernel
theorem dX1_fill_16 : decode cX1_fill 16 = .ok (.ldc 9, 2) := by decide +kernel
theorem dX1_fill_18 : decode cX1_fill 18 = .ok (.if_icmp .ge 20, 3) := by decide +kernel
theorem dX1_fill_21 : decode cX1_fill 21 = .ok (.aload_n 0, 1) := by decide +kernel
theorem dX1_fill_22 : decode cX1_fill 22 = .ok (.aload_n 1, 1) := by decide +kernel
theorem dX1_fill_23 : decode cX1_fill 23 = .ok (.aload_n 0, 1) := by decide +kernel
theorem dX1_fill_24 : decode cX1_fill 24 = .ok (.getfield 10, 3) := by decide +kernel
theorem dX1_fill_27 : decode cX1_fill 27 = .ok (.iload_n 3, 1) := by decide +kernel
theorem dX1_fill_28 : decode cX1_fill 28 = .ok (.iaload, 1) := by decide +kernel
theorem dX1_fill_29 : decode cX1_fill 29 = .ok (.invokevirtual 44, 3) := by decide +kernel
theorem dX1_fill_32 : decode cX1_fill 32 = .ok (.iinc 3 1, 3) := by decide +kernel
theorem dX1_fill_35 : decode cX1_fill 35 = .ok (.goto (-28), 3) := by decide +kernel
theorem dX1_fill_38 : decode cX1_fill 38 = .ok (.return_, 1) := by decide +kernel
theorem dX1_reaches_0 : decode cX1_reaches 0 = .ok (.aload_n 0, 1) := by decide +kernel
theorem dX1_reaches_1 : decode cX1_reaches 1 = .ok (.iload_n 2, 1) := by decide +kernel
theorem dX1_reaches_2 : decode cX1_reaches 2 = .ok (.invokevirtual 41, 3) := by decide +kernel
theorem dX1_reaches_5 : decode cX1_reaches 5 = .ok (.iconst 0, 1) := by decide +kernel
theorem dX1_reaches_6 : decode cX1_reaches 6 = .ok (.istore 4, 2) := by decide +kernel
theorem dX1_reaches_8 : decode cX1_reaches 8 = .ok (.iload 4, 2) := by decide +kernel
theorem dX1_reaches_10 : decode cX1_reaches 10 = .ok (.aload_n 0, 1) := by decide +kernel
theorem dX1_reaches_11 : decode cX1_reaches 11 = .ok (.getfield 26, 3) := by decide +kernel
theorem dX1_reaches_14 : decode cX1_reaches 14 = .ok (.if_icmp .ge 44, 3) := by decide +kernel
theorem dX1_reaches_17 : decode cX1_reaches 17 = .ok (.iload 4, 2) := by decide +kernel
theorem dX1_reaches_19 : decode cX1_reaches 19 = .ok (.ldc 9, 2) := by decide +kernel
theorem dX1_reaches_21 : decode cX1_reaches 21 = .ok (.if_icmp .ge 37, 3) := by decide +kernel
theorem dX1_reaches_24 : decode cX1_reaches 24 = .ok (.aload_n 0, 1) := by decide +kernel
theorem dX1_reaches_25 : decode cX1_reaches 25 = .ok (.getfield 10, 3) := by decide +kernel
theorem dX1_reaches_28 : decode cX1_reaches 28 = .ok (.iload 4, 2) := by decide +kernel
theorem dX1_reaches_30 : decode cX1_reaches 30 = .ok (.iaload, 1) := by decide +kernel
theorem dX1_reaches_31 : decode cX1_reaches 31 = .ok (.invokestatic 48, 3) := by decide +kernel
theorem dX1_reaches_34 : decode cX1_reaches 34 = .ok (.iload_n 3, 1) := by decide +kernel
theorem dX1_reaches_35 : decode cX1_reaches 35 = .ok (.if_icmp .ne 5, 3) := by decide +kernel
theorem dX1_reaches_38 : decode cX1_reaches 38 = .ok (.iconst 1, 1) := by decide +kernel
theorem dX1_reaches_39 : decode cX1_reaches 39 = .ok (.ireturn, 1) := by decide +kernel
theorem dX1_reaches_40 : decode cX1_reaches 40 = .ok (.aload_n 0, 1) := by decide +kernel
theorem dX1_reaches_41 : decode cX1_reaches 41 = .ok (.aload_n 1, 1) := by decide +kernel
theorem dX1_reaches_42 : decode cX1_reaches 42 = .ok (.aload_n 0, 1) := by decide +kernel
theorem dX1_reaches_43 : decode cX1_reaches 43 = .ok (.getfield 10, 3) := by decide +kernel
theorem dX1_reaches_46 : decode cX1_reaches 46 = .ok (.iload 4, 2) := by decide +kernel
theorem dX1_reaches_48 : decode cX1_reaches 48 = .ok (.iaload, 1) := by decide +kernel
theorem dX1_reaches_49 : decode cX1_reaches 49 = .ok (.invokevirtual 44, 3) := by decide +kernel
theorem dX1_reaches_52 : decode cX1_reaches 52 = .ok (.iinc 4 1, 3) := by decide +kernel
theorem dX1_reaches_55 : decode cX1_reaches 55 = .ok (.goto (-47), 3) := by decide +kernel
theorem dX1_reaches_58 : decode cX1_reaches 58 = .ok (.iconst 0, 1) := by decide +kernel
theorem dX1_reaches_59 : decode cX1_reaches 59 = .ok (.ireturn, 1) := by decide +kernel
theorem dX2_init_0 : decode cX2_init 0 = .ok (.aload_n 0, 1) := by decide +kernel
theorem dX2_init_1 : decode cX2_init 1 = .ok (.invokespecial 5, 3) := by decide +kernel
theorem dX2_init_4 : decode cX2_init 4 = .ok (.aload_n 0, 1) := by decide +kernel
theorem dX2_init_5 : decode cX2_init 5 = .ok (.ldc 13, 2) := by decide +kernel
theorem dX2_init_7 : decode cX2_init 7 = .ok (.newarray .int, 2) := by decide +kernel
theorem dX2_init_9 : decode cX2_init 9 = .ok (.putfield 14, 3) := by decide +kernel
theorem dX2_init_12 : decode cX2_init 12 = .ok (.aload_n 0, 1) := by decide +kernel
theorem dX2_init_13 : decode cX2_init 13 = .ok (.ldc 18, 2) := by decide +kernel
theorem dX2_init_15 : decode cX2_init 15 = .ok (.newarray .int, 2) := by decide +kernel
theorem dX2_init_17 : decode cX2_init 17 = .ok (.putfield 19, 3) := by decide +kernel
theorem dX2_init_20 : decode cX2_init 20 = .ok (.aload_n 0, 1) := by decide +kernel
theorem dX2_init_21 : decode cX2_init 21 = .ok (.ldc 22, 2) := by decide +kernel
theorem dX2_init_23 : decode cX2_init 23 = .ok (.newarray .int, 2) := by decide +kernel
theorem dX2_init_25 : decode cX2_init 25 = .ok (.putfield 23, 3) := by decide +kernel
theorem dX2_init_28 : decode cX2_init 28 = .ok (.aload_n 0, 1) := by decide +kernel
theorem dX2_init_29 : decode cX2_init 29 = .ok (.ldc 26, 2) := by decide +kernel
theorem dX2_init_31 : decode cX2_init 31 = .ok (.newarray .int, 2) := by decide +kernel
theorem dX2_init_33 : decode cX2_init 33 = .ok (.putfield 27, 3) := by decide +kernel
theorem dX2_init_36 : decode cX2_init 36 = .ok (.return_, 1) := by decide +kernel
theorem dX2_build_0 : decode cX2_build 0 = .ok (.iconst 0, 1) := by decide +kernel
theorem dX2_build_1 : decode cX2_build 1 = .ok (.istore_n 2, 1) := by decide +kernel
theorem dX2_build_2 : decode cX2_build 2 = .ok (.iload_n 2, 1) := by decide +kernel
theorem dX2_build_3 : decode cX2_build 3 = .ok (.aload_n 0, 1) := by decide +kernel
theorem dX2_build_4 : decode cX2_build 4 = .ok (.getfield 30, 3) := by decide +kernel
theorem dX2_build_7 : decode cX2_build 7 = .ok (.if_icmp .ge 21, 3) := by decide +kernel
theorem dX2_build_10 : decode cX2_build 10 = .ok (.aload_n 0, 1) := by decide +kernel
theorem dX2_build_11 : decode cX2_build 11 = .ok (.getfield 14, 3) := by decide +kernel
theorem dX2_build_14 : decode cX2_build 14 = .ok (.aload_n 0, 1) := by decide +kernel
theorem dX2_build_15 : decode cX2_build 15 = .ok (.getfield 19, 3) := by decide +kernel
theorem dX2_build_18 : decode cX2_build 18 = .ok (.iload_n 2, 1) := by decide +kernel
theorem dX2_build_19 : decode cX2_build 19 = .ok (.iaload, 1) := by decide +kernel
theorem dX2_build_20 : decode cX2_build 20 = .ok (.iconst 0, 1) := by decide +kernel
theorem dX2_build_21 : decode cX2_build 21 = .ok (.iastore, 1) := by decide +kernel
theorem dX2_build_22 : decode cX2_build 22 = .ok (.iinc 2 1, 3) := by decide +kernel
theorem dX2_build_25 : decode cX2_build 25 = .ok (.goto (-23), 3) := by decide +kernel
theorem dX2_build_28 : decode cX2_build 28 = .ok (.aload_n 0, 1) := by decide +kernel
theorem dX2_build_29 : decode cX2_build 29 = .ok (.iconst 0, 1) := by decide +kernel
theorem dX2_build_30 : decode cX2_build 30 = .ok (.putfield 30, 3) := by decide +kernel
theorem dX2_build_33 : decode cX2_build 33 = .ok (.aload_n 0, 1) := by decide +kernel
theorem dX2_build_34 : decode cX2_build 34 = .ok (.iconst 0, 1) := by decide +kernel
theorem dX2_build_35 : decode cX2_build 35 = .ok (.putfield 34, 3) := by decide +kernel
theorem dX2_build_38 : decode cX2_build 38 = .ok (.aload_n 0, 1) := by decide +kernel
theorem dX2_build_39 : decode cX2_build 39 = .ok (.invokestatic 37, 3) := by decide +kernel
theorem dX2_build_42 : decode cX2_build 42 = .ok (.invokevirtual 41, 3) := by decide +kernel
theorem dX2_build_45 : decode cX2_build 45 = .ok (.pop, 1) := by decide +kernel
theorem dX2_build_46 : decode cX2_build 46 = .ok (.iconst 0, 1) := by decide +kernel
theorem dX2_build_47 : decode cX2_build 47 = .ok (.istore_n 2, 1) := by decide +kernel
theorem dX2_build_48 : decode cX2_build 48 = .ok (.iload_n 2, 1) := by decide +kernel
theorem dX2_build_49 : decode cX2_build 49 = .ok (.aload_n 0, 1) := by decide +kernel
theorem dX2_build_50 : decode cX2_build 50 = .ok (.getfield 30, 3) := by decide +kernel
theorem dX2_build_53 : decode cX2_build 53 = .ok (.if_icmp .ge 75, 3) := by decide +kernel
theorem dX2_build_56 : decode cX2_build 56 = .ok (.iload_n 2, 1) := by decide +kernel
theorem dX2_build_57 : decode cX2_build 57 = .ok (.ldc 18, 2) := by decide +kernel
theorem dX2_build_59 : decode cX2_build 59 = .ok (.if_icmp .ge 69, 3) := by decide +kernel
theorem dX2_build_62 : decode cX2_build 62 = .ok (.aload_n 1, 1) := by decide +kernel
theorem dX2_build_63 : decode cX2_build 63 = .ok (.aload_n 0, 1) := by decide +kernel
theorem dX2_build_64 : decode cX2_build 64 = .ok (.getfield 19, 3) := by decide +kernel
theorem dX2_build_67 : decode cX2_build 67 = .ok (.iload_n 2, 1) := by decide +kernel
theorem dX2_build_68 : decode cX2_build 68 = .ok (.iaload, 1) := by decide +kernel
theorem dX2_build_69 : decode cX2_build 69 = .ok (.invokevirtual 45, 3) := by decide +kernel
theorem dX2_build_72 : decode cX2_build 72 = .ok (.istore_n 3, 1) := by decide +kernel
theorem dX2_build_73 : decode cX2_build 73 = .ok (.iconst 0, 1) := by decide +kernel
theorem dX2_build_74 : decode cX2_build 74 = .ok (.istore 4, 2) := by decide +kernel
theorem dX2_build_76 : decode cX2_build 76 = .ok (.iload 4, 2) := by decide +kernel
theorem dX2_build_78 : decode cX2_build 78 = .ok (.iload_n 3, 1) := by decide +kernel
theorem dX2_build_79 : decode cX2_build 79 = .ok (.if_icmp .ge 31, 3) := by decide +kernel
theorem dX2_build_82 : decode cX2_build 82 = .ok (.aload_n 0, 1) := by decide +kernel
theorem dX2_build_83 : decode cX2_build 83 = .ok (.aload_n 0, 1) := by decide +kernel
theorem dX2_build_84 : decode cX2_build 84 = .ok (.aload_n 1, 1) := by decide +kernel
theorem dX2_build_85 : decode cX2_build 85 = .ok (.getfield 48, 3) := by decide +kernel
theorem dX2_build_88 : decode cX2_build 88 = .ok (.iload 4, 2) := by decide +kernel
theorem dX2_build_90 : decode cX2_build 90 = .ok (.iaload, 1) := by decide +kernel
theorem dX2_build_91 : decode cX2_build 91 = .ok (.invokevirtual 41, 3) := by decide +kernel
theorem dX2_build_94 : decode cX2_build 94 = .ok (.aload_n 1, 1) := by decide +kernel
theorem dX2_build_95 : decode cX2_build 95 = .ok (.getfield 51, 3) := by decide +kernel
theorem dX2_build_98 : decode cX2_build 98 = .ok (.iload 4, 2) := by decide +kernel
theorem dX2_build_100 : decode cX2_build 100 = .ok (.iaload, 1) := by decide +kernel
theorem dX2_build_101 : decode cX2_build 101 = .ok (.invokevirtual 54, 3) := by decide +kernel
theorem dX2_build_104 : decode cX2_build 104 = .ok (.iinc 4 1, 3) := by decide +kernel
theorem dX2_build_107 : decode cX2_build 107 = .ok (.goto (-31), 3) := by decide +kernel
theorem dX2_build_110 : decode cX2_build 110 = .ok (.aload_n 0, 1) := by decide +kernel
theorem dX2_build_111 : decode cX2_build 111 = .ok (.getfield 23, 3) := by decide +kernel
theorem dX2_build_114 : decode cX2_build 114 = .ok (.iload_n 2, 1) := by decide +kernel
theorem dX2_build_115 : decode cX2_build 115 = .ok (.iconst 1, 1) := by decide +kernel
theorem dX2_build_116 : decode cX2_build 116 = .ok (.iadd, 1) := by decide +kernel
theorem dX2_build_117 : decode cX2_build 117 = .ok (.aload_n 0, 1) := by decide +kernel
theorem dX2_build_118 : decode cX2_build 118 = .ok (.getfield 34, 3) := by decide +kernel
theorem dX2_build_121 : decode cX2_build 121 = .ok (.iastore, 1) := by decide +kernel
theorem dX2_build_122 : decode cX2_build 122 = .ok (.iinc 2 1, 3) := by decide +kernel
theorem dX2_build_125 : decode cX2_build 125 = .ok (.goto (-77), 3) := by decide +kernel
theorem dX2_build_128 : decode cX2_build 128 = .ok (.return_, 1) := by decide +kernel
theorem dX2_link_0 : decode cX2_link 0 = .ok (.iload_n 1, 1) := by decide +kernel
theorem dX2_link_1 : decode cX2_link 1 = .ok (.iconst (-1), 1) := by decide +kernel
theorem dX2_link_2 : decode cX2_link 2 = .ok (.if_icmp .eq 37, 3) := by decide +kernel
theorem dX2_link_5 : decode cX2_link 5 = .ok (.aload_n 0, 1) := by decide +kernel
theorem dX2_link_6 : decode cX2_link 6 = .ok (.getfield 34, 3) := by decide +kernel
theorem dX2_link_9 : decode cX2_link 9 = .ok (.ldc 26, 2) := by decide +kernel
theorem dX2_link_11 : decode cX2_link 11 = .ok (.if_icmp .ge 28, 3) := by decide +kernel
theorem dX2_link_14 : decode cX2_link 14 = .ok (.aload_n 0, 1) := by decide +kernel
theorem dX2_link_15 : decode cX2_link 15 = .ok (.getfield 27, 3) := by decide +kernel
theorem dX2_link_18 : decode cX2_link 18 = .ok (.aload_n 0, 1) := by decide +kernel
theorem dX2_link_19 : decode cX2_link 19 = .ok (.getfield 34, 3) := by decide +kernel
theorem dX2_link_22 : decode cX2_link 22 = .ok (.iload_n 1, 1) := by decide +kernel
theorem dX2_link_23 : decode cX2_link 23 = .ok (.bipush 8, 2) := by decide +kernel
theorem dX2_link_25 : decode cX2_link 25 = .ok (.ishl, 1) := by decide +kernel
theorem dX2_link_26 : decode cX2_link 26 = .ok (.iload_n 2, 1) := by decide +kernel
theorem dX2_link_27 : decode cX2_link 27 = .ok (.ior, 1) := by decide +kernel
theorem dX2_link_28 : decode cX2_link 28 = .ok (.iastore, 1) := by decide +kernel
theorem dX2_link_29 : decode cX2_link 29 = .ok (.aload_n 0, 1) := by decide +kernel
theorem dX2_link_30 : decode cX2_link 30 = .ok (.dup, 1) := by decide +kernel
theorem dX2_link_31 : decode cX2_link 31 = .ok (.getfield 34, 3) := by decide +kernel
theorem dX2_link_34 : decode cX2_link 34 = .ok (.iconst 1, 1) := by decide +kernel
theorem dX2_link_35 : decode cX2_link 35 = .ok (.iadd, 1) := by decide +kernel
theorem dX2_link_36 : decode cX2_link 36 = .ok (.putfield 34, 3) := by decide +kernel
theorem dX2_link_39 : decode cX2_link 39 = .ok (.return_, 1) := by decide +kernel
theorem dX2_number_0 : decode cX2_number 0 = .ok (.aload_n 0, 1) := by decide +kernel
theorem dX2_number_1 : decode cX2_number 1 = .ok (.getfield 14, 3) := by decide +kernel
theorem dX2_number_4 : decode cX2_number 4 = .ok (.iload_n 1, 1) := by decide +kernel
theorem dX2_number_5 : decode cX2_number 5 = .ok (.iaload, 1) := by decide +kernel
theorem dX2_number_6 : decode cX2_number 6 = .ok (.ifCond .ne 42, 3) := by decide +kernel
theorem dX2_number_9 : decode cX2_number 9 = .ok (.aload_n 0, 1) := by decide +kernel
theorem dX2_number_10 : decode cX2_number 10 = .ok (.getfield 30, 3) := by decide +kernel
theorem dX2_number_13 : decode cX2_number 13 = .ok (.ldc 18, 2) := by decide +kernel
theorem dX2_number_15 : decode cX2_number 15 = .ok (.if_icmp .ge 33, 3) := by decide +kernel
theorem dX2_number_18 : decode cX2_number 18 = .ok (.aload_n 0, 1) := by decide +kernel
theorem dX2_number_19 : decode cX2_number 19 = .ok (.getfield 19, 3) := by decide +kernel
theorem dX2_number_22 : decode cX2_number 22 = .ok (.aload_n 0, 1) := by decide +kernel
theorem dX2_number_23 : decode cX2_number 23 = .ok (.getfield 30, 3) := by decide +kernel
theorem dX2_number_26 : decode cX2_number 26 = .ok (.iload_n 1, 1) := by decide +kernel
theorem dX2_number_27 : decode cX2_number 27 = .ok (.iastore, 1) := by decide +kernel
theorem dX2_number_28 : decode cX2_number 28 = .ok (.aload_n 0, 1) := by decide +kernel
theorem dX2_number_29 : decode cX2_number 29 = .ok (.dup, 1) := by decide +kernel
theorem dX2_number_30 : decode cX2_number 30 = .ok (.getfield 30, 3) := by decide +kernel
theorem dX2_number_33 : decode cX2_number 33 = .ok (.iconst 1, 1) := by decide +kernel
theorem dX2_number_34 : decode cX2_number 34 = .ok (.iadd, 1) := by decide +kernel
theorem dX2_number_35 : decode cX2_number 35 = .ok (.putfield 30, 3) := by decide +kernel
theorem dX2_number_38 : decode cX2_number 38 = .ok (.aload_n 0, 1) := by decide +kernel
theorem dX2_number_39 : decode cX2_number 39 = .ok (.getfield 14, 3) := by decide +kernel
theorem dX2_number_42 : decode cX2_number 42 = .ok (.iload_n 1, 1) := by decide +kernel
theorem dX2_number_43 : decode cX2_number 43 = .ok (.aload_n 0, 1) := by decide +kernel
theorem dX2_number_44 : decode cX2_number 44 = .ok (.getfield 30, 3) := by decide +kernel
theorem dX2_number_47 : decode cX2_number 47 = .ok (.iastore, 1) := by decide +kernel
theorem dX2_number_48 : decode cX2_number 48 = .ok (.aload_n 0, 1) := by decide +kernel
theorem dX2_number_49 : decode cX2_number 49 = .ok (.getfield 14, 3) := by decide +kernel
theorem dX2_number_52 : decode cX2_number 52 = .ok (.iload_n 1, 1) := by decide +kernel
theorem dX2_number_53 : decode cX2_number 53 = .ok (.iaload, 1) := by decide +kernel
theorem dX2_number_54 : decode cX2_number 54 = .ok (.iconst 1, 1) := by decide +kernel
theorem dX2_number_55 : decode cX2_number 55 = .ok (.isub, 1) := by decide +kernel
theorem dX2_number_56 : decode cX2_number 56 = .ok (.ireturn, 1) := by decide +kernel
theorem dX2_find_0 : decode cX2_find 0 = .ok (.iload_n 1, 1) := by decide +kernel
theorem dX2_find_1 : decode cX2_find 1 = .ok (.ifCond .lt 20, 3) := by decide +kernel
theorem dX2_find_4 : decode cX2_find 4 = .ok (.iload_n 1, 1) := by decide +kernel
theorem dX2_find_5 : decode cX2_find 5 = .ok (.ldc 13, 2) := by decide +kernel
theorem dX2_find_7 : decode cX2_find 7 = .ok (.if_icmp .ge 14, 3) := by decide +kernel
theorem dX2_find_10 : decode cX2_find 10 = .ok (.aload_n 0, 1) := by decide +kernel
theorem dX2_find_11 : decode cX2_find 11 = .ok (.getfield 14, 3) := by decide +kernel
theorem dX2_find_14 : decode cX2_find 14 = .ok (.iload_n 1, 1) := by decide +kernel
theorem dX2_find_15 : decode cX2_find 15 = .ok (.iaload, 1) := by decide +kernel
theorem dX2_find_16 : decode cX2_find 16 = .ok (.iconst 1, 1) := by decide +kernel
theorem dX2_find_17 : decode cX2_find 17 = .ok (.isub, 1) := by decide +kernel
theorem dX2_find_18 : decode cX2_find 18 = .ok (.goto 4, 3) := by decide +kernel
theorem dX2_find_21 : decode cX2_find 21 = .ok (.iconst (-1), 1) := by decide +kernel
theorem dX2_find_22 : decode cX2_find 22 = .ok (.ireturn, 1) := by decide +kernel
theorem dX2_overAt_0 : decode cX2_overAt 0 = .ok (.iload_n 1, 1) := by decide +kernel
theorem dX2_overAt_1 : decode cX2_overAt 1 = .ok (.ifCond .lt 23, 3) := by decide +kernel
theorem dX2_overAt_4 : decode cX2_overAt 4 = .ok (.iload_n 1, 1) := by decide +kernel
theorem dX2_overAt_5 : decode cX2_overAt 5 = .ok (.aload_n 0, 1) := by decide +kernel
theorem dX2_overAt_6 : decode cX2_overAt 6 = .ok (.getfield 30, 3) := by decide +kernel
theorem dX2_overAt_9 : decode cX2_overAt 9 = .ok (.if_icmp .ge 15, 3) := by decide +kernel
theorem dX2_overAt_12 : decode cX2_overAt 12 = .ok (.aload_n 0, 1) := by decide +kernel
theorem dX2_overAt_13 : decode cX2_overAt 13 = .ok (.getfield 19, 3) := by decide +kernel
theorem dX2_overAt_16 : decode cX2_overAt 16 = .ok (.iload_n 1, 1) := by decide +kernel
theorem dX2_overAt_17 : decode cX2_overAt 17 = .ok (.iaload, 1) := by decide +kernel
theorem dX2_overAt_18 : decode cX2_overAt 18 = .ok (.invokestatic 58, 3) := by decide +kernel
theorem dX2_overAt_21 : decode cX2_overAt 21 = .ok (.goto 4, 3) := by decide +kernel
theorem dX2_overAt_24 : decode cX2_overAt 24 = .ok (.iconst 0, 1) := by decide +kernel
theorem dX2_overAt_25 : decode cX2_overAt 25 = .ok (.ireturn, 1) := by decide +kernel
theorem dX2_actOf_0 : decode cX2_actOf 0 = .ok (.iload_n 0, 1) := by decide +kernel
theorem dX2_actOf_1 : decode cX2_actOf 1 = .ok (.sipush 255, 3) := by decide +kernel
theorem dX2_actOf_4 : decode cX2_actOf 4 = .ok (.iand, 1) := by decide +kernel
theorem dX2_actOf_5 : decode cX2_actOf 5 = .ok (.ireturn, 1) := by decide +kernel
theorem dX2_targetOf_0 : decode cX2_targetOf 0 = .ok (.iload_n 0, 1) := by decide +kernel
theorem dX2_targetOf_1 : decode cX2_targetOf 1 = .ok (.bipush 8, 2) := by decide +kernel
theorem dX2_targetOf_3 : decode cX2_targetOf 3 = .ok (.ishr, 1) := by decide +kernel
theorem dX2_targetOf_4 : decode cX2_targetOf 4 = .ok (.ireturn, 1) := by decide +kernel
theorem dX2_settle_0 : decode cX2_settle 0 = .ok (.aload_n 1, 1) := by decide +kernel
theorem dX2_settle_1 : decode cX2_settle 1 = .ok (.getfield 61, 3) := by decide +kernel
theorem dX2_settle_4 : decode cX2_settle 4 = .ok (.astore_n 3, 1) := by decide +kernel
theorem dX2_settle_5 : decode cX2_settle 5 = .ok (.iconst 0, 1) := by decide +kernel
theorem dX2_settle_6 : decode cX2_settle 6 = .ok (.istore 4, 2) := by decide +kernel
theorem dX2_settle_8 : decode cX2_settle 8 = .ok (.iload 4, 2) := by decide +kernel
theorem dX2_settle_10 : decode cX2_settle 10 = .ok (.aload_n 0, 1) := by decide +kernel
theorem dX2_settle_11 : decode cX2_settle 11 = .ok (.getfield 30, 3) := by decide +kernel
theorem dX2_settle_14 : decode cX2_settle 14 = .ok (.if_icmp .ge 30, 3) := by decide +kernel
theorem dX2_settle_17 : decode cX2_settle 17 = .ok (.aload_n 3, 1) := by decide +kernel
theorem dX2_settle_18 : decode cX2_settle 18 = .ok (.iload 4, 2) := by decide +kernel
theorem dX2_settle_20 : decode cX2_settle 20 = .ok (.aload_n 0, 1) := by decide +kernel
theorem dX2_settle_21 : decode cX2_settle 21 = .ok (.iload 4, 2) := by decide +kernel
theorem dX2_settle_23 : decode cX2_settle 23 = .ok (.invokevirtual 67, 3) := by decide +kernel
theorem dX2_settle_26 : decode cX2_settle 26 = .ok (.iload_n 2, 1) := by decide +kernel
theorem dX2_settle_27 : decode cX2_settle 27 = .ok (.if_icmp .ne 7, 3) := by decide +kernel
theorem dX2_settle_30 : decode cX2_settle 30 = .ok (.lconst 0, 1) := by decide +kernel
theorem dX2_settle_31 : decode cX2_settle 31 = .ok (.goto 6, 3) := by decide +kernel
theorem dX2_settle_34 : decode cX2_settle 34 = .ok (.ldc2_w 70, 3) := by decide +kernel
theorem dX2_settle_37 : decode cX2_settle 37 = .ok (.lastore, 1) := by decide +kernel
theorem dX2_settle_38 : decode cX2_settle 38 = .ok (.iinc 4 1, 3) := by decide +kernel
theorem dX2_settle_41 : decode cX2_settle 41 = .ok (.goto (-33), 3) := by decide +kernel
theorem dX2_settle_44 : decode cX2_settle 44 = .ok (.iconst 1, 1) := by decide +kernel
theorem dX2_settle_45 : decode cX2_settle 45 = .ok (.istore 4, 2) := by decide +kernel
theorem dX2_settle_47 : decode cX2_settle 47 = .ok (.iconst 0, 1) := by decide +kernel
theorem dX2_settle_48 : decode cX2_settle 48 = .ok (.istore 5, 2) := by decide +kernel
theorem dX2_settle_50 : decode cX2_settle 50 = .ok (.iload 5, 2) := by decide +kernel
theorem dX2_settle_52 : decode cX2_settle 52 = .ok (.aload_n 0, 1) := by decide +kernel
theorem dX2_settle_53 : decode cX2_settle 53 = .ok (.getfield 30, 3) := by decide +kernel
theorem dX2_settle_56 : decode cX2_settle 56 = .ok (.if_icmp .gt 64, 3) := by decide +kernel
theorem dX2_settle_59 : decode cX2_settle 59 = .ok (.iload 4, 2) := by decide +kernel
theorem dX2_settle_61 : decode cX2_settle 61 = .ok (.ifCond .eq 59, 3) := by decide +kernel
theorem dX2_settle_64 : decode cX2_settle 64 = .ok (.iconst 0, 1) := by decide +kernel
theorem dX2_settle_65 : decode cX2_settle 65 = .ok (.istore 4, 2) := by decide +kernel
theorem dX2_settle_67 : decode cX2_settle 67 = .ok (.aload_n 0, 1) := by decide +kernel
theorem dX2_settle_68 : decode cX2_settle 68 = .ok (.getfield 30, 3) := by decide +kernel
theorem dX2_settle_71 : decode cX2_settle 71 = .ok (.iconst 1, 1) := by decide +kernel
theorem dX2_settle_72 : decode cX2_settle 72 = .ok (.isub, 1) := by decide +kernel
theorem dX2_settle_73 : decode cX2_settle 73 = .ok (.istore 6, 2) := by decide +kernel
theorem dX2_settle_75 : decode cX2_settle 75 = .ok (.iload 6, 2) := by decide +kernel
theorem dX2_settle_77 : decode cX2_settle 77 = .ok (.ifCond .lt 37, 3) := by decide +kernel
theorem dX2_settle_80 : decode cX2_settle 80 = .ok (.aload_n 0, 1) := by decide +kernel
theorem dX2_settle_81 : decode cX2_settle 81 = .ok (.aload_n 1, 1) := by decide +kernel
theorem dX2_settle_82 : decode cX2_settle 82 = .ok (.iload 6, 2) := by decide +kernel
theorem dX2_settle_84 : decode cX2_settle 84 = .ok (.invokevirtual 72, 3) := by decide +kernel
theorem dX2_settle_87 : decode cX2_settle 87 = .ok (.lstore 7, 2) := by decide +kernel
theorem dX2_settle_89 : decode cX2_settle 89 = .ok (.lload 7, 2) := by decide +kernel
theorem dX2_settle_91 : decode cX2_settle 91 = .ok (.aload_n 3, 1) := by decide +kernel
theorem dX2_settle_92 : decode cX2_settle 92 = .ok (.iload 6, 2) := by decide +kernel
theorem dX2_settle_94 : decode cX2_settle 94 = .ok (.laload, 1) := by decide +kernel
theorem dX2_settle_95 : decode cX2_settle 95 = .ok (.lcmp, 1) := by decide +kernel
theorem dX2_settle_96 : decode cX2_settle 96 = .ok (.ifCond .ge 12, 3) := by decide +kernel
theorem dX2_settle_99 : decode cX2_settle 99 = .ok (.aload_n 3, 1) := by decide +kernel
theorem dX2_settle_100 : decode cX2_settle 100 = .ok (.iload 6, 2) := by decide +kernel
theorem dX2_settle_102 : decode cX2_settle 102 = .ok (.lload 7, 2) := by decide +kernel
theorem dX2_settle_104 : decode cX2_settle 104 = .ok (.lastore, 1) := by decide +kernel
theorem dX2_settle_105 : decode cX2_settle 105 = .ok (.iconst 1, 1) := by decide +kernel
theorem dX2_settle_106 : decode cX2_settle 106 = .ok (.istore 4, 2) := by decide +kernel
theorem dX2_settle_108 : decode cX2_settle 108 = .ok (.iinc 6 (-1), 3) := by decide +kernel
theorem dX2_settle_111 : decode cX2_settle 111 = .ok (.goto (-36), 3) := by decide +kernel
theorem dX2_settle_114 : decode cX2_settle 114 = .ok (.iinc 5 1, 3) := by decide +kernel
theorem dX2_settle_117 : decode cX2_settle 117 = .ok (.goto (-67), 3) := by decide +kernel
theorem dX2_settle_120 : decode cX2_settle 120 = .ok (.return_, 1) := by decide +kernel
theorem dX2_cheapest_0 : decode cX2_cheapest 0 = .ok (.aload_n 1, 1) := by decide +kernel
theorem dX2_cheapest_1 : decode cX2_cheapest 1 = .ok (.getfield 61, 3) := by decide +kernel
theorem dX2_cheapest_4 : decode cX2_cheapest 4 = .ok (.astore_n 3, 1) := by decide +kernel
theorem dX2_cheapest_5 : decode cX2_cheapest 5 = .ok (.aload_n 1, 1) := by decide +kernel
theorem dX2_cheapest_6 : decode cX2_cheapest 6 = .ok (.getfield 76, 3) := by decide +kernel
theorem dX2_cheapest_9 : decode cX2_cheapest 9 = .ok (.astore 4, 2) := by decide +kernel
theorem dX2_cheapest_11 : decode cX2_cheapest 11 = .ok (.aload_n 3, 1) := by decide +kernel
theorem dX2_cheapest_12 : decode cX2_cheapest 12 = .ok (.iload_n 2, 1) := by decide +kernel
theorem dX2_cheapest_13 : decode cX2_cheapest 13 = .ok (.laload, 1) := by decide +kernel
theorem dX2_cheapest_14 : decode cX2_cheapest 14 = .ok (.lstore 5, 2) := by decide +kernel
theorem dX2_cheapest_16 : decode cX2_cheapest 16 = .ok (.lload 5, 2) := by decide +kernel
theorem dX2_cheapest_18 : decode cX2_cheapest 18 = .ok (.lconst 0, 1) := by decide +kernel
theorem dX2_cheapest_19 : decode cX2_cheapest 19 = .ok (.lcmp, 1) := by decide +kernel
theorem dX2_cheapest_20 : decode cX2_cheapest 20 = .ok (.ifCond .ne 5, 3) := by decide +kernel
theorem dX2_cheapest_23 : decode cX2_cheapest 23 = .ok (.lconst 0, 1) := by decide +kernel
theorem dX2_cheapest_24 : decode cX2_cheapest 24 = .ok (.lreturn, 1) := by decide +kernel
theorem dX2_cheapest_25 : decode cX2_cheapest 25 = .ok (.aload_n 0, 1) := by decide +kernel
theorem dX2_cheapest_26 : decode cX2_cheapest 26 = .ok (.getfield 23, 3) := by decide +kernel
theorem dX2_cheapest_29 : decode cX2_cheapest 29 = .ok (.iload_n 2, 1) := by decide +kernel
theorem dX2_cheapest_30 : decode cX2_cheapest 30 = .ok (.iaload, 1) := by decide +kernel
theorem dX2_cheapest_31 : decode cX2_cheapest 31 = .ok (.istore 7, 2) := by decide +kernel
theorem dX2_cheapest_33 : decode cX2_cheapest 33 = .ok (.iload 7, 2) := by decide +kernel
theorem dX2_cheapest_35 : decode cX2_cheapest 35 = .ok (.aload_n 0, 1) := by decide +kernel
theorem dX2_cheapest_36 : decode cX2_cheapest 36 = .ok (.getfield 23, 3) := by decide +kernel
theorem dX2_cheapest_39 : decode cX2_cheapest 39 = .ok (.iload_n 2, 1) := by decide +kernel
theorem dX2_cheapest_40 : decode cX2_cheapest 40 = .ok (.iconst 1, 1) := by decide +kernel
theorem dX2_cheapest_41 : decode cX2_cheapest 41 = .ok (.iadd, 1) := by decide +kernel
theorem dX2_cheapest_42 : decode cX2_cheapest 42 = .ok (.iaload, 1) := by decide +kernel
theorem dX2_cheapest_43 : decode cX2_cheapest 43 = .ok (.if_icmp .ge 42, 3) := by decide +kernel
theorem dX2_cheapest_46 : decode cX2_cheapest 46 = .ok (.lload 5, 2) := by decide +kernel
theorem dX2_cheapest_48 : decode cX2_cheapest 48 = .ok (.aload_n 3, 1) := by decide +kernel
theorem dX2_cheapest_49 : decode cX2_cheapest 49 = .ok (.aload_n 0, 1) := by decide +kernel
theorem dX2_cheapest_50 : decode cX2_cheapest 50 = .ok (.getfield 27, 3) := by decide +kernel
theorem dX2_cheapest_53 : decode cX2_cheapest 53 = .ok (.iload 7, 2) := by decide +kernel
theorem dX2_cheapest_55 : decode cX2_cheapest 55 = .ok (.iaload, 1) := by decide +kernel
theorem dX2_cheapest_56 : decode cX2_cheapest 56 = .ok (.invokestatic 79, 3) := by decide +kernel
theorem dX2_cheapest_59 : decode cX2_cheapest 59 = .ok (.laload, 1) := by decide +kernel
theorem dX2_cheapest_60 : decode cX2_cheapest 60 = .ok (.aload 4, 2) := by decide +kernel
theorem dX2_cheapest_62 : decode cX2_cheapest 62 = .ok (.aload_n 0, 1) := by decide +kernel
theorem dX2_cheapest_63 : decode cX2_cheapest 63 = .ok (.getfield 27, 3) := by decide +kernel
theorem dX2_cheapest_66 : decode cX2_cheapest 66 = .ok (.iload 7, 2) := by decide +kernel
theorem dX2_cheapest_68 : decode cX2_cheapest 68 = .ok (.iaload, 1) := by decide +kernel
theorem dX2_cheapest_69 : decode cX2_cheapest 69 = .ok (.invokestatic 82, 3) := by decide +kernel
theorem dX2_cheapest_72 : decode cX2_cheapest 72 = .ok (.laload, 1) := by decide +kernel
theorem dX2_cheapest_73 : decode cX2_cheapest 73 = .ok (.ladd, 1) := by decide +kernel
theorem dX2_cheapest_74 : decode cX2_cheapest 74 = .ok (.invokestatic 85, 3) := by decide +kernel
theorem dX2_cheapest_77 : decode cX2_cheapest 77 = .ok (.lstore 5, 2) := by decide +kernel
theorem dX2_cheapest_79 : decode cX2_cheapest 79 = .ok (.iinc 7 1, 3) := by decide +kernel
theorem dX2_cheapest_82 : decode cX2_cheapest 82 = .ok (.goto (-49), 3) := by decide +kernel
theorem dX2_cheapest_85 : decode cX2_cheapest 85 = .ok (.lload 5, 2) := by decide +kernel
theorem dX2_cheapest_87 : decode cX2_cheapest 87 = .ok (.lreturn, 1) := by decide +kernel
theorem dX2_spread_0 : decode cX2_spread 0 = .ok (.aload_n 1, 1) := by decide +kernel
theorem dX2_spread_1 : decode cX2_spread 1 = .ok (.getfield 61, 3) := by decide +kernel
theorem dX2_spread_4 : decode cX2_spread 4 = .ok (.astore_n 3, 1) := by decide +kernel
theorem dX2_spread_5 : decode cX2_spread 5 = .ok (.iconst 0, 1) := by decide +kernel
theorem dX2_spread_6 : decode cX2_spread 6 = .ok (.istore 4, 2) := by decide +kernel
theorem dX2_spread_8 : decode cX2_spread 8 = .ok (.iload 4, 2) := by decide +kernel
theorem dX2_spread_10 : decode cX2_spread 10 = .ok (.aload_n 0, 1) := by decide +kernel
theorem dX2_spread_11 : decode cX2_spread 11 = .ok (.getfield 30, 3) := by decide +kernel
theorem dX2_spread_14 : decode cX2_spread 14 = .ok (.if_icmp .ge 26, 3) := by decide +kernel
theorem dX2_spread_17 : decode cX2_spread 17 = .ok (.aload_n 3, 1) := by decide +kernel
theorem dX2_spread_18 : decode cX2_spread 18 = .ok (.iload 4, 2) := by decide +kernel
theorem dX2_spread_20 : decode cX2_spread 20 = .ok (.iload 4, 2) := by decide +kernel
theorem dX2_spread_22 : decode cX2_spread 22 = .ok (.iload_n 2, 1) := by decide +kernel
theorem dX2_spread_23 : decode cX2_spread 23 = .ok (.if_icmp .ne 7, 3) := by decide +kernel
theorem dX2_spread_26 : decode cX2_spread 26 = .ok (.lconst 0, 1) := by decide +kernel
theorem dX2_spread_27 : decode cX2_spread 27 = .ok (.goto 6, 3) := by decide +kernel
theorem dX2_spread_30 : decode cX2_spread 30 = .ok (.ldc2_w 70, 3) := by decide +kernel
theorem dX2_spread_33 : decode cX2_spread 33 = .ok (.lastore, 1) := by decide +kernel
theorem dX2_spread_34 : decode cX2_spread 34 = .ok (.iinc 4 1, 3) := by decide +kernel
theorem dX2_spread_37 : decode cX2_spread 37 = .ok (.goto (-29), 3) := by decide +kernel
theorem dX2_spread_40 : decode cX2_spread 40 = .ok (.iconst 1, 1) := by decide +kernel
theorem dX2_spread_41 : decode cX2_spread 41 = .ok (.istore 4, 2) := by decide +kernel
theorem dX2_spread_43 : decode cX2_spread 43 = .ok (.iconst 0, 1) := by decide +kernel
theorem dX2_spread_44 : decode cX2_spread 44 = .ok (.istore 5, 2) := by decide +kernel
theorem dX2_spread_46 : decode cX2_spread 46 = .ok (.iload 5, 2) := by decide +kernel
theorem dX2_spread_48 : decode cX2_spread 48 = .ok (.aload_n 0, 1) := by decide +kernel
theorem dX2_spread_49 : decode cX2_spread 49 = .ok (.getfield 30, 3) := by decide +kernel
theorem dX2_spread_52 : decode cX2_spread 52 = .ok (.if_icmp .gt 59, 3) := by decide +kernel
theorem dX2_spread_55 : decode cX2_spread 55 = .ok (.iload 4, 2) := by decide +kernel
theorem dX2_spread_57 : decode cX2_spread 57 = .ok (.ifCond .eq 54, 3) := by decide +kernel
theorem dX2_spread_60 : decode cX2_spread 60 = .ok (.iconst 0, 1) := by decide +kernel
theorem dX2_spread_61 : decode cX2_spread 61 = .ok (.istore 4, 2) := by decide +kernel
theorem dX2_spread_63 : decode cX2_spread 63 = .ok (.iconst 0, 1) := by decide +kernel
theorem dX2_spread_64 : decode cX2_spread 64 = .ok (.istore 6, 2) := by decide +kernel
theorem dX2_spread_66 : decode cX2_spread 66 = .ok (.iload 6, 2) := by decide +kernel
theorem dX2_spread_68 : decode cX2_spread 68 = .ok (.aload_n 0, 1) := by decide +kernel
theorem dX2_spread_69 : decode cX2_spread 69 = .ok (.getfield 30, 3) := by decide +kernel
theorem dX2_spread_72 : decode cX2_spread 72 = .ok (.if_icmp .ge 33, 3) := by decide +kernel
theorem dX2_spread_75 : decode cX2_spread 75 = .ok (.aload_n 3, 1) := by decide +kernel
theorem dX2_spread_76 : decode cX2_spread 76 = .ok (.iload 6, 2) := by decide +kernel
theorem dX2_spread_78 : decode cX2_spread 78 = .ok (.laload, 1) := by decide +kernel
theorem dX2_spread_79 : decode cX2_spread 79 = .ok (.ldc2_w 70, 3) := by decide +kernel
theorem dX2_spread_82 : decode cX2_spread 82 = .ok (.lcmp, 1) := by decide +kernel
theorem dX2_spread_83 : decode cX2_spread 83 = .ok (.ifCond .ge 16, 3) := by decide +kernel
theorem dX2_spread_86 : decode cX2_spread 86 = .ok (.aload_n 0, 1) := by decide +kernel
theorem dX2_spread_87 : decode cX2_spread 87 = .ok (.aload_n 1, 1) := by decide +kernel
theorem dX2_spread_88 : decode cX2_spread 88 = .ok (.iload 6, 2) := by decide +kernel
theorem dX2_spread_90 : decode cX2_spread 90 = .ok (.invokevirtual 91, 3) := by decide +kernel
theorem dX2_spread_93 : decode cX2_spread 93 = .ok (.ifCond .eq 6, 3) := by decide +kernel
theorem dX2_spread_96 : decode cX2_spread 96 = .ok (.iconst 1, 1) := by decide +kernel
theorem dX2_spread_97 : decode cX2_spread 97 = .ok (.istore 4, 2) := by decide +kernel
theorem dX2_spread_99 : decode cX2_spread 99 = .ok (.iinc 6 1, 3) := by decide +kernel
theorem dX2_spread_102 : decode cX2_spread 102 = .ok (.goto (-36), 3) := by decide +kernel
theorem dX2_spread_105 : decode cX2_spread 105 = .ok (.iinc 5 1, 3) := by decide +kernel
theorem dX2_spread_108 : decode cX2_spread 108 = .ok (.goto (-62), 3) := by decide +kernel
theorem dX2_spread_111 : decode cX2_spread 111 = .ok (.return_, 1) := by decide +kernel
theorem dX2_cheapens_0 : decode cX2_cheapens 0 = .ok (.aload_n 1, 1) := by decide +kernel
theorem dX2_cheapens_1 : decode cX2_cheapens 1 = .ok (.getfield 61, 3) := by decide +kernel
theorem dX2_cheapens_4 : decode cX2_cheapens 4 = .ok (.astore_n 3, 1) := by decide +kernel
theorem dX2_cheapens_5 : decode cX2_cheapens 5 = .ok (.iconst 0, 1) := by decide +kernel
theorem dX2_cheapens_6 : decode cX2_cheapens 6 = .ok (.istore 4, 2) := by decide +kernel
theorem dX2_cheapens_8 : decode cX2_cheapens 8 = .ok (.aload_n 0, 1) := by decide +kernel
theorem dX2_cheapens_9 : decode cX2_cheapens 9 = .ok (.getfield 23, 3) := by decide +kernel
theorem dX2_cheapens_12 : decode cX2_cheapens 12 = .ok (.iload_n 2, 1) := by decide +kernel
theorem dX2_cheapens_13 : decode cX2_cheapens 13 = .ok (.iaload, 1) := by decide +kernel
theorem dX2_cheapens_14 : decode cX2_cheapens 14 = .ok (.istore 5, 2) := by decide +kernel
theorem dX2_cheapens_16 : decode cX2_cheapens 16 = .ok (.iload 5, 2) := by decide +kernel
theorem dX2_cheapens_18 : decode cX2_cheapens 18 = .ok (.aload_n 0, 1) := by decide +kernel
theorem dX2_cheapens_19 : decode cX2_cheapens 19 = .ok (.getfield 23, 3) := by decide +kernel
theorem dX2_cheapens_22 : decode cX2_cheapens 22 = .ok (.iload_n 2, 1) := by decide +kernel
theorem dX2_cheapens_23 : decode cX2_cheapens 23 = .ok (.iconst 1, 1) := by decide +kernel
theorem dX2_cheapens_24 : decode cX2_cheapens 24 = .ok (.iadd, 1) := by decide +kernel
theorem dX2_cheapens_25 : decode cX2_cheapens 25 = .ok (.iaload, 1) := by decide +kernel
theorem dX2_cheapens_26 : decode cX2_cheapens 26 = .ok (.if_icmp .ge 61, 3) := by decide +kernel
theorem dX2_cheapens_29 : decode cX2_cheapens 29 = .ok (.aload_n 0, 1) := by decide +kernel
theorem dX2_cheapens_30 : decode cX2_cheapens 30 = .ok (.getfield 27, 3) := by decide +kernel
theorem dX2_cheapens_33 : decode cX2_cheapens 33 = .ok (.iload 5, 2) := by decide +kernel
theorem dX2_cheapens_35 : decode cX2_cheapens 35 = .ok (.iaload, 1) := by decide +kernel
theorem dX2_cheapens_36 : decode cX2_cheapens 36 = .ok (.invokestatic 79, 3) := by decide +kernel
theorem dX2_cheapens_39 : decode cX2_cheapens 39 = .ok (.istore 6, 2) := by decide +kernel
theorem dX2_cheapens_41 : decode cX2_cheapens 41 = .ok (.aload_n 3, 1) := by decide +kernel
theorem dX2_cheapens_42 : decode cX2_cheapens 42 = .ok (.iload_n 2, 1) := by decide +kernel
theorem dX2_cheapens_43 : decode cX2_cheapens 43 = .ok (.laload, 1) := by decide +kernel
theorem dX2_cheapens_44 : decode cX2_cheapens 44 = .ok (.aload_n 1, 1) := by decide +kernel
theorem dX2_cheapens_45 : decode cX2_cheapens 45 = .ok (.getfield 76, 3) := by decide +kernel
theorem dX2_cheapens_48 : decode cX2_cheapens 48 = .ok (.aload_n 0, 1) := by decide +kernel
theorem dX2_cheapens_49 : decode cX2_cheapens 49 = .ok (.getfield 27, 3) := by decide +kernel
theorem dX2_cheapens_52 : decode cX2_cheapens 52 = .ok (.iload 5, 2) := by decide +kernel
theorem dX2_cheapens_54 : decode cX2_cheapens 54 = .ok (.iaload, 1) := by decide +kernel
theorem dX2_cheapens_55 : decode cX2_cheapens 55 = .ok (.invokestatic 82, 3) := by decide +kernel
theorem dX2_cheapens_58 : decode cX2_cheapens 58 = .ok (.laload, 1) := by decide +kernel
theorem dX2_cheapens_59 : decode cX2_cheapens 59 = .ok (.ladd, 1) := by decide +kernel
theorem dX2_cheapens_60 : decode cX2_cheapens 60 = .ok (.lstore 7, 2) := by decide +kernel
theorem dX2_cheapens_62 : decode cX2_cheapens 62 = .ok (.lload 7, 2) := by decide +kernel
theorem dX2_cheapens_64 : decode cX2_cheapens 64 = .ok (.aload_n 3, 1) := by decide +kernel
theorem dX2_cheapens_65 : decode cX2_cheapens 65 = .ok (.iload 6, 2) := by decide +kernel
theorem dX2_cheapens_67 : decode cX2_cheapens 67 = .ok (.laload, 1) := by decide +kernel
theorem dX2_cheapens_68 : decode cX2_cheapens 68 = .ok (.lcmp, 1) := by decide +kernel
theorem dX2_cheapens_69 : decode cX2_cheapens 69 = .ok (.ifCond .ge 12, 3) := by decide +kernel
theorem dX2_cheapens_72 : decode cX2_cheapens 72 = .ok (.aload_n 3, 1) := by decide +kernel
theorem dX2_cheapens_73 : decode cX2_cheapens 73 = .ok (.iload 6, 2) := by decide +kernel
theorem dX2_cheapens_75 : decode cX2_cheapens 75 = .ok (.lload 7, 2) := by decide +kernel
theorem dX2_cheapens_77 : decode cX2_cheapens 77 = .ok (.lastore, 1) := by decide +kernel
theorem dX2_cheapens_78 : decode cX2_cheapens 78 = .ok (.iconst 1, 1) := by decide +kernel
theorem dX2_cheapens_79 : decode cX2_cheapens 79 = .ok (.istore 4, 2) := by decide +kernel
theorem dX2_cheapens_81 : decode cX2_cheapens 81 = .ok (.iinc 5 1, 3) := by decide +kernel
theorem dX2_cheapens_84 : decode cX2_cheapens 84 = .ok (.goto (-68), 3) := by decide +kernel
theorem dX2_cheapens_87 : decode cX2_cheapens 87 = .ok (.iload 4, 2) := by decide +kernel
theorem dX2_cheapens_89 : decode cX2_cheapens 89 = .ok (.ireturn, 1) := by decide +kernel
theorem dX2_bestEdge_0 : decode cX2_bestEdge 0 = .ok (.aload_n 1, 1) := by decide +kernel
theorem dX2_bestEdge_1 : decode cX2_bestEdge 1 = .ok (.getfield 61, 3) := by decide +kernel
theorem dX2_bestEdge_4 : decode cX2_bestEdge 4 = .ok (.astore_n 3, 1) := by decide +kernel
theorem dX2_bestEdge_5 : decode cX2_bestEdge 5 = .ok (.iload_n 2, 1) := by decide +kernel
theorem dX2_bestEdge_6 : decode cX2_bestEdge 6 = .ok (.ifCond .lt 29, 3) := by decide +kernel
theorem dX2_bestEdge_9 : decode cX2_bestEdge 9 = .ok (.iload_n 2, 1) := by decide +kernel
theorem dX2_bestEdge_10 : decode cX2_bestEdge 10 = .ok (.aload_n 0, 1) := by decide +kernel
theorem dX2_bestEdge_11 : decode cX2_bestEdge 11 = .ok (.getfield 30, 3) := by decide +kernel
theorem dX2_bestEdge_14 : decode cX2_bestEdge 14 = .ok (.if_icmp .ge 21, 3) := by decide +kernel
theorem dX2_bestEdge_17 : decode cX2_bestEdge 17 = .ok (.aload_n 3, 1) := by decide +kernel
theorem dX2_bestEdge_18 : decode cX2_bestEdge 18 = .ok (.iload_n 2, 1) := by decide +kernel
theorem dX2_bestEdge_19 : decode cX2_bestEdge 19 = .ok (.laload, 1) := by decide +kernel
theorem dX2_bestEdge_20 : decode cX2_bestEdge 20 = .ok (.lconst 0, 1) := by decide +kernel
theorem dX2_bestEdge_21 : decode cX2_bestEdge 21 = .ok (.lcmp, 1) := by decide +kernel
theorem dX2_bestEdge_22 : decode cX2_bestEdge 22 = .ok (.ifCond .eq 13, 3) := by decide +kernel
theorem dX2_bestEdge_25 : decode cX2_bestEdge 25 = .ok (.aload_n 3, 1) := by decide +kernel
theorem dX2_bestEdge_26 : decode cX2_bestEdge 26 = .ok (.iload_n 2, 1) := by decide +kernel
theorem dX2_bestEdge_27 : decode cX2_bestEdge 27 = .ok (.laload, 1) := by decide +kernel
theorem dX2_bestEdge_28 : decode cX2_bestEdge 28 = .ok (.ldc2_w 70, 3) := by decide +kernel
theorem dX2_bestEdge_31 : decode cX2_bestEdge 31 = .ok (.lcmp, 1) := by decide +kernel
theorem dX2_bestEdge_32 : decode cX2_bestEdge 32 = .ok (.ifCond .lt 5, 3) := by decide +kernel
theorem dX2_bestEdge_35 : decode cX2_bestEdge 35 = .ok (.iconst (-1), 1) := by decide +kernel
theorem dX2_bestEdge_36 : decode cX2_bestEdge 36 = .ok (.ireturn, 1) := by decide +kernel
theorem dX2_bestEdge_37 : decode cX2_bestEdge 37 = .ok (.aload_n 0, 1) := by decide +kernel
theorem dX2_bestEdge_38 : decode cX2_bestEdge 38 = .ok (.getfield 23, 3) := by decide +kernel
theorem dX2_bestEdge_41 : decode cX2_bestEdge 41 = .ok (.iload_n 2, 1) := by decide +kernel
theorem dX2_bestEdge_42 : decode cX2_bestEdge 42 = .ok (.iaload, 1) := by decide +kernel
theorem dX2_bestEdge_43 : decode cX2_bestEdge 43 = .ok (.istore 4, 2) := by decide +kernel
theorem dX2_bestEdge_45 : decode cX2_bestEdge 45 = .ok (.iload 4, 2) := by decide +kernel
theorem dX2_bestEdge_47 : decode cX2_bestEdge 47 = .ok (.aload_n 0, 1) := by decide +kernel
theorem dX2_bestEdge_48 : decode cX2_bestEdge 48 = .ok (.getfield 23, 3) := by decide +kernel
theorem dX2_bestEdge_51 : decode cX2_bestEdge 51 = .ok (.iload_n 2, 1) := by decide +kernel
theorem dX2_bestEdge_52 : decode cX2_bestEdge 52 = .ok (.iconst 1, 1) := by decide +kernel
theorem dX2_bestEdge_53 : decode cX2_bestEdge 53 = .ok (.iadd, 1) := by decide +kernel
theorem dX2_bestEdge_54 : decode cX2_bestEdge 54 = .ok (.iaload, 1) := by decide +kernel
theorem dX2_bestEdge_55 : decode cX2_bestEdge 55 = .ok (.if_icmp .ge 52, 3) := by decide +kernel
theorem dX2_bestEdge_58 : decode cX2_bestEdge 58 = .ok (.aload_n 3, 1) := by decide +kernel
theorem dX2_bestEdge_59 : decode cX2_bestEdge 59 = .ok (.aload_n 0, 1) := by decide +kernel
theorem dX2_bestEdge_60 : decode cX2_bestEdge 60 = .ok (.getfield 27, 3) := by decide +kernel
theorem dX2_bestEdge_63 : decode cX2_bestEdge 63 = .ok (.iload 4, 2) := by decide +kernel
theorem dX2_bestEdge_65 : decode cX2_bestEdge 65 = .ok (.iaload, 1) := by decide +kernel
theorem dX2_bestEdge_66 : decode cX2_bestEdge 66 = .ok (.invokestatic 79, 3) := by decide +kernel
theorem dX2_bestEdge_69 : decode cX2_bestEdge 69 = .ok (.laload, 1) := by decide +kernel
theorem dX2_bestEdge_70 : decode cX2_bestEdge 70 = .ok (.aload_n 1, 1) := by decide +kernel
theorem dX2_bestEdge_71 : decode cX2_bestEdge 71 = .ok (.getfield 76, 3) := by decide +kernel
theorem dX2_bestEdge_74 : decode cX2_bestEdge 74 = .ok (.aload_n 0, 1) := by decide +kernel
theorem dX2_bestEdge_75 : decode cX2_bestEdge 75 = .ok (.getfield 27, 3) := by decide +kernel
theorem dX2_bestEdge_78 : decode cX2_bestEdge 78 = .ok (.iload 4, 2) := by decide +kernel
theorem dX2_bestEdge_80 : decode cX2_bestEdge 80 = .ok (.iaload, 1) := by decide +kernel
theorem dX2_bestEdge_81 : decode cX2_bestEdge 81 = .ok (.invokestatic 82, 3) := by decide +kernel
theorem dX2_bestEdge_84 : decode cX2_bestEdge 84 = .ok (.laload, 1) := by decide +kernel
theorem dX2_bestEdge_85 : decode cX2_bestEdge 85 = .ok (.ladd, 1) := by decide +kernel
theorem dX2_bestEdge_86 : decode cX2_bestEdge 86 = .ok (.aload_n 3, 1) := by decide +kernel
theorem dX2_bestEdge_87 : decode cX2_bestEdge 87 = .ok (.iload_n 2, 1) := by decide +kernel
theorem dX2_bestEdge_88 : decode cX2_bestEdge 88 = .ok (.laload, 1) := by decide +kernel
theorem dX2_bestEdge_89 : decode cX2_bestEdge 89 = .ok (.lcmp, 1) := by decide +kernel
theorem dX2_bestEdge_90 : decode cX2_bestEdge 90 = .ok (.ifCond .ne 11, 3) := by decide +kernel
theorem dX2_bestEdge_93 : decode cX2_bestEdge 93 = .ok (.aload_n 0, 1) := by decide +kernel
theorem dX2_bestEdge_94 : decode cX2_bestEdge 94 = .ok (.getfield 27, 3) := by decide +kernel
theorem dX2_bestEdge_97 : decode cX2_bestEdge 97 = .ok (.iload 4, 2) := by decide +kernel
theorem dX2_bestEdge_99 : decode cX2_bestEdge 99 = .ok (.iaload, 1) := by decide +kernel
theorem dX2_bestEdge_100 : decode cX2_bestEdge 100 = .ok (.ireturn, 1) := by decide +kernel
theorem dX2_bestEdge_101 : decode cX2_bestEdge 101 = .ok (.iinc 4 1, 3) := by decide +kernel
theorem dX2_bestEdge_104 : decode cX2_bestEdge 104 = .ok (.goto (-59), 3) := by decide +kernel
theorem dX2_bestEdge_107 : decode cX2_bestEdge 107 = .ok (.iconst (-1), 1) := by decide +kernel
theorem dX2_bestEdge_108 : decode cX2_bestEdge 108 = .ok (.ireturn, 1) := by decide +kernel
theorem dX3_init_0 : decode cX3_init 0 = .ok (.aload_n 0, 1) := by decide +kernel
theorem dX3_init_1 : decode cX3_init 1 = .ok (.invokespecial 5, 3) := by decide +kernel
theorem dX3_init_4 : decode cX3_init 4 = .ok (.aload_n 0, 1) := by decide +kernel
theorem dX3_init_5 : decode cX3_init 5 = .ok (.sipush 8192, 3) := by decide +kernel
theorem dX3_init_8 : decode cX3_init 8 = .ok (.newarray .long, 2) := by decide +kernel
theorem dX3_init_10 : decode cX3_init 10 = .ok (.putfield 13, 3) := by decide +kernel
theorem dX3_init_13 : decode cX3_init 13 = .ok (.aload_n 0, 1) := by decide +kernel
theorem dX3_init_14 : decode cX3_init 14 = .ok (.sipush 8192, 3) := by decide +kernel
theorem dX3_init_17 : decode cX3_init 17 = .ok (.newarray .int, 2) := by decide +kernel
theorem dX3_init_19 : decode cX3_init 19 = .ok (.putfield 17, 3) := by decide +kernel
theorem dX3_init_22 : decode cX3_init 22 = .ok (.aload_n 0, 1) := by decide +kernel
theorem dX3_init_23 : decode cX3_init 23 = .ok (.sipush 8192, 3) := by decide +kernel
theorem dX3_init_26 : decode cX3_init 26 = .ok (.newarray .long, 2) := by decide +kernel
theorem dX3_init_28 : decode cX3_init 28 = .ok (.putfield 21, 3) := by decide +kernel
theorem dX3_init_31 : decode cX3_init 31 = .ok (.aload_n 0, 1) := by decide +kernel
theorem dX3_init_32 : decode cX3_init 32 = .ok (.sipush 8192, 3) := by decide +kernel
theorem dX3_init_35 : decode cX3_init 35 = .ok (.newarray .int, 2) := by decide +kernel
theorem dX3_init_37 : decode cX3_init 37 = .ok (.putfield 24, 3) := by decide +kernel
theorem dX3_init_40 : decode cX3_init 40 = .ok (.return_, 1) := by decide +kernel
theorem dX3_open_0 : decode cX3_open 0 = .ok (.aload_n 0, 1) := by decide +kernel
theorem dX3_open_1 : decode cX3_open 1 = .ok (.getfield 13, 3) := by decide +kernel
theorem dX3_open_4 : decode cX3_open 4 = .ok (.lconst 0, 1) := by decide +kernel
theorem dX3_open_5 : decode cX3_open 5 = .ok (.invokestatic 27, 3) := by decide +kernel
theorem dX3_open_8 : decode cX3_open 8 = .ok (.aload_n 0, 1) := by decide +kernel
theorem dX3_open_9 : decode cX3_open 9 = .ok (.getfield 13, 3) := by decide +kernel
theorem dX3_open_12 : decode cX3_open 12 = .ok (.iconst 0, 1) := by decide +kernel
theorem dX3_open_13 : decode cX3_open 13 = .ok (.lconst 1, 1) := by decide +kernel
theorem dX3_open_14 : decode cX3_open 14 = .ok (.lastore, 1) := by decide +kernel
theorem dX3_open_15 : decode cX3_open 15 = .ok (.aload_n 0, 1) := by decide +kernel
theorem dX3_open_16 : decode cX3_open 16 = .ok (.getfield 17, 3) := by decide +kernel
theorem dX3_open_19 : decode cX3_open 19 = .ok (.iconst 0, 1) := by decide +kernel
theorem dX3_open_20 : decode cX3_open 20 = .ok (.iconst 0, 1) := by decide +kernel
theorem dX3_open_21 : decode cX3_open 21 = .ok (.iastore, 1) := by decide +kernel
theorem dX3_open_22 : decode cX3_open 22 = .ok (.aload_n 0, 1) := by decide +kernel
theorem dX3_open_23 : decode cX3_open 23 = .ok (.iconst 1, 1) := by decide +kernel
theorem dX3_open_24 : decode cX3_open 24 = .ok (.putfield 33, 3) := by decide +kernel
theorem dX3_open_27 : decode cX3_open 27 = .ok (.return_, 1) := by decide +kernel
theorem dX3_enter_0 : decode cX3_enter 0 = .ok (.aload_n 0, 1) := by decide +kernel
theorem dX3_enter_1 : decode cX3_enter 1 = .ok (.getfield 21, 3) := by decide +kernel
theorem dX3_enter_4 : decode cX3_enter 4 = .ok (.lconst 0, 1) := by decide +kernel
theorem dX3_enter_5 : decode cX3_enter 5 = .ok (.invokestatic 27, 3) := by decide +kernel
theorem dX3_enter_8 : decode cX3_enter 8 = .ok (.iload_n 3, 1) := by decide +kernel
theorem dX3_enter_9 : decode cX3_enter 9 = .ok (.bipush 10, 2) := by decide +kernel
theorem dX3_enter_11 : decode cX3_enter 11 = .ok (.irem, 1) := by decide +kernel
theorem dX3_enter_12 : decode cX3_enter 12 = .ok (.istore 5, 2) := by decide +kernel
theorem dX3_enter_14 : decode cX3_enter 14 = .ok (.iconst 0, 1) := by decide +kernel
theorem dX3_enter_15 : decode cX3_enter 15 = .ok (.istore 6, 2) := by decide +kernel
theorem dX3_enter_17 : decode cX3_enter 17 = .ok (.iload 6, 2) := by decide +kernel
theorem dX3_enter_19 : decode cX3_enter 19 = .ok (.sipush 8192, 3) := by decide +kernel
theorem dX3_enter_22 : decode cX3_enter 22 = .ok (.if_icmp .ge 140, 3) := by decide +kernel
theorem dX3_enter_25 : decode cX3_enter 25 = .ok (.aload_n 0, 1) := by decide +kernel
theorem dX3_enter_26 : decode cX3_enter 26 = .ok (.getfield 13, 3) := by decide +kernel
theorem dX3_enter_29 : decode cX3_enter 29 = .ok (.iload 6, 2) := by decide +kernel
theorem dX3_enter_31 : decode cX3_enter 31 = .ok (.laload, 1) := by decide +kernel
theorem dX3_enter_32 : decode cX3_enter 32 = .ok (.lconst 0, 1) := by decide +kernel
theorem dX3_enter_33 : decode cX3_enter 33 = .ok (.lcmp, 1) := by decide +kernel
theorem dX3_enter_34 : decode cX3_enter 34 = .ok (.ifCond .eq 122, 3) := by decide +kernel
theorem dX3_enter_37 : decode cX3_enter 37 = .ok (.aload_n 2, 1) := by decide +kernel
theorem dX3_enter_38 : decode cX3_enter 38 = .ok (.iload 6, 2) := by decide +kernel
theorem dX3_enter_40 : decode cX3_enter 40 = .ok (.iload 5, 2) := by decide +kernel
theorem dX3_enter_42 : decode cX3_enter 42 = .ok (.bipush 64, 2) := by decide +kernel
theorem dX3_enter_44 : decode cX3_enter 44 = .ok (.imul, 1) := by decide +kernel
theorem dX3_enter_45 : decode cX3_enter 45 = .ok (.ior, 1) := by decide +kernel
theorem dX3_enter_46 : decode cX3_enter 46 = .ok (.aload_n 0, 1) := by decide +kernel
theorem dX3_enter_47 : decode cX3_enter 47 = .ok (.getfield 33, 3) := by decide +kernel
theorem dX3_enter_50 : decode cX3_enter 50 = .ok (.bipush 13, 2) := by decide +kernel
theorem dX3_enter_52 : decode cX3_enter 52 = .ok (.ishl, 1) := by decide +kernel
theorem dX3_enter_53 : decode cX3_enter 53 = .ok (.ior, 1) := by decide +kernel
theorem dX3_enter_54 : decode cX3_enter 54 = .ok (.invokevirtual 37, 3) := by decide +kernel
theorem dX3_enter_57 : decode cX3_enter 57 = .ok (.istore 7, 2) := by decide +kernel
theorem dX3_enter_59 : decode cX3_enter 59 = .ok (.iconst 0, 1) := by decide +kernel
theorem dX3_enter_60 : decode cX3_enter 60 = .ok (.istore 8, 2) := by decide +kernel
theorem dX3_enter_62 : decode cX3_enter 62 = .ok (.iload 8, 2) := by decide +kernel
theorem dX3_enter_64 : decode cX3_enter 64 = .ok (.iload 7, 2) := by decide +kernel
theorem dX3_enter_66 : decode cX3_enter 66 = .ok (.if_icmp .ge 90, 3) := by decide +kernel
theorem dX3_enter_69 : decode cX3_enter 69 = .ok (.aload_n 2, 1) := by decide +kernel
theorem dX3_enter_70 : decode cX3_enter 70 = .ok (.getfield 41, 3) := by decide +kernel
theorem dX3_enter_73 : decode cX3_enter 73 = .ok (.iload 8, 2) := by decide +kernel
theorem dX3_enter_75 : decode cX3_enter 75 = .ok (.iaload, 1) := by decide +kernel
theorem dX3_enter_76 : decode cX3_enter 76 = .ok (.istore 9, 2) := by decide +kernel
theorem dX3_enter_78 : decode cX3_enter 78 = .ok (.iload 9, 2) := by decide +kernel
theorem dX3_enter_80 : decode cX3_enter 80 = .ok (.sipush 200, 3) := by decide +kernel
theorem dX3_enter_83 : decode cX3_enter 83 = .ok (.if_icmp .eq 21, 3) := by decide +kernel
theorem dX3_enter_86 : decode cX3_enter 86 = .ok (.iload 4, 2) := by decide +kernel
theorem dX3_enter_88 : decode cX3_enter 88 = .ok (.iload 9, 2) := by decide +kernel
theorem dX3_enter_90 : decode cX3_enter 90 = .ok (.invokestatic 44, 3) := by decide +kernel
theorem dX3_enter_93 : decode cX3_enter 93 = .ok (.ishr, 1) := by decide +kernel
theorem dX3_enter_94 : decode cX3_enter 94 = .ok (.iconst 1, 1) := by decide +kernel
theorem dX3_enter_95 : decode cX3_enter 95 = .ok (.iand, 1) := by decide +kernel
theorem dX3_enter_96 : decode cX3_enter 96 = .ok (.iconst 1, 1) := by decide +kernel
theorem dX3_enter_97 : decode cX3_enter 97 = .ok (.if_icmp .ne 7, 3) := by decide +kernel
theorem dX3_enter_100 : decode cX3_enter 100 = .ok (.iconst 1, 1) := by decide +kernel
theorem dX3_enter_101 : decode cX3_enter 101 = .ok (.goto 4, 3) := by decide +kernel
theorem dX3_enter_104 : decode cX3_enter 104 = .ok (.iconst 0, 1) := by decide +kernel
theorem dX3_enter_105 : decode cX3_enter 105 = .ok (.istore 10, 2) := by decide +kernel
theorem dX3_enter_107 : decode cX3_enter 107 = .ok (.iload 10, 2) := by decide +kernel
theorem dX3_enter_109 : decode cX3_enter 109 = .ok (.ifCond .eq 41, 3) := by decide +kernel
theorem dX3_enter_112 : decode cX3_enter 112 = .ok (.iload 9, 2) := by decide +kernel
theorem dX3_enter_114 : decode cX3_enter 114 = .ok (.invokestatic 49, 3) := by decide +kernel
theorem dX3_enter_117 : decode cX3_enter 117 = .ok (.iload_n 3, 1) := by decide +kernel
theorem dX3_enter_118 : decode cX3_enter 118 = .ok (.bipush 10, 2) := by decide +kernel
theorem dX3_enter_120 : decode cX3_enter 120 = .ok (.idiv, 1) := by decide +kernel
theorem dX3_enter_121 : decode cX3_enter 121 = .ok (.if_icmp .ne 29, 3) := by decide +kernel
theorem dX3_enter_124 : decode cX3_enter 124 = .ok (.aload_n 0, 1) := by decide +kernel
theorem dX3_enter_125 : decode cX3_enter 125 = .ok (.iload 6, 2) := by decide +kernel
theorem dX3_enter_127 : decode cX3_enter 127 = .ok (.aload_n 2, 1) := by decide +kernel
theorem dX3_enter_128 : decode cX3_enter 128 = .ok (.getfield 52, 3) := by decide +kernel
theorem dX3_enter_131 : decode cX3_enter 131 = .ok (.iload 8, 2) := by decide +kernel
theorem dX3_enter_133 : decode cX3_enter 133 = .ok (.iaload, 1) := by decide +kernel
theorem dX3_enter_134 : decode cX3_enter 134 = .ok (.sipush 8191, 3) := by decide +kernel
theorem dX3_enter_137 : decode cX3_enter 137 = .ok (.iand, 1) := by decide +kernel
theorem dX3_enter_138 : decode cX3_enter 138 = .ok (.bipush (-65), 2) := by decide +kernel
theorem dX3_enter_140 : decode cX3_enter 140 = .ok (.iand, 1) := by decide +kernel
theorem dX3_enter_141 : decode cX3_enter 141 = .ok (.aload_n 1, 1) := by decide +kernel
theorem dX3_enter_142 : decode cX3_enter 142 = .ok (.iload 9, 2) := by decide +kernel
theorem dX3_enter_144 : decode cX3_enter 144 = .ok (.invokevirtual 55, 3) := by decide +kernel
theorem dX3_enter_147 : decode cX3_enter 147 = .ok (.invokevirtual 58, 3) := by decide +kernel
theorem dX3_enter_150 : decode cX3_enter 150 = .ok (.iinc 8 1, 3) := by decide +kernel
theorem dX3_enter_153 : decode cX3_enter 153 = .ok (.goto (-91), 3) := by decide +kernel
theorem dX3_enter_156 : decode cX3_enter 156 = .ok (.iinc 6 1, 3) := by decide +kernel
theorem dX3_enter_159 : decode cX3_enter 159 = .ok (.goto (-142), 3) := by decide +kernel
theorem dX3_enter_162 : decode cX3_enter 162 = .ok (.aload_n 0, 1) := by decide +kernel
theorem dX3_enter_163 : decode cX3_enter 163 = .ok (.getfield 21, 3) := by decide +kernel
theorem dX3_enter_166 : decode cX3_enter 166 = .ok (.iconst 0, 1) := by decide +kernel
theorem dX3_enter_167 : decode cX3_enter 167 = .ok (.aload_n 0, 1) := by decide +kernel
theorem dX3_enter_168 : decode cX3_enter 168 = .ok (.getfield 13, 3) := by decide +kernel
theorem dX3_enter_171 : decode cX3_enter 171 = .ok (.iconst 0, 1) := by decide +kernel
theorem dX3_enter_172 : decode cX3_enter 172 = .ok (.sipush 8192, 3) := by decide +kernel
theorem dX3_enter_175 : decode cX3_enter 175 = .ok (.invokestatic 62, 3) := by decide +kernel
theorem dX3_enter_178 : decode cX3_enter 178 = .ok (.aload_n 0, 1) := by decide +kernel
theorem dX3_enter_179 : decode cX3_enter 179 = .ok (.getfield 24, 3) := by decide +kernel
theorem dX3_enter_182 : decode cX3_enter 182 = .ok (.iconst 0, 1) := by decide +kernel
theorem dX3_enter_183 : decode cX3_enter 183 = .ok (.aload_n 0, 1) := by decide +kernel
theorem dX3_enter_184 : decode cX3_enter 184 = .ok (.getfield 17, 3) := by decide +kernel
theorem dX3_enter_187 : decode cX3_enter 187 = .ok (.iconst 0, 1) := by decide +kernel
theorem dX3_enter_188 : decode cX3_enter 188 = .ok (.sipush 8192, 3) := by decide +kernel
theorem dX3_enter_191 : decode cX3_enter 191 = .ok (.invokestatic 62, 3) := by decide +kernel
theorem dX3_enter_194 : decode cX3_enter 194 = .ok (.aload_n 0, 1) := by decide +kernel
theorem dX3_enter_195 : decode cX3_enter 195 = .ok (.aload_n 0, 1) := by decide +kernel
theorem dX3_enter_196 : decode cX3_enter 196 = .ok (.getfield 33, 3) := by decide +kernel
theorem dX3_enter_199 : decode cX3_enter 199 = .ok (.iload 5, 2) := by decide +kernel
theorem dX3_enter_201 : decode cX3_enter 201 = .ok (.invokestatic 68, 3) := by decide +kernel
theorem dX3_enter_204 : decode cX3_enter 204 = .ok (.putfield 33, 3) := by decide +kernel
theorem dX3_enter_207 : decode cX3_enter 207 = .ok (.return_, 1) := by decide +kernel
theorem dX3_lead_0 : decode cX3_lead 0 = .ok (.aload_n 0, 1) := by decide +kernel
theorem dX3_lead_1 : decode cX3_lead 1 = .ok (.getfield 17, 3) := by decide +kernel
theorem dX3_lead_4 : decode cX3_lead 4 = .ok (.iload_n 1, 1) := by decide +kernel
theorem dX3_lead_5 : decode cX3_lead 5 = .ok (.iaload, 1) := by decide +kernel
theorem dX3_lead_6 : decode cX3_lead 6 = .ok (.iload_n 3, 1) := by decide +kernel
theorem dX3_lead_7 : decode cX3_lead 7 = .ok (.iadd, 1) := by decide +kernel
theorem dX3_lead_8 : decode cX3_lead 8 = .ok (.istore 4, 2) := by decide +kernel
theorem dX3_lead_10 : decode cX3_lead 10 = .ok (.aload_n 0, 1) := by decide +kernel
theorem dX3_lead_11 : decode cX3_lead 11 = .ok (.getfield 24, 3) := by decide +kernel
theorem dX3_lead_14 : decode cX3_lead 14 = .ok (.iload_n 2, 1) := by decide +kernel
theorem dX3_lead_15 : decode cX3_lead 15 = .ok (.aload_n 0, 1) := by decide +kernel
theorem dX3_lead_16 : decode cX3_lead 16 = .ok (.getfield 21, 3) := by decide +kernel
theorem dX3_lead_19 : decode cX3_lead 19 = .ok (.iload_n 2, 1) := by decide +kernel
theorem dX3_lead_20 : decode cX3_lead 20 = .ok (.laload, 1) := by decide +kernel
theorem dX3_lead_21 : decode cX3_lead 21 = .ok (.lconst 0, 1) := by decide +kernel
theorem dX3_lead_22 : decode cX3_lead 22 = .ok (.lcmp, 1) := by decide +kernel
theorem dX3_lead_23 : decode cX3_lead 23 = .ok (.ifCond .ne 8, 3) := by decide +kernel
theorem dX3_lead_26 : decode cX3_lead 26 = .ok (.iload 4, 2) := by decide +kernel
theorem dX3_lead_28 : decode cX3_lead 28 = .ok (.goto 14, 3) := by decide +kernel
theorem dX3_lead_31 : decode cX3_lead 31 = .ok (.aload_n 0, 1) := by decide +kernel
theorem dX3_lead_32 : decode cX3_lead 32 = .ok (.getfield 24, 3) := by decide +kernel
theorem dX3_lead_35 : decode cX3_lead 35 = .ok (.iload_n 2, 1) := by decide +kernel
theorem dX3_lead_36 : decode cX3_lead 36 = .ok (.iaload, 1) := by decide +kernel
theorem dX3_lead_37 : decode cX3_lead 37 = .ok (.iload 4, 2) := by decide +kernel
theorem dX3_lead_39 : decode cX3_lead 39 = .ok (.invokestatic 72, 3) := by decide +kernel
theorem dX3_lead_42 : decode cX3_lead 42 = .ok (.iastore, 1) := by decide +kernel
theorem dX3_lead_43 : decode cX3_lead 43 = .ok (.aload_n 0, 1) := by decide +kernel
theorem dX3_lead_44 : decode cX3_lead 44 = .ok (.getfield 21, 3) := by decide +kernel
theorem dX3_lead_47 : decode cX3_lead 47 = .ok (.iload_n 2, 1) := by decide +kernel
theorem dX3_lead_48 : decode cX3_lead 48 = .ok (.dup2, 1) := by decide +kernel
theorem dX3_lead_49 : decode cX3_lead 49 = .ok (.laload, 1) := by decide +kernel
theorem dX3_lead_50 : decode cX3_lead 50 = .ok (.aload_n 0, 1) := by decide +kernel
theorem dX3_lead_51 : decode cX3_lead 51 = .ok (.getfield 13, 3) := by decide +kernel
theorem dX3_lead_54 : decode cX3_lead 54 = .ok (.iload_n 1, 1) := by decide +kernel
theorem dX3_lead_55 : decode cX3_lead 55 = .ok (.laload, 1) := by decide +kernel
theorem dX3_lead_56 : decode cX3_lead 56 = .ok (.ladd, 1) := by decide +kernel
theorem dX3_lead_57 : decode cX3_lead 57 = .ok (.lastore, 1) := by decide +kernel
theorem dX3_lead_58 : decode cX3_lead 58 = .ok (.return_, 1) := by decide +kernel
theorem dX3_countRows_0 : decode cX3_countRows 0 = .ok (.lconst 0, 1) := by decide +kernel
theorem dX3_countRows_1 : decode cX3_countRows 1 = .ok (.lstore_n 1, 1) := by decide +kernel
theorem dX3_countRows_2 : decode cX3_countRows 2 = .ok (.iconst 0, 1) := by decide +kernel
theorem dX3_countRows_3 : decode cX3_countRows 3 = .ok (.istore_n 3, 1) := by decide +kernel
theorem dX3_countRows_4 : decode cX3_countRows 4 = .ok (.iload_n 3, 1) := by decide +kernel
theorem dX3_countRows_5 : decode cX3_countRows 5 = .ok (.sipush 8192, 3) := by decide +kernel
theorem dX3_countRows_8 : decode cX3_countRows 8 = .ok (.if_icmp .ge 18, 3) := by decide +kernel
theorem dX3_countRows_11 : decode cX3_countRows 11 = .ok (.lload_n 1, 1) := by decide +kernel
theorem dX3_countRows_12 : decode cX3_countRows 12 = .ok (.aload_n 0, 1) := by decide +kernel
theorem dX3_countRows_13 : decode cX3_countRows 13 = .ok (.getfield 13, 3) := by decide +kernel
theorem dX3_countRows_16 : decode cX3_countRows 16 = .ok (.iload_n 3, 1) := by decide +kernel
theorem dX3_countRows_17 : decode cX3_countRows 17 = .ok (.laload, 1) := by decide +kernel
theorem dX3_countRows_18 : decode cX3_countRows 18 = .ok (.ladd, 1) := by decide +kernel
theorem dX3_countRows_19 : decode cX3_countRows 19 = .ok (.lstore_n 1, 1) := by decide +kernel
theorem dX3_countRows_20 : decode cX3_countRows 20 = .ok (.iinc 3 1, 3) := by decide +kernel
theorem dX3_countRows_23 : decode cX3_countRows 23 = .ok (.goto (-19), 3) := by decide +kernel
theorem dX3_countRows_26 : decode cX3_countRows 26 = .ok (.lload_n 1, 1) := by decide +kernel
theorem dX3_countRows_27 : decode cX3_countRows 27 = .ok (.lreturn, 1) := by decide +kernel
theorem dX3_overInAll_0 : decode cX3_overInAll 0 = .ok (.bipush 63, 2) := by decide +kernel
theorem dX3_overInAll_2 : decode cX3_overInAll 2 = .ok (.istore_n 1, 1) := by decide +kernel
theorem dX3_overInAll_3 : decode cX3_overInAll 3 = .ok (.iconst 0, 1) := by decide +kernel
theorem dX3_overInAll_4 : decode cX3_overInAll 4 = .ok (.istore_n 2, 1) := by decide +kernel
theorem dX3_overInAll_5 : decode cX3_overInAll 5 = .ok (.iconst 0, 1) := by decide +kernel
theorem dX3_overInAll_6 : decode cX3_overInAll 6 = .ok (.istore_n 3, 1) := by decide +kernel
theorem dX3_overInAll_7 : decode cX3_overInAll 7 = .ok (.iload_n 3, 1) := by decide +kernel
theorem dX3_overInAll_8 : decode cX3_overInAll 8 = .ok (.sipush 8192, 3) := by decide +kernel
theorem dX3_overInAll_11 : decode cX3_overInAll 11 = .ok (.if_icmp .ge 26, 3) := by decide +kernel
theorem dX3_overInAll_14 : decode cX3_overInAll 14 = .ok (.aload_n 0, 1) := by decide +kernel
theorem dX3_overInAll_15 : decode cX3_overInAll 15 = .ok (.getfield 13, 3) := by decide +kernel
theorem dX3_overInAll_18 : decode cX3_overInAll 18 = .ok (.iload_n 3, 1) := by decide +kernel
theorem dX3_overInAll_19 : decode cX3_overInAll 19 = .ok (.laload, 1) := by decide +kernel
theorem dX3_overInAll_20 : decode cX3_overInAll 20 = .ok (.lconst 0, 1) := by decide +kernel
theorem dX3_overInAll_21 : decode cX3_overInAll 21 = .ok (.lcmp, 1) := by decide +kernel
theorem dX3_overInAll_22 : decode cX3_overInAll 22 = .ok (.ifCond .eq 9, 3) := by decide +kernel
theorem dX3_overInAll_25 : decode cX3_overInAll 25 = .ok (.iload_n 1, 1) := by decide +kernel
theorem dX3_overInAll_26 : decode cX3_overInAll 26 = .ok (.iload_n 3, 1) := by decide +kernel
theorem dX3_overInAll_27 : decode cX3_overInAll 27 = .ok (.iand, 1) := by decide +kernel
theorem dX3_overInAll_28 : decode cX3_overInAll 28 = .ok (.istore_n 1, 1) := by decide +kernel
theorem dX3_overInAll_29 : decode cX3_overInAll 29 = .ok (.iconst 1, 1) := by decide +kernel
theorem dX3_overInAll_30 : decode cX3_overInAll 30 = .ok (.istore_n 2, 1) := by decide +kernel
theorem dX3_overInAll_31 : decode cX3_overInAll 31 = .ok (.iinc 3 1, 3) := by decide +kernel
theorem dX3_overInAll_34 : decode cX3_overInAll 34 = .ok (.goto (-27), 3) := by decide +kernel
theorem dX3_overInAll_37 : decode cX3_overInAll 37 = .ok (.iload_n 2, 1) := by decide +kernel
theorem dX3_overInAll_38 : decode cX3_overInAll 38 = .ok (.ifCond .eq 7, 3) := by decide +kernel
theorem dX3_overInAll_41 : decode cX3_overInAll 41 = .ok (.iload_n 1, 1) := by decide +kernel
theorem dX3_overInAll_42 : decode cX3_overInAll 42 = .ok (.goto 4, 3) := by decide +kernel
theorem dX3_overInAll_45 : decode cX3_overInAll 45 = .ok (.iconst 0, 1) := by decide +kernel
theorem dX3_overInAll_46 : decode cX3_overInAll 46 = .ok (.ireturn, 1) := by decide +kernel
theorem dX3_overInSome_0 : decode cX3_overInSome 0 = .ok (.iconst 0, 1) := by decide +kernel
theorem dX3_overInSome_1 : decode cX3_overInSome 1 = .ok (.istore_n 1, 1) := by decide +kernel
theorem dX3_overInSome_2 : decode cX3_overInSome 2 = .ok (.iconst 0, 1) := by decide +kernel
theorem dX3_overInSome_3 : decode cX3_overInSome 3 = .ok (.istore_n 2, 1) := by decide +kernel
theorem dX3_overInSome_4 : decode cX3_overInSome 4 = .ok (.iload_n 2, 1) := by decide +kernel
theorem dX3_overInSome_5 : decode cX3_overInSome 5 = .ok (.sipush 8192, 3) := by decide +kernel
theorem dX3_overInSome_8 : decode cX3_overInSome 8 = .ok (.if_icmp .ge 27, 3) := by decide +kernel
theorem dX3_overInSome_11 : decode cX3_overInSome 11 = .ok (.aload_n 0, 1) := by decide +kernel
theorem dX3_overInSome_12 : decode cX3_overInSome 12 = .ok (.getfield 13, 3) := by decide +kernel
theorem dX3_overInSome_15 : decode cX3_overInSome 15 = .ok (.iload_n 2, 1) := by decide +kernel
theorem dX3_overInSome_16 : decode cX3_overInSome 16 = .ok (.laload, 1) := by decide +kernel
theorem dX3_overInSome_17 : decode cX3_overInSome 17 = .ok (.lconst 0, 1) := by decide +kernel
theorem dX3_overInSome_18 : decode cX3_overInSome 18 = .ok (.lcmp, 1) := by decide +kernel
theorem dX3_overInSome_19 : decode cX3_overInSome 19 = .ok (.ifCond .eq 10, 3) := by decide +kernel
theorem dX3_overInSome_22 : decode cX3_overInSome 22 = .ok (.iload_n 1, 1) := by decide +kernel
theorem dX3_overInSome_23 : decode cX3_overInSome 23 = .ok (.iload_n 2, 1) := by decide +kernel
theorem dX3_overInSome_24 : decode cX3_overInSome 24 = .ok (.bipush 63, 2) := by decide +kernel
theorem dX3_overInSome_26 : decode cX3_overInSome 26 = .ok (.iand, 1) := by decide +kernel
theorem dX3_overInSome_27 : decode cX3_overInSome 27 = .ok (.ior, 1) := by decide +kernel
theorem dX3_overInSome_28 : decode cX3_overInSome 28 = .ok (.istore_n 1, 1) := by decide +kernel
theorem dX3_overInSome_29 : decode cX3_overInSome 29 = .ok (.iinc 2 1, 3) := by decide +kernel
theorem dX3_overInSome_32 : decode cX3_overInSome 32 = .ok (.goto (-28), 3) := by decide +kernel
theorem dX3_overInSome_35 : decode cX3_overInSome 35 = .ok (.iload_n 1, 1) := by decide +kernel
theorem dX3_overInSome_36 : decode cX3_overInSome 36 = .ok (.ireturn, 1) := by decide +kernel
theorem dX3_leastRisk_0 : decode cX3_leastRisk 0 = .ok (.iconst (-1), 1) := by decide +kernel
theorem dX3_leastRisk_1 : decode cX3_leastRisk 1 = .ok (.istore_n 1, 1) := by decide +kernel
theorem dX3_leastRisk_2 : decode cX3_leastRisk 2 = .ok (.iconst 0, 1) := by decide +kernel
theorem dX3_leastRisk_3 : decode cX3_leastRisk 3 = .ok (.istore_n 2, 1) := by decide +kernel
theorem dX3_leastRisk_4 : decode cX3_leastRisk 4 = .ok (.iload_n 2, 1) := by decide +kernel
theorem dX3_leastRisk_5 : decode cX3_leastRisk 5 = .ok (.sipush 8192, 3) := by decide +kernel
theorem dX3_leastRisk_8 : decode cX3_leastRisk 8 = .ok (.if_icmp .ge 42, 3) := by decide +kernel
theorem dX3_leastRisk_11 : decode cX3_leastRisk 11 = .ok (.aload_n 0, 1) := by decide +kernel
theorem dX3_leastRisk_12 : decode cX3_leastRisk 12 = .ok (.getfield 13, 3) := by decide +kernel
theorem dX3_leastRisk_15 : decode cX3_leastRisk 15 = .ok (.iload_n 2, 1) := by decide +kernel
theorem dX3_leastRisk_16 : decode cX3_leastRisk 16 = .ok (.laload, 1) := by decide +kernel
theorem dX3_leastRisk_17 : decode cX3_leastRisk 17 = .ok (.lconst 0, 1) := by decide +kernel
theorem dX3_leastRisk_18 : decode cX3_leastRisk 18 = .ok (.lcmp, 1) := by decide +kernel
theorem dX3_leastRisk_19 : decode cX3_leastRisk 19 = .ok (.ifCond .eq 25, 3) := by decide +kernel
theorem dX3_leastRisk_22 : decode cX3_leastRisk 22 = .ok (.iload_n 1, 1) := by decide +kernel
theorem dX3_leastRisk_23 : decode cX3_leastRisk 23 = .ok (.iconst (-1), 1) := by decide +kernel
theorem dX3_leastRisk_24 : decode cX3_leastRisk 24 = .ok (.if_icmp .eq 13, 3) := by decide +kernel
theorem dX3_leastRisk_27 : decode cX3_leastRisk 27 = .ok (.aload_n 0, 1) := by decide +kernel
theorem dX3_leastRisk_28 : decode cX3_leastRisk 28 = .ok (.getfield 17, 3) := by decide +kernel
theorem dX3_leastRisk_31 : decode cX3_leastRisk 31 = .ok (.iload_n 2, 1) := by decide +kernel
theorem dX3_leastRisk_32 : decode cX3_leastRisk 32 = .ok (.iaload, 1) := by decide +kernel
theorem dX3_leastRisk_33 : decode cX3_leastRisk 33 = .ok (.iload_n 1, 1) := by decide +kernel
theorem dX3_leastRisk_34 : decode cX3_leastRisk 34 = .ok (.if_icmp .ge 10, 3) := by decide +kernel
theorem dX3_leastRisk_37 : decode cX3_leastRisk 37 = .ok (.aload_n 0, 1) := by decide +kernel
theorem dX3_leastRisk_38 : decode cX3_leastRisk 38 = .ok (.getfield 17, 3) := by decide +kernel
theorem dX3_leastRisk_41 : decode cX3_leastRisk 41 = .ok (.iload_n 2, 1) := by decide +kernel
theorem dX3_leastRisk_42 : decode cX3_leastRisk 42 = .ok (.iaload, 1) := by decide +kernel
theorem dX3_leastRisk_43 : decode cX3_leastRisk 43 = .ok (.istore_n 1, 1) := by decide +kernel
theorem dX3_leastRisk_44 : decode cX3_leastRisk 44 = .ok (.iinc 2 1, 3) := by decide +kernel
theorem dX3_leastRisk_47 : decode cX3_leastRisk 47 = .ok (.goto (-43), 3) := by decide +kernel
theorem dX3_leastRisk_50 : decode cX3_leastRisk 50 = .ok (.iload_n 1, 1) := by decide +kernel
theorem dX3_leastRisk_51 : decode cX3_leastRisk 51 = .ok (.ireturn, 1) := by decide +kernel
theorem dX4_init_0 : decode cX4_init 0 = .ok (.aload_n 0, 1) := by decide +kernel
theorem dX4_init_1 : decode cX4_init 1 = .ok (.invokespecial 3, 3) := by decide +kernel
theorem dX4_init_4 : decode cX4_init 4 = .ok (.aload_n 0, 1) := by decide +kernel
theorem dX4_init_5 : decode cX4_init 5 = .ok (.ldc 11, 2) := by decide +kernel
theorem dX4_init_7 : decode cX4_init 7 = .ok (.newarray .long, 2) := by decide +kernel
theorem dX4_init_9 : decode cX4_init 9 = .ok (.putfield 12, 3) := by decide +kernel
theorem dX4_init_12 : decode cX4_init 12 = .ok (.aload_n 0, 1) := by decide +kernel
theorem dX4_init_13 : decode cX4_init 13 = .ok (.sipush 256, 3) := by decide +kernel
theorem dX4_init_16 : decode cX4_init 16 = .ok (.newarray .long, 2) := by decide +kernel
theorem dX4_init_18 : decode cX4_init 18 = .ok (.putfield 18, 3) := by decide +kernel
theorem dX4_init_21 : decode cX4_init 21 = .ok (.aload_n 0, 1) := by decide +kernel
theorem dX4_init_22 : decode cX4_init 22 = .ok (.iload_n 1, 1) := by decide +kernel
theorem dX4_init_23 : decode cX4_init 23 = .ok (.putfield 21, 3) := by decide +kernel
theorem dX4_init_26 : decode cX4_init 26 = .ok (.return_, 1) := by decide +kernel
theorem dX4_weigh_0 : decode cX4_weigh 0 = .ok (.iconst 0, 1) := by decide +kernel
theorem dX4_weigh_1 : decode cX4_weigh 1 = .ok (.istore_n 3, 1) := by decide +kernel
theorem dX4_weigh_2 : decode cX4_weigh 2 = .ok (.iload_n 3, 1) := by decide +kernel
theorem dX4_weigh_3 : decode cX4_weigh 3 = .ok (.aload_n 1, 1) := by decide +kernel
theorem dX4_weigh_4 : decode cX4_weigh 4 = .ok (.getfield 25, 3) := by decide +kernel
theorem dX4_weigh_7 : decode cX4_weigh 7 = .ok (.if_icmp .ge 78, 3) := by decide +kernel
theorem dX4_weigh_10 : decode cX4_weigh 10 = .ok (.iconst 0, 1) := by decide +kernel
theorem dX4_weigh_11 : decode cX4_weigh 11 = .ok (.istore 4, 2) := by decide +kernel
theorem dX4_weigh_13 : decode cX4_weigh 13 = .ok (.iload 4, 2) := by decide +kernel
theorem dX4_weigh_15 : decode cX4_weigh 15 = .ok (.aload_n 1, 1) := by decide +kernel
theorem dX4_weigh_16 : decode cX4_weigh 16 = .ok (.getfield 30, 3) := by decide +kernel
theorem dX4_weigh_19 : decode cX4_weigh 19 = .ok (.if_icmp .ge 60, 3) := by decide +kernel
theorem dX4_weigh_22 : decode cX4_weigh 22 = .ok (.iload_n 2, 1) := by decide +kernel
theorem dX4_weigh_23 : decode cX4_weigh 23 = .ok (.aload_n 1, 1) := by decide +kernel
theorem dX4_weigh_24 : decode cX4_weigh 24 = .ok (.iload 4, 2) := by decide +kernel
theorem dX4_weigh_26 : decode cX4_weigh 26 = .ok (.iload_n 3, 1) := by decide +kernel
theorem dX4_weigh_27 : decode cX4_weigh 27 = .ok (.invokevirtual 33, 3) := by decide +kernel
theorem dX4_weigh_30 : decode cX4_weigh 30 = .ok (.invokestatic 37, 3) := by decide +kernel
theorem dX4_weigh_33 : decode cX4_weigh 33 = .ok (.lstore 5, 2) := by decide +kernel
theorem dX4_weigh_35 : decode cX4_weigh 35 = .ok (.iconst (-1), 1) := by decide +kernel
theorem dX4_weigh_36 : decode cX4_weigh 36 = .ok (.istore 7, 2) := by decide +kernel
theorem dX4_weigh_38 : decode cX4_weigh 38 = .ok (.iload 7, 2) := by decide +kernel
theorem dX4_weigh_40 : decode cX4_weigh 40 = .ok (.aload_n 1, 1) := by decide +kernel
theorem dX4_weigh_41 : decode cX4_weigh 41 = .ok (.getfield 30, 3) := by decide +kernel
theorem dX4_weigh_44 : decode cX4_weigh 44 = .ok (.if_icmp .ge 29, 3) := by decide +kernel
theorem dX4_weigh_47 : decode cX4_weigh 47 = .ok (.aload_n 0, 1) := by decide +kernel
theorem dX4_weigh_48 : decode cX4_weigh 48 = .ok (.getfield 18, 3) := by decide +kernel
theorem dX4_weigh_51 : decode cX4_weigh 51 = .ok (.iload 4, 2) := by decide +kernel
theorem dX4_weigh_53 : decode cX4_weigh 53 = .ok (.iload 7, 2) := by decide +kernel
theorem dX4_weigh_55 : decode cX4_weigh 55 = .ok (.iload_n 3, 1) := by decide +kernel
theorem dX4_weigh_56 : decode cX4_weigh 56 = .ok (.invokestatic 41, 3) := by decide +kernel
theorem dX4_weigh_59 : decode cX4_weigh 59 = .ok (.lload 5, 2) := by decide +kernel
theorem dX4_weigh_61 : decode cX4_weigh 61 = .ok (.bipush 20, 2) := by decide +kernel
theorem dX4_weigh_63 : decode cX4_weigh 63 = .ok (.lshl, 1) := by decide +kernel
theorem dX4_weigh_64 : decode cX4_weigh 64 = .ok (.lconst 1, 1) := by decide +kernel
theorem dX4_weigh_65 : decode cX4_weigh 65 = .ok (.ladd, 1) := by decide +kernel
theorem dX4_weigh_66 : decode cX4_weigh 66 = .ok (.lastore, 1) := by decide +kernel
theorem dX4_weigh_67 : decode cX4_weigh 67 = .ok (.iinc 7 1, 3) := by decide +kernel
theorem dX4_weigh_70 : decode cX4_weigh 70 = .ok (.goto (-32), 3) := by decide +kernel
theorem dX4_weigh_73 : decode cX4_weigh 73 = .ok (.iinc 4 1, 3) := by decide +kernel
theorem dX4_weigh_76 : decode cX4_weigh 76 = .ok (.goto (-63), 3) := by decide +kernel
theorem dX4_weigh_79 : decode cX4_weigh 79 = .ok (.iinc 3 1, 3) := by decide +kernel
theorem dX4_weigh_82 : decode cX4_weigh 82 = .ok (.goto (-80), 3) := by decide +kernel
theorem dX4_weigh_85 : decode cX4_weigh 85 = .ok (.aload_n 0, 1) := by decide +kernel
theorem dX4_weigh_86 : decode cX4_weigh 86 = .ok (.getfield 18, 3) := by decide +kernel
theorem dX4_weigh_89 : decode cX4_weigh 89 = .ok (.sipush 200, 3) := by decide +kernel
theorem dX4_weigh_92 : decode cX4_weigh 92 = .ok (.iload_n 2, 1) := by decide +kernel
theorem dX4_weigh_93 : decode cX4_weigh 93 = .ok (.iconst 2, 1) := by decide +kernel
theorem dX4_weigh_94 : decode cX4_weigh 94 = .ok (.if_icmp .ne 7, 3) := by decide +kernel
theorem dX4_weigh_97 : decode cX4_weigh 97 = .ok (.lconst 1, 1) := by decide +kernel
theorem dX4_weigh_98 : decode cX4_weigh 98 = .ok (.goto 8, 3) := by decide +kernel
theorem dX4_weigh_101 : decode cX4_weigh 101 = .ok (.aload_n 1, 1) := by decide +kernel
theorem dX4_weigh_102 : decode cX4_weigh 102 = .ok (.getfield 45, 3) := by decide +kernel
theorem dX4_weigh_105 : decode cX4_weigh 105 = .ok (.i2l, 1) := by decide +kernel
theorem dX4_weigh_106 : decode cX4_weigh 106 = .ok (.lastore, 1) := by decide +kernel
theorem dX4_weigh_107 : decode cX4_weigh 107 = .ok (.return_, 1) := by decide +kernel
theorem dX4_aboveOf_0 : decode cX4_aboveOf 0 = .ok (.iload_n 0, 1) := by decide +kernel
theorem dX4_aboveOf_1 : decode cX4_aboveOf 1 = .ok (.lookupswitch 32 #[(1, 27), (2, 30)], 27) := by decide +kernel
theorem dX4_aboveOf_28 : decode cX4_aboveOf 28 = .ok (.iload_n 1, 1) := by decide +kernel
theorem dX4_aboveOf_29 : decode cX4_aboveOf 29 = .ok (.i2l, 1) := by decide +kernel
theorem dX4_aboveOf_30 : decode cX4_aboveOf 30 = .ok (.lreturn, 1) := by decide +kernel
theorem dX4_aboveOf_31 : decode cX4_aboveOf 31 = .ok (.lconst 1, 1) := by decide +kernel
theorem dX4_aboveOf_32 : decode cX4_aboveOf 32 = .ok (.lreturn, 1) := by decide +kernel
theorem dX4_aboveOf_33 : decode cX4_aboveOf 33 = .ok (.lconst 0, 1) := by decide +kernel
theorem dX4_aboveOf_34 : decode cX4_aboveOf 34 = .ok (.lreturn, 1) := by decide +kernel
theorem dX4_above_0 : decode cX4_above 0 = .ok (.aload_n 0, 1) := by decide +kernel
theorem dX4_above_1 : decode cX4_above 1 = .ok (.getfield 12, 3) := by decide +kernel
theorem dX4_above_4 : decode cX4_above 4 = .ok (.iload_n 1, 1) := by decide +kernel
theorem dX4_above_5 : decode cX4_above 5 = .ok (.laload, 1) := by decide +kernel
theorem dX4_above_6 : decode cX4_above 6 = .ok (.bipush 20, 2) := by decide +kernel
theorem dX4_above_8 : decode cX4_above 8 = .ok (.lshr, 1) := by decide +kernel
theorem dX4_above_9 : decode cX4_above 9 = .ok (.l2i, 1) := by decide +kernel
theorem dX4_above_10 : decode cX4_above 10 = .ok (.ireturn, 1) := by decide +kernel
theorem dX4_below_0 : decode cX4_below 0 = .ok (.aload_n 0, 1) := by decide +kernel
theorem dX4_below_1 : decode cX4_below 1 = .ok (.getfield 12, 3) := by decide +kernel
theorem dX4_below_4 : decode cX4_below 4 = .ok (.iload_n 1, 1) := by decide +kernel
theorem dX4_below_5 : decode cX4_below 5 = .ok (.laload, 1) := by decide +kernel
theorem dX4_below_6 : decode cX4_below 6 = .ok (.ldc2_w 48, 3) := by decide +kernel
theorem dX4_below_9 : decode cX4_below 9 = .ok (.land, 1) := by decide +kernel
theorem dX4_below_10 : decode cX4_below 10 = .ok (.l2i, 1) := by decide +kernel
theorem dX4_below_11 : decode cX4_below 11 = .ok (.ireturn, 1) := by decide +kernel
theorem dX4_comes_0 : decode cX4_comes 0 = .ok (.aload_n 0, 1) := by decide +kernel
theorem dX4_comes_1 : decode cX4_comes 1 = .ok (.getfield 12, 3) := by decide +kernel
theorem dX4_comes_4 : decode cX4_comes 4 = .ok (.iload_n 1, 1) := by decide +kernel
theorem dX4_comes_5 : decode cX4_comes 5 = .ok (.laload, 1) := by decide +kernel
theorem dX4_comes_6 : decode cX4_comes 6 = .ok (.ldc2_w 50, 3) := by decide +kernel
theorem dX4_comes_9 : decode cX4_comes 9 = .ok (.lcmp, 1) := by decide +kernel
theorem dX4_comes_10 : decode cX4_comes 10 = .ok (.ifCond .ge 7, 3) := by decide +kernel
theorem dX4_comes_13 : decode cX4_comes 13 = .ok (.iconst 1, 1) := by decide +kernel
theorem dX4_comes_14 : decode cX4_comes 14 = .ok (.goto 4, 3) := by decide +kernel
theorem dX4_comes_17 : decode cX4_comes 17 = .ok (.iconst 0, 1) := by decide +kernel
theorem dX4_comes_18 : decode cX4_comes 18 = .ok (.ireturn, 1) := by decide +kernel
theorem dX5_init_0 : decode cX5_init 0 = .ok (.aload_n 0, 1) := by decide +kernel
theorem dX5_init_1 : decode cX5_init 1 = .ok (.invokespecial 3, 3) := by decide +kernel
theorem dX5_init_4 : decode cX5_init 4 = .ok (.aload_n 0, 1) := by decide +kernel
theorem dX5_init_5 : decode cX5_init 5 = .ok (.aload_n 1, 1) := by decide +kernel
theorem dX5_init_6 : decode cX5_init 6 = .ok (.putfield 9, 3) := by decide +kernel
theorem dX5_init_9 : decode cX5_init 9 = .ok (.aload_n 0, 1) := by decide +kernel
theorem dX5_init_10 : decode cX5_init 10 = .ok (.iconst (-1), 1) := by decide +kernel
theorem dX5_init_11 : decode cX5_init 11 = .ok (.putfield 15, 3) := by decide +kernel
theorem dX5_init_14 : decode cX5_init 14 = .ok (.return_, 1) := by decide +kernel
theorem dX5_start_0 : decode cX5_start 0 = .ok (.aload_n 0, 1) := by decide +kernel
theorem dX5_start_1 : decode cX5_start 1 = .ok (.aload_n 1, 1) := by decide +kernel
theorem dX5_start_2 : decode cX5_start 2 = .ok (.putfield 19, 3) := by decide +kernel
theorem dX5_start_5 : decode cX5_start 5 = .ok (.aload_n 0, 1) := by decide +kernel
theorem dX5_start_6 : decode cX5_start 6 = .ok (.iload_n 2, 1) := by decide +kernel
theorem dX5_start_7 : decode cX5_start 7 = .ok (.putfield 15, 3) := by decide +kernel
theorem dX5_start_10 : decode cX5_start 10 = .ok (.return_, 1) := by decide +kernel
theorem dX5_take_0 : decode cX5_take 0 = .ok (.aload_n 0, 1) := by decide +kernel
theorem dX5_take_1 : decode cX5_take 1 = .ok (.getfield 19, 3) := by decide +kernel
theorem dX5_take_4 : decode cX5_take 4 = .ok (.ifnonnull 5, 3) := by decide +kernel
theorem dX5_take_7 : decode cX5_take 7 = .ok (.iconst (-1), 1) := by decide +kernel
theorem dX5_take_8 : decode cX5_take 8 = .ok (.ireturn, 1) := by decide +kernel
theorem dX5_take_9 : decode cX5_take 9 = .ok (.aload_n 0, 1) := by decide +kernel
theorem dX5_take_10 : decode cX5_take 10 = .ok (.getfield 9, 3) := by decide +kernel
theorem dX5_take_13 : decode cX5_take 13 = .ok (.aload_n 0, 1) := by decide +kernel
theorem dX5_take_14 : decode cX5_take 14 = .ok (.getfield 19, 3) := by decide +kernel
theorem dX5_take_17 : decode cX5_take 17 = .ok (.aload_n 0, 1) := by decide +kernel
theorem dX5_take_18 : decode cX5_take 18 = .ok (.getfield 15, 3) := by decide +kernel
theorem dX5_take_21 : decode cX5_take 21 = .ok (.invokevirtual 23, 3) := by decide +kernel
theorem dX5_take_24 : decode cX5_take 24 = .ok (.istore_n 1, 1) := by decide +kernel
theorem dX5_take_25 : decode cX5_take 25 = .ok (.iload_n 1, 1) := by decide +kernel
theorem dX5_take_26 : decode cX5_take 26 = .ok (.iconst (-1), 1) := by decide +kernel
theorem dX5_take_27 : decode cX5_take 27 = .ok (.if_icmp .ne 5, 3) := by decide +kernel
theorem dX5_take_30 : decode cX5_take 30 = .ok (.iconst (-1), 1) := by decide +kernel
theorem dX5_take_31 : decode cX5_take 31 = .ok (.ireturn, 1) := by decide +kernel
theorem dX5_take_32 : decode cX5_take 32 = .ok (.aload_n 0, 1) := by decide +kernel
theorem dX5_take_33 : decode cX5_take 33 = .ok (.iload_n 1, 1) := by decide +kernel
theorem dX5_take_34 : decode cX5_take 34 = .ok (.invokestatic 29, 3) := by decide +kernel
theorem dX5_take_37 : decode cX5_take 37 = .ok (.putfield 15, 3) := by decide +kernel
theorem dX5_take_40 : decode cX5_take 40 = .ok (.iload_n 1, 1) := by decide +kernel
theorem dX5_take_41 : decode cX5_take 41 = .ok (.invokestatic 33, 3) := by decide +kernel
theorem dX5_take_44 : decode cX5_take 44 = .ok (.ireturn, 1) := by decide +kernel
theorem dX5_skip_0 : decode cX5_skip 0 = .ok (.iconst 0, 1) := by decide +kernel
theorem dX5_skip_1 : decode cX5_skip 1 = .ok (.istore_n 2, 1) := by decide +kernel
theorem dX5_skip_2 : decode cX5_skip 2 = .ok (.iload_n 2, 1) := by decide +kernel
theorem dX5_skip_3 : decode cX5_skip 3 = .ok (.iload_n 1, 1) := by decide +kernel
theorem dX5_skip_4 : decode cX5_skip 4 = .ok (.if_icmp .ge 17, 3) := by decide +kernel
theorem dX5_skip_7 : decode cX5_skip 7 = .ok (.aload_n 0, 1) := by decide +kernel
theorem dX5_skip_8 : decode cX5_skip 8 = .ok (.invokevirtual 36, 3) := by decide +kernel
theorem dX5_skip_11 : decode cX5_skip 11 = .ok (.iconst (-1), 1) := by decide +kernel
theorem dX5_skip_12 : decode cX5_skip 12 = .ok (.if_icmp .eq 9, 3) := by decide +kernel
theorem dX5_skip_15 : decode cX5_skip 15 = .ok (.iinc 2 1, 3) := by decide +kernel
theorem dX5_skip_18 : decode cX5_skip 18 = .ok (.goto (-16), 3) := by decide +kernel
theorem dX5_skip_21 : decode cX5_skip 21 = .ok (.iload_n 2, 1) := by decide +kernel
theorem dX5_skip_22 : decode cX5_skip 22 = .ok (.ireturn, 1) := by decide +kernel
theorem dX5_overNow_0 : decode cX5_overNow 0 = .ok (.aload_n 0, 1) := by decide +kernel
theorem dX5_overNow_1 : decode cX5_overNow 1 = .ok (.getfield 9, 3) := by decide +kernel
theorem dX5_overNow_4 : decode cX5_overNow 4 = .ok (.aload_n 0, 1) := by decide +kernel
theorem dX5_overNow_5 : decode cX5_overNow 5 = .ok (.getfield 15, 3) := by decide +kernel
theorem dX5_overNow_8 : decode cX5_overNow 8 = .ok (.invokevirtual 40, 3) := by decide +kernel
theorem dX5_overNow_11 : decode cX5_overNow 11 = .ok (.ireturn, 1) := by decide +kernel
theorem dX6_init_0 : decode cX6_init 0 = .ok (.aload_n 0, 1) := by decide +kernel
theorem dX6_init_1 : decode cX6_init 1 = .ok (.invokespecial 3, 3) := by decide +kernel
theorem dX6_init_4 : decode cX6_init 4 = .ok (.aload_n 0, 1) := by decide +kernel
theorem dX6_init_5 : decode cX6_init 5 = .ok (.bipush 25, 2) := by decide +kernel
theorem dX6_init_7 : decode cX6_init 7 = .ok (.newarray .int, 2) := by decide +kernel
theorem dX6_init_9 : decode cX6_init 9 = .ok (.putfield 11, 3) := by decide +kernel
theorem dX6_init_12 : decode cX6_init 12 = .ok (.aload_n 0, 1) := by decide +kernel
theorem dX6_init_13 : decode cX6_init 13 = .ok (.bipush 25, 2) := by decide +kernel
theorem dX6_init_15 : decode cX6_init 15 = .ok (.newarray .int, 2) := by decide +kernel
theorem dX6_init_17 : decode cX6_init 17 = .ok (.putfield 15, 3) := by decide +kernel
theorem dX6_init_20 : decode cX6_init 20 = .ok (.aload_n 0, 1) := by decide +kernel
theorem dX6_init_21 : decode cX6_init 21 = .ok (.bipush 16, 2) := by decide +kernel
theorem dX6_init_23 : decode cX6_init 23 = .ok (.newarray .int, 2) := by decide +kernel
theorem dX6_init_25 : decode cX6_init 25 = .ok (.putfield 18, 3) := by decide +kernel
theorem dX6_init_28 : decode cX6_init 28 = .ok (.aload_n 0, 1) := by decide +kernel
theorem dX6_init_29 : decode cX6_init 29 = .ok (.bipush 16, 2) := by decide +kernel
theorem dX6_init_31 : decode cX6_init 31 = .ok (.newarray .int, 2) := by decide +kernel
theorem dX6_init_33 : decode cX6_init 33 = .ok (.putfield 21, 3) := by decide +kernel
theorem dX6_init_36 : decode cX6_init 36 = .ok (.aload_n 0, 1) := by decide +kernel
theorem dX6_init_37 : decode cX6_init 37 = .ok (.bipush 16, 2) := by decide +kernel
theorem dX6_init_39 : decode cX6_init 39 = .ok (.newarray .int, 2) := by decide +kernel
theorem dX6_init_41 : decode cX6_init 41 = .ok (.putfield 24, 3) := by decide +kernel
theorem dX6_init_44 : decode cX6_init 44 = .ok (.aload_n 0, 1) := by decide +kernel
theorem dX6_init_45 : decode cX6_init 45 = .ok (.bipush 32, 2) := by decide +kernel
theorem dX6_init_47 : decode cX6_init 47 = .ok (.newarray .int, 2) := by decide +kernel
theorem dX6_init_49 : decode cX6_init 49 = .ok (.putfield 27, 3) := by decide +kernel
theorem dX6_init_52 : decode cX6_init 52 = .ok (.aload_n 0, 1) := by decide +kernel
theorem dX6_init_53 : decode cX6_init 53 = .ok (.bipush 64, 2) := by decide +kernel
theorem dX6_init_55 : decode cX6_init 55 = .ok (.newarray .boolean, 2) := by decide +kernel
theorem dX6_init_57 : decode cX6_init 57 = .ok (.putfield 30, 3) := by decide +kernel
theorem dX6_init_60 : decode cX6_init 60 = .ok (.return_, 1) := by decide +kernel
theorem dX6_longer_0 : decode cX6_longer 0 = .ok (.iload_n 0, 1) := by decide +kernel
theorem dX6_longer_1 : decode cX6_longer 1 = .ok (.iconst 2, 1) := by decide +kernel
theorem dX6_longer_2 : decode cX6_longer 2 = .ok (.imul, 1) := by decide +kernel
theorem dX6_longer_3 : decode cX6_longer 3 = .ok (.iload_n 1, 1) := by decide +kernel
theorem dX6_longer_4 : decode cX6_longer 4 = .ok (.iadd, 1) := by decide +kernel
theorem dX6_longer_5 : decode cX6_longer 5 = .ok (.istore_n 2, 1) := by decide +kernel
theorem dX6_longer_6 : decode cX6_longer 6 = .ok (.iload_n 2, 1) := by decide +kernel
theorem dX6_longer_7 : decode cX6_longer 7 = .ok (.bipush 16, 2) := by decide +kernel
theorem dX6_longer_9 : decode cX6_longer 9 = .ok (.if_icmp .ge 7, 3) := by decide +kernel
theorem dX6_longer_12 : decode cX6_longer 12 = .ok (.iload_n 2, 1) := by decide +kernel
theorem dX6_longer_13 : decode cX6_longer 13 = .ok (.goto 10, 3) := by decide +kernel
theorem dX6_longer_16 : decode cX6_longer 16 = .ok (.bipush 8, 2) := by decide +kernel
theorem dX6_longer_18 : decode cX6_longer 18 = .ok (.iload_n 2, 1) := by decide +kernel
theorem dX6_longer_19 : decode cX6_longer 19 = .ok (.bipush 7, 2) := by decide +kernel
theorem dX6_longer_21 : decode cX6_longer 21 = .ok (.iand, 1) := by decide +kernel
theorem dX6_longer_22 : decode cX6_longer 22 = .ok (.ior, 1) := by decide +kernel
theorem dX6_longer_23 : decode cX6_longer 23 = .ok (.ireturn, 1) := by decide +kernel
theorem dX6_fits_0 : decode cX6_fits 0 = .ok (.iload_n 1, 1) := by decide +kernel
theorem dX6_fits_1 : decode cX6_fits 1 = .ok (.istore_n 3, 1) := by decide +kernel
theorem dX6_fits_2 : decode cX6_fits 2 = .ok (.iload_n 0, 1) := by decide +kernel
theorem dX6_fits_3 : decode cX6_fits 3 = .ok (.istore 4, 2) := by decide +kernel
theorem dX6_fits_5 : decode cX6_fits 5 = .ok (.iconst 0, 1) := by decide +kernel
theorem dX6_fits_6 : decode cX6_fits 6 = .ok (.istore 5, 2) := by decide +kernel
theorem dX6_fits_8 : decode cX6_fits 8 = .ok (.iload 5, 2) := by decide +kernel
theorem dX6_fits_10 : decode cX6_fits 10 = .ok (.iload_n 2, 1) := by decide +kernel
theorem dX6_fits_11 : decode cX6_fits 11 = .ok (.if_icmp .ge 36, 3) := by decide +kernel
theorem dX6_fits_14 : decode cX6_fits 14 = .ok (.iload 4, 2) := by decide +kernel
theorem dX6_fits_16 : decode cX6_fits 16 = .ok (.iconst 1, 1) := by decide +kernel
theorem dX6_fits_17 : decode cX6_fits 17 = .ok (.if_icmp .le 30, 3) := by decide +kernel
theorem dX6_fits_20 : decode cX6_fits 20 = .ok (.iload 4, 2) := by decide +kernel
theorem dX6_fits_22 : decode cX6_fits 22 = .ok (.iconst 1, 1) := by decide +kernel
theorem dX6_fits_23 : decode cX6_fits 23 = .ok (.iand, 1) := by decide +kernel
theorem dX6_fits_24 : decode cX6_fits 24 = .ok (.iload_n 3, 1) := by decide +kernel
theorem dX6_fits_25 : decode cX6_fits 25 = .ok (.if_icmp .ne 5, 3) := by decide +kernel
theorem dX6_fits_28 : decode cX6_fits 28 = .ok (.iconst 0, 1) := by decide +kernel
theorem dX6_fits_29 : decode cX6_fits 29 = .ok (.ireturn, 1) := by decide +kernel
theorem dX6_fits_30 : decode cX6_fits 30 = .ok (.iload 4, 2) := by decide +kernel
theorem dX6_fits_32 : decode cX6_fits 32 = .ok (.iconst 1, 1) := by decide +kernel
theorem dX6_fits_33 : decode cX6_fits 33 = .ok (.iand, 1) := by decide +kernel
theorem dX6_fits_34 : decode cX6_fits 34 = .ok (.istore_n 3, 1) := by decide +kernel
theorem dX6_fits_35 : decode cX6_fits 35 = .ok (.iload 4, 2) := by decide +kernel
theorem dX6_fits_37 : decode cX6_fits 37 = .ok (.iconst 1, 1) := by decide +kernel
theorem dX6_fits_38 : decode cX6_fits 38 = .ok (.ishr, 1) := by decide +kernel
theorem dX6_fits_39 : decode cX6_fits 39 = .ok (.istore 4, 2) := by decide +kernel
theorem dX6_fits_41 : decode cX6_fits 41 = .ok (.iinc 5 1, 3) := by decide +kernel
theorem dX6_fits_44 : decode cX6_fits 44 = .ok (.goto (-36), 3) := by decide +kernel
theorem dX6_fits_47 : decode cX6_fits 47 = .ok (.iconst 1, 1) := by decide +kernel
theorem dX6_fits_48 : decode cX6_fits 48 = .ok (.ireturn, 1) := by decide +kernel
theorem dX6_mergedTrail_0 : decode cX6_mergedTrail 0 = .ok (.iload_n 1, 1) := by decide +kernel
theorem dX6_mergedTrail_1 : decode cX6_mergedTrail 1 = .ok (.ifCond .eq 8, 3) := by decide +kernel
theorem dX6_mergedTrail_4 : decode cX6_mergedTrail 4 = .ok (.iload_n 0, 1) := by decide +kernel
theorem dX6_mergedTrail_5 : decode cX6_mergedTrail 5 = .ok (.iconst 1, 1) := by decide +kernel
theorem dX6_mergedTrail_6 : decode cX6_mergedTrail 6 = .ok (.if_icmp .gt 5, 3) := by decide +kernel
theorem dX6_mergedTrail_9 : decode cX6_mergedTrail 9 = .ok (.iconst 1, 1) := by decide +kernel
theorem dX6_mergedTrail_10 : decode cX6_mergedTrail 10 = .ok (.ireturn, 1) := by decide +kernel
theorem dX6_mergedTrail_11 : decode cX6_mergedTrail 11 = .ok (.iload_n 0, 1) := by decide +kernel
theorem dX6_mergedTrail_12 : decode cX6_mergedTrail 12 = .ok (.iconst 1, 1) := by decide +kernel
theorem dX6_mergedTrail_13 : decode cX6_mergedTrail 13 = .ok (.iand, 1) := by decide +kernel
theorem dX6_mergedTrail_14 : decode cX6_mergedTrail 14 = .ok (.istore_n 2, 1) := by decide +kernel
theorem dX6_mergedTrail_15 : decode cX6_mergedTrail 15 = .ok (.iload_n 0, 1) := by decide +kernel
theorem dX6_mergedTrail_16 : decode cX6_mergedTrail 16 = .ok (.iconst 1, 1) := by decide +kernel
theorem dX6_mergedTrail_17 : decode cX6_mergedTrail 17 = .ok (.ishr, 1) := by decide +kernel
theorem dX6_mergedTrail_18 : decode cX6_mergedTrail 18 = .ok (.istore_n 3, 1) := by decide +kernel
theorem dX6_mergedTrail_19 : decode cX6_mergedTrail 19 = .ok (.iconst 1, 1) := by decide +kernel
theorem dX6_mergedTrail_20 : decode cX6_mergedTrail 20 = .ok (.istore 4, 2) := by decide +kernel
theorem dX6_mergedTrail_22 : decode cX6_mergedTrail 22 = .ok (.iload 4, 2) := by decide +kernel
theorem dX6_mergedTrail_24 : decode cX6_mergedTrail 24 = .ok (.iconst 3, 1) := by decide +kernel
theorem dX6_mergedTrail_25 : decode cX6_mergedTrail 25 = .ok (.if_icmp .ge 30, 3) := by decide +kernel
theorem dX6_mergedTrail_28 : decode cX6_mergedTrail 28 = .ok (.iload_n 3, 1) := by decide +kernel
theorem dX6_mergedTrail_29 : decode cX6_mergedTrail 29 = .ok (.iconst 1, 1) := by decide +kernel
theorem dX6_mergedTrail_30 : decode cX6_mergedTrail 30 = .ok (.if_icmp .le 25, 3) := by decide +kernel
theorem dX6_mergedTrail_33 : decode cX6_mergedTrail 33 = .ok (.iload_n 3, 1) := by decide +kernel
theorem dX6_mergedTrail_34 : decode cX6_mergedTrail 34 = .ok (.iconst 1, 1) := by decide +kernel
theorem dX6_mergedTrail_35 : decode cX6_mergedTrail 35 = .ok (.iand, 1) := by decide +kernel
theorem dX6_mergedTrail_36 : decode cX6_mergedTrail 36 = .ok (.iload_n 2, 1) := by decide +kernel
theorem dX6_mergedTrail_37 : decode cX6_mergedTrail 37 = .ok (.iload 4, 2) := by decide +kernel
theorem dX6_mergedTrail_39 : decode cX6_mergedTrail 39 = .ok (.iadd, 1) := by decide +kernel
theorem dX6_mergedTrail_40 : decode cX6_mergedTrail 40 = .ok (.iconst 1, 1) := by decide +kernel
theorem dX6_mergedTrail_41 : decode cX6_mergedTrail 41 = .ok (.iand, 1) := by decide +kernel
theorem dX6_mergedTrail_42 : decode cX6_mergedTrail 42 = .ok (.if_icmp .ne 13, 3) := by decide +kernel
theorem dX6_mergedTrail_45 : decode cX6_mergedTrail 45 = .ok (.iload_n 3, 1) := by decide +kernel
theorem dX6_mergedTrail_46 : decode cX6_mergedTrail 46 = .ok (.iconst 1, 1) := by decide +kernel
theorem dX6_mergedTrail_47 : decode cX6_mergedTrail 47 = .ok (.ishr, 1) := by decide +kernel
theorem dX6_mergedTrail_48 : decode cX6_mergedTrail 48 = .ok (.istore_n 3, 1) := by decide +kernel
theorem dX6_mergedTrail_49 : decode cX6_mergedTrail 49 = .ok (.iinc 4 1, 3) := by decide +kernel
theorem dX6_mergedTrail_52 : decode cX6_mergedTrail 52 = .ok (.goto (-30), 3) := by decide +kernel
theorem dX6_mergedTrail_55 : decode cX6_mergedTrail 55 = .ok (.iload_n 3, 1) := by decide +kernel
theorem dX6_mergedTrail_56 : decode cX6_mergedTrail 56 = .ok (.iconst 1, 1) := by decide +kernel
theorem dX6_mergedTrail_57 : decode cX6_mergedTrail 57 = .ok (.if_icmp .le 9, 3) := by decide +kernel
theorem dX6_mergedTrail_60 : decode cX6_mergedTrail 60 = .ok (.iload 4, 2) := by decide +kernel
theorem dX6_mergedTrail_62 : decode cX6_mergedTrail 62 = .ok (.iload_n 1, 1) := by decide +kernel
theorem dX6_mergedTrail_63 : decode cX6_mergedTrail 63 = .ok (.if_icmp .lt 15, 3) := by decide +kernel
theorem dX6_mergedTrail_66 : decode cX6_mergedTrail 66 = .ok (.iload_n 2, 1) := by decide +kernel
theorem dX6_mergedTrail_67 : decode cX6_mergedTrail 67 = .ok (.ifCond .ne 8, 3) := by decide +kernel
theorem dX6_mergedTrail_70 : decode cX6_mergedTrail 70 = .ok (.bipush 10, 2) := by decide +kernel
theorem dX6_mergedTrail_72 : decode cX6_mergedTrail 72 = .ok (.goto 5, 3) := by decide +kernel
theorem dX6_mergedTrail_75 : decode cX6_mergedTrail 75 = .ok (.bipush 13, 2) := by decide +kernel
theorem dX6_mergedTrail_77 : decode cX6_mergedTrail 77 = .ok (.ireturn, 1) := by decide +kernel
theorem dX6_mergedTrail_78 : decode cX6_mergedTrail 78 = .ok (.iload 4, 2) := by decide +kernel
theorem dX6_mergedTrail_80 : decode cX6_mergedTrail 80 = .ok (.iconst 1, 1) := by decide +kernel
theorem dX6_mergedTrail_81 : decode cX6_mergedTrail 81 = .ok (.if_icmp .ne 14, 3) := by decide +kernel
theorem dX6_mergedTrail_84 : decode cX6_mergedTrail 84 = .ok (.iload_n 2, 1) := by decide +kernel
theorem dX6_mergedTrail_85 : decode cX6_mergedTrail 85 = .ok (.ifCond .ne 7, 3) := by decide +kernel
theorem dX6_mergedTrail_88 : decode cX6_mergedTrail 88 = .ok (.iconst 4, 1) := by decide +kernel
theorem dX6_mergedTrail_89 : decode cX6_mergedTrail 89 = .ok (.goto 5, 3) := by decide +kernel
theorem dX6_mergedTrail_92 : decode cX6_mergedTrail 92 = .ok (.bipush 7, 2) := by decide +kernel
theorem dX6_mergedTrail_94 : decode cX6_mergedTrail 94 = .ok (.ireturn, 1) := by decide +kernel
theorem dX6_mergedTrail_95 : decode cX6_mergedTrail 95 = .ok (.iload_n 2, 1) := by decide +kernel
theorem dX6_mergedTrail_96 : decode cX6_mergedTrail 96 = .ok (.ifCond .ne 8, 3) := by decide +kernel
theorem dX6_mergedTrail_99 : decode cX6_mergedTrail 99 = .ok (.bipush 14, 2) := by decide +kernel
theorem dX6_mergedTrail_101 : decode cX6_mergedTrail 101 = .ok (.goto 5, 3) := by decide +kernel
theorem dX6_mergedTrail_104 : decode cX6_mergedTrail 104 = .ok (.bipush 9, 2) := by decide +kernel
theorem dX6_mergedTrail_106 : decode cX6_mergedTrail 106 = .ok (.ireturn, 1) := by decide +kernel
theorem dX6_learn_0 : decode cX6_learn 0 = .ok (.aload_n 0, 1) := by decide +kernel
theorem dX6_learn_1 : decode cX6_learn 1 = .ok (.aload_n 1, 1) := by decide +kernel
theorem dX6_learn_2 : decode cX6_learn 2 = .ok (.invokevirtual 34, 3) := by decide +kernel
theorem dX6_learn_5 : decode cX6_learn 5 = .ok (.putfield 40, 3) := by decide +kernel
theorem dX6_learn_8 : decode cX6_learn 8 = .ok (.aload_n 0, 1) := by decide +kernel
theorem dX6_learn_9 : decode cX6_learn 9 = .ok (.aload_n 1, 1) := by decide +kernel
theorem dX6_learn_10 : decode cX6_learn 10 = .ok (.invokevirtual 43, 3) := by decide +kernel
theorem dX6_learn_13 : decode cX6_learn 13 = .ok (.putfield 46, 3) := by decide +kernel
theorem dX6_learn_16 : decode cX6_learn 16 = .ok (.aload_n 0, 1) := by decide +kernel
theorem dX6_learn_17 : decode cX6_learn 17 = .ok (.aload_n 1, 1) := by decide +kernel
theorem dX6_learn_18 : decode cX6_learn 18 = .ok (.getfield 48, 3) := by decide +kernel
theorem dX6_learn_21 : decode cX6_learn 21 = .ok (.putfield 51, 3) := by decide +kernel
theorem dX6_learn_24 : decode cX6_learn 24 = .ok (.aload_n 0, 1) := by decide +kernel
theorem dX6_learn_25 : decode cX6_learn 25 = .ok (.aload_n 1, 1) := by decide +kernel
theorem dX6_learn_26 : decode cX6_learn 26 = .ok (.getfield 52, 3) := by decide +kernel
theorem dX6_learn_29 : decode cX6_learn 29 = .ok (.putfield 55, 3) := by decide +kernel
theorem dX6_learn_32 : decode cX6_learn 32 = .ok (.aload_n 0, 1) := by decide +kernel
theorem dX6_learn_33 : decode cX6_learn 33 = .ok (.aload_n 1, 1) := by decide +kernel
theorem dX6_learn_34 : decode cX6_learn 34 = .ok (.getfield 56, 3) := by decide +kernel
theorem dX6_learn_37 : decode cX6_learn 37 = .ok (.iconst 1, 1) := by decide +kernel
theorem dX6_learn_38 : decode cX6_learn 38 = .ok (.if_icmp .ne 7, 3) := by decide +kernel
theorem dX6_learn_41 : decode cX6_learn 41 = .ok (.iconst 1, 1) := by decide +kernel
theorem dX6_learn_42 : decode cX6_learn 42 = .ok (.goto 4, 3) := by decide +kernel
theorem dX6_learn_45 : decode cX6_learn 45 = .ok (.iconst 0, 1) := by decide +kernel
theorem dX6_learn_46 : decode cX6_learn 46 = .ok (.putfield 59, 3) := by decide +kernel
theorem dX6_learn_49 : decode cX6_learn 49 = .ok (.aload_n 0, 1) := by decide +kernel
theorem dX6_learn_50 : decode cX6_learn 50 = .ok (.getfield 18, 3) := by decide +kernel
theorem dX6_learn_53 : decode cX6_learn 53 = .ok (.iconst 0, 1) := by decide +kernel
theorem dX6_learn_54 : decode cX6_learn 54 = .ok (.invokestatic 62, 3) := by decide +kernel
theorem dX6_learn_57 : decode cX6_learn 57 = .ok (.aload_n 0, 1) := by decide +kernel
theorem dX6_learn_58 : decode cX6_learn 58 = .ok (.getfield 21, 3) := by decide +kernel
theorem dX6_learn_61 : decode cX6_learn 61 = .ok (.iconst 0, 1) := by decide +kernel
theorem dX6_learn_62 : decode cX6_learn 62 = .ok (.invokestatic 62, 3) := by decide +kernel
theorem dX6_learn_65 : decode cX6_learn 65 = .ok (.iconst 0, 1) := by decide +kernel
theorem dX6_learn_66 : decode cX6_learn 66 = .ok (.istore_n 3, 1) := by decide +kernel
theorem dX6_learn_67 : decode cX6_learn 67 = .ok (.iconst 0, 1) := by decide +kernel
theorem dX6_learn_68 : decode cX6_learn 68 = .ok (.istore 4, 2) := by decide +kernel
theorem dX6_learn_70 : decode cX6_learn 70 = .ok (.iload 4, 2) := by decide +kernel
theorem dX6_learn_72 : decode cX6_learn 72 = .ok (.aload_n 0, 1) := by decide +kernel
theorem dX6_learn_73 : decode cX6_learn 73 = .ok (.getfield 55, 3) := by decide +kernel
theorem dX6_learn_76 : decode cX6_learn 76 = .ok (.if_icmp .ge 92, 3) := by decide +kernel
theorem dX6_learn_79 : decode cX6_learn 79 = .ok (.iload_n 3, 1) := by decide +kernel
theorem dX6_learn_80 : decode cX6_learn 80 = .ok (.aload_n 1, 1) := by decide +kernel
theorem dX6_learn_81 : decode cX6_learn 81 = .ok (.getfield 68, 3) := by decide +kernel
theorem dX6_learn_84 : decode cX6_learn 84 = .ok (.iload 4, 2) := by decide +kernel
theorem dX6_learn_86 : decode cX6_learn 86 = .ok (.iaload, 1) := by decide +kernel
theorem dX6_learn_87 : decode cX6_learn 87 = .ok (.invokestatic 71, 3) := by decide +kernel
theorem dX6_learn_90 : decode cX6_learn 90 = .ok (.istore_n 3, 1) := by decide +kernel
theorem dX6_learn_91 : decode cX6_learn 91 = .ok (.iconst 0, 1) := by decide +kernel
theorem dX6_learn_92 : decode cX6_learn 92 = .ok (.istore 5, 2) := by decide +kernel
theorem dX6_learn_94 : decode cX6_learn 94 = .ok (.iload 5, 2) := by decide +kernel
theorem dX6_learn_96 : decode cX6_learn 96 = .ok (.aload_n 0, 1) := by decide +kernel
theorem dX6_learn_97 : decode cX6_learn 97 = .ok (.getfield 51, 3) := by decide +kernel
theorem dX6_learn_100 : decode cX6_learn 100 = .ok (.if_icmp .gt 62, 3) := by decide +kernel
theorem dX6_learn_103 : decode cX6_learn 103 = .ok (.aload_n 0, 1) := by decide +kernel
theorem dX6_learn_104 : decode cX6_learn 104 = .ok (.getfield 18, 3) := by decide +kernel
theorem dX6_learn_107 : decode cX6_learn 107 = .ok (.iload 4, 2) := by decide +kernel
theorem dX6_learn_109 : decode cX6_learn 109 = .ok (.bipush 8, 2) := by decide +kernel
theorem dX6_learn_111 : decode cX6_learn 111 = .ok (.imul, 1) := by decide +kernel
theorem dX6_learn_112 : decode cX6_learn 112 = .ok (.iload 5, 2) := by decide +kernel
theorem dX6_learn_114 : decode cX6_learn 114 = .ok (.iadd, 1) := by decide +kernel
theorem dX6_learn_115 : decode cX6_learn 115 = .ok (.aload_n 1, 1) := by decide +kernel
theorem dX6_learn_116 : decode cX6_learn 116 = .ok (.iload 5, 2) := by decide +kernel
theorem dX6_learn_118 : decode cX6_learn 118 = .ok (.iconst 1, 1) := by decide +kernel
theorem dX6_learn_119 : decode cX6_learn 119 = .ok (.isub, 1) := by decide +kernel
theorem dX6_learn_120 : decode cX6_learn 120 = .ok (.iload 4, 2) := by decide +kernel
theorem dX6_learn_122 : decode cX6_learn 122 = .ok (.invokevirtual 77, 3) := by decide +kernel
theorem dX6_learn_125 : decode cX6_learn 125 = .ok (.iastore, 1) := by decide +kernel
theorem dX6_learn_126 : decode cX6_learn 126 = .ok (.aload_n 0, 1) := by decide +kernel
theorem dX6_learn_127 : decode cX6_learn 127 = .ok (.getfield 21, 3) := by decide +kernel
theorem dX6_learn_130 : decode cX6_learn 130 = .ok (.iload 4, 2) := by decide +kernel
theorem dX6_learn_132 : decode cX6_learn 132 = .ok (.bipush 8, 2) := by decide +kernel
theorem dX6_learn_134 : decode cX6_learn 134 = .ok (.imul, 1) := by decide +kernel
theorem dX6_learn_135 : decode cX6_learn 135 = .ok (.iload 5, 2) := by decide +kernel
theorem dX6_learn_137 : decode cX6_learn 137 = .ok (.iadd, 1) := by decide +kernel
theorem dX6_learn_138 : decode cX6_learn 138 = .ok (.iload_n 2, 1) := by decide +kernel
theorem dX6_learn_139 : decode cX6_learn 139 = .ok (.ifCond .eq 14, 3) := by decide +kernel
theorem dX6_learn_142 : decode cX6_learn 142 = .ok (.aload_n 0, 1) := by decide +kernel
theorem dX6_learn_143 : decode cX6_learn 143 = .ok (.iload 4, 2) := by decide +kernel
theorem dX6_learn_145 : decode cX6_learn 145 = .ok (.iload 5, 2) := by decide +kernel
theorem dX6_learn_147 : decode cX6_learn 147 = .ok (.invokevirtual 80, 3) := by decide +kernel
theorem dX6_learn_150 : decode cX6_learn 150 = .ok (.goto 5, 3) := by decide +kernel
theorem dX6_learn_153 : decode cX6_learn 153 = .ok (.iload 5, 2) := by decide +kernel
theorem dX6_learn_155 : decode cX6_learn 155 = .ok (.iastore, 1) := by decide +kernel
theorem dX6_learn_156 : decode cX6_learn 156 = .ok (.iinc 5 1, 3) := by decide +kernel
theorem dX6_learn_159 : decode cX6_learn 159 = .ok (.goto (-65), 3) := by decide +kernel
theorem dX6_learn_162 : decode cX6_learn 162 = .ok (.iinc 4 1, 3) := by decide +kernel
theorem dX6_learn_165 : decode cX6_learn 165 = .ok (.goto (-95), 3) := by decide +kernel
theorem dX6_learn_168 : decode cX6_learn 168 = .ok (.iconst 0, 1) := by decide +kernel
theorem dX6_learn_169 : decode cX6_learn 169 = .ok (.istore 4, 2) := by decide +kernel
theorem dX6_learn_171 : decode cX6_learn 171 = .ok (.iload 4, 2) := by decide +kernel
theorem dX6_learn_173 : decode cX6_learn 173 = .ok (.bipush 16, 2) := by decide +kernel
theorem dX6_learn_175 : decode cX6_learn 175 = .ok (.if_icmp .ge 31, 3) := by decide +kernel
theorem dX6_learn_178 : decode cX6_learn 178 = .ok (.aload_n 0, 1) := by decide +kernel
theorem dX6_learn_179 : decode cX6_learn 179 = .ok (.getfield 24, 3) := by decide +kernel
theorem dX6_learn_182 : decode cX6_learn 182 = .ok (.iload 4, 2) := by decide +kernel
theorem dX6_learn_184 : decode cX6_learn 184 = .ok (.iload_n 2, 1) := by decide +kernel
theorem dX6_learn_185 : decode cX6_learn 185 = .ok (.ifCond .eq 12, 3) := by decide +kernel
theorem dX6_learn_188 : decode cX6_learn 188 = .ok (.iload 4, 2) := by decide +kernel
theorem dX6_learn_190 : decode cX6_learn 190 = .ok (.iload_n 3, 1) := by decide +kernel
theorem dX6_learn_191 : decode cX6_learn 191 = .ok (.invokestatic 83, 3) := by decide +kernel
theorem dX6_learn_194 : decode cX6_learn 194 = .ok (.goto 5, 3) := by decide +kernel
theorem dX6_learn_197 : decode cX6_learn 197 = .ok (.iload 4, 2) := by decide +kernel
theorem dX6_learn_199 : decode cX6_learn 199 = .ok (.iastore, 1) := by decide +kernel
theorem dX6_learn_200 : decode cX6_learn 200 = .ok (.iinc 4 1, 3) := by decide +kernel
theorem dX6_learn_203 : decode cX6_learn 203 = .ok (.goto (-32), 3) := by decide +kernel
theorem dX6_learn_206 : decode cX6_learn 206 = .ok (.aload_n 0, 1) := by decide +kernel
theorem dX6_learn_207 : decode cX6_learn 207 = .ok (.aload_n 1, 1) := by decide +kernel
theorem dX6_learn_208 : decode cX6_learn 208 = .ok (.invokevirtual 86, 3) := by decide +kernel
theorem dX6_learn_211 : decode cX6_learn 211 = .ok (.return_, 1) := by decide +kernel
theorem dX6_learnStamps_0 : decode cX6_learnStamps 0 = .ok (.iconst 1, 1) := by decide +kernel
theorem dX6_learnStamps_1 : decode cX6_learnStamps 1 = .ok (.istore_n 2, 1) := by decide +kernel
theorem dX6_learnStamps_2 : decode cX6_learnStamps 2 = .ok (.iload_n 2, 1) := by decide +kernel
theorem dX6_learnStamps_3 : decode cX6_learnStamps 3 = .ok (.bipush 16, 2) := by decide +kernel
theorem dX6_learnStamps_5 : decode cX6_learnStamps 5 = .ok (.if_icmp .ge 91, 3) := by decide +kernel
theorem dX6_learnStamps_8 : decode cX6_learnStamps 8 = .ok (.iconst 0, 1) := by decide +kernel
theorem dX6_learnStamps_9 : decode cX6_learnStamps 9 = .ok (.istore_n 3, 1) := by decide +kernel
theorem dX6_learnStamps_10 : decode cX6_learnStamps 10 = .ok (.iload_n 3, 1) := by decide +kernel
theorem dX6_learnStamps_11 : decode cX6_learnStamps 11 = .ok (.iconst 2, 1) := by decide +kernel
theorem dX6_learnStamps_12 : decode cX6_learnStamps 12 = .ok (.if_icmp .ge 78, 3) := by decide +kernel
theorem dX6_learnStamps_15 : decode cX6_learnStamps 15 = .ok (.iconst 2, 1) := by decide +kernel
theorem dX6_learnStamps_16 : decode cX6_learnStamps 16 = .ok (.iload_n 2, 1) := by decide +kernel
theorem dX6_learnStamps_17 : decode cX6_learnStamps 17 = .ok (.imul, 1) := by decide +kernel
theorem dX6_learnStamps_18 : decode cX6_learnStamps 18 = .ok (.iload_n 3, 1) := by decide +kernel
theorem dX6_learnStamps_19 : decode cX6_learnStamps 19 = .ok (.iadd, 1) := by decide +kernel
theorem dX6_learnStamps_20 : decode cX6_learnStamps 20 = .ok (.istore 4, 2) := by decide +kernel
theorem dX6_learnStamps_22 : decode cX6_learnStamps 22 = .ok (.aload_n 0, 1) := by decide +kernel
theorem dX6_learnStamps_23 : decode cX6_learnStamps 23 = .ok (.getfield 27, 3) := by decide +kernel
theorem dX6_learnStamps_26 : decode cX6_learnStamps 26 = .ok (.iload 4, 2) := by decide +kernel
theorem dX6_learnStamps_28 : decode cX6_learnStamps 28 = .ok (.aload_n 0, 1) := by decide +kernel
theorem dX6_learnStamps_29 : decode cX6_learnStamps 29 = .ok (.getfield 24, 3) := by decide +kernel
theorem dX6_learnStamps_32 : decode cX6_learnStamps 32 = .ok (.iload_n 2, 1) := by decide +kernel
theorem dX6_learnStamps_33 : decode cX6_learnStamps 33 = .ok (.iload_n 3, 1) := by decide +kernel
theorem dX6_learnStamps_34 : decode cX6_learnStamps 34 = .ok (.invokestatic 90, 3) := by decide +kernel
theorem dX6_learnStamps_37 : decode cX6_learnStamps 37 = .ok (.iaload, 1) := by decide +kernel
theorem dX6_learnStamps_38 : decode cX6_learnStamps 38 = .ok (.iastore, 1) := by decide +kernel
theorem dX6_learnStamps_39 : decode cX6_learnStamps 39 = .ok (.iconst 0, 1) := by decide +kernel
theorem dX6_learnStamps_40 : decode cX6_learnStamps 40 = .ok (.istore 5, 2) := by decide +kernel
theorem dX6_learnStamps_42 : decode cX6_learnStamps 42 = .ok (.iload 5, 2) := by decide +kernel
theorem dX6_learnStamps_44 : decode cX6_learnStamps 44 = .ok (.aload_n 0, 1) := by decide +kernel
theorem dX6_learnStamps_45 : decode cX6_learnStamps 45 = .ok (.getfield 55, 3) := by decide +kernel
theorem dX6_learnStamps_48 : decode cX6_learnStamps 48 = .ok (.if_icmp .ge 36, 3) := by decide +kernel
theorem dX6_learnStamps_51 : decode cX6_learnStamps 51 = .ok (.aload_n 0, 1) := by decide +kernel
theorem dX6_learnStamps_52 : decode cX6_learnStamps 52 = .ok (.getfield 30, 3) := by decide +kernel
theorem dX6_learnStamps_55 : decode cX6_learnStamps 55 = .ok (.iload 5, 2) := by decide +kernel
theorem dX6_learnStamps_57 : decode cX6_learnStamps 57 = .ok (.iconst 2, 1) := by decide +kernel
theorem dX6_learnStamps_58 : decode cX6_learnStamps 58 = .ok (.imul, 1) := by decide +kernel
theorem dX6_learnStamps_59 : decode cX6_learnStamps 59 = .ok (.bipush 16, 2) := by decide +kernel
theorem dX6_learnStamps_61 : decode cX6_learnStamps 61 = .ok (.imul, 1) := by decide +kernel
theorem dX6_learnStamps_62 : decode cX6_learnStamps 62 = .ok (.iload 4, 2) := by decide +kernel
theorem dX6_learnStamps_64 : decode cX6_learnStamps 64 = .ok (.iadd, 1) := by decide +kernel
theorem dX6_learnStamps_65 : decode cX6_learnStamps 65 = .ok (.iload_n 2, 1) := by decide +kernel
theorem dX6_learnStamps_66 : decode cX6_learnStamps 66 = .ok (.iload_n 3, 1) := by decide +kernel
theorem dX6_learnStamps_67 : decode cX6_learnStamps 67 = .ok (.aload_n 1, 1) := by decide +kernel
theorem dX6_learnStamps_68 : decode cX6_learnStamps 68 = .ok (.getfield 68, 3) := by decide +kernel
theorem dX6_learnStamps_71 : decode cX6_learnStamps 71 = .ok (.iload 5, 2) := by decide +kernel
theorem dX6_learnStamps_73 : decode cX6_learnStamps 73 = .ok (.iaload, 1) := by decide +kernel
theorem dX6_learnStamps_74 : decode cX6_learnStamps 74 = .ok (.invokestatic 93, 3) := by decide +kernel
theorem dX6_learnStamps_77 : decode cX6_learnStamps 77 = .ok (.bastore, 1) := by decide +kernel
theorem dX6_learnStamps_78 : decode cX6_learnStamps 78 = .ok (.iinc 5 1, 3) := by decide +kernel
theorem dX6_learnStamps_81 : decode cX6_learnStamps 81 = .ok (.goto (-39), 3) := by decide +kernel
theorem dX6_learnStamps_84 : decode cX6_learnStamps 84 = .ok (.iinc 3 1, 3) := by decide +kernel
theorem dX6_learnStamps_87 : decode cX6_learnStamps 87 = .ok (.goto (-77), 3) := by decide +kernel
theorem dX6_learnStamps_90 : decode cX6_learnStamps 90 = .ok (.iinc 2 1, 3) := by decide +kernel
theorem dX6_learnStamps_93 : decode cX6_learnStamps 93 = .ok (.goto (-91), 3) := by decide +kernel
theorem dX6_learnStamps_96 : decode cX6_learnStamps 96 = .ok (.return_, 1) := by decide +kernel
theorem dX6_firstAlike_0 : decode cX6_firstAlike 0 = .ok (.iconst 0, 1) := by decide +kernel
theorem dX6_firstAlike_1 : decode cX6_firstAlike 1 = .ok (.istore_n 3, 1) := by decide +kernel
theorem dX6_firstAlike_2 : decode cX6_firstAlike 2 = .ok (.iload_n 3, 1) := by decide +kernel
theorem dX6_firstAlike_3 : decode cX6_firstAlike 3 = .ok (.iload_n 2, 1) := by decide +kernel
theorem dX6_firstAlike_4 : decode cX6_firstAlike 4 = .ok (.if_icmp .ge 36, 3) := by decide +kernel
theorem dX6_firstAlike_7 : decode cX6_firstAlike 7 = .ok (.aload_n 0, 1) := by decide +kernel
theorem dX6_firstAlike_8 : decode cX6_firstAlike 8 = .ok (.getfield 18, 3) := by decide +kernel
theorem dX6_firstAlike_11 : decode cX6_firstAlike 11 = .ok (.iload_n 1, 1) := by decide +kernel
theorem dX6_firstAlike_12 : decode cX6_firstAlike 12 = .ok (.bipush 8, 2) := by decide +kernel
theorem dX6_firstAlike_14 : decode cX6_firstAlike 14 = .ok (.imul, 1) := by decide +kernel
theorem dX6_firstAlike_15 : decode cX6_firstAlike 15 = .ok (.iload_n 3, 1) := by decide +kernel
theorem dX6_firstAlike_16 : decode cX6_firstAlike 16 = .ok (.iadd, 1) := by decide +kernel
theorem dX6_firstAlike_17 : decode cX6_firstAlike 17 = .ok (.iaload, 1) := by decide +kernel
theorem dX6_firstAlike_18 : decode cX6_firstAlike 18 = .ok (.aload_n 0, 1) := by decide +kernel
theorem dX6_firstAlike_19 : decode cX6_firstAlike 19 = .ok (.getfield 18, 3) := by decide +kernel
theorem dX6_firstAlike_22 : decode cX6_firstAlike 22 = .ok (.iload_n 1, 1) := by decide +kernel
theorem dX6_firstAlike_23 : decode cX6_firstAlike 23 = .ok (.bipush 8, 2) := by decide +kernel
theorem dX6_firstAlike_25 : decode cX6_firstAlike 25 = .ok (.imul, 1) := by decide +kernel
theorem dX6_firstAlike_26 : decode cX6_firstAlike 26 = .ok (.iload_n 2, 1) := by decide +kernel
theorem dX6_firstAlike_27 : decode cX6_firstAlike 27 = .ok (.iadd, 1) := by decide +kernel
theorem dX6_firstAlike_28 : decode cX6_firstAlike 28 = .ok (.iaload, 1) := by decide +kernel
theorem dX6_firstAlike_29 : decode cX6_firstAlike 29 = .ok (.if_icmp .ne 5, 3) := by decide +kernel
theorem dX6_firstAlike_32 : decode cX6_firstAlike 32 = .ok (.iload_n 3, 1) := by decide +kernel
theorem dX6_firstAlike_33 : decode cX6_firstAlike 33 = .ok (.ireturn, 1) := by decide +kernel
theorem dX6_firstAlike_34 : decode cX6_firstAlike 34 = .ok (.iinc 3 1, 3) := by decide +kernel
theorem dX6_firstAlike_37 : decode cX6_firstAlike 37 = .ok (.goto (-35), 3) := by decide +kernel
theorem dX6_firstAlike_40 : decode cX6_firstAlike 40 = .ok (.iload_n 2, 1) := by decide +kernel
theorem dX6_firstAlike_41 : decode cX6_firstAlike 41 = .ok (.ireturn, 1) := by decide +kernel
theorem dX6_overIn_0 : decode cX6_overIn 0 = .ok (.iload_n 0, 1) := by decide +kernel
theorem dX6_overIn_1 : decode cX6_overIn 1 = .ok (.bipush 63, 2) := by decide +kernel
theorem dX6_overIn_3 : decode cX6_overIn 3 = .ok (.iand, 1) := by decide +kernel
theorem dX6_overIn_4 : decode cX6_overIn 4 = .ok (.ireturn, 1) := by decide +kernel
theorem dX6_beginning_0 : decode cX6_beginning 0 = .ok (.sipush 8192, 3) := by decide +kernel
theorem dX6_beginning_3 : decode cX6_beginning 3 = .ok (.ireturn, 1) := by decide +kernel
theorem dX6_stateOf_0 : decode cX6_stateOf 0 = .ok (.aload_n 0, 1) := by decide +kernel
theorem dX6_stateOf_1 : decode cX6_stateOf 1 = .ok (.getfield 21, 3) := by decide +kernel
theorem dX6_stateOf_4 : decode cX6_stateOf 4 = .ok (.aload_n 1, 1) := by decide +kernel
theorem dX6_stateOf_5 : decode cX6_stateOf 5 = .ok (.getfield 97, 3) := by decide +kernel
theorem dX6_stateOf_8 : decode cX6_stateOf 8 = .ok (.iconst 0, 1) := by decide +kernel
theorem dX6_stateOf_9 : decode cX6_stateOf 9 = .ok (.iaload, 1) := by decide +kernel
theorem dX6_stateOf_10 : decode cX6_stateOf 10 = .ok (.iconst 1, 1) := by decide +kernel
theorem dX6_stateOf_11 : decode cX6_stateOf 11 = .ok (.iadd, 1) := by decide +kernel
theorem dX6_stateOf_12 : decode cX6_stateOf 12 = .ok (.iaload, 1) := by decide +kernel
theorem dX6_stateOf_13 : decode cX6_stateOf 13 = .ok (.istore_n 2, 1) := by decide +kernel
theorem dX6_stateOf_14 : decode cX6_stateOf 14 = .ok (.aload_n 0, 1) := by decide +kernel
theorem dX6_stateOf_15 : decode cX6_stateOf 15 = .ok (.getfield 21, 3) := by decide +kernel
theorem dX6_stateOf_18 : decode cX6_stateOf 18 = .ok (.bipush 8, 2) := by decide +kernel
theorem dX6_stateOf_20 : decode cX6_stateOf 20 = .ok (.aload_n 1, 1) := by decide +kernel
theorem dX6_stateOf_21 : decode cX6_stateOf 21 = .ok (.getfield 97, 3) := by decide +kernel
theorem dX6_stateOf_24 : decode cX6_stateOf 24 = .ok (.iconst 1, 1) := by decide +kernel
theorem dX6_stateOf_25 : decode cX6_stateOf 25 = .ok (.iaload, 1) := by decide +kernel
theorem dX6_stateOf_26 : decode cX6_stateOf 26 = .ok (.iadd, 1) := by decide +kernel
theorem dX6_stateOf_27 : decode cX6_stateOf 27 = .ok (.iconst 1, 1) := by decide +kernel
theorem dX6_stateOf_28 : decode cX6_stateOf 28 = .ok (.iadd, 1) := by decide +kernel
theorem dX6_stateOf_29 : decode cX6_stateOf 29 = .ok (.iaload, 1) := by decide +kernel
theorem dX6_stateOf_30 : decode cX6_stateOf 30 = .ok (.istore_n 3, 1) := by decide +kernel
theorem dX6_stateOf_31 : decode cX6_stateOf 31 = .ok (.aload_n 1, 1) := by decide +kernel
theorem dX6_stateOf_32 : decode cX6_stateOf 32 = .ok (.getfield 102, 3) := by decide +kernel
theorem dX6_stateOf_35 : decode cX6_stateOf 35 = .ok (.aload_n 1, 1) := by decide +kernel
theorem dX6_stateOf_36 : decode cX6_stateOf 36 = .ok (.getfield 105, 3) := by decide +kernel
theorem dX6_stateOf_39 : decode cX6_stateOf 39 = .ok (.bipush 64, 2) := by decide +kernel
theorem dX6_stateOf_41 : decode cX6_stateOf 41 = .ok (.imul, 1) := by decide +kernel
theorem dX6_stateOf_42 : decode cX6_stateOf 42 = .ok (.ior, 1) := by decide +kernel
theorem dX6_stateOf_43 : decode cX6_stateOf 43 = .ok (.iload_n 2, 1) := by decide +kernel
theorem dX6_stateOf_44 : decode cX6_stateOf 44 = .ok (.bipush 7, 2) := by decide +kernel
theorem dX6_stateOf_46 : decode cX6_stateOf 46 = .ok (.ishl, 1) := by decide +kernel
theorem dX6_stateOf_47 : decode cX6_stateOf 47 = .ok (.ior, 1) := by decide +kernel
theorem dX6_stateOf_48 : decode cX6_stateOf 48 = .ok (.iload_n 3, 1) := by decide +kernel
theorem dX6_stateOf_49 : decode cX6_stateOf 49 = .ok (.bipush 10, 2) := by decide +kernel
theorem dX6_stateOf_51 : decode cX6_stateOf 51 = .ok (.ishl, 1) := by decide +kernel
theorem dX6_stateOf_52 : decode cX6_stateOf 52 = .ok (.ior, 1) := by decide +kernel
theorem dX6_stateOf_53 : decode cX6_stateOf 53 = .ok (.aload_n 0, 1) := by decide +kernel
theorem dX6_stateOf_54 : decode cX6_stateOf 54 = .ok (.getfield 24, 3) := by decide +kernel
theorem dX6_stateOf_57 : decode cX6_stateOf 57 = .ok (.aload_n 1, 1) := by decide +kernel
theorem dX6_stateOf_58 : decode cX6_stateOf 58 = .ok (.getfield 108, 3) := by decide +kernel
theorem dX6_stateOf_61 : decode cX6_stateOf 61 = .ok (.iaload, 1) := by decide +kernel
theorem dX6_stateOf_62 : decode cX6_stateOf 62 = .ok (.bipush 13, 2) := by decide +kernel
theorem dX6_stateOf_64 : decode cX6_stateOf 64 = .ok (.ishl, 1) := by decide +kernel
theorem dX6_stateOf_65 : decode cX6_stateOf 65 = .ok (.ior, 1) := by decide +kernel
theorem dX6_stateOf_66 : decode cX6_stateOf 66 = .ok (.ireturn, 1) := by decide +kernel
theorem dX6_merged_0 : decode cX6_merged 0 = .ok (.aload_n 0, 1) := by decide +kernel
theorem dX6_merged_1 : decode cX6_merged 1 = .ok (.getfield 21, 3) := by decide +kernel
theorem dX6_merged_4 : decode cX6_merged 4 = .ok (.iload_n 1, 1) := by decide +kernel
theorem dX6_merged_5 : decode cX6_merged 5 = .ok (.bipush 7, 2) := by decide +kernel
theorem dX6_merged_7 : decode cX6_merged 7 = .ok (.ishr, 1) := by decide +kernel
theorem dX6_merged_8 : decode cX6_merged 8 = .ok (.bipush 7, 2) := by decide +kernel
theorem dX6_merged_10 : decode cX6_merged 10 = .ok (.iand, 1) := by decide +kernel
theorem dX6_merged_11 : decode cX6_merged 11 = .ok (.iaload, 1) := by decide +kernel
theorem dX6_merged_12 : decode cX6_merged 12 = .ok (.istore_n 2, 1) := by decide +kernel
theorem dX6_merged_13 : decode cX6_merged 13 = .ok (.aload_n 0, 1) := by decide +kernel
theorem dX6_merged_14 : decode cX6_merged 14 = .ok (.getfield 21, 3) := by decide +kernel
theorem dX6_merged_17 : decode cX6_merged 17 = .ok (.bipush 8, 2) := by decide +kernel
theorem dX6_merged_19 : decode cX6_merged 19 = .ok (.iload_n 1, 1) := by decide +kernel
theorem dX6_merged_20 : decode cX6_merged 20 = .ok (.bipush 10, 2) := by decide +kernel
theorem dX6_merged_22 : decode cX6_merged 22 = .ok (.ishr, 1) := by decide +kernel
theorem dX6_merged_23 : decode cX6_merged 23 = .ok (.bipush 7, 2) := by decide +kernel
theorem dX6_merged_25 : decode cX6_merged 25 = .ok (.iand, 1) := by decide +kernel
theorem dX6_merged_26 : decode cX6_merged 26 = .ok (.iadd, 1) := by decide +kernel
theorem dX6_merged_27 : decode cX6_merged 27 = .ok (.iaload, 1) := by decide +kernel
theorem dX6_merged_28 : decode cX6_merged 28 = .ok (.istore_n 3, 1) := by decide +kernel
theorem dX6_merged_29 : decode cX6_merged 29 = .ok (.iload_n 1, 1) := by decide +kernel
theorem dX6_merged_30 : decode cX6_merged 30 = .ok (.bipush 127, 2) := by decide +kernel
theorem dX6_merged_32 : decode cX6_merged 32 = .ok (.iand, 1) := by decide +kernel
theorem dX6_merged_33 : decode cX6_merged 33 = .ok (.iload_n 2, 1) := by decide +kernel
theorem dX6_merged_34 : decode cX6_merged 34 = .ok (.bipush 7, 2) := by decide +kernel
theorem dX6_merged_36 : decode cX6_merged 36 = .ok (.ishl, 1) := by decide +kernel
theorem dX6_merged_37 : decode cX6_merged 37 = .ok (.ior, 1) := by decide +kernel
theorem dX6_merged_38 : decode cX6_merged 38 = .ok (.iload_n 3, 1) := by decide +kernel
theorem dX6_merged_39 : decode cX6_merged 39 = .ok (.bipush 10, 2) := by decide +kernel
theorem dX6_merged_41 : decode cX6_merged 41 = .ok (.ishl, 1) := by decide +kernel
theorem dX6_merged_42 : decode cX6_merged 42 = .ok (.ior, 1) := by decide +kernel
theorem dX6_merged_43 : decode cX6_merged 43 = .ok (.aload_n 0, 1) := by decide +kernel
theorem dX6_merged_44 : decode cX6_merged 44 = .ok (.getfield 24, 3) := by decide +kernel
theorem dX6_merged_47 : decode cX6_merged 47 = .ok (.iload_n 1, 1) := by decide +kernel
theorem dX6_merged_48 : decode cX6_merged 48 = .ok (.bipush 13, 2) := by decide +kernel
theorem dX6_merged_50 : decode cX6_merged 50 = .ok (.ishr, 1) := by decide +kernel
theorem dX6_merged_51 : decode cX6_merged 51 = .ok (.bipush 15, 2) := by decide +kernel
theorem dX6_merged_53 : decode cX6_merged 53 = .ok (.iand, 1) := by decide +kernel
theorem dX6_merged_54 : decode cX6_merged 54 = .ok (.iaload, 1) := by decide +kernel
theorem dX6_merged_55 : decode cX6_merged 55 = .ok (.bipush 13, 2) := by decide +kernel
theorem dX6_merged_57 : decode cX6_merged 57 = .ok (.ishl, 1) := by decide +kernel
theorem dX6_merged_58 : decode cX6_merged 58 = .ok (.ior, 1) := by decide +kernel
theorem dX6_merged_59 : decode cX6_merged 59 = .ok (.ireturn, 1) := by decide +kernel
theorem dX6_list_0 : decode cX6_list 0 = .ok (.iload_n 1, 1) := by decide +kernel
theorem dX6_list_1 : decode cX6_list 1 = .ok (.bipush 64, 2) := by decide +kernel
theorem dX6_list_3 : decode cX6_list 3 = .ok (.idiv, 1) := by decide +kernel
theorem dX6_list_4 : decode cX6_list 4 = .ok (.iconst 1, 1) := by decide +kernel
theorem dX6_list_5 : decode cX6_list 5 = .ok (.iand, 1) := by decide +kernel
theorem dX6_list_6 : decode cX6_list 6 = .ok (.istore_n 2, 1) := by decide +kernel
theorem dX6_list_7 : decode cX6_list 7 = .ok (.iload_n 1, 1) := by decide +kernel
theorem dX6_list_8 : decode cX6_list 8 = .ok (.bipush 63, 2) := by decide +kernel
theorem dX6_list_10 : decode cX6_list 10 = .ok (.iand, 1) := by decide +kernel
theorem dX6_list_11 : decode cX6_list 11 = .ok (.istore_n 3, 1) := by decide +kernel
theorem dX6_list_12 : decode cX6_list 12 = .ok (.iload_n 2, 1) := by decide +kernel
theorem dX6_list_13 : decode cX6_list 13 = .ok (.iconst 1, 1) := by decide +kernel
theorem dX6_list_14 : decode cX6_list 14 = .ok (.if_icmp .ne 7, 3) := by decide +kernel
theorem dX6_list_17 : decode cX6_list 17 = .ok (.iload_n 3, 1) := by decide +kernel
theorem dX6_list_18 : decode cX6_list 18 = .ok (.goto 11, 3) := by decide +kernel
theorem dX6_list_21 : decode cX6_list 21 = .ok (.aload_n 0, 1) := by decide +kernel
theorem dX6_list_22 : decode cX6_list 22 = .ok (.getfield 40, 3) := by decide +kernel
theorem dX6_list_25 : decode cX6_list 25 = .ok (.iload_n 3, 1) := by decide +kernel
theorem dX6_list_26 : decode cX6_list 26 = .ok (.iconst (-1), 1) := by decide +kernel
theorem dX6_list_27 : decode cX6_list 27 = .ok (.ixor, 1) := by decide +kernel
theorem dX6_list_28 : decode cX6_list 28 = .ok (.iand, 1) := by decide +kernel
theorem dX6_list_29 : decode cX6_list 29 = .ok (.istore 4, 2) := by decide +kernel
theorem dX6_list_31 : decode cX6_list 31 = .ok (.iconst 2, 1) := by decide +kernel
theorem dX6_list_32 : decode cX6_list 32 = .ok (.iload_n 1, 1) := by decide +kernel
theorem dX6_list_33 : decode cX6_list 33 = .ok (.bipush 13, 2) := by decide +kernel
theorem dX6_list_35 : decode cX6_list 35 = .ok (.ishr, 1) := by decide +kernel
theorem dX6_list_36 : decode cX6_list 36 = .ok (.bipush 15, 2) := by decide +kernel
theorem dX6_list_38 : decode cX6_list 38 = .ok (.iand, 1) := by decide +kernel
theorem dX6_list_39 : decode cX6_list 39 = .ok (.imul, 1) := by decide +kernel
theorem dX6_list_40 : decode cX6_list 40 = .ok (.iload_n 2, 1) := by decide +kernel
theorem dX6_list_41 : decode cX6_list 41 = .ok (.iadd, 1) := by decide +kernel
theorem dX6_list_42 : decode cX6_list 42 = .ok (.istore 5, 2) := by decide +kernel
theorem dX6_list_44 : decode cX6_list 44 = .ok (.iload_n 1, 1) := by decide +kernel
theorem dX6_list_45 : decode cX6_list 45 = .ok (.bipush 7, 2) := by decide +kernel
theorem dX6_list_47 : decode cX6_list 47 = .ok (.ishr, 1) := by decide +kernel
theorem dX6_list_48 : decode cX6_list 48 = .ok (.bipush 7, 2) := by decide +kernel
theorem dX6_list_50 : decode cX6_list 50 = .ok (.iand, 1) := by decide +kernel
theorem dX6_list_51 : decode cX6_list 51 = .ok (.istore 6, 2) := by decide +kernel
theorem dX6_list_53 : decode cX6_list 53 = .ok (.iload_n 1, 1) := by decide +kernel
theorem dX6_list_54 : decode cX6_list 54 = .ok (.bipush 10, 2) := by decide +kernel
theorem dX6_list_56 : decode cX6_list 56 = .ok (.ishr, 1) := by decide +kernel
theorem dX6_list_57 : decode cX6_list 57 = .ok (.bipush 7, 2) := by decide +kernel
theorem dX6_list_59 : decode cX6_list 59 = .ok (.iand, 1) := by decide +kernel
theorem dX6_list_60 : decode cX6_list 60 = .ok (.istore 7, 2) := by decide +kernel
theorem dX6_list_62 : decode cX6_list 62 = .ok (.iconst 0, 1) := by decide +kernel
theorem dX6_list_63 : decode cX6_list 63 = .ok (.istore 8, 2) := by decide +kernel
theorem dX6_list_65 : decode cX6_list 65 = .ok (.iconst 0, 1) := by decide +kernel
theorem dX6_list_66 : decode cX6_list 66 = .ok (.istore 9, 2) := by decide +kernel
theorem dX6_list_68 : decode cX6_list 68 = .ok (.iload 9, 2) := by decide +kernel
theorem dX6_list_70 : decode cX6_list 70 = .ok (.aload_n 0, 1) := by decide +kernel
theorem dX6_list_71 : decode cX6_list 71 = .ok (.getfield 55, 3) := by decide +kernel
theorem dX6_list_74 : decode cX6_list 74 = .ok (.if_icmp .ge 301, 3) := by decide +kernel
theorem dX6_list_77 : decode cX6_list 77 = .ok (.iload 4, 2) := by decide +kernel
theorem dX6_list_79 : decode cX6_list 79 = .ok (.aload_n 0, 1) := by decide +kernel
theorem dX6_list_80 : decode cX6_list 80 = .ok (.getfield 18, 3) := by decide +kernel
theorem dX6_list_83 : decode cX6_list 83 = .ok (.iload 9, 2) := by decide +kernel
theorem dX6_list_85 : decode cX6_list 85 = .ok (.bipush 8, 2) := by decide +kernel
theorem dX6_list_87 : decode cX6_list 87 = .ok (.imul, 1) := by decide +kernel
theorem dX6_list_88 : decode cX6_list 88 = .ok (.iload 9, 2) := by decide +kernel
theorem dX6_list_90 : decode cX6_list 90 = .ok (.ifCond .ne 8, 3) := by decide +kernel
theorem dX6_list_93 : decode cX6_list 93 = .ok (.iload 6, 2) := by decide +kernel
theorem dX6_list_95 : decode cX6_list 95 = .ok (.goto 5, 3) := by decide +kernel
theorem dX6_list_98 : decode cX6_list 98 = .ok (.iload 7, 2) := by decide +kernel
theorem dX6_list_100 : decode cX6_list 100 = .ok (.iadd, 1) := by decide +kernel
theorem dX6_list_101 : decode cX6_list 101 = .ok (.iaload, 1) := by decide +kernel
theorem dX6_list_102 : decode cX6_list 102 = .ok (.iand, 1) := by decide +kernel
theorem dX6_list_103 : decode cX6_list 103 = .ok (.istore 10, 2) := by decide +kernel
theorem dX6_list_105 : decode cX6_list 105 = .ok (.aload_n 0, 1) := by decide +kernel
theorem dX6_list_106 : decode cX6_list 106 = .ok (.getfield 59, 3) := by decide +kernel
theorem dX6_list_109 : decode cX6_list 109 = .ok (.ifCond .ne 8, 3) := by decide +kernel
theorem dX6_list_112 : decode cX6_list 112 = .ok (.iload 9, 2) := by decide +kernel
theorem dX6_list_114 : decode cX6_list 114 = .ok (.ifCond .ne 7, 3) := by decide +kernel
theorem dX6_list_117 : decode cX6_list 117 = .ok (.iconst 1, 1) := by decide +kernel
theorem dX6_list_118 : decode cX6_list 118 = .ok (.goto 4, 3) := by decide +kernel
theorem dX6_list_121 : decode cX6_list 121 = .ok (.iconst 0, 1) := by decide +kernel
theorem dX6_list_122 : decode cX6_list 122 = .ok (.istore 11, 2) := by decide +kernel
theorem dX6_list_124 : decode cX6_list 124 = .ok (.aload_n 0, 1) := by decide +kernel
theorem dX6_list_125 : decode cX6_list 125 = .ok (.getfield 59, 3) := by decide +kernel
theorem dX6_list_128 : decode cX6_list 128 = .ok (.ifCond .ne 9, 3) := by decide +kernel
theorem dX6_list_131 : decode cX6_list 131 = .ok (.iload 9, 2) := by decide +kernel
theorem dX6_list_133 : decode cX6_list 133 = .ok (.iconst 1, 1) := by decide +kernel
theorem dX6_list_134 : decode cX6_list 134 = .ok (.if_icmp .ne 7, 3) := by decide +kernel
theorem dX6_list_137 : decode cX6_list 137 = .ok (.iconst 1, 1) := by decide +kernel
theorem dX6_list_138 : decode cX6_list 138 = .ok (.goto 4, 3) := by decide +kernel
theorem dX6_list_141 : decode cX6_list 141 = .ok (.iconst 0, 1) := by decide +kernel
theorem dX6_list_142 : decode cX6_list 142 = .ok (.istore 12, 2) := by decide +kernel
theorem dX6_list_144 : decode cX6_list 144 = .ok (.iload 10, 2) := by decide +kernel
theorem dX6_list_146 : decode cX6_list 146 = .ok (.ifCond .eq 25, 3) := by decide +kernel
theorem dX6_list_149 : decode cX6_list 149 = .ok (.aload_n 0, 1) := by decide +kernel
theorem dX6_list_150 : decode cX6_list 150 = .ok (.getfield 30, 3) := by decide +kernel
theorem dX6_list_153 : decode cX6_list 153 = .ok (.iload 9, 2) := by decide +kernel
theorem dX6_list_155 : decode cX6_list 155 = .ok (.iconst 2, 1) := by decide +kernel
theorem dX6_list_156 : decode cX6_list 156 = .ok (.imul, 1) := by decide +kernel
theorem dX6_list_157 : decode cX6_list 157 = .ok (.bipush 16, 2) := by decide +kernel
theorem dX6_list_159 : decode cX6_list 159 = .ok (.imul, 1) := by decide +kernel
theorem dX6_list_160 : decode cX6_list 160 = .ok (.iload 5, 2) := by decide +kernel
theorem dX6_list_162 : decode cX6_list 162 = .ok (.iadd, 1) := by decide +kernel
theorem dX6_list_163 : decode cX6_list 163 = .ok (.baload, 1) := by decide +kernel
theorem dX6_list_164 : decode cX6_list 164 = .ok (.ifCond .eq 7, 3) := by decide +kernel
theorem dX6_list_167 : decode cX6_list 167 = .ok (.iconst 1, 1) := by decide +kernel
theorem dX6_list_168 : decode cX6_list 168 = .ok (.goto 4, 3) := by decide +kernel
theorem dX6_list_171 : decode cX6_list 171 = .ok (.iconst 0, 1) := by decide +kernel
theorem dX6_list_172 : decode cX6_list 172 = .ok (.istore 13, 2) := by decide +kernel
theorem dX6_list_174 : decode cX6_list 174 = .ok (.iconst (-1), 1) := by decide +kernel
theorem dX6_list_175 : decode cX6_list 175 = .ok (.istore 14, 2) := by decide +kernel
theorem dX6_list_177 : decode cX6_list 177 = .ok (.iload 14, 2) := by decide +kernel
theorem dX6_list_179 : decode cX6_list 179 = .ok (.aload_n 0, 1) := by decide +kernel
theorem dX6_list_180 : decode cX6_list 180 = .ok (.getfield 51, 3) := by decide +kernel
theorem dX6_list_183 : decode cX6_list 183 = .ok (.if_icmp .ge 186, 3) := by decide +kernel
theorem dX6_list_186 : decode cX6_list 186 = .ok (.iload 13, 2) := by decide +kernel
theorem dX6_list_188 : decode cX6_list 188 = .ok (.ifCond .eq 181, 3) := by decide +kernel
theorem dX6_list_191 : decode cX6_list 191 = .ok (.iload 14, 2) := by decide +kernel
theorem dX6_list_193 : decode cX6_list 193 = .ok (.iconst (-1), 1) := by decide +kernel
theorem dX6_list_194 : decode cX6_list 194 = .ok (.if_icmp .ne 7, 3) := by decide +kernel
theorem dX6_list_197 : decode cX6_list 197 = .ok (.iconst 0, 1) := by decide +kernel
theorem dX6_list_198 : decode cX6_list 198 = .ok (.goto 7, 3) := by decide +kernel
theorem dX6_list_201 : decode cX6_list 201 = .ok (.iconst 1, 1) := by decide +kernel
theorem dX6_list_202 : decode cX6_list 202 = .ok (.iload 14, 2) := by decide +kernel
theorem dX6_list_204 : decode cX6_list 204 = .ok (.ishl, 1) := by decide +kernel
theorem dX6_list_205 : decode cX6_list 205 = .ok (.istore 15, 2) := by decide +kernel
theorem dX6_list_207 : decode cX6_list 207 = .ok (.iload 4, 2) := by decide +kernel
theorem dX6_list_209 : decode cX6_list 209 = .ok (.aload_n 0, 1) := by decide +kernel
theorem dX6_list_210 : decode cX6_list 210 = .ok (.getfield 46, 3) := by decide +kernel
theorem dX6_list_213 : decode cX6_list 213 = .ok (.iand, 1) := by decide +kernel
theorem dX6_list_214 : decode cX6_list 214 = .ok (.iload 15, 2) := by decide +kernel
theorem dX6_list_216 : decode cX6_list 216 = .ok (.iand, 1) := by decide +kernel
theorem dX6_list_217 : decode cX6_list 217 = .ok (.iload 15, 2) := by decide +kernel
theorem dX6_list_219 : decode cX6_list 219 = .ok (.if_icmp .eq 6, 3) := by decide +kernel
theorem dX6_list_222 : decode cX6_list 222 = .ok (.goto 141, 3) := by decide +kernel
theorem dX6_list_225 : decode cX6_list 225 = .ok (.iconst 0, 1) := by decide +kernel
theorem dX6_list_226 : decode cX6_list 226 = .ok (.istore 16, 2) := by decide +kernel
theorem dX6_list_228 : decode cX6_list 228 = .ok (.iload 16, 2) := by decide +kernel
theorem dX6_list_230 : decode cX6_list 230 = .ok (.aload_n 0, 1) := by decide +kernel
theorem dX6_list_231 : decode cX6_list 231 = .ok (.getfield 51, 3) := by decide +kernel
theorem dX6_list_234 : decode cX6_list 234 = .ok (.if_icmp .ge 129, 3) := by decide +kernel
theorem dX6_list_237 : decode cX6_list 237 = .ok (.iload 8, 2) := by decide +kernel
theorem dX6_list_239 : decode cX6_list 239 = .ok (.bipush 25, 2) := by decide +kernel
theorem dX6_list_241 : decode cX6_list 241 = .ok (.if_icmp .ge 122, 3) := by decide +kernel
theorem dX6_list_244 : decode cX6_list 244 = .ok (.iload 10, 2) := by decide +kernel
theorem dX6_list_246 : decode cX6_list 246 = .ok (.iload 16, 2) := by decide +kernel
theorem dX6_list_248 : decode cX6_list 248 = .ok (.ishr, 1) := by decide +kernel
theorem dX6_list_249 : decode cX6_list 249 = .ok (.iconst 1, 1) := by decide +kernel
theorem dX6_list_250 : decode cX6_list 250 = .ok (.iand, 1) := by decide +kernel
theorem dX6_list_251 : decode cX6_list 251 = .ok (.iconst 1, 1) := by decide +kernel
theorem dX6_list_252 : decode cX6_list 252 = .ok (.if_icmp .ne 105, 3) := by decide +kernel
theorem dX6_list_255 : decode cX6_list 255 = .ok (.aload_n 0, 1) := by decide +kernel
theorem dX6_list_256 : decode cX6_list 256 = .ok (.getfield 11, 3) := by decide +kernel
theorem dX6_list_259 : decode cX6_list 259 = .ok (.iload 8, 2) := by decide +kernel
theorem dX6_list_261 : decode cX6_list 261 = .ok (.iload 16, 2) := by decide +kernel
theorem dX6_list_263 : decode cX6_list 263 = .ok (.iload 14, 2) := by decide +kernel
theorem dX6_list_265 : decode cX6_list 265 = .ok (.iload 9, 2) := by decide +kernel
theorem dX6_list_267 : decode cX6_list 267 = .ok (.invokestatic 111, 3) := by decide +kernel
theorem dX6_list_270 : decode cX6_list 270 = .ok (.iastore, 1) := by decide +kernel
theorem dX6_list_271 : decode cX6_list 271 = .ok (.aload_n 0, 1) := by decide +kernel
theorem dX6_list_272 : decode cX6_list 272 = .ok (.getfield 15, 3) := by decide +kernel
theorem dX6_list_275 : decode cX6_list 275 = .ok (.iload 8, 2) := by decide +kernel
theorem dX6_list_277 : decode cX6_list 277 = .ok (.iload_n 3, 1) := by decide +kernel
theorem dX6_list_278 : decode cX6_list 278 = .ok (.iload 15, 2) := by decide +kernel
theorem dX6_list_280 : decode cX6_list 280 = .ok (.ixor, 1) := by decide +kernel
theorem dX6_list_281 : decode cX6_list 281 = .ok (.iconst 1, 1) := by decide +kernel
theorem dX6_list_282 : decode cX6_list 282 = .ok (.iload 16, 2) := by decide +kernel
theorem dX6_list_284 : decode cX6_list 284 = .ok (.ishl, 1) := by decide +kernel
theorem dX6_list_285 : decode cX6_list 285 = .ok (.ixor, 1) := by decide +kernel
theorem dX6_list_286 : decode cX6_list 286 = .ok (.iconst 1, 1) := by decide +kernel
theorem dX6_list_287 : decode cX6_list 287 = .ok (.iload_n 2, 1) := by decide +kernel
theorem dX6_list_288 : decode cX6_list 288 = .ok (.isub, 1) := by decide +kernel
theorem dX6_list_289 : decode cX6_list 289 = .ok (.bipush 64, 2) := by decide +kernel
theorem dX6_list_291 : decode cX6_list 291 = .ok (.imul, 1) := by decide +kernel
theorem dX6_list_292 : decode cX6_list 292 = .ok (.ior, 1) := by decide +kernel
theorem dX6_list_293 : decode cX6_list 293 = .ok (.iload 11, 2) := by decide +kernel
theorem dX6_list_295 : decode cX6_list 295 = .ok (.ifCond .eq 15, 3) := by decide +kernel
theorem dX6_list_298 : decode cX6_list 298 = .ok (.aload_n 0, 1) := by decide +kernel
theorem dX6_list_299 : decode cX6_list 299 = .ok (.getfield 21, 3) := by decide +kernel
theorem dX6_list_302 : decode cX6_list 302 = .ok (.iload 16, 2) := by decide +kernel
theorem dX6_list_304 : decode cX6_list 304 = .ok (.iconst 1, 1) := by decide +kernel
theorem dX6_list_305 : decode cX6_list 305 = .ok (.iadd, 1) := by decide +kernel
theorem dX6_list_306 : decode cX6_list 306 = .ok (.iaload, 1) := by decide +kernel
theorem dX6_list_307 : decode cX6_list 307 = .ok (.goto 5, 3) := by decide +kernel
theorem dX6_list_310 : decode cX6_list 310 = .ok (.iload 6, 2) := by decide +kernel
theorem dX6_list_312 : decode cX6_list 312 = .ok (.bipush 7, 2) := by decide +kernel
theorem dX6_list_314 : decode cX6_list 314 = .ok (.ishl, 1) := by decide +kernel
theorem dX6_list_315 : decode cX6_list 315 = .ok (.ior, 1) := by decide +kernel
theorem dX6_list_316 : decode cX6_list 316 = .ok (.iload 12, 2) := by decide +kernel
theorem dX6_list_318 : decode cX6_list 318 = .ok (.ifCond .eq 18, 3) := by decide +kernel
theorem dX6_list_321 : decode cX6_list 321 = .ok (.aload_n 0, 1) := by decide +kernel
theorem dX6_list_322 : decode cX6_list 322 = .ok (.getfield 21, 3) := by decide +kernel
theorem dX6_list_325 : decode cX6_list 325 = .ok (.bipush 8, 2) := by decide +kernel
theorem dX6_list_327 : decode cX6_list 327 = .ok (.iload 16, 2) := by decide +kernel
theorem dX6_list_329 : decode cX6_list 329 = .ok (.iadd, 1) := by decide +kernel
theorem dX6_list_330 : decode cX6_list 330 = .ok (.iconst 1, 1) := by decide +kernel
theorem dX6_list_331 : decode cX6_list 331 = .ok (.iadd, 1) := by decide +kernel
theorem dX6_list_332 : decode cX6_list 332 = .ok (.iaload, 1) := by decide +kernel
theorem dX6_list_333 : decode cX6_list 333 = .ok (.goto 5, 3) := by decide +kernel
theorem dX6_list_336 : decode cX6_list 336 = .ok (.iload 7, 2) := by decide +kernel
theorem dX6_list_338 : decode cX6_list 338 = .ok (.bipush 10, 2) := by decide +kernel
theorem dX6_list_340 : decode cX6_list 340 = .ok (.ishl, 1) := by decide +kernel
theorem dX6_list_341 : decode cX6_list 341 = .ok (.ior, 1) := by decide +kernel
theorem dX6_list_342 : decode cX6_list 342 = .ok (.aload_n 0, 1) := by decide +kernel
theorem dX6_list_343 : decode cX6_list 343 = .ok (.getfield 27, 3) := by decide +kernel
theorem dX6_list_346 : decode cX6_list 346 = .ok (.iload 5, 2) := by decide +kernel
theorem dX6_list_348 : decode cX6_list 348 = .ok (.iaload, 1) := by decide +kernel
theorem dX6_list_349 : decode cX6_list 349 = .ok (.bipush 13, 2) := by decide +kernel
theorem dX6_list_351 : decode cX6_list 351 = .ok (.ishl, 1) := by decide +kernel
theorem dX6_list_352 : decode cX6_list 352 = .ok (.ior, 1) := by decide +kernel
theorem dX6_list_353 : decode cX6_list 353 = .ok (.iastore, 1) := by decide +kernel
theorem dX6_list_354 : decode cX6_list 354 = .ok (.iinc 8 1, 3) := by decide +kernel
theorem dX6_list_357 : decode cX6_list 357 = .ok (.iinc 16 1, 3) := by decide +kernel
theorem dX6_list_360 : decode cX6_list 360 = .ok (.goto (-132), 3) := by decide +kernel
theorem dX6_list_363 : decode cX6_list 363 = .ok (.iinc 14 1, 3) := by decide +kernel
theorem dX6_list_366 : decode cX6_list 366 = .ok (.goto (-189), 3) := by decide +kernel
theorem dX6_list_369 : decode cX6_list 369 = .ok (.iinc 9 1, 3) := by decide +kernel
theorem dX6_list_372 : decode cX6_list 372 = .ok (.goto (-304), 3) := by decide +kernel
theorem dX6_list_375 : decode cX6_list 375 = .ok (.iload 8, 2) := by decide +kernel
theorem dX6_list_377 : decode cX6_list 377 = .ok (.bipush 25, 2) := by decide +kernel
theorem dX6_list_379 : decode cX6_list 379 = .ok (.if_icmp .ge 27, 3) := by decide +kernel
theorem dX6_list_382 : decode cX6_list 382 = .ok (.aload_n 0, 1) := by decide +kernel
theorem dX6_list_383 : decode cX6_list 383 = .ok (.getfield 11, 3) := by decide +kernel
theorem dX6_list_386 : decode cX6_list 386 = .ok (.iload 8, 2) := by decide +kernel
theorem dX6_list_388 : decode cX6_list 388 = .ok (.sipush 200, 3) := by decide +kernel
theorem dX6_list_391 : decode cX6_list 391 = .ok (.iastore, 1) := by decide +kernel
theorem dX6_list_392 : decode cX6_list 392 = .ok (.aload_n 0, 1) := by decide +kernel
theorem dX6_list_393 : decode cX6_list 393 = .ok (.getfield 15, 3) := by decide +kernel
theorem dX6_list_396 : decode cX6_list 396 = .ok (.iload 8, 2) := by decide +kernel
theorem dX6_list_398 : decode cX6_list 398 = .ok (.iload_n 1, 1) := by decide +kernel
theorem dX6_list_399 : decode cX6_list 399 = .ok (.bipush 64, 2) := by decide +kernel
theorem dX6_list_401 : decode cX6_list 401 = .ok (.ixor, 1) := by decide +kernel
theorem dX6_list_402 : decode cX6_list 402 = .ok (.iastore, 1) := by decide +kernel
theorem dX6_list_403 : decode cX6_list 403 = .ok (.iinc 8 1, 3) := by decide +kernel
theorem dX6_list_406 : decode cX6_list 406 = .ok (.iload 8, 2) := by decide +kernel
theorem dX6_list_408 : decode cX6_list 408 = .ok (.ireturn, 1) := by decide +kernel
theorem dX7_init_0 : decode cX7_init 0 = .ok (.aload_n 0, 1) := by decide +kernel
theorem dX7_init_1 : decode cX7_init 1 = .ok (.invokespecial 3, 3) := by decide +kernel
theorem dX7_init_4 : decode cX7_init 4 = .ok (.aload_n 0, 1) := by decide +kernel
theorem dX7_init_5 : decode cX7_init 5 = .ok (.new 9, 3) := by decide +kernel
theorem dX7_init_8 : decode cX7_init 8 = .ok (.dup, 1) := by decide +kernel
theorem dX7_init_9 : decode cX7_init 9 = .ok (.iconst 0, 1) := by decide +kernel
theorem dX7_init_10 : decode cX7_init 10 = .ok (.invokespecial 11, 3) := by decide +kernel
theorem dX7_init_13 : decode cX7_init 13 = .ok (.putfield 14, 3) := by decide +kernel
theorem dX7_init_16 : decode cX7_init 16 = .ok (.aload_n 0, 1) := by decide +kernel
theorem dX7_init_17 : decode cX7_init 17 = .ok (.new 9, 3) := by decide +kernel
theorem dX7_init_20 : decode cX7_init 20 = .ok (.dup, 1) := by decide +kernel
theorem dX7_init_21 : decode cX7_init 21 = .ok (.iconst 1, 1) := by decide +kernel
theorem dX7_init_22 : decode cX7_init 22 = .ok (.invokespecial 11, 3) := by decide +kernel
theorem dX7_init_25 : decode cX7_init 25 = .ok (.putfield 20, 3) := by decide +kernel
theorem dX7_init_28 : decode cX7_init 28 = .ok (.aload_n 0, 1) := by decide +kernel
theorem dX7_init_29 : decode cX7_init 29 = .ok (.new 9, 3) := by decide +kernel
theorem dX7_init_32 : decode cX7_init 32 = .ok (.dup, 1) := by decide +kernel
theorem dX7_init_33 : decode cX7_init 33 = .ok (.iconst 2, 1) := by decide +kernel
theorem dX7_init_34 : decode cX7_init 34 = .ok (.invokespecial 11, 3) := by decide +kernel
theorem dX7_init_37 : decode cX7_init 37 = .ok (.putfield 23, 3) := by decide +kernel
theorem dX7_init_40 : decode cX7_init 40 = .ok (.aload_n 0, 1) := by decide +kernel
theorem dX7_init_41 : decode cX7_init 41 = .ok (.new 9, 3) := by decide +kernel
theorem dX7_init_44 : decode cX7_init 44 = .ok (.dup, 1) := by decide +kernel
theorem dX7_init_45 : decode cX7_init 45 = .ok (.iconst 0, 1) := by decide +kernel
theorem dX7_init_46 : decode cX7_init 46 = .ok (.invokespecial 11, 3) := by decide +kernel
theorem dX7_init_49 : decode cX7_init 49 = .ok (.putfield 26, 3) := by decide +kernel
theorem dX7_init_52 : decode cX7_init 52 = .ok (.aload_n 0, 1) := by decide +kernel
theorem dX7_init_53 : decode cX7_init 53 = .ok (.new 29, 3) := by decide +kernel
theorem dX7_init_56 : decode cX7_init 56 = .ok (.dup, 1) := by decide +kernel
theorem dX7_init_57 : decode cX7_init 57 = .ok (.invokespecial 31, 3) := by decide +kernel
theorem dX7_init_60 : decode cX7_init 60 = .ok (.putfield 32, 3) := by decide +kernel
theorem dX7_init_63 : decode cX7_init 63 = .ok (.aload_n 0, 1) := by decide +kernel
theorem dX7_init_64 : decode cX7_init 64 = .ok (.new 36, 3) := by decide +kernel
theorem dX7_init_67 : decode cX7_init 67 = .ok (.dup, 1) := by decide +kernel
theorem dX7_init_68 : decode cX7_init 68 = .ok (.invokespecial 38, 3) := by decide +kernel
theorem dX7_init_71 : decode cX7_init 71 = .ok (.putfield 39, 3) := by decide +kernel
theorem dX7_init_74 : decode cX7_init 74 = .ok (.aload_n 0, 1) := by decide +kernel
theorem dX7_init_75 : decode cX7_init 75 = .ok (.new 36, 3) := by decide +kernel
theorem dX7_init_78 : decode cX7_init 78 = .ok (.dup, 1) := by decide +kernel
theorem dX7_init_79 : decode cX7_init 79 = .ok (.invokespecial 38, 3) := by decide +kernel
theorem dX7_init_82 : decode cX7_init 82 = .ok (.putfield 43, 3) := by decide +kernel
theorem dX7_init_85 : decode cX7_init 85 = .ok (.aload_n 0, 1) := by decide +kernel
theorem dX7_init_86 : decode cX7_init 86 = .ok (.new 46, 3) := by decide +kernel
theorem dX7_init_89 : decode cX7_init 89 = .ok (.dup, 1) := by decide +kernel
theorem dX7_init_90 : decode cX7_init 90 = .ok (.invokespecial 48, 3) := by decide +kernel
theorem dX7_init_93 : decode cX7_init 93 = .ok (.putfield 49, 3) := by decide +kernel
theorem dX7_init_96 : decode cX7_init 96 = .ok (.aload_n 0, 1) := by decide +kernel
theorem dX7_init_97 : decode cX7_init 97 = .ok (.new 53, 3) := by decide +kernel
theorem dX7_init_100 : decode cX7_init 100 = .ok (.dup, 1) := by decide +kernel
theorem dX7_init_101 : decode cX7_init 101 = .ok (.invokespecial 55, 3) := by decide +kernel
theorem dX7_init_104 : decode cX7_init 104 = .ok (.putfield 56, 3) := by decide +kernel
theorem dX7_init_107 : decode cX7_init 107 = .ok (.aload_n 0, 1) := by decide +kernel
theorem dX7_init_108 : decode cX7_init 108 = .ok (.new 60, 3) := by decide +kernel
theorem dX7_init_111 : decode cX7_init 111 = .ok (.dup, 1) := by decide +kernel
theorem dX7_init_112 : decode cX7_init 112 = .ok (.aload_n 0, 1) := by decide +kernel
theorem dX7_init_113 : decode cX7_init 113 = .ok (.getfield 49, 3) := by decide +kernel
theorem dX7_init_116 : decode cX7_init 116 = .ok (.invokespecial 62, 3) := by decide +kernel
theorem dX7_init_119 : decode cX7_init 119 = .ok (.putfield 65, 3) := by decide +kernel
theorem dX7_init_122 : decode cX7_init 122 = .ok (.aload_n 0, 1) := by decide +kernel
theorem dX7_init_123 : decode cX7_init 123 = .ok (.bipush 64, 2) := by decide +kernel
theorem dX7_init_125 : decode cX7_init 125 = .ok (.newarray .int, 2) := by decide +kernel
theorem dX7_init_127 : decode cX7_init 127 = .ok (.putfield 69, 3) := by decide +kernel
theorem dX7_init_130 : decode cX7_init 130 = .ok (.aload_n 0, 1) := by decide +kernel
theorem dX7_init_131 : decode cX7_init 131 = .ok (.iconst (-1), 1) := by decide +kernel
theorem dX7_init_132 : decode cX7_init 132 = .ok (.putfield 73, 3) := by decide +kernel
theorem dX7_init_135 : decode cX7_init 135 = .ok (.aload_n 0, 1) := by decide +kernel
theorem dX7_init_136 : decode cX7_init 136 = .ok (.iconst (-1), 1) := by decide +kernel
theorem dX7_init_137 : decode cX7_init 137 = .ok (.putfield 77, 3) := by decide +kernel
theorem dX7_init_140 : decode cX7_init 140 = .ok (.aload_n 0, 1) := by decide +kernel
theorem dX7_init_141 : decode cX7_init 141 = .ok (.iconst (-1), 1) := by decide +kernel
theorem dX7_init_142 : decode cX7_init 142 = .ok (.putfield 80, 3) := by decide +kernel
theorem dX7_init_145 : decode cX7_init 145 = .ok (.aload_n 0, 1) := by decide +kernel
theorem dX7_init_146 : decode cX7_init 146 = .ok (.aload_n 1, 1) := by decide +kernel
theorem dX7_init_147 : decode cX7_init 147 = .ok (.putfield 83, 3) := by decide +kernel
theorem dX7_init_150 : decode cX7_init 150 = .ok (.aload_n 0, 1) := by decide +kernel
theorem dX7_init_151 : decode cX7_init 151 = .ok (.aload_n 2, 1) := by decide +kernel
theorem dX7_init_152 : decode cX7_init 152 = .ok (.putfield 86, 3) := by decide +kernel
theorem dX7_init_155 : decode cX7_init 155 = .ok (.return_, 1) := by decide +kernel
theorem dX7_beginFamily_0 : decode cX7_beginFamily 0 = .ok (.aload_n 0, 1) := by decide +kernel
theorem dX7_beginFamily_1 : decode cX7_beginFamily 1 = .ok (.getfield 39, 3) := by decide +kernel
theorem dX7_beginFamily_4 : decode cX7_beginFamily 4 = .ok (.aload_n 0, 1) := by decide +kernel
theorem dX7_beginFamily_5 : decode cX7_beginFamily 5 = .ok (.getfield 83, 3) := by decide +kernel
theorem dX7_beginFamily_8 : decode cX7_beginFamily 8 = .ok (.iconst 1, 1) := by decide +kernel
theorem dX7_beginFamily_9 : decode cX7_beginFamily 9 = .ok (.invokevirtual 90, 3) := by decide +kernel
theorem dX7_beginFamily_12 : decode cX7_beginFamily 12 = .ok (.aload_n 0, 1) := by decide +kernel
theorem dX7_beginFamily_13 : decode cX7_beginFamily 13 = .ok (.iconst 0, 1) := by decide +kernel
theorem dX7_beginFamily_14 : decode cX7_beginFamily 14 = .ok (.putfield 94, 3) := by decide +kernel
theorem dX7_beginFamily_17 : decode cX7_beginFamily 17 = .ok (.aload_n 0, 1) := by decide +kernel
theorem dX7_beginFamily_18 : decode cX7_beginFamily 18 = .ok (.iconst (-1), 1) := by decide +kernel
theorem dX7_beginFamily_19 : decode cX7_beginFamily 19 = .ok (.putfield 73, 3) := by decide +kernel
theorem dX7_beginFamily_22 : decode cX7_beginFamily 22 = .ok (.aload_n 0, 1) := by decide +kernel
theorem dX7_beginFamily_23 : decode cX7_beginFamily 23 = .ok (.iconst (-1), 1) := by decide +kernel
theorem dX7_beginFamily_24 : decode cX7_beginFamily 24 = .ok (.putfield 77, 3) := by decide +kernel
theorem dX7_beginFamily_27 : decode cX7_beginFamily 27 = .ok (.aload_n 0, 1) := by decide +kernel
theorem dX7_beginFamily_28 : decode cX7_beginFamily 28 = .ok (.invokevirtual 98, 3) := by decide +kernel
theorem dX7_beginFamily_31 : decode cX7_beginFamily 31 = .ok (.return_, 1) := by decide +kernel
theorem dX7_forgetGoal_0 : decode cX7_forgetGoal 0 = .ok (.aload_n 0, 1) := by decide +kernel
theorem dX7_forgetGoal_1 : decode cX7_forgetGoal 1 = .ok (.getfield 14, 3) := by decide +kernel
theorem dX7_forgetGoal_4 : decode cX7_forgetGoal 4 = .ok (.iconst 0, 1) := by decide +kernel
theorem dX7_forgetGoal_5 : decode cX7_forgetGoal 5 = .ok (.putfield 101, 3) := by decide +kernel
theorem dX7_forgetGoal_8 : decode cX7_forgetGoal 8 = .ok (.aload_n 0, 1) := by decide +kernel
theorem dX7_forgetGoal_9 : decode cX7_forgetGoal 9 = .ok (.getfield 23, 3) := by decide +kernel
theorem dX7_forgetGoal_12 : decode cX7_forgetGoal 12 = .ok (.iconst 0, 1) := by decide +kernel
theorem dX7_forgetGoal_13 : decode cX7_forgetGoal 13 = .ok (.putfield 101, 3) := by decide +kernel
theorem dX7_forgetGoal_16 : decode cX7_forgetGoal 16 = .ok (.aload_n 0, 1) := by decide +kernel
theorem dX7_forgetGoal_17 : decode cX7_forgetGoal 17 = .ok (.iconst (-1), 1) := by decide +kernel
theorem dX7_forgetGoal_18 : decode cX7_forgetGoal 18 = .ok (.putfield 80, 3) := by decide +kernel
theorem dX7_forgetGoal_21 : decode cX7_forgetGoal 21 = .ok (.aload_n 0, 1) := by decide +kernel
theorem dX7_forgetGoal_22 : decode cX7_forgetGoal 22 = .ok (.invokevirtual 104, 3) := by decide +kernel
theorem dX7_forgetGoal_25 : decode cX7_forgetGoal 25 = .ok (.return_, 1) := by decide +kernel
theorem dX7_forgetRisks_0 : decode cX7_forgetRisks 0 = .ok (.aload_n 0, 1) := by decide +kernel
theorem dX7_forgetRisks_1 : decode cX7_forgetRisks 1 = .ok (.getfield 20, 3) := by decide +kernel
theorem dX7_forgetRisks_4 : decode cX7_forgetRisks 4 = .ok (.iconst 0, 1) := by decide +kernel
theorem dX7_forgetRisks_5 : decode cX7_forgetRisks 5 = .ok (.putfield 101, 3) := by decide +kernel
theorem dX7_forgetRisks_8 : decode cX7_forgetRisks 8 = .ok (.return_, 1) := by decide +kernel
theorem dX7_countOptions_0 : decode cX7_countOptions 0 = .ok (.aload_n 0, 1) := by decide +kernel
theorem dX7_countOptions_1 : decode cX7_countOptions 1 = .ok (.getfield 39, 3) := by decide +kernel
theorem dX7_countOptions_4 : decode cX7_countOptions 4 = .ok (.aload_n 0, 1) := by decide +kernel
theorem dX7_countOptions_5 : decode cX7_countOptions 5 = .ok (.getfield 39, 3) := by decide +kernel
theorem dX7_countOptions_8 : decode cX7_countOptions 8 = .ok (.aload_n 0, 1) := by decide +kernel
theorem dX7_countOptions_9 : decode cX7_countOptions 9 = .ok (.getfield 86, 3) := by decide +kernel
theorem dX7_countOptions_12 : decode cX7_countOptions 12 = .ok (.invokevirtual 107, 3) := by decide +kernel
theorem dX7_countOptions_15 : decode cX7_countOptions 15 = .ok (.invokevirtual 111, 3) := by decide +kernel
theorem dX7_countOptions_18 : decode cX7_countOptions 18 = .ok (.ireturn, 1) := by decide +kernel
theorem dX7_option_0 : decode cX7_option 0 = .ok (.aload_n 0, 1) := by decide +kernel
theorem dX7_option_1 : decode cX7_option 1 = .ok (.invokevirtual 115, 3) := by decide +kernel
theorem dX7_option_4 : decode cX7_option 4 = .ok (.istore_n 2, 1) := by decide +kernel
theorem dX7_option_5 : decode cX7_option 5 = .ok (.iload_n 1, 1) := by decide +kernel
theorem dX7_option_6 : decode cX7_option 6 = .ok (.ifCond .lt 20, 3) := by decide +kernel
theorem dX7_option_9 : decode cX7_option 9 = .ok (.iload_n 1, 1) := by decide +kernel
theorem dX7_option_10 : decode cX7_option 10 = .ok (.iload_n 2, 1) := by decide +kernel
theorem dX7_option_11 : decode cX7_option 11 = .ok (.if_icmp .ge 15, 3) := by decide +kernel
theorem dX7_option_14 : decode cX7_option 14 = .ok (.aload_n 0, 1) := by decide +kernel
theorem dX7_option_15 : decode cX7_option 15 = .ok (.getfield 39, 3) := by decide +kernel
theorem dX7_option_18 : decode cX7_option 18 = .ok (.getfield 119, 3) := by decide +kernel
theorem dX7_option_21 : decode cX7_option 21 = .ok (.iload_n 1, 1) := by decide +kernel
theorem dX7_option_22 : decode cX7_option 22 = .ok (.iaload, 1) := by decide +kernel
theorem dX7_option_23 : decode cX7_option 23 = .ok (.goto 4, 3) := by decide +kernel
theorem dX7_option_26 : decode cX7_option 26 = .ok (.iconst (-1), 1) := by decide +kernel
theorem dX7_option_27 : decode cX7_option 27 = .ok (.ireturn, 1) := by decide +kernel
theorem dX7_here_0 : decode cX7_here 0 = .ok (.aload_n 0, 1) := by decide +kernel
theorem dX7_here_1 : decode cX7_here 1 = .ok (.getfield 94, 3) := by decide +kernel
theorem dX7_here_4 : decode cX7_here 4 = .ok (.ifCond .ne 19, 3) := by decide +kernel
theorem dX7_here_7 : decode cX7_here 7 = .ok (.aload_n 0, 1) := by decide +kernel
theorem dX7_here_8 : decode cX7_here 8 = .ok (.getfield 49, 3) := by decide +kernel
theorem dX7_here_11 : decode cX7_here 11 = .ok (.aload_n 0, 1) := by decide +kernel
theorem dX7_here_12 : decode cX7_here 12 = .ok (.getfield 39, 3) := by decide +kernel
theorem dX7_here_15 : decode cX7_here 15 = .ok (.invokevirtual 122, 3) := by decide +kernel
theorem dX7_here_18 : decode cX7_here 18 = .ok (.aload_n 0, 1) := by decide +kernel
theorem dX7_here_19 : decode cX7_here 19 = .ok (.iconst 1, 1) := by decide +kernel
theorem dX7_here_20 : decode cX7_here 20 = .ok (.putfield 94, 3) := by decide +kernel
theorem dX7_here_23 : decode cX7_here 23 = .ok (.aload_n 0, 1) := by decide +kernel
theorem dX7_here_24 : decode cX7_here 24 = .ok (.getfield 49, 3) := by decide +kernel
theorem dX7_here_27 : decode cX7_here 27 = .ok (.aload_n 0, 1) := by decide +kernel
theorem dX7_here_28 : decode cX7_here 28 = .ok (.getfield 39, 3) := by decide +kernel
theorem dX7_here_31 : decode cX7_here 31 = .ok (.aload_n 0, 1) := by decide +kernel
theorem dX7_here_32 : decode cX7_here 32 = .ok (.getfield 86, 3) := by decide +kernel
theorem dX7_here_35 : decode cX7_here 35 = .ok (.invokevirtual 107, 3) := by decide +kernel
theorem dX7_here_38 : decode cX7_here 38 = .ok (.invokevirtual 126, 3) := by decide +kernel
theorem dX7_here_41 : decode cX7_here 41 = .ok (.ireturn, 1) := by decide +kernel
theorem dX7_prepare_0 : decode cX7_prepare 0 = .ok (.aload_n 1, 1) := by decide +kernel
theorem dX7_prepare_1 : decode cX7_prepare 1 = .ok (.getfield 101, 3) := by decide +kernel
theorem dX7_prepare_4 : decode cX7_prepare 4 = .ok (.ifCond .ne 35, 3) := by decide +kernel
theorem dX7_prepare_7 : decode cX7_prepare 7 = .ok (.aload_n 1, 1) := by decide +kernel
theorem dX7_prepare_8 : decode cX7_prepare 8 = .ok (.aload_n 0, 1) := by decide +kernel
theorem dX7_prepare_9 : decode cX7_prepare 9 = .ok (.getfield 83, 3) := by decide +kernel
theorem dX7_prepare_12 : decode cX7_prepare 12 = .ok (.aload_n 1, 1) := by decide +kernel
theorem dX7_prepare_13 : decode cX7_prepare 13 = .ok (.getfield 129, 3) := by decide +kernel
theorem dX7_prepare_16 : decode cX7_prepare 16 = .ok (.invokevirtual 132, 3) := by decide +kernel
theorem dX7_prepare_19 : decode cX7_prepare 19 = .ok (.aload_n 0, 1) := by decide +kernel
theorem dX7_prepare_20 : decode cX7_prepare 20 = .ok (.getfield 49, 3) := by decide +kernel
theorem dX7_prepare_23 : decode cX7_prepare 23 = .ok (.aload_n 1, 1) := by decide +kernel
theorem dX7_prepare_24 : decode cX7_prepare 24 = .ok (.aload_n 0, 1) := by decide +kernel
theorem dX7_prepare_25 : decode cX7_prepare 25 = .ok (.getfield 83, 3) := by decide +kernel
theorem dX7_prepare_28 : decode cX7_prepare 28 = .ok (.invokevirtual 136, 3) := by decide +kernel
theorem dX7_prepare_31 : decode cX7_prepare 31 = .ok (.invokevirtual 139, 3) := by decide +kernel
theorem dX7_prepare_34 : decode cX7_prepare 34 = .ok (.aload_n 1, 1) := by decide +kernel
theorem dX7_prepare_35 : decode cX7_prepare 35 = .ok (.iconst 1, 1) := by decide +kernel
theorem dX7_prepare_36 : decode cX7_prepare 36 = .ok (.putfield 101, 3) := by decide +kernel
theorem dX7_prepare_39 : decode cX7_prepare 39 = .ok (.return_, 1) := by decide +kernel
theorem dX7_canCome_0 : decode cX7_canCome 0 = .ok (.aload_n 0, 1) := by decide +kernel
theorem dX7_canCome_1 : decode cX7_canCome 1 = .ok (.invokevirtual 143, 3) := by decide +kernel
theorem dX7_canCome_4 : decode cX7_canCome 4 = .ok (.istore_n 1, 1) := by decide +kernel
theorem dX7_canCome_5 : decode cX7_canCome 5 = .ok (.aload_n 0, 1) := by decide +kernel
theorem dX7_canCome_6 : decode cX7_canCome 6 = .ok (.aload_n 0, 1) := by decide +kernel
theorem dX7_canCome_7 : decode cX7_canCome 7 = .ok (.getfield 14, 3) := by decide +kernel
theorem dX7_canCome_10 : decode cX7_canCome 10 = .ok (.invokevirtual 146, 3) := by decide +kernel
theorem dX7_canCome_13 : decode cX7_canCome 13 = .ok (.iload_n 1, 1) := by decide +kernel
theorem dX7_canCome_14 : decode cX7_canCome 14 = .ok (.iconst (-1), 1) := by decide +kernel
theorem dX7_canCome_15 : decode cX7_canCome 15 = .ok (.if_icmp .eq 18, 3) := by decide +kernel
theorem dX7_canCome_18 : decode cX7_canCome 18 = .ok (.aload_n 0, 1) := by decide +kernel
theorem dX7_canCome_19 : decode cX7_canCome 19 = .ok (.getfield 14, 3) := by decide +kernel
theorem dX7_canCome_22 : decode cX7_canCome 22 = .ok (.iload_n 1, 1) := by decide +kernel
theorem dX7_canCome_23 : decode cX7_canCome 23 = .ok (.invokevirtual 150, 3) := by decide +kernel
theorem dX7_canCome_26 : decode cX7_canCome 26 = .ok (.ifCond .eq 7, 3) := by decide +kernel
theorem dX7_canCome_29 : decode cX7_canCome 29 = .ok (.iconst 1, 1) := by decide +kernel
theorem dX7_canCome_30 : decode cX7_canCome 30 = .ok (.goto 4, 3) := by decide +kernel
theorem dX7_canCome_33 : decode cX7_canCome 33 = .ok (.iconst 0, 1) := by decide +kernel
theorem dX7_canCome_34 : decode cX7_canCome 34 = .ok (.ireturn, 1) := by decide +kernel
theorem dX7_leastAbove_0 : decode cX7_leastAbove 0 = .ok (.aload_n 0, 1) := by decide +kernel
theorem dX7_leastAbove_1 : decode cX7_leastAbove 1 = .ok (.invokevirtual 143, 3) := by decide +kernel
theorem dX7_leastAbove_4 : decode cX7_leastAbove 4 = .ok (.istore_n 2, 1) := by decide +kernel
theorem dX7_leastAbove_5 : decode cX7_leastAbove 5 = .ok (.aload_n 0, 1) := by decide +kernel
theorem dX7_leastAbove_6 : decode cX7_leastAbove 6 = .ok (.aload_n 1, 1) := by decide +kernel
theorem dX7_leastAbove_7 : decode cX7_leastAbove 7 = .ok (.invokevirtual 146, 3) := by decide +kernel
theorem dX7_leastAbove_10 : decode cX7_leastAbove 10 = .ok (.iload_n 2, 1) := by decide +kernel
theorem dX7_leastAbove_11 : decode cX7_leastAbove 11 = .ok (.iconst (-1), 1) := by decide +kernel
theorem dX7_leastAbove_12 : decode cX7_leastAbove 12 = .ok (.if_icmp .ne 7, 3) := by decide +kernel
theorem dX7_leastAbove_15 : decode cX7_leastAbove 15 = .ok (.iconst (-1), 1) := by decide +kernel
theorem dX7_leastAbove_16 : decode cX7_leastAbove 16 = .ok (.goto 8, 3) := by decide +kernel
theorem dX7_leastAbove_19 : decode cX7_leastAbove 19 = .ok (.aload_n 1, 1) := by decide +kernel
theorem dX7_leastAbove_20 : decode cX7_leastAbove 20 = .ok (.iload_n 2, 1) := by decide +kernel
theorem dX7_leastAbove_21 : decode cX7_leastAbove 21 = .ok (.invokevirtual 154, 3) := by decide +kernel
theorem dX7_leastAbove_24 : decode cX7_leastAbove 24 = .ok (.ireturn, 1) := by decide +kernel
theorem dX7_least_0 : decode cX7_least 0 = .ok (.aload_n 0, 1) := by decide +kernel
theorem dX7_least_1 : decode cX7_least 1 = .ok (.invokevirtual 143, 3) := by decide +kernel
theorem dX7_least_4 : decode cX7_least 4 = .ok (.istore_n 2, 1) := by decide +kernel
theorem dX7_least_5 : decode cX7_least 5 = .ok (.aload_n 0, 1) := by decide +kernel
theorem dX7_least_6 : decode cX7_least 6 = .ok (.aload_n 1, 1) := by decide +kernel
theorem dX7_least_7 : decode cX7_least 7 = .ok (.invokevirtual 146, 3) := by decide +kernel
theorem dX7_least_10 : decode cX7_least 10 = .ok (.iload_n 2, 1) := by decide +kernel
theorem dX7_least_11 : decode cX7_least 11 = .ok (.iconst (-1), 1) := by decide +kernel
theorem dX7_least_12 : decode cX7_least 12 = .ok (.if_icmp .ne 7, 3) := by decide +kernel
theorem dX7_least_15 : decode cX7_least 15 = .ok (.iconst (-1), 1) := by decide +kernel
theorem dX7_least_16 : decode cX7_least 16 = .ok (.goto 8, 3) := by decide +kernel
theorem dX7_least_19 : decode cX7_least 19 = .ok (.aload_n 1, 1) := by decide +kernel
theorem dX7_least_20 : decode cX7_least 20 = .ok (.iload_n 2, 1) := by decide +kernel
theorem dX7_least_21 : decode cX7_least 21 = .ok (.invokevirtual 157, 3) := by decide +kernel
theorem dX7_least_24 : decode cX7_least 24 = .ok (.ireturn, 1) := by decide +kernel
theorem dX7_rowOf_0 : decode cX7_rowOf 0 = .ok (.aload_n 0, 1) := by decide +kernel
theorem dX7_rowOf_1 : decode cX7_rowOf 1 = .ok (.invokevirtual 143, 3) := by decide +kernel
theorem dX7_rowOf_4 : decode cX7_rowOf 4 = .ok (.istore_n 2, 1) := by decide +kernel
theorem dX7_rowOf_5 : decode cX7_rowOf 5 = .ok (.aload_n 0, 1) := by decide +kernel
theorem dX7_rowOf_6 : decode cX7_rowOf 6 = .ok (.aload_n 1, 1) := by decide +kernel
theorem dX7_rowOf_7 : decode cX7_rowOf 7 = .ok (.invokevirtual 146, 3) := by decide +kernel
theorem dX7_rowOf_10 : decode cX7_rowOf 10 = .ok (.aload_n 0, 1) := by decide +kernel
theorem dX7_rowOf_11 : decode cX7_rowOf 11 = .ok (.getfield 65, 3) := by decide +kernel
theorem dX7_rowOf_14 : decode cX7_rowOf 14 = .ok (.aload_n 1, 1) := by decide +kernel
theorem dX7_rowOf_15 : decode cX7_rowOf 15 = .ok (.iload_n 2, 1) := by decide +kernel
theorem dX7_rowOf_16 : decode cX7_rowOf 16 = .ok (.invokevirtual 160, 3) := by decide +kernel
theorem dX7_rowOf_19 : decode cX7_rowOf 19 = .ok (.aload_n 0, 1) := by decide +kernel
theorem dX7_rowOf_20 : decode cX7_rowOf 20 = .ok (.getfield 65, 3) := by decide +kernel
theorem dX7_rowOf_23 : decode cX7_rowOf 23 = .ok (.areturn, 1) := by decide +kernel
theorem dX7_actOfRow_0 : decode cX7_actOfRow 0 = .ok (.iload_n 2, 1) := by decide +kernel
theorem dX7_actOfRow_1 : decode cX7_actOfRow 1 = .ok (.ifCond .ge 5, 3) := by decide +kernel
theorem dX7_actOfRow_4 : decode cX7_actOfRow 4 = .ok (.iconst (-1), 1) := by decide +kernel
theorem dX7_actOfRow_5 : decode cX7_actOfRow 5 = .ok (.ireturn, 1) := by decide +kernel
theorem dX7_actOfRow_6 : decode cX7_actOfRow 6 = .ok (.aload_n 0, 1) := by decide +kernel
theorem dX7_actOfRow_7 : decode cX7_actOfRow 7 = .ok (.aload_n 1, 1) := by decide +kernel
theorem dX7_actOfRow_8 : decode cX7_actOfRow 8 = .ok (.invokevirtual 163, 3) := by decide +kernel
theorem dX7_actOfRow_11 : decode cX7_actOfRow 11 = .ok (.astore_n 3, 1) := by decide +kernel
theorem dX7_actOfRow_12 : decode cX7_actOfRow 12 = .ok (.aload_n 3, 1) := by decide +kernel
theorem dX7_actOfRow_13 : decode cX7_actOfRow 13 = .ok (.iload_n 2, 1) := by decide +kernel
theorem dX7_actOfRow_14 : decode cX7_actOfRow 14 = .ok (.invokevirtual 167, 3) := by decide +kernel
theorem dX7_actOfRow_17 : decode cX7_actOfRow 17 = .ok (.iload_n 2, 1) := by decide +kernel
theorem dX7_actOfRow_18 : decode cX7_actOfRow 18 = .ok (.if_icmp .ne 10, 3) := by decide +kernel
theorem dX7_actOfRow_21 : decode cX7_actOfRow 21 = .ok (.aload_n 3, 1) := by decide +kernel
theorem dX7_actOfRow_22 : decode cX7_actOfRow 22 = .ok (.invokevirtual 170, 3) := by decide +kernel
theorem dX7_actOfRow_25 : decode cX7_actOfRow 25 = .ok (.goto 4, 3) := by decide +kernel
theorem dX7_actOfRow_28 : decode cX7_actOfRow 28 = .ok (.iconst (-1), 1) := by decide +kernel
theorem dX7_actOfRow_29 : decode cX7_actOfRow 29 = .ok (.ireturn, 1) := by decide +kernel
theorem dX7_countStates_0 : decode cX7_countStates 0 = .ok (.aload_n 0, 1) := by decide +kernel
theorem dX7_countStates_1 : decode cX7_countStates 1 = .ok (.getfield 77, 3) := by decide +kernel
theorem dX7_countStates_4 : decode cX7_countStates 4 = .ok (.iconst (-1), 1) := by decide +kernel
theorem dX7_countStates_5 : decode cX7_countStates 5 = .ok (.if_icmp .ne 18, 3) := by decide +kernel
theorem dX7_countStates_8 : decode cX7_countStates 8 = .ok (.aload_n 0, 1) := by decide +kernel
theorem dX7_countStates_9 : decode cX7_countStates 9 = .ok (.invokevirtual 173, 3) := by decide +kernel
theorem dX7_countStates_12 : decode cX7_countStates 12 = .ok (.aload_n 0, 1) := by decide +kernel
theorem dX7_countStates_13 : decode cX7_countStates 13 = .ok (.aload_n 0, 1) := by decide +kernel
theorem dX7_countStates_14 : decode cX7_countStates 14 = .ok (.getfield 56, 3) := by decide +kernel
theorem dX7_countStates_17 : decode cX7_countStates 17 = .ok (.getfield 176, 3) := by decide +kernel
theorem dX7_countStates_20 : decode cX7_countStates 20 = .ok (.putfield 77, 3) := by decide +kernel
theorem dX7_countStates_23 : decode cX7_countStates 23 = .ok (.aload_n 0, 1) := by decide +kernel
theorem dX7_countStates_24 : decode cX7_countStates 24 = .ok (.getfield 77, 3) := by decide +kernel
theorem dX7_countStates_27 : decode cX7_countStates 27 = .ok (.ireturn, 1) := by decide +kernel
theorem dX7_countHopeful_0 : decode cX7_countHopeful 0 = .ok (.aload_n 0, 1) := by decide +kernel
theorem dX7_countHopeful_1 : decode cX7_countHopeful 1 = .ok (.getfield 80, 3) := by decide +kernel
theorem dX7_countHopeful_4 : decode cX7_countHopeful 4 = .ok (.iconst (-1), 1) := by decide +kernel
theorem dX7_countHopeful_5 : decode cX7_countHopeful 5 = .ok (.if_icmp .ne 105, 3) := by decide +kernel
theorem dX7_countHopeful_8 : decode cX7_countHopeful 8 = .ok (.aload_n 0, 1) := by decide +kernel
theorem dX7_countHopeful_9 : decode cX7_countHopeful 9 = .ok (.invokevirtual 143, 3) := by decide +kernel
theorem dX7_countHopeful_12 : decode cX7_countHopeful 12 = .ok (.pop, 1) := by decide +kernel
theorem dX7_countHopeful_13 : decode cX7_countHopeful 13 = .ok (.aload_n 0, 1) := by decide +kernel
theorem dX7_countHopeful_14 : decode cX7_countHopeful 14 = .ok (.aload_n 0, 1) := by decide +kernel
theorem dX7_countHopeful_15 : decode cX7_countHopeful 15 = .ok (.getfield 14, 3) := by decide +kernel
theorem dX7_countHopeful_18 : decode cX7_countHopeful 18 = .ok (.invokevirtual 146, 3) := by decide +kernel
theorem dX7_countHopeful_21 : decode cX7_countHopeful 21 = .ok (.aload_n 0, 1) := by decide +kernel
theorem dX7_countHopeful_22 : decode cX7_countHopeful 22 = .ok (.invokevirtual 173, 3) := by decide +kernel
theorem dX7_countHopeful_25 : decode cX7_countHopeful 25 = .ok (.aload_n 0, 1) := by decide +kernel
theorem dX7_countHopeful_26 : decode cX7_countHopeful 26 = .ok (.aload_n 0, 1) := by decide +kernel
theorem dX7_countHopeful_27 : decode cX7_countHopeful 27 = .ok (.getfield 56, 3) := by decide +kernel
theorem dX7_countHopeful_30 : decode cX7_countHopeful 30 = .ok (.getfield 176, 3) := by decide +kernel
theorem dX7_countHopeful_33 : decode cX7_countHopeful 33 = .ok (.putfield 77, 3) := by decide +kernel
theorem dX7_countHopeful_36 : decode cX7_countHopeful 36 = .ok (.aload_n 0, 1) := by decide +kernel
theorem dX7_countHopeful_37 : decode cX7_countHopeful 37 = .ok (.iconst 0, 1) := by decide +kernel
theorem dX7_countHopeful_38 : decode cX7_countHopeful 38 = .ok (.putfield 80, 3) := by decide +kernel
theorem dX7_countHopeful_41 : decode cX7_countHopeful 41 = .ok (.iconst 0, 1) := by decide +kernel
theorem dX7_countHopeful_42 : decode cX7_countHopeful 42 = .ok (.istore_n 1, 1) := by decide +kernel
theorem dX7_countHopeful_43 : decode cX7_countHopeful 43 = .ok (.iload_n 1, 1) := by decide +kernel
theorem dX7_countHopeful_44 : decode cX7_countHopeful 44 = .ok (.aload_n 0, 1) := by decide +kernel
theorem dX7_countHopeful_45 : decode cX7_countHopeful 45 = .ok (.getfield 56, 3) := by decide +kernel
theorem dX7_countHopeful_48 : decode cX7_countHopeful 48 = .ok (.getfield 176, 3) := by decide +kernel
theorem dX7_countHopeful_51 : decode cX7_countHopeful 51 = .ok (.if_icmp .ge 59, 3) := by decide +kernel
theorem dX7_countHopeful_54 : decode cX7_countHopeful 54 = .ok (.aload_n 0, 1) := by decide +kernel
theorem dX7_countHopeful_55 : decode cX7_countHopeful 55 = .ok (.getfield 49, 3) := by decide +kernel
theorem dX7_countHopeful_58 : decode cX7_countHopeful 58 = .ok (.aload_n 0, 1) := by decide +kernel
theorem dX7_countHopeful_59 : decode cX7_countHopeful 59 = .ok (.getfield 39, 3) := by decide +kernel
theorem dX7_countHopeful_62 : decode cX7_countHopeful 62 = .ok (.aload_n 0, 1) := by decide +kernel
theorem dX7_countHopeful_63 : decode cX7_countHopeful 63 = .ok (.getfield 56, 3) := by decide +kernel
theorem dX7_countHopeful_66 : decode cX7_countHopeful 66 = .ok (.getfield 179, 3) := by decide +kernel
theorem dX7_countHopeful_69 : decode cX7_countHopeful 69 = .ok (.iload_n 1, 1) := by decide +kernel
theorem dX7_countHopeful_70 : decode cX7_countHopeful 70 = .ok (.iaload, 1) := by decide +kernel
theorem dX7_countHopeful_71 : decode cX7_countHopeful 71 = .ok (.invokevirtual 182, 3) := by decide +kernel
theorem dX7_countHopeful_74 : decode cX7_countHopeful 74 = .ok (.invokevirtual 126, 3) := by decide +kernel
theorem dX7_countHopeful_77 : decode cX7_countHopeful 77 = .ok (.istore_n 2, 1) := by decide +kernel
theorem dX7_countHopeful_78 : decode cX7_countHopeful 78 = .ok (.iload_n 2, 1) := by decide +kernel
theorem dX7_countHopeful_79 : decode cX7_countHopeful 79 = .ok (.iconst (-1), 1) := by decide +kernel
theorem dX7_countHopeful_80 : decode cX7_countHopeful 80 = .ok (.if_icmp .eq 24, 3) := by decide +kernel
theorem dX7_countHopeful_83 : decode cX7_countHopeful 83 = .ok (.aload_n 0, 1) := by decide +kernel
theorem dX7_countHopeful_84 : decode cX7_countHopeful 84 = .ok (.getfield 14, 3) := by decide +kernel
theorem dX7_countHopeful_87 : decode cX7_countHopeful 87 = .ok (.iload_n 2, 1) := by decide +kernel
theorem dX7_countHopeful_88 : decode cX7_countHopeful 88 = .ok (.invokevirtual 150, 3) := by decide +kernel
theorem dX7_countHopeful_91 : decode cX7_countHopeful 91 = .ok (.ifCond .eq 13, 3) := by decide +kernel
theorem dX7_countHopeful_94 : decode cX7_countHopeful 94 = .ok (.aload_n 0, 1) := by decide +kernel
theorem dX7_countHopeful_95 : decode cX7_countHopeful 95 = .ok (.dup, 1) := by decide +kernel
theorem dX7_countHopeful_96 : decode cX7_countHopeful 96 = .ok (.getfield 80, 3) := by decide +kernel
theorem dX7_countHopeful_99 : decode cX7_countHopeful 99 = .ok (.iconst 1, 1) := by decide +kernel
theorem dX7_countHopeful_100 : decode cX7_countHopeful 100 = .ok (.iadd, 1) := by decide +kernel
theorem dX7_countHopeful_101 : decode cX7_countHopeful 101 = .ok (.putfield 80, 3) := by decide +kernel
theorem dX7_countHopeful_104 : decode cX7_countHopeful 104 = .ok (.iinc 1 1, 3) := by decide +kernel
theorem dX7_countHopeful_107 : decode cX7_countHopeful 107 = .ok (.goto (-64), 3) := by decide +kernel
theorem dX7_countHopeful_110 : decode cX7_countHopeful 110 = .ok (.aload_n 0, 1) := by decide +kernel
theorem dX7_countHopeful_111 : decode cX7_countHopeful 111 = .ok (.getfield 80, 3) := by decide +kernel
theorem dX7_countHopeful_114 : decode cX7_countHopeful 114 = .ok (.ireturn, 1) := by decide +kernel
theorem dX7_fillWhole_0 : decode cX7_fillWhole 0 = .ok (.aload_n 0, 1) := by decide +kernel
theorem dX7_fillWhole_1 : decode cX7_fillWhole 1 = .ok (.getfield 43, 3) := by decide +kernel
theorem dX7_fillWhole_4 : decode cX7_fillWhole 4 = .ok (.aload_n 0, 1) := by decide +kernel
theorem dX7_fillWhole_5 : decode cX7_fillWhole 5 = .ok (.getfield 83, 3) := by decide +kernel
theorem dX7_fillWhole_8 : decode cX7_fillWhole 8 = .ok (.iconst 0, 1) := by decide +kernel
theorem dX7_fillWhole_9 : decode cX7_fillWhole 9 = .ok (.invokevirtual 90, 3) := by decide +kernel
theorem dX7_fillWhole_12 : decode cX7_fillWhole 12 = .ok (.aload_n 0, 1) := by decide +kernel
theorem dX7_fillWhole_13 : decode cX7_fillWhole 13 = .ok (.getfield 56, 3) := by decide +kernel
theorem dX7_fillWhole_16 : decode cX7_fillWhole 16 = .ok (.aload_n 0, 1) := by decide +kernel
theorem dX7_fillWhole_17 : decode cX7_fillWhole 17 = .ok (.getfield 43, 3) := by decide +kernel
theorem dX7_fillWhole_20 : decode cX7_fillWhole 20 = .ok (.invokestatic 185, 3) := by decide +kernel
theorem dX7_fillWhole_23 : decode cX7_fillWhole 23 = .ok (.invokevirtual 188, 3) := by decide +kernel
theorem dX7_fillWhole_26 : decode cX7_fillWhole 26 = .ok (.return_, 1) := by decide +kernel
theorem dX7_soonestJust_0 : decode cX7_soonestJust 0 = .ok (.aload_n 0, 1) := by decide +kernel
theorem dX7_soonestJust_1 : decode cX7_soonestJust 1 = .ok (.invokevirtual 192, 3) := by decide +kernel
theorem dX7_soonestJust_4 : decode cX7_soonestJust 4 = .ok (.iload_n 1, 1) := by decide +kernel
theorem dX7_soonestJust_5 : decode cX7_soonestJust 5 = .ok (.ifCond .lt 21, 3) := by decide +kernel
theorem dX7_soonestJust_8 : decode cX7_soonestJust 8 = .ok (.iload_n 1, 1) := by decide +kernel
theorem dX7_soonestJust_9 : decode cX7_soonestJust 9 = .ok (.aload_n 0, 1) := by decide +kernel
theorem dX7_soonestJust_10 : decode cX7_soonestJust 10 = .ok (.getfield 69, 3) := by decide +kernel
theorem dX7_soonestJust_13 : decode cX7_soonestJust 13 = .ok (.arraylength, 1) := by decide +kernel
theorem dX7_soonestJust_14 : decode cX7_soonestJust 14 = .ok (.if_icmp .ge 12, 3) := by decide +kernel
theorem dX7_soonestJust_17 : decode cX7_soonestJust 17 = .ok (.aload_n 0, 1) := by decide +kernel
theorem dX7_soonestJust_18 : decode cX7_soonestJust 18 = .ok (.getfield 69, 3) := by decide +kernel
theorem dX7_soonestJust_21 : decode cX7_soonestJust 21 = .ok (.iload_n 1, 1) := by decide +kernel
theorem dX7_soonestJust_22 : decode cX7_soonestJust 22 = .ok (.iaload, 1) := by decide +kernel
theorem dX7_soonestJust_23 : decode cX7_soonestJust 23 = .ok (.goto 4, 3) := by decide +kernel
theorem dX7_soonestJust_26 : decode cX7_soonestJust 26 = .ok (.iconst (-1), 1) := by decide +kernel
theorem dX7_soonestJust_27 : decode cX7_soonestJust 27 = .ok (.ireturn, 1) := by decide +kernel
theorem dX7_soonestOver_0 : decode cX7_soonestOver 0 = .ok (.aload_n 0, 1) := by decide +kernel
theorem dX7_soonestOver_1 : decode cX7_soonestOver 1 = .ok (.invokevirtual 192, 3) := by decide +kernel
theorem dX7_soonestOver_4 : decode cX7_soonestOver 4 = .ok (.iconst (-1), 1) := by decide +kernel
theorem dX7_soonestOver_5 : decode cX7_soonestOver 5 = .ok (.istore_n 2, 1) := by decide +kernel
theorem dX7_soonestOver_6 : decode cX7_soonestOver 6 = .ok (.iconst 0, 1) := by decide +kernel
theorem dX7_soonestOver_7 : decode cX7_soonestOver 7 = .ok (.istore_n 3, 1) := by decide +kernel
theorem dX7_soonestOver_8 : decode cX7_soonestOver 8 = .ok (.iload_n 3, 1) := by decide +kernel
theorem dX7_soonestOver_9 : decode cX7_soonestOver 9 = .ok (.aload_n 0, 1) := by decide +kernel
theorem dX7_soonestOver_10 : decode cX7_soonestOver 10 = .ok (.getfield 69, 3) := by decide +kernel
theorem dX7_soonestOver_13 : decode cX7_soonestOver 13 = .ok (.arraylength, 1) := by decide +kernel
theorem dX7_soonestOver_14 : decode cX7_soonestOver 14 = .ok (.if_icmp .ge 50, 3) := by decide +kernel
theorem dX7_soonestOver_17 : decode cX7_soonestOver 17 = .ok (.iload_n 3, 1) := by decide +kernel
theorem dX7_soonestOver_18 : decode cX7_soonestOver 18 = .ok (.iload_n 1, 1) := by decide +kernel
theorem dX7_soonestOver_19 : decode cX7_soonestOver 19 = .ok (.ishr, 1) := by decide +kernel
theorem dX7_soonestOver_20 : decode cX7_soonestOver 20 = .ok (.iconst 1, 1) := by decide +kernel
theorem dX7_soonestOver_21 : decode cX7_soonestOver 21 = .ok (.iand, 1) := by decide +kernel
theorem dX7_soonestOver_22 : decode cX7_soonestOver 22 = .ok (.iconst 1, 1) := by decide +kernel
theorem dX7_soonestOver_23 : decode cX7_soonestOver 23 = .ok (.if_icmp .ne 35, 3) := by decide +kernel
theorem dX7_soonestOver_26 : decode cX7_soonestOver 26 = .ok (.aload_n 0, 1) := by decide +kernel
theorem dX7_soonestOver_27 : decode cX7_soonestOver 27 = .ok (.getfield 69, 3) := by decide +kernel
theorem dX7_soonestOver_30 : decode cX7_soonestOver 30 = .ok (.iload_n 3, 1) := by decide +kernel
theorem dX7_soonestOver_31 : decode cX7_soonestOver 31 = .ok (.iaload, 1) := by decide +kernel
theorem dX7_soonestOver_32 : decode cX7_soonestOver 32 = .ok (.iconst (-1), 1) := by decide +kernel
theorem dX7_soonestOver_33 : decode cX7_soonestOver 33 = .ok (.if_icmp .eq 25, 3) := by decide +kernel
theorem dX7_soonestOver_36 : decode cX7_soonestOver 36 = .ok (.iload_n 2, 1) := by decide +kernel
theorem dX7_soonestOver_37 : decode cX7_soonestOver 37 = .ok (.iconst (-1), 1) := by decide +kernel
theorem dX7_soonestOver_38 : decode cX7_soonestOver 38 = .ok (.if_icmp .eq 13, 3) := by decide +kernel
theorem dX7_soonestOver_41 : decode cX7_soonestOver 41 = .ok (.aload_n 0, 1) := by decide +kernel
theorem dX7_soonestOver_42 : decode cX7_soonestOver 42 = .ok (.getfield 69, 3) := by decide +kernel
theorem dX7_soonestOver_45 : decode cX7_soonestOver 45 = .ok (.iload_n 3, 1) := by decide +kernel
theorem dX7_soonestOver_46 : decode cX7_soonestOver 46 = .ok (.iaload, 1) := by decide +kernel
theorem dX7_soonestOver_47 : decode cX7_soonestOver 47 = .ok (.iload_n 2, 1) := by decide +kernel
theorem dX7_soonestOver_48 : decode cX7_soonestOver 48 = .ok (.if_icmp .ge 10, 3) := by decide +kernel
theorem dX7_soonestOver_51 : decode cX7_soonestOver 51 = .ok (.aload_n 0, 1) := by decide +kernel
theorem dX7_soonestOver_52 : decode cX7_soonestOver 52 = .ok (.getfield 69, 3) := by decide +kernel
theorem dX7_soonestOver_55 : decode cX7_soonestOver 55 = .ok (.iload_n 3, 1) := by decide +kernel
theorem dX7_soonestOver_56 : decode cX7_soonestOver 56 = .ok (.iaload, 1) := by decide +kernel
theorem dX7_soonestOver_57 : decode cX7_soonestOver 57 = .ok (.istore_n 2, 1) := by decide +kernel
theorem dX7_soonestOver_58 : decode cX7_soonestOver 58 = .ok (.iinc 3 1, 3) := by decide +kernel
theorem dX7_soonestOver_61 : decode cX7_soonestOver 61 = .ok (.goto (-53), 3) := by decide +kernel
theorem dX7_soonestOver_64 : decode cX7_soonestOver 64 = .ok (.iload_n 2, 1) := by decide +kernel
theorem dX7_soonestOver_65 : decode cX7_soonestOver 65 = .ok (.ireturn, 1) := by decide +kernel
theorem dX7_findSoonest_0 : decode cX7_findSoonest 0 = .ok (.aload_n 0, 1) := by decide +kernel
theorem dX7_findSoonest_1 : decode cX7_findSoonest 1 = .ok (.invokevirtual 143, 3) := by decide +kernel
theorem dX7_findSoonest_4 : decode cX7_findSoonest 4 = .ok (.istore_n 1, 1) := by decide +kernel
theorem dX7_findSoonest_5 : decode cX7_findSoonest 5 = .ok (.iload_n 1, 1) := by decide +kernel
theorem dX7_findSoonest_6 : decode cX7_findSoonest 6 = .ok (.iconst (-1), 1) := by decide +kernel
theorem dX7_findSoonest_7 : decode cX7_findSoonest 7 = .ok (.if_icmp .eq 11, 3) := by decide +kernel
theorem dX7_findSoonest_10 : decode cX7_findSoonest 10 = .ok (.iload_n 1, 1) := by decide +kernel
theorem dX7_findSoonest_11 : decode cX7_findSoonest 11 = .ok (.aload_n 0, 1) := by decide +kernel
theorem dX7_findSoonest_12 : decode cX7_findSoonest 12 = .ok (.getfield 73, 3) := by decide +kernel
theorem dX7_findSoonest_15 : decode cX7_findSoonest 15 = .ok (.if_icmp .ne 4, 3) := by decide +kernel
theorem dX7_findSoonest_18 : decode cX7_findSoonest 18 = .ok (.return_, 1) := by decide +kernel
theorem dX7_findSoonest_19 : decode cX7_findSoonest 19 = .ok (.aload_n 0, 1) := by decide +kernel
theorem dX7_findSoonest_20 : decode cX7_findSoonest 20 = .ok (.getfield 26, 3) := by decide +kernel
theorem dX7_findSoonest_23 : decode cX7_findSoonest 23 = .ok (.aload_n 0, 1) := by decide +kernel
theorem dX7_findSoonest_24 : decode cX7_findSoonest 24 = .ok (.getfield 83, 3) := by decide +kernel
theorem dX7_findSoonest_27 : decode cX7_findSoonest 27 = .ok (.iconst 0, 1) := by decide +kernel
theorem dX7_findSoonest_28 : decode cX7_findSoonest 28 = .ok (.invokevirtual 132, 3) := by decide +kernel
theorem dX7_findSoonest_31 : decode cX7_findSoonest 31 = .ok (.aload_n 0, 1) := by decide +kernel
theorem dX7_findSoonest_32 : decode cX7_findSoonest 32 = .ok (.getfield 49, 3) := by decide +kernel
theorem dX7_findSoonest_35 : decode cX7_findSoonest 35 = .ok (.aload_n 0, 1) := by decide +kernel
theorem dX7_findSoonest_36 : decode cX7_findSoonest 36 = .ok (.getfield 26, 3) := by decide +kernel
theorem dX7_findSoonest_39 : decode cX7_findSoonest 39 = .ok (.iload_n 1, 1) := by decide +kernel
theorem dX7_findSoonest_40 : decode cX7_findSoonest 40 = .ok (.invokevirtual 195, 3) := by decide +kernel
theorem dX7_findSoonest_43 : decode cX7_findSoonest 43 = .ok (.aload_n 0, 1) := by decide +kernel
theorem dX7_findSoonest_44 : decode cX7_findSoonest 44 = .ok (.getfield 69, 3) := by decide +kernel
theorem dX7_findSoonest_47 : decode cX7_findSoonest 47 = .ok (.iconst (-1), 1) := by decide +kernel
theorem dX7_findSoonest_48 : decode cX7_findSoonest 48 = .ok (.invokestatic 198, 3) := by decide +kernel
theorem dX7_findSoonest_51 : decode cX7_findSoonest 51 = .ok (.iconst 0, 1) := by decide +kernel
theorem dX7_findSoonest_52 : decode cX7_findSoonest 52 = .ok (.istore_n 2, 1) := by decide +kernel
theorem dX7_findSoonest_53 : decode cX7_findSoonest 53 = .ok (.iload_n 2, 1) := by decide +kernel
theorem dX7_findSoonest_54 : decode cX7_findSoonest 54 = .ok (.aload_n 0, 1) := by decide +kernel
theorem dX7_findSoonest_55 : decode cX7_findSoonest 55 = .ok (.getfield 49, 3) := by decide +kernel
theorem dX7_findSoonest_58 : decode cX7_findSoonest 58 = .ok (.getfield 203, 3) := by decide +kernel
theorem dX7_findSoonest_61 : decode cX7_findSoonest 61 = .ok (.if_icmp .ge 70, 3) := by decide +kernel
theorem dX7_findSoonest_64 : decode cX7_findSoonest 64 = .ok (.aload_n 0, 1) := by decide +kernel
theorem dX7_findSoonest_65 : decode cX7_findSoonest 65 = .ok (.getfield 49, 3) := by decide +kernel
theorem dX7_findSoonest_68 : decode cX7_findSoonest 68 = .ok (.iload_n 2, 1) := by decide +kernel
theorem dX7_findSoonest_69 : decode cX7_findSoonest 69 = .ok (.invokevirtual 204, 3) := by decide +kernel
theorem dX7_findSoonest_72 : decode cX7_findSoonest 72 = .ok (.istore_n 3, 1) := by decide +kernel
theorem dX7_findSoonest_73 : decode cX7_findSoonest 73 = .ok (.aload_n 0, 1) := by decide +kernel
theorem dX7_findSoonest_74 : decode cX7_findSoonest 74 = .ok (.getfield 26, 3) := by decide +kernel
theorem dX7_findSoonest_77 : decode cX7_findSoonest 77 = .ok (.iload_n 2, 1) := by decide +kernel
theorem dX7_findSoonest_78 : decode cX7_findSoonest 78 = .ok (.invokevirtual 150, 3) := by decide +kernel
theorem dX7_findSoonest_81 : decode cX7_findSoonest 81 = .ok (.ifCond .eq 44, 3) := by decide +kernel
theorem dX7_findSoonest_84 : decode cX7_findSoonest 84 = .ok (.aload_n 0, 1) := by decide +kernel
theorem dX7_findSoonest_85 : decode cX7_findSoonest 85 = .ok (.getfield 69, 3) := by decide +kernel
theorem dX7_findSoonest_88 : decode cX7_findSoonest 88 = .ok (.iload_n 3, 1) := by decide +kernel
theorem dX7_findSoonest_89 : decode cX7_findSoonest 89 = .ok (.iaload, 1) := by decide +kernel
theorem dX7_findSoonest_90 : decode cX7_findSoonest 90 = .ok (.iconst (-1), 1) := by decide +kernel
theorem dX7_findSoonest_91 : decode cX7_findSoonest 91 = .ok (.if_icmp .eq 20, 3) := by decide +kernel
theorem dX7_findSoonest_94 : decode cX7_findSoonest 94 = .ok (.aload_n 0, 1) := by decide +kernel
theorem dX7_findSoonest_95 : decode cX7_findSoonest 95 = .ok (.getfield 26, 3) := by decide +kernel
theorem dX7_findSoonest_98 : decode cX7_findSoonest 98 = .ok (.iload_n 2, 1) := by decide +kernel
theorem dX7_findSoonest_99 : decode cX7_findSoonest 99 = .ok (.invokevirtual 157, 3) := by decide +kernel
theorem dX7_findSoonest_102 : decode cX7_findSoonest 102 = .ok (.aload_n 0, 1) := by decide +kernel
theorem dX7_findSoonest_103 : decode cX7_findSoonest 103 = .ok (.getfield 69, 3) := by decide +kernel
theorem dX7_findSoonest_106 : decode cX7_findSoonest 106 = .ok (.iload_n 3, 1) := by decide +kernel
theorem dX7_findSoonest_107 : decode cX7_findSoonest 107 = .ok (.iaload, 1) := by decide +kernel
theorem dX7_findSoonest_108 : decode cX7_findSoonest 108 = .ok (.if_icmp .ge 17, 3) := by decide +kernel
theorem dX7_findSoonest_111 : decode cX7_findSoonest 111 = .ok (.aload_n 0, 1) := by decide +kernel
theorem dX7_findSoonest_112 : decode cX7_findSoonest 112 = .ok (.getfield 69, 3) := by decide +kernel
theorem dX7_findSoonest_115 : decode cX7_findSoonest 115 = .ok (.iload_n 3, 1) := by decide +kernel
theorem dX7_findSoonest_116 : decode cX7_findSoonest 116 = .ok (.aload_n 0, 1) := by decide +kernel
theorem dX7_findSoonest_117 : decode cX7_findSoonest 117 = .ok (.getfield 26, 3) := by decide +kernel
theorem dX7_findSoonest_120 : decode cX7_findSoonest 120 = .ok (.iload_n 2, 1) := by decide +kernel
theorem dX7_findSoonest_121 : decode cX7_findSoonest 121 = .ok (.invokevirtual 157, 3) := by decide +kernel
theorem dX7_findSoonest_124 : decode cX7_findSoonest 124 = .ok (.iastore, 1) := by decide +kernel
theorem dX7_findSoonest_125 : decode cX7_findSoonest 125 = .ok (.iinc 2 1, 3) := by decide +kernel
theorem dX7_findSoonest_128 : decode cX7_findSoonest 128 = .ok (.goto (-75), 3) := by decide +kernel
theorem dX7_findSoonest_131 : decode cX7_findSoonest 131 = .ok (.aload_n 0, 1) := by decide +kernel
theorem dX7_findSoonest_132 : decode cX7_findSoonest 132 = .ok (.iload_n 1, 1) := by decide +kernel
theorem dX7_findSoonest_133 : decode cX7_findSoonest 133 = .ok (.putfield 73, 3) := by decide +kernel
theorem dX7_findSoonest_136 : decode cX7_findSoonest 136 = .ok (.return_, 1) := by decide +kernel
theorem dX7_gain_0 : decode cX7_gain 0 = .ok (.aload_n 0, 1) := by decide +kernel
theorem dX7_gain_1 : decode cX7_gain 1 = .ok (.invokevirtual 143, 3) := by decide +kernel
theorem dX7_gain_4 : decode cX7_gain 4 = .ok (.istore_n 3, 1) := by decide +kernel
theorem dX7_gain_5 : decode cX7_gain 5 = .ok (.aload_n 0, 1) := by decide +kernel
theorem dX7_gain_6 : decode cX7_gain 6 = .ok (.getfield 32, 3) := by decide +kernel
theorem dX7_gain_9 : decode cX7_gain 9 = .ok (.aload_n 0, 1) := by decide +kernel
theorem dX7_gain_10 : decode cX7_gain 10 = .ok (.getfield 83, 3) := by decide +kernel
theorem dX7_gain_13 : decode cX7_gain 13 = .ok (.invokevirtual 207, 3) := by decide +kernel
theorem dX7_gain_16 : decode cX7_gain 16 = .ok (.aload_n 0, 1) := by decide +kernel
theorem dX7_gain_17 : decode cX7_gain 17 = .ok (.getfield 32, 3) := by decide +kernel
theorem dX7_gain_20 : decode cX7_gain 20 = .ok (.getfield 211, 3) := by decide +kernel
theorem dX7_gain_23 : decode cX7_gain 23 = .ok (.iload_n 1, 1) := by decide +kernel
theorem dX7_gain_24 : decode cX7_gain 24 = .ok (.bipush 100, 2) := by decide +kernel
theorem dX7_gain_26 : decode cX7_gain 26 = .ok (.aload_n 0, 1) := by decide +kernel
theorem dX7_gain_27 : decode cX7_gain 27 = .ok (.getfield 32, 3) := by decide +kernel
theorem dX7_gain_30 : decode cX7_gain 30 = .ok (.getfield 211, 3) := by decide +kernel
theorem dX7_gain_33 : decode cX7_gain 33 = .ok (.iload_n 1, 1) := by decide +kernel
theorem dX7_gain_34 : decode cX7_gain 34 = .ok (.iaload, 1) := by decide +kernel
theorem dX7_gain_35 : decode cX7_gain 35 = .ok (.iload_n 2, 1) := by decide +kernel
theorem dX7_gain_36 : decode cX7_gain 36 = .ok (.iadd, 1) := by decide +kernel
theorem dX7_gain_37 : decode cX7_gain 37 = .ok (.invokestatic 214, 3) := by decide +kernel
theorem dX7_gain_40 : decode cX7_gain 40 = .ok (.iastore, 1) := by decide +kernel
theorem dX7_gain_41 : decode cX7_gain 41 = .ok (.iload_n 3, 1) := by decide +kernel
theorem dX7_gain_42 : decode cX7_gain 42 = .ok (.iconst (-1), 1) := by decide +kernel
theorem dX7_gain_43 : decode cX7_gain 43 = .ok (.if_icmp .eq 37, 3) := by decide +kernel
theorem dX7_gain_46 : decode cX7_gain 46 = .ok (.aload_n 0, 1) := by decide +kernel
theorem dX7_gain_47 : decode cX7_gain 47 = .ok (.getfield 32, 3) := by decide +kernel
theorem dX7_gain_50 : decode cX7_gain 50 = .ok (.getfield 220, 3) := by decide +kernel
theorem dX7_gain_53 : decode cX7_gain 53 = .ok (.iload_n 1, 1) := by decide +kernel
theorem dX7_gain_54 : decode cX7_gain 54 = .ok (.iaload, 1) := by decide +kernel
theorem dX7_gain_55 : decode cX7_gain 55 = .ok (.iconst 1, 1) := by decide +kernel
theorem dX7_gain_56 : decode cX7_gain 56 = .ok (.if_icmp .eq 24, 3) := by decide +kernel
theorem dX7_gain_59 : decode cX7_gain 59 = .ok (.aload_n 0, 1) := by decide +kernel
theorem dX7_gain_60 : decode cX7_gain 60 = .ok (.getfield 32, 3) := by decide +kernel
theorem dX7_gain_63 : decode cX7_gain 63 = .ok (.getfield 211, 3) := by decide +kernel
theorem dX7_gain_66 : decode cX7_gain 66 = .ok (.iload_n 1, 1) := by decide +kernel
theorem dX7_gain_67 : decode cX7_gain 67 = .ok (.iaload, 1) := by decide +kernel
theorem dX7_gain_68 : decode cX7_gain 68 = .ok (.aload_n 0, 1) := by decide +kernel
theorem dX7_gain_69 : decode cX7_gain 69 = .ok (.getfield 83, 3) := by decide +kernel
theorem dX7_gain_72 : decode cX7_gain 72 = .ok (.getfield 211, 3) := by decide +kernel
theorem dX7_gain_75 : decode cX7_gain 75 = .ok (.iload_n 1, 1) := by decide +kernel
theorem dX7_gain_76 : decode cX7_gain 76 = .ok (.iaload, 1) := by decide +kernel
theorem dX7_gain_77 : decode cX7_gain 77 = .ok (.if_icmp .ne 5, 3) := by decide +kernel
theorem dX7_gain_80 : decode cX7_gain 80 = .ok (.iconst 0, 1) := by decide +kernel
theorem dX7_gain_81 : decode cX7_gain 81 = .ok (.ireturn, 1) := by decide +kernel
theorem dX7_gain_82 : decode cX7_gain 82 = .ok (.aload_n 0, 1) := by decide +kernel
theorem dX7_gain_83 : decode cX7_gain 83 = .ok (.aload_n 0, 1) := by decide +kernel
theorem dX7_gain_84 : decode cX7_gain 84 = .ok (.getfield 20, 3) := by decide +kernel
theorem dX7_gain_87 : decode cX7_gain 87 = .ok (.invokevirtual 146, 3) := by decide +kernel
theorem dX7_gain_90 : decode cX7_gain 90 = .ok (.aload_n 0, 1) := by decide +kernel
theorem dX7_gain_91 : decode cX7_gain 91 = .ok (.getfield 26, 3) := by decide +kernel
theorem dX7_gain_94 : decode cX7_gain 94 = .ok (.aload_n 0, 1) := by decide +kernel
theorem dX7_gain_95 : decode cX7_gain 95 = .ok (.getfield 32, 3) := by decide +kernel
theorem dX7_gain_98 : decode cX7_gain 98 = .ok (.iconst 1, 1) := by decide +kernel
theorem dX7_gain_99 : decode cX7_gain 99 = .ok (.invokevirtual 132, 3) := by decide +kernel
theorem dX7_gain_102 : decode cX7_gain 102 = .ok (.aload_n 0, 1) := by decide +kernel
theorem dX7_gain_103 : decode cX7_gain 103 = .ok (.getfield 49, 3) := by decide +kernel
theorem dX7_gain_106 : decode cX7_gain 106 = .ok (.aload_n 0, 1) := by decide +kernel
theorem dX7_gain_107 : decode cX7_gain 107 = .ok (.getfield 26, 3) := by decide +kernel
theorem dX7_gain_110 : decode cX7_gain 110 = .ok (.aload_n 0, 1) := by decide +kernel
theorem dX7_gain_111 : decode cX7_gain 111 = .ok (.getfield 83, 3) := by decide +kernel
theorem dX7_gain_114 : decode cX7_gain 114 = .ok (.invokevirtual 136, 3) := by decide +kernel
theorem dX7_gain_117 : decode cX7_gain 117 = .ok (.invokevirtual 139, 3) := by decide +kernel
theorem dX7_gain_120 : decode cX7_gain 120 = .ok (.aload_n 0, 1) := by decide +kernel
theorem dX7_gain_121 : decode cX7_gain 121 = .ok (.getfield 20, 3) := by decide +kernel
theorem dX7_gain_124 : decode cX7_gain 124 = .ok (.iload_n 3, 1) := by decide +kernel
theorem dX7_gain_125 : decode cX7_gain 125 = .ok (.invokevirtual 154, 3) := by decide +kernel
theorem dX7_gain_128 : decode cX7_gain 128 = .ok (.aload_n 0, 1) := by decide +kernel
theorem dX7_gain_129 : decode cX7_gain 129 = .ok (.getfield 26, 3) := by decide +kernel
theorem dX7_gain_132 : decode cX7_gain 132 = .ok (.iload_n 3, 1) := by decide +kernel
theorem dX7_gain_133 : decode cX7_gain 133 = .ok (.invokevirtual 154, 3) := by decide +kernel
theorem dX7_gain_136 : decode cX7_gain 136 = .ok (.isub, 1) := by decide +kernel
theorem dX7_gain_137 : decode cX7_gain 137 = .ok (.ireturn, 1) := by decide +kernel
theorem dX7_leastKeen_0 : decode cX7_leastKeen 0 = .ok (.iconst 0, 1) := by decide +kernel
theorem dX7_leastKeen_1 : decode cX7_leastKeen 1 = .ok (.istore_n 2, 1) := by decide +kernel
theorem dX7_leastKeen_2 : decode cX7_leastKeen 2 = .ok (.iload_n 2, 1) := by decide +kernel
theorem dX7_leastKeen_3 : decode cX7_leastKeen 3 = .ok (.bipush 9, 2) := by decide +kernel
theorem dX7_leastKeen_5 : decode cX7_leastKeen 5 = .ok (.if_icmp .gt 39, 3) := by decide +kernel
theorem dX7_leastKeen_8 : decode cX7_leastKeen 8 = .ok (.aload_n 0, 1) := by decide +kernel
theorem dX7_leastKeen_9 : decode cX7_leastKeen 9 = .ok (.getfield 32, 3) := by decide +kernel
theorem dX7_leastKeen_12 : decode cX7_leastKeen 12 = .ok (.aload_n 0, 1) := by decide +kernel
theorem dX7_leastKeen_13 : decode cX7_leastKeen 13 = .ok (.getfield 83, 3) := by decide +kernel
theorem dX7_leastKeen_16 : decode cX7_leastKeen 16 = .ok (.invokevirtual 207, 3) := by decide +kernel
theorem dX7_leastKeen_19 : decode cX7_leastKeen 19 = .ok (.aload_n 0, 1) := by decide +kernel
theorem dX7_leastKeen_20 : decode cX7_leastKeen 20 = .ok (.getfield 32, 3) := by decide +kernel
theorem dX7_leastKeen_23 : decode cX7_leastKeen 23 = .ok (.getfield 223, 3) := by decide +kernel
theorem dX7_leastKeen_26 : decode cX7_leastKeen 26 = .ok (.iload_n 1, 1) := by decide +kernel
theorem dX7_leastKeen_27 : decode cX7_leastKeen 27 = .ok (.iload_n 2, 1) := by decide +kernel
theorem dX7_leastKeen_28 : decode cX7_leastKeen 28 = .ok (.iastore, 1) := by decide +kernel
theorem dX7_leastKeen_29 : decode cX7_leastKeen 29 = .ok (.aload_n 0, 1) := by decide +kernel
theorem dX7_leastKeen_30 : decode cX7_leastKeen 30 = .ok (.invokevirtual 226, 3) := by decide +kernel
theorem dX7_leastKeen_33 : decode cX7_leastKeen 33 = .ok (.ifCond .eq 5, 3) := by decide +kernel
theorem dX7_leastKeen_36 : decode cX7_leastKeen 36 = .ok (.iload_n 2, 1) := by decide +kernel
theorem dX7_leastKeen_37 : decode cX7_leastKeen 37 = .ok (.ireturn, 1) := by decide +kernel
theorem dX7_leastKeen_38 : decode cX7_leastKeen 38 = .ok (.iinc 2 1, 3) := by decide +kernel
theorem dX7_leastKeen_41 : decode cX7_leastKeen 41 = .ok (.goto (-39), 3) := by decide +kernel
theorem dX7_leastKeen_44 : decode cX7_leastKeen 44 = .ok (.iconst (-1), 1) := by decide +kernel
theorem dX7_leastKeen_45 : decode cX7_leastKeen 45 = .ok (.ireturn, 1) := by decide +kernel
theorem dX7_greatestLooks_0 : decode cX7_greatestLooks 0 = .ok (.iconst 3, 1) := by decide +kernel
theorem dX7_greatestLooks_1 : decode cX7_greatestLooks 1 = .ok (.istore_n 2, 1) := by decide +kernel
theorem dX7_greatestLooks_2 : decode cX7_greatestLooks 2 = .ok (.iload_n 2, 1) := by decide +kernel
theorem dX7_greatestLooks_3 : decode cX7_greatestLooks 3 = .ok (.ifCond .lt 39, 3) := by decide +kernel
theorem dX7_greatestLooks_6 : decode cX7_greatestLooks 6 = .ok (.aload_n 0, 1) := by decide +kernel
theorem dX7_greatestLooks_7 : decode cX7_greatestLooks 7 = .ok (.getfield 32, 3) := by decide +kernel
theorem dX7_greatestLooks_10 : decode cX7_greatestLooks 10 = .ok (.aload_n 0, 1) := by decide +kernel
theorem dX7_greatestLooks_11 : decode cX7_greatestLooks 11 = .ok (.getfield 83, 3) := by decide +kernel
theorem dX7_greatestLooks_14 : decode cX7_greatestLooks 14 = .ok (.invokevirtual 207, 3) := by decide +kernel
theorem dX7_greatestLooks_17 : decode cX7_greatestLooks 17 = .ok (.aload_n 0, 1) := by decide +kernel
theorem dX7_greatestLooks_18 : decode cX7_greatestLooks 18 = .ok (.getfield 32, 3) := by decide +kernel
theorem dX7_greatestLooks_21 : decode cX7_greatestLooks 21 = .ok (.getfield 230, 3) := by decide +kernel
theorem dX7_greatestLooks_24 : decode cX7_greatestLooks 24 = .ok (.iload_n 1, 1) := by decide +kernel
theorem dX7_greatestLooks_25 : decode cX7_greatestLooks 25 = .ok (.iload_n 2, 1) := by decide +kernel
theorem dX7_greatestLooks_26 : decode cX7_greatestLooks 26 = .ok (.iastore, 1) := by decide +kernel
theorem dX7_greatestLooks_27 : decode cX7_greatestLooks 27 = .ok (.aload_n 0, 1) := by decide +kernel
theorem dX7_greatestLooks_28 : decode cX7_greatestLooks 28 = .ok (.invokevirtual 226, 3) := by decide +kernel
theorem dX7_greatestLooks_31 : decode cX7_greatestLooks 31 = .ok (.ifCond .eq 5, 3) := by decide +kernel
theorem dX7_greatestLooks_34 : decode cX7_greatestLooks 34 = .ok (.iload_n 2, 1) := by decide +kernel
theorem dX7_greatestLooks_35 : decode cX7_greatestLooks 35 = .ok (.ireturn, 1) := by decide +kernel
theorem dX7_greatestLooks_36 : decode cX7_greatestLooks 36 = .ok (.iinc 2 (-1), 3) := by decide +kernel
theorem dX7_greatestLooks_39 : decode cX7_greatestLooks 39 = .ok (.goto (-37), 3) := by decide +kernel
theorem dX7_greatestLooks_42 : decode cX7_greatestLooks 42 = .ok (.iconst (-1), 1) := by decide +kernel
theorem dX7_greatestLooks_43 : decode cX7_greatestLooks 43 = .ok (.ireturn, 1) := by decide +kernel
theorem dX7_changedCanCome_0 : decode cX7_changedCanCome 0 = .ok (.aload_n 0, 1) := by decide +kernel
theorem dX7_changedCanCome_1 : decode cX7_changedCanCome 1 = .ok (.getfield 43, 3) := by decide +kernel
theorem dX7_changedCanCome_4 : decode cX7_changedCanCome 4 = .ok (.aload_n 0, 1) := by decide +kernel
theorem dX7_changedCanCome_5 : decode cX7_changedCanCome 5 = .ok (.getfield 32, 3) := by decide +kernel
theorem dX7_changedCanCome_8 : decode cX7_changedCanCome 8 = .ok (.iconst 1, 1) := by decide +kernel
theorem dX7_changedCanCome_9 : decode cX7_changedCanCome 9 = .ok (.invokevirtual 90, 3) := by decide +kernel
theorem dX7_changedCanCome_12 : decode cX7_changedCanCome 12 = .ok (.aload_n 0, 1) := by decide +kernel
theorem dX7_changedCanCome_13 : decode cX7_changedCanCome 13 = .ok (.getfield 56, 3) := by decide +kernel
theorem dX7_changedCanCome_16 : decode cX7_changedCanCome 16 = .ok (.aload_n 0, 1) := by decide +kernel
theorem dX7_changedCanCome_17 : decode cX7_changedCanCome 17 = .ok (.getfield 43, 3) := by decide +kernel
theorem dX7_changedCanCome_20 : decode cX7_changedCanCome 20 = .ok (.aload_n 0, 1) := by decide +kernel
theorem dX7_changedCanCome_21 : decode cX7_changedCanCome 21 = .ok (.getfield 43, 3) := by decide +kernel
theorem dX7_changedCanCome_24 : decode cX7_changedCanCome 24 = .ok (.aload_n 0, 1) := by decide +kernel
theorem dX7_changedCanCome_25 : decode cX7_changedCanCome 25 = .ok (.getfield 86, 3) := by decide +kernel
theorem dX7_changedCanCome_28 : decode cX7_changedCanCome 28 = .ok (.invokevirtual 107, 3) := by decide +kernel
theorem dX7_changedCanCome_31 : decode cX7_changedCanCome 31 = .ok (.aload_n 0, 1) := by decide +kernel
theorem dX7_changedCanCome_32 : decode cX7_changedCanCome 32 = .ok (.getfield 32, 3) := by decide +kernel
theorem dX7_changedCanCome_35 : decode cX7_changedCanCome 35 = .ok (.invokevirtual 136, 3) := by decide +kernel
theorem dX7_changedCanCome_38 : decode cX7_changedCanCome 38 = .ok (.invokevirtual 233, 3) := by decide +kernel
theorem dX7_changedCanCome_41 : decode cX7_changedCanCome 41 = .ok (.ireturn, 1) := by decide +kernel
theorem dX8_init_0 : decode cX8_init 0 = .ok (.aload_n 0, 1) := by decide +kernel
theorem dX8_init_1 : decode cX8_init 1 = .ok (.invokespecial 3, 3) := by decide +kernel
theorem dX8_init_4 : decode cX8_init 4 = .ok (.aload_n 0, 1) := by decide +kernel
theorem dX8_init_5 : decode cX8_init 5 = .ok (.iconst 4, 1) := by decide +kernel
theorem dX8_init_6 : decode cX8_init 6 = .ok (.bipush 60, 2) := by decide +kernel
theorem dX8_init_8 : decode cX8_init 8 = .ok (.multianewarray 11 2, 4) := by decide +kernel
theorem dX8_init_12 : decode cX8_init 12 = .ok (.putfield 13, 3) := by decide +kernel
theorem dX8_init_15 : decode cX8_init 15 = .ok (.aload_n 0, 1) := by decide +kernel
theorem dX8_init_16 : decode cX8_init 16 = .ok (.iconst 4, 1) := by decide +kernel
theorem dX8_init_17 : decode cX8_init 17 = .ok (.newarray .int, 2) := by decide +kernel
theorem dX8_init_19 : decode cX8_init 19 = .ok (.putfield 16, 3) := by decide +kernel
theorem dX8_init_22 : decode cX8_init 22 = .ok (.aload_n 0, 1) := by decide +kernel
theorem dX8_init_23 : decode cX8_init 23 = .ok (.iconst 4, 1) := by decide +kernel
theorem dX8_init_24 : decode cX8_init 24 = .ok (.newarray .int, 2) := by decide +kernel
theorem dX8_init_26 : decode cX8_init 26 = .ok (.putfield 20, 3) := by decide +kernel
theorem dX8_init_29 : decode cX8_init 29 = .ok (.aload_n 0, 1) := by decide +kernel
theorem dX8_init_30 : decode cX8_init 30 = .ok (.getfield 20, 3) := by decide +kernel
theorem dX8_init_33 : decode cX8_init 33 = .ok (.iconst (-1), 1) := by decide +kernel
theorem dX8_init_34 : decode cX8_init 34 = .ok (.invokestatic 23, 3) := by decide +kernel
theorem dX8_init_37 : decode cX8_init 37 = .ok (.return_, 1) := by decide +kernel
theorem dX8_exists_0 : decode cX8_exists 0 = .ok (.iload_n 1, 1) := by decide +kernel
theorem dX8_exists_1 : decode cX8_exists 1 = .ok (.ifCond .lt 12, 3) := by decide +kernel
theorem dX8_exists_4 : decode cX8_exists 4 = .ok (.iload_n 1, 1) := by decide +kernel
theorem dX8_exists_5 : decode cX8_exists 5 = .ok (.iconst 4, 1) := by decide +kernel
theorem dX8_exists_6 : decode cX8_exists 6 = .ok (.if_icmp .ge 7, 3) := by decide +kernel
theorem dX8_exists_9 : decode cX8_exists 9 = .ok (.iconst 1, 1) := by decide +kernel
theorem dX8_exists_10 : decode cX8_exists 10 = .ok (.goto 4, 3) := by decide +kernel
theorem dX8_exists_13 : decode cX8_exists 13 = .ok (.iconst 0, 1) := by decide +kernel
theorem dX8_exists_14 : decode cX8_exists 14 = .ok (.ireturn, 1) := by decide +kernel
theorem dX8_hasRow_0 : decode cX8_hasRow 0 = .ok (.aload_n 0, 1) := by decide +kernel
theorem dX8_hasRow_1 : decode cX8_hasRow 1 = .ok (.getfield 20, 3) := by decide +kernel
theorem dX8_hasRow_4 : decode cX8_hasRow 4 = .ok (.iload_n 1, 1) := by decide +kernel
theorem dX8_hasRow_5 : decode cX8_hasRow 5 = .ok (.iaload, 1) := by decide +kernel
theorem dX8_hasRow_6 : decode cX8_hasRow 6 = .ok (.iconst (-1), 1) := by decide +kernel
theorem dX8_hasRow_7 : decode cX8_hasRow 7 = .ok (.if_icmp .eq 7, 3) := by decide +kernel
theorem dX8_hasRow_10 : decode cX8_hasRow 10 = .ok (.iconst 1, 1) := by decide +kernel
theorem dX8_hasRow_11 : decode cX8_hasRow 11 = .ok (.goto 4, 3) := by decide +kernel
theorem dX8_hasRow_14 : decode cX8_hasRow 14 = .ok (.iconst 0, 1) := by decide +kernel
theorem dX8_hasRow_15 : decode cX8_hasRow 15 = .ok (.ireturn, 1) := by decide +kernel
theorem dX8_lay_0 : decode cX8_lay 0 = .ok (.aload_n 0, 1) := by decide +kernel
theorem dX8_lay_1 : decode cX8_lay 1 = .ok (.getfield 16, 3) := by decide +kernel
theorem dX8_lay_4 : decode cX8_lay 4 = .ok (.iload_n 1, 1) := by decide +kernel
theorem dX8_lay_5 : decode cX8_lay 5 = .ok (.iload_n 2, 1) := by decide +kernel
theorem dX8_lay_6 : decode cX8_lay 6 = .ok (.iastore, 1) := by decide +kernel
theorem dX8_lay_7 : decode cX8_lay 7 = .ok (.aload_n 0, 1) := by decide +kernel
theorem dX8_lay_8 : decode cX8_lay 8 = .ok (.getfield 20, 3) := by decide +kernel
theorem dX8_lay_11 : decode cX8_lay 11 = .ok (.iload_n 1, 1) := by decide +kernel
theorem dX8_lay_12 : decode cX8_lay 12 = .ok (.iload_n 3, 1) := by decide +kernel
theorem dX8_lay_13 : decode cX8_lay 13 = .ok (.iastore, 1) := by decide +kernel
theorem dX8_lay_14 : decode cX8_lay 14 = .ok (.aload_n 0, 1) := by decide +kernel
theorem dX8_lay_15 : decode cX8_lay 15 = .ok (.getfield 13, 3) := by decide +kernel
theorem dX8_lay_18 : decode cX8_lay 18 = .ok (.iload_n 1, 1) := by decide +kernel
theorem dX8_lay_19 : decode cX8_lay 19 = .ok (.aaload, 1) := by decide +kernel
theorem dX8_lay_20 : decode cX8_lay 20 = .ok (.lconst 0, 1) := by decide +kernel
theorem dX8_lay_21 : decode cX8_lay 21 = .ok (.invokestatic 29, 3) := by decide +kernel
theorem dX8_lay_24 : decode cX8_lay 24 = .ok (.return_, 1) := by decide +kernel
theorem dX8_cut_0 : decode cX8_cut 0 = .ok (.iload_n 2, 1) := by decide +kernel
theorem dX8_cut_1 : decode cX8_cut 1 = .ok (.tableswitch 41 0 2 #[27, 32, 37], 27) := by decide +kernel
theorem dX8_cut_28 : decode cX8_cut 28 = .ok (.lload_n 0, 1) := by decide +kernel
theorem dX8_cut_29 : decode cX8_cut 29 = .ok (.l2i, 1) := by decide +kernel
theorem dX8_cut_30 : decode cX8_cut 30 = .ok (.i2b, 1) := by decide +kernel
theorem dX8_cut_31 : decode cX8_cut 31 = .ok (.i2l, 1) := by decide +kernel
theorem dX8_cut_32 : decode cX8_cut 32 = .ok (.lreturn, 1) := by decide +kernel
theorem dX8_cut_33 : decode cX8_cut 33 = .ok (.lload_n 0, 1) := by decide +kernel
theorem dX8_cut_34 : decode cX8_cut 34 = .ok (.l2i, 1) := by decide +kernel
theorem dX8_cut_35 : decode cX8_cut 35 = .ok (.i2s, 1) := by decide +kernel
theorem dX8_cut_36 : decode cX8_cut 36 = .ok (.i2l, 1) := by decide +kernel
theorem dX8_cut_37 : decode cX8_cut 37 = .ok (.lreturn, 1) := by decide +kernel
theorem dX8_cut_38 : decode cX8_cut 38 = .ok (.lload_n 0, 1) := by decide +kernel
theorem dX8_cut_39 : decode cX8_cut 39 = .ok (.l2i, 1) := by decide +kernel
theorem dX8_cut_40 : decode cX8_cut 40 = .ok (.i2l, 1) := by decide +kernel
theorem dX8_cut_41 : decode cX8_cut 41 = .ok (.lreturn, 1) := by decide +kernel
theorem dX8_cut_42 : decode cX8_cut 42 = .ok (.lload_n 0, 1) := by decide +kernel
theorem dX8_cut_43 : decode cX8_cut 43 = .ok (.lreturn, 1) := by decide +kernel
theorem dX8_holds_0 : decode cX8_holds 0 = .ok (.iload_n 2, 1) := by decide +kernel
theorem dX8_holds_1 : decode cX8_holds 1 = .ok (.ifCond .lt 33, 3) := by decide +kernel
theorem dX8_holds_4 : decode cX8_holds 4 = .ok (.iload_n 3, 1) := by decide +kernel
theorem dX8_holds_5 : decode cX8_holds 5 = .ok (.ifCond .lt 29, 3) := by decide +kernel
theorem dX8_holds_8 : decode cX8_holds 8 = .ok (.iload_n 2, 1) := by decide +kernel
theorem dX8_holds_9 : decode cX8_holds 9 = .ok (.aload_n 0, 1) := by decide +kernel
theorem dX8_holds_10 : decode cX8_holds 10 = .ok (.getfield 20, 3) := by decide +kernel
theorem dX8_holds_13 : decode cX8_holds 13 = .ok (.iload_n 1, 1) := by decide +kernel
theorem dX8_holds_14 : decode cX8_holds 14 = .ok (.iaload, 1) := by decide +kernel
theorem dX8_holds_15 : decode cX8_holds 15 = .ok (.if_icmp .gt 19, 3) := by decide +kernel
theorem dX8_holds_18 : decode cX8_holds 18 = .ok (.iload_n 3, 1) := by decide +kernel
theorem dX8_holds_19 : decode cX8_holds 19 = .ok (.aload_n 0, 1) := by decide +kernel
theorem dX8_holds_20 : decode cX8_holds 20 = .ok (.getfield 20, 3) := by decide +kernel
theorem dX8_holds_23 : decode cX8_holds 23 = .ok (.iload_n 1, 1) := by decide +kernel
theorem dX8_holds_24 : decode cX8_holds 24 = .ok (.iaload, 1) := by decide +kernel
theorem dX8_holds_25 : decode cX8_holds 25 = .ok (.iload_n 2, 1) := by decide +kernel
theorem dX8_holds_26 : decode cX8_holds 26 = .ok (.isub, 1) := by decide +kernel
theorem dX8_holds_27 : decode cX8_holds 27 = .ok (.if_icmp .gt 7, 3) := by decide +kernel
theorem dX8_holds_30 : decode cX8_holds 30 = .ok (.iconst 1, 1) := by decide +kernel
theorem dX8_holds_31 : decode cX8_holds 31 = .ok (.goto 4, 3) := by decide +kernel
theorem dX8_holds_34 : decode cX8_holds 34 = .ok (.iconst 0, 1) := by decide +kernel
theorem dX8_holds_35 : decode cX8_holds 35 = .ok (.ireturn, 1) := by decide +kernel
theorem dX8_countRows_0 : decode cX8_countRows 0 = .ok (.iconst 0, 1) := by decide +kernel
theorem dX8_countRows_1 : decode cX8_countRows 1 = .ok (.istore_n 1, 1) := by decide +kernel
theorem dX8_countRows_2 : decode cX8_countRows 2 = .ok (.iconst 0, 1) := by decide +kernel
theorem dX8_countRows_3 : decode cX8_countRows 3 = .ok (.istore_n 2, 1) := by decide +kernel
theorem dX8_countRows_4 : decode cX8_countRows 4 = .ok (.iload_n 2, 1) := by decide +kernel
theorem dX8_countRows_5 : decode cX8_countRows 5 = .ok (.iconst 4, 1) := by decide +kernel
theorem dX8_countRows_6 : decode cX8_countRows 6 = .ok (.if_icmp .ge 20, 3) := by decide +kernel
theorem dX8_countRows_9 : decode cX8_countRows 9 = .ok (.aload_n 0, 1) := by decide +kernel
theorem dX8_countRows_10 : decode cX8_countRows 10 = .ok (.iload_n 2, 1) := by decide +kernel
theorem dX8_countRows_11 : decode cX8_countRows 11 = .ok (.invokevirtual 32, 3) := by decide +kernel
theorem dX8_countRows_14 : decode cX8_countRows 14 = .ok (.ifCond .eq 6, 3) := by decide +kernel
theorem dX8_countRows_17 : decode cX8_countRows 17 = .ok (.iinc 1 1, 3) := by decide +kernel
theorem dX8_countRows_20 : decode cX8_countRows 20 = .ok (.iinc 2 1, 3) := by decide +kernel
theorem dX8_countRows_23 : decode cX8_countRows 23 = .ok (.goto (-19), 3) := by decide +kernel
theorem dX8_countRows_26 : decode cX8_countRows 26 = .ok (.iload_n 1, 1) := by decide +kernel
theorem dX8_countRows_27 : decode cX8_countRows 27 = .ok (.ireturn, 1) := by decide +kernel
theorem dX9_init_0 : decode cX9_init 0 = .ok (.aload_n 0, 1) := by decide +kernel
theorem dX9_init_1 : decode cX9_init 1 = .ok (.invokespecial 3, 3) := by decide +kernel
theorem dX9_init_4 : decode cX9_init 4 = .ok (.aload_n 0, 1) := by decide +kernel
theorem dX9_init_5 : decode cX9_init 5 = .ok (.sipush 600, 3) := by decide +kernel
theorem dX9_init_8 : decode cX9_init 8 = .ok (.newarray .byte, 2) := by decide +kernel
theorem dX9_init_10 : decode cX9_init 10 = .ok (.putfield 11, 3) := by decide +kernel
theorem dX9_init_13 : decode cX9_init 13 = .ok (.aload_n 0, 1) := by decide +kernel
theorem dX9_init_14 : decode cX9_init 14 = .ok (.iconst (-1), 1) := by decide +kernel
theorem dX9_init_15 : decode cX9_init 15 = .ok (.putfield 15, 3) := by decide +kernel
theorem dX9_init_18 : decode cX9_init 18 = .ok (.return_, 1) := by decide +kernel
theorem dX9_append_0 : decode cX9_append 0 = .ok (.bipush 24, 2) := by decide +kernel
theorem dX9_append_2 : decode cX9_append 2 = .ok (.istore_n 2, 1) := by decide +kernel
theorem dX9_append_3 : decode cX9_append 3 = .ok (.iload_n 2, 1) := by decide +kernel
theorem dX9_append_4 : decode cX9_append 4 = .ok (.ifCond .lt 42, 3) := by decide +kernel
theorem dX9_append_7 : decode cX9_append 7 = .ok (.aload_n 0, 1) := by decide +kernel
theorem dX9_append_8 : decode cX9_append 8 = .ok (.getfield 19, 3) := by decide +kernel
theorem dX9_append_11 : decode cX9_append 11 = .ok (.sipush 600, 3) := by decide +kernel
theorem dX9_append_14 : decode cX9_append 14 = .ok (.if_icmp .ge 32, 3) := by decide +kernel
theorem dX9_append_17 : decode cX9_append 17 = .ok (.aload_n 0, 1) := by decide +kernel
theorem dX9_append_18 : decode cX9_append 18 = .ok (.getfield 11, 3) := by decide +kernel
theorem dX9_append_21 : decode cX9_append 21 = .ok (.aload_n 0, 1) := by decide +kernel
theorem dX9_append_22 : decode cX9_append 22 = .ok (.getfield 19, 3) := by decide +kernel
theorem dX9_append_25 : decode cX9_append 25 = .ok (.iload_n 1, 1) := by decide +kernel
theorem dX9_append_26 : decode cX9_append 26 = .ok (.iload_n 2, 1) := by decide +kernel
theorem dX9_append_27 : decode cX9_append 27 = .ok (.iushr, 1) := by decide +kernel
theorem dX9_append_28 : decode cX9_append 28 = .ok (.i2b, 1) := by decide +kernel
theorem dX9_append_29 : decode cX9_append 29 = .ok (.bastore, 1) := by decide +kernel
theorem dX9_append_30 : decode cX9_append 30 = .ok (.aload_n 0, 1) := by decide +kernel
theorem dX9_append_31 : decode cX9_append 31 = .ok (.dup, 1) := by decide +kernel
theorem dX9_append_32 : decode cX9_append 32 = .ok (.getfield 19, 3) := by decide +kernel
theorem dX9_append_35 : decode cX9_append 35 = .ok (.iconst 1, 1) := by decide +kernel
theorem dX9_append_36 : decode cX9_append 36 = .ok (.iadd, 1) := by decide +kernel
theorem dX9_append_37 : decode cX9_append 37 = .ok (.putfield 19, 3) := by decide +kernel
theorem dX9_append_40 : decode cX9_append 40 = .ok (.iinc 2 (-8), 3) := by decide +kernel
theorem dX9_append_43 : decode cX9_append 43 = .ok (.goto (-40), 3) := by decide +kernel
theorem dX9_append_46 : decode cX9_append 46 = .ok (.return_, 1) := by decide +kernel
theorem dX9_readInto_0 : decode cX9_readInto 0 = .ok (.aload_n 0, 1) := by decide +kernel
theorem dX9_readInto_1 : decode cX9_readInto 1 = .ok (.iconst 0, 1) := by decide +kernel
theorem dX9_readInto_2 : decode cX9_readInto 2 = .ok (.putfield 22, 3) := by decide +kernel
theorem dX9_readInto_5 : decode cX9_readInto 5 = .ok (.aload_n 0, 1) := by decide +kernel
theorem dX9_readInto_6 : decode cX9_readInto 6 = .ok (.iconst (-1), 1) := by decide +kernel
theorem dX9_readInto_7 : decode cX9_readInto 7 = .ok (.putfield 15, 3) := by decide +kernel
theorem dX9_readInto_10 : decode cX9_readInto 10 = .ok (.aload_n 0, 1) := by decide +kernel
theorem dX9_readInto_11 : decode cX9_readInto 11 = .ok (.iconst 0, 1) := by decide +kernel
theorem dX9_readInto_12 : decode cX9_readInto 12 = .ok (.putfield 25, 3) := by decide +kernel
theorem dX9_readInto_15 : decode cX9_readInto 15 = .ok (.aload_n 1, 1) := by decide +kernel
theorem dX9_readInto_16 : decode cX9_readInto 16 = .ok (.invokevirtual 28, 3) := by decide +kernel
theorem dX9_readInto_19 : decode cX9_readInto 19 = .ok (.aload_n 0, 1) := by decide +kernel
theorem dX9_readInto_20 : decode cX9_readInto 20 = .ok (.invokevirtual 33, 3) := by decide +kernel
theorem dX9_readInto_23 : decode cX9_readInto 23 = .ok (.iconst 0, 1) := by decide +kernel
theorem dX9_readInto_24 : decode cX9_readInto 24 = .ok (.istore_n 2, 1) := by decide +kernel
theorem dX9_readInto_25 : decode cX9_readInto 25 = .ok (.iload_n 2, 1) := by decide +kernel
theorem dX9_readInto_26 : decode cX9_readInto 26 = .ok (.sipush 600, 3) := by decide +kernel
theorem dX9_readInto_29 : decode cX9_readInto 29 = .ok (.if_icmp .gt 28, 3) := by decide +kernel
theorem dX9_readInto_32 : decode cX9_readInto 32 = .ok (.aload_n 0, 1) := by decide +kernel
theorem dX9_readInto_33 : decode cX9_readInto 33 = .ok (.getfield 22, 3) := by decide +kernel
theorem dX9_readInto_36 : decode cX9_readInto 36 = .ok (.ifCond .ne 21, 3) := by decide +kernel
theorem dX9_readInto_39 : decode cX9_readInto 39 = .ok (.aload_n 0, 1) := by decide +kernel
theorem dX9_readInto_40 : decode cX9_readInto 40 = .ok (.getfield 36, 3) := by decide +kernel
theorem dX9_readInto_43 : decode cX9_readInto 43 = .ok (.ifCond .eq 14, 3) := by decide +kernel
theorem dX9_readInto_46 : decode cX9_readInto 46 = .ok (.aload_n 0, 1) := by decide +kernel
theorem dX9_readInto_47 : decode cX9_readInto 47 = .ok (.aload_n 1, 1) := by decide +kernel
theorem dX9_readInto_48 : decode cX9_readInto 48 = .ok (.invokevirtual 39, 3) := by decide +kernel
theorem dX9_readInto_51 : decode cX9_readInto 51 = .ok (.iinc 2 1, 3) := by decide +kernel
theorem dX9_readInto_54 : decode cX9_readInto 54 = .ok (.goto (-29), 3) := by decide +kernel
theorem dX9_readInto_57 : decode cX9_readInto 57 = .ok (.return_, 1) := by decide +kernel
theorem dX9_readLine_0 : decode cX9_readLine 0 = .ok (.aload_n 1, 1) := by decide +kernel
theorem dX9_readLine_1 : decode cX9_readLine 1 = .ok (.getfield 43, 3) := by decide +kernel
theorem dX9_readLine_4 : decode cX9_readLine 4 = .ok (.ifCond .ne 7, 3) := by decide +kernel
theorem dX9_readLine_7 : decode cX9_readLine 7 = .ok (.iconst 1, 1) := by decide +kernel
theorem dX9_readLine_8 : decode cX9_readLine 8 = .ok (.goto 4, 3) := by decide +kernel
theorem dX9_readLine_11 : decode cX9_readLine 11 = .ok (.iconst 0, 1) := by decide +kernel
theorem dX9_readLine_12 : decode cX9_readLine 12 = .ok (.istore_n 2, 1) := by decide +kernel
theorem dX9_readLine_13 : decode cX9_readLine 13 = .ok (.iload_n 2, 1) := by decide +kernel
theorem dX9_readLine_14 : decode cX9_readLine 14 = .ok (.ifCond .eq 20, 3) := by decide +kernel
theorem dX9_readLine_17 : decode cX9_readLine 17 = .ok (.aload_n 0, 1) := by decide +kernel
theorem dX9_readLine_18 : decode cX9_readLine 18 = .ok (.ldc 46, 2) := by decide +kernel
theorem dX9_readLine_20 : decode cX9_readLine 20 = .ok (.invokevirtual 48, 3) := by decide +kernel
theorem dX9_readLine_23 : decode cX9_readLine 23 = .ok (.ifCond .eq 11, 3) := by decide +kernel
theorem dX9_readLine_26 : decode cX9_readLine 26 = .ok (.aload_n 0, 1) := by decide +kernel
theorem dX9_readLine_27 : decode cX9_readLine 27 = .ok (.aload_n 1, 1) := by decide +kernel
theorem dX9_readLine_28 : decode cX9_readLine 28 = .ok (.invokevirtual 52, 3) := by decide +kernel
theorem dX9_readLine_31 : decode cX9_readLine 31 = .ok (.goto 50, 3) := by decide +kernel
theorem dX9_readLine_34 : decode cX9_readLine 34 = .ok (.iload_n 2, 1) := by decide +kernel
theorem dX9_readLine_35 : decode cX9_readLine 35 = .ok (.ifCond .ne 20, 3) := by decide +kernel
theorem dX9_readLine_38 : decode cX9_readLine 38 = .ok (.aload_n 0, 1) := by decide +kernel
theorem dX9_readLine_39 : decode cX9_readLine 39 = .ok (.ldc 55, 2) := by decide +kernel
theorem dX9_readLine_41 : decode cX9_readLine 41 = .ok (.invokevirtual 48, 3) := by decide +kernel
theorem dX9_readLine_44 : decode cX9_readLine 44 = .ok (.ifCond .eq 11, 3) := by decide +kernel
theorem dX9_readLine_47 : decode cX9_readLine 47 = .ok (.aload_n 0, 1) := by decide +kernel
theorem dX9_readLine_48 : decode cX9_readLine 48 = .ok (.aload_n 1, 1) := by decide +kernel
theorem dX9_readLine_49 : decode cX9_readLine 49 = .ok (.invokevirtual 57, 3) := by decide +kernel
theorem dX9_readLine_52 : decode cX9_readLine 52 = .ok (.goto 29, 3) := by decide +kernel
theorem dX9_readLine_55 : decode cX9_readLine 55 = .ok (.iload_n 2, 1) := by decide +kernel
theorem dX9_readLine_56 : decode cX9_readLine 56 = .ok (.ifCond .ne 20, 3) := by decide +kernel
theorem dX9_readLine_59 : decode cX9_readLine 59 = .ok (.aload_n 0, 1) := by decide +kernel
theorem dX9_readLine_60 : decode cX9_readLine 60 = .ok (.ldc 60, 2) := by decide +kernel
theorem dX9_readLine_62 : decode cX9_readLine 62 = .ok (.invokevirtual 48, 3) := by decide +kernel
theorem dX9_readLine_65 : decode cX9_readLine 65 = .ok (.ifCond .eq 11, 3) := by decide +kernel
theorem dX9_readLine_68 : decode cX9_readLine 68 = .ok (.aload_n 0, 1) := by decide +kernel
theorem dX9_readLine_69 : decode cX9_readLine 69 = .ok (.aload_n 1, 1) := by decide +kernel
theorem dX9_readLine_70 : decode cX9_readLine 70 = .ok (.invokevirtual 62, 3) := by decide +kernel
theorem dX9_readLine_73 : decode cX9_readLine 73 = .ok (.goto 8, 3) := by decide +kernel
theorem dX9_readLine_76 : decode cX9_readLine 76 = .ok (.aload_n 0, 1) := by decide +kernel
theorem dX9_readLine_77 : decode cX9_readLine 77 = .ok (.iconst 1, 1) := by decide +kernel
theorem dX9_readLine_78 : decode cX9_readLine 78 = .ok (.invokevirtual 65, 3) := by decide +kernel
theorem dX9_readLine_81 : decode cX9_readLine 81 = .ok (.aload_n 0, 1) := by decide +kernel
theorem dX9_readLine_82 : decode cX9_readLine 82 = .ok (.getfield 22, 3) := by decide +kernel
theorem dX9_readLine_85 : decode cX9_readLine 85 = .ok (.ifCond .ne 16, 3) := by decide +kernel
theorem dX9_readLine_88 : decode cX9_readLine 88 = .ok (.aload_n 0, 1) := by decide +kernel
theorem dX9_readLine_89 : decode cX9_readLine 89 = .ok (.getfield 36, 3) := by decide +kernel
theorem dX9_readLine_92 : decode cX9_readLine 92 = .ok (.iconst 3, 1) := by decide +kernel
theorem dX9_readLine_93 : decode cX9_readLine 93 = .ok (.if_icmp .eq 8, 3) := by decide +kernel
theorem dX9_readLine_96 : decode cX9_readLine 96 = .ok (.aload_n 0, 1) := by decide +kernel
theorem dX9_readLine_97 : decode cX9_readLine 97 = .ok (.iconst 1, 1) := by decide +kernel
theorem dX9_readLine_98 : decode cX9_readLine 98 = .ok (.invokevirtual 65, 3) := by decide +kernel
theorem dX9_readLine_101 : decode cX9_readLine 101 = .ok (.aload_n 0, 1) := by decide +kernel
theorem dX9_readLine_102 : decode cX9_readLine 102 = .ok (.getfield 22, 3) := by decide +kernel
theorem dX9_readLine_105 : decode cX9_readLine 105 = .ok (.ifCond .ne 17, 3) := by decide +kernel
theorem dX9_readLine_108 : decode cX9_readLine 108 = .ok (.aload_n 0, 1) := by decide +kernel
theorem dX9_readLine_109 : decode cX9_readLine 109 = .ok (.invokevirtual 33, 3) := by decide +kernel
theorem dX9_readLine_112 : decode cX9_readLine 112 = .ok (.aload_n 1, 1) := by decide +kernel
theorem dX9_readLine_113 : decode cX9_readLine 113 = .ok (.dup, 1) := by decide +kernel
theorem dX9_readLine_114 : decode cX9_readLine 114 = .ok (.getfield 43, 3) := by decide +kernel
theorem dX9_readLine_117 : decode cX9_readLine 117 = .ok (.iconst 1, 1) := by decide +kernel
theorem dX9_readLine_118 : decode cX9_readLine 118 = .ok (.iadd, 1) := by decide +kernel
theorem dX9_readLine_119 : decode cX9_readLine 119 = .ok (.putfield 43, 3) := by decide +kernel
theorem dX9_readLine_122 : decode cX9_readLine 122 = .ok (.return_, 1) := by decide +kernel
theorem dX9_readFamily_0 : decode cX9_readFamily 0 = .ok (.aload_n 0, 1) := by decide +kernel
theorem dX9_readFamily_1 : decode cX9_readFamily 1 = .ok (.invokevirtual 33, 3) := by decide +kernel
theorem dX9_readFamily_4 : decode cX9_readFamily 4 = .ok (.aload_n 1, 1) := by decide +kernel
theorem dX9_readFamily_5 : decode cX9_readFamily 5 = .ok (.aload_n 0, 1) := by decide +kernel
theorem dX9_readFamily_6 : decode cX9_readFamily 6 = .ok (.ldc 69, 2) := by decide +kernel
theorem dX9_readFamily_8 : decode cX9_readFamily 8 = .ok (.iconst 1, 1) := by decide +kernel
theorem dX9_readFamily_9 : decode cX9_readFamily 9 = .ok (.bipush 9, 2) := by decide +kernel
theorem dX9_readFamily_11 : decode cX9_readFamily 11 = .ok (.invokevirtual 71, 3) := by decide +kernel
theorem dX9_readFamily_14 : decode cX9_readFamily 14 = .ok (.putfield 75, 3) := by decide +kernel
theorem dX9_readFamily_17 : decode cX9_readFamily 17 = .ok (.aload_n 0, 1) := by decide +kernel
theorem dX9_readFamily_18 : decode cX9_readFamily 18 = .ok (.getfield 22, 3) := by decide +kernel
theorem dX9_readFamily_21 : decode cX9_readFamily 21 = .ok (.ifCond .ne 21, 3) := by decide +kernel
theorem dX9_readFamily_24 : decode cX9_readFamily 24 = .ok (.aload_n 0, 1) := by decide +kernel
theorem dX9_readFamily_25 : decode cX9_readFamily 25 = .ok (.ldc 77, 2) := by decide +kernel
theorem dX9_readFamily_27 : decode cX9_readFamily 27 = .ok (.invokevirtual 48, 3) := by decide +kernel
theorem dX9_readFamily_30 : decode cX9_readFamily 30 = .ok (.ifCond .eq 12, 3) := by decide +kernel
theorem dX9_readFamily_33 : decode cX9_readFamily 33 = .ok (.aload_n 1, 1) := by decide +kernel
theorem dX9_readFamily_34 : decode cX9_readFamily 34 = .ok (.iconst 1, 1) := by decide +kernel
theorem dX9_readFamily_35 : decode cX9_readFamily 35 = .ok (.putfield 79, 3) := by decide +kernel
theorem dX9_readFamily_38 : decode cX9_readFamily 38 = .ok (.aload_n 0, 1) := by decide +kernel
theorem dX9_readFamily_39 : decode cX9_readFamily 39 = .ok (.invokevirtual 33, 3) := by decide +kernel
theorem dX9_readFamily_42 : decode cX9_readFamily 42 = .ok (.return_, 1) := by decide +kernel
theorem dX9_readPerson_0 : decode cX9_readPerson 0 = .ok (.aload_n 1, 1) := by decide +kernel
theorem dX9_readPerson_1 : decode cX9_readPerson 1 = .ok (.getfield 81, 3) := by decide +kernel
theorem dX9_readPerson_4 : decode cX9_readPerson 4 = .ok (.istore_n 2, 1) := by decide +kernel
theorem dX9_readPerson_5 : decode cX9_readPerson 5 = .ok (.iload_n 2, 1) := by decide +kernel
theorem dX9_readPerson_6 : decode cX9_readPerson 6 = .ok (.bipush 6, 2) := by decide +kernel
theorem dX9_readPerson_8 : decode cX9_readPerson 8 = .ok (.if_icmp .lt 9, 3) := by decide +kernel
theorem dX9_readPerson_11 : decode cX9_readPerson 11 = .ok (.aload_n 0, 1) := by decide +kernel
theorem dX9_readPerson_12 : decode cX9_readPerson 12 = .ok (.iconst 3, 1) := by decide +kernel
theorem dX9_readPerson_13 : decode cX9_readPerson 13 = .ok (.invokevirtual 65, 3) := by decide +kernel
theorem dX9_readPerson_16 : decode cX9_readPerson 16 = .ok (.return_, 1) := by decide +kernel
theorem dX9_readPerson_17 : decode cX9_readPerson 17 = .ok (.aload_n 0, 1) := by decide +kernel
theorem dX9_readPerson_18 : decode cX9_readPerson 18 = .ok (.invokevirtual 33, 3) := by decide +kernel
theorem dX9_readPerson_21 : decode cX9_readPerson 21 = .ok (.aload_n 1, 1) := by decide +kernel
theorem dX9_readPerson_22 : decode cX9_readPerson 22 = .ok (.getfield 84, 3) := by decide +kernel
theorem dX9_readPerson_25 : decode cX9_readPerson 25 = .ok (.iload_n 2, 1) := by decide +kernel
theorem dX9_readPerson_26 : decode cX9_readPerson 26 = .ok (.aload_n 0, 1) := by decide +kernel
theorem dX9_readPerson_27 : decode cX9_readPerson 27 = .ok (.ldc 88, 2) := by decide +kernel
theorem dX9_readPerson_29 : decode cX9_readPerson 29 = .ok (.iconst 0, 1) := by decide +kernel
theorem dX9_readPerson_30 : decode cX9_readPerson 30 = .ok (.bipush 100, 2) := by decide +kernel
theorem dX9_readPerson_32 : decode cX9_readPerson 32 = .ok (.invokevirtual 71, 3) := by decide +kernel
theorem dX9_readPerson_35 : decode cX9_readPerson 35 = .ok (.iastore, 1) := by decide +kernel
theorem dX9_readPerson_36 : decode cX9_readPerson 36 = .ok (.aload_n 1, 1) := by decide +kernel
theorem dX9_readPerson_37 : decode cX9_readPerson 37 = .ok (.getfield 89, 3) := by decide +kernel
theorem dX9_readPerson_40 : decode cX9_readPerson 40 = .ok (.iload_n 2, 1) := by decide +kernel
theorem dX9_readPerson_41 : decode cX9_readPerson 41 = .ok (.aload_n 0, 1) := by decide +kernel
theorem dX9_readPerson_42 : decode cX9_readPerson 42 = .ok (.ldc 92, 2) := by decide +kernel
theorem dX9_readPerson_44 : decode cX9_readPerson 44 = .ok (.iconst 0, 1) := by decide +kernel
theorem dX9_readPerson_45 : decode cX9_readPerson 45 = .ok (.bipush 9, 2) := by decide +kernel
theorem dX9_readPerson_47 : decode cX9_readPerson 47 = .ok (.invokevirtual 71, 3) := by decide +kernel
theorem dX9_readPerson_50 : decode cX9_readPerson 50 = .ok (.iastore, 1) := by decide +kernel
theorem dX9_readPerson_51 : decode cX9_readPerson 51 = .ok (.aload_n 1, 1) := by decide +kernel
theorem dX9_readPerson_52 : decode cX9_readPerson 52 = .ok (.getfield 93, 3) := by decide +kernel
theorem dX9_readPerson_55 : decode cX9_readPerson 55 = .ok (.iload_n 2, 1) := by decide +kernel
theorem dX9_readPerson_56 : decode cX9_readPerson 56 = .ok (.iconst 0, 1) := by decide +kernel
theorem dX9_readPerson_57 : decode cX9_readPerson 57 = .ok (.iastore, 1) := by decide +kernel
theorem dX9_readPerson_58 : decode cX9_readPerson 58 = .ok (.aload_n 1, 1) := by decide +kernel
theorem dX9_readPerson_59 : decode cX9_readPerson 59 = .ok (.getfield 96, 3) := by decide +kernel
theorem dX9_readPerson_62 : decode cX9_readPerson 62 = .ok (.iload_n 2, 1) := by decide +kernel
theorem dX9_readPerson_63 : decode cX9_readPerson 63 = .ok (.iconst 0, 1) := by decide +kernel
theorem dX9_readPerson_64 : decode cX9_readPerson 64 = .ok (.iastore, 1) := by decide +kernel
theorem dX9_readPerson_65 : decode cX9_readPerson 65 = .ok (.iconst 0, 1) := by decide +kernel
theorem dX9_readPerson_66 : decode cX9_readPerson 66 = .ok (.istore_n 3, 1) := by decide +kernel
theorem dX9_readPerson_67 : decode cX9_readPerson 67 = .ok (.iload_n 3, 1) := by decide +kernel
theorem dX9_readPerson_68 : decode cX9_readPerson 68 = .ok (.iconst 2, 1) := by decide +kernel
theorem dX9_readPerson_69 : decode cX9_readPerson 69 = .ok (.if_icmp .ge 30, 3) := by decide +kernel
theorem dX9_readPerson_72 : decode cX9_readPerson 72 = .ok (.aload_n 0, 1) := by decide +kernel
theorem dX9_readPerson_73 : decode cX9_readPerson 73 = .ok (.getfield 22, 3) := by decide +kernel
theorem dX9_readPerson_76 : decode cX9_readPerson 76 = .ok (.ifCond .ne 23, 3) := by decide +kernel
theorem dX9_readPerson_79 : decode cX9_readPerson 79 = .ok (.aload_n 0, 1) := by decide +kernel
theorem dX9_readPerson_80 : decode cX9_readPerson 80 = .ok (.getfield 36, 3) := by decide +kernel
theorem dX9_readPerson_83 : decode cX9_readPerson 83 = .ok (.iconst 1, 1) := by decide +kernel
theorem dX9_readPerson_84 : decode cX9_readPerson 84 = .ok (.if_icmp .ne 15, 3) := by decide +kernel
theorem dX9_readPerson_87 : decode cX9_readPerson 87 = .ok (.aload_n 0, 1) := by decide +kernel
theorem dX9_readPerson_88 : decode cX9_readPerson 88 = .ok (.aload_n 1, 1) := by decide +kernel
theorem dX9_readPerson_89 : decode cX9_readPerson 89 = .ok (.iload_n 2, 1) := by decide +kernel
theorem dX9_readPerson_90 : decode cX9_readPerson 90 = .ok (.invokevirtual 99, 3) := by decide +kernel
theorem dX9_readPerson_93 : decode cX9_readPerson 93 = .ok (.iinc 3 1, 3) := by decide +kernel
theorem dX9_readPerson_96 : decode cX9_readPerson 96 = .ok (.goto (-29), 3) := by decide +kernel
theorem dX9_readPerson_99 : decode cX9_readPerson 99 = .ok (.aload_n 1, 1) := by decide +kernel
theorem dX9_readPerson_100 : decode cX9_readPerson 100 = .ok (.dup, 1) := by decide +kernel
theorem dX9_readPerson_101 : decode cX9_readPerson 101 = .ok (.getfield 81, 3) := by decide +kernel
theorem dX9_readPerson_104 : decode cX9_readPerson 104 = .ok (.iconst 1, 1) := by decide +kernel
theorem dX9_readPerson_105 : decode cX9_readPerson 105 = .ok (.iadd, 1) := by decide +kernel
theorem dX9_readPerson_106 : decode cX9_readPerson 106 = .ok (.putfield 81, 3) := by decide +kernel
theorem dX9_readPerson_109 : decode cX9_readPerson 109 = .ok (.return_, 1) := by decide +kernel
theorem dX9_readMark_0 : decode cX9_readMark 0 = .ok (.aload_n 0, 1) := by decide +kernel
theorem dX9_readMark_1 : decode cX9_readMark 1 = .ok (.ldc 103, 2) := by decide +kernel
theorem dX9_readMark_3 : decode cX9_readMark 3 = .ok (.invokevirtual 48, 3) := by decide +kernel
theorem dX9_readMark_6 : decode cX9_readMark 6 = .ok (.ifCond .eq 26, 3) := by decide +kernel
theorem dX9_readMark_9 : decode cX9_readMark 9 = .ok (.aload_n 1, 1) := by decide +kernel
theorem dX9_readMark_10 : decode cX9_readMark 10 = .ok (.getfield 93, 3) := by decide +kernel
theorem dX9_readMark_13 : decode cX9_readMark 13 = .ok (.iload_n 2, 1) := by decide +kernel
theorem dX9_readMark_14 : decode cX9_readMark 14 = .ok (.iaload, 1) := by decide +kernel
theorem dX9_readMark_15 : decode cX9_readMark 15 = .ok (.ifCond .ne 17, 3) := by decide +kernel
theorem dX9_readMark_18 : decode cX9_readMark 18 = .ok (.aload_n 1, 1) := by decide +kernel
theorem dX9_readMark_19 : decode cX9_readMark 19 = .ok (.getfield 93, 3) := by decide +kernel
theorem dX9_readMark_22 : decode cX9_readMark 22 = .ok (.iload_n 2, 1) := by decide +kernel
theorem dX9_readMark_23 : decode cX9_readMark 23 = .ok (.iconst 1, 1) := by decide +kernel
theorem dX9_readMark_24 : decode cX9_readMark 24 = .ok (.iastore, 1) := by decide +kernel
theorem dX9_readMark_25 : decode cX9_readMark 25 = .ok (.aload_n 0, 1) := by decide +kernel
theorem dX9_readMark_26 : decode cX9_readMark 26 = .ok (.invokevirtual 33, 3) := by decide +kernel
theorem dX9_readMark_29 : decode cX9_readMark 29 = .ok (.goto 40, 3) := by decide +kernel
theorem dX9_readMark_32 : decode cX9_readMark 32 = .ok (.aload_n 0, 1) := by decide +kernel
theorem dX9_readMark_33 : decode cX9_readMark 33 = .ok (.ldc 104, 2) := by decide +kernel
theorem dX9_readMark_35 : decode cX9_readMark 35 = .ok (.invokevirtual 48, 3) := by decide +kernel
theorem dX9_readMark_38 : decode cX9_readMark 38 = .ok (.ifCond .eq 26, 3) := by decide +kernel
theorem dX9_readMark_41 : decode cX9_readMark 41 = .ok (.aload_n 1, 1) := by decide +kernel
theorem dX9_readMark_42 : decode cX9_readMark 42 = .ok (.getfield 96, 3) := by decide +kernel
theorem dX9_readMark_45 : decode cX9_readMark 45 = .ok (.iload_n 2, 1) := by decide +kernel
theorem dX9_readMark_46 : decode cX9_readMark 46 = .ok (.iaload, 1) := by decide +kernel
theorem dX9_readMark_47 : decode cX9_readMark 47 = .ok (.ifCond .ne 17, 3) := by decide +kernel
theorem dX9_readMark_50 : decode cX9_readMark 50 = .ok (.aload_n 1, 1) := by decide +kernel
theorem dX9_readMark_51 : decode cX9_readMark 51 = .ok (.getfield 96, 3) := by decide +kernel
theorem dX9_readMark_54 : decode cX9_readMark 54 = .ok (.iload_n 2, 1) := by decide +kernel
theorem dX9_readMark_55 : decode cX9_readMark 55 = .ok (.iconst 1, 1) := by decide +kernel
theorem dX9_readMark_56 : decode cX9_readMark 56 = .ok (.iastore, 1) := by decide +kernel
theorem dX9_readMark_57 : decode cX9_readMark 57 = .ok (.aload_n 0, 1) := by decide +kernel
theorem dX9_readMark_58 : decode cX9_readMark 58 = .ok (.invokevirtual 33, 3) := by decide +kernel
theorem dX9_readMark_61 : decode cX9_readMark 61 = .ok (.goto 8, 3) := by decide +kernel
theorem dX9_readMark_64 : decode cX9_readMark 64 = .ok (.aload_n 0, 1) := by decide +kernel
theorem dX9_readMark_65 : decode cX9_readMark 65 = .ok (.iconst 1, 1) := by decide +kernel
theorem dX9_readMark_66 : decode cX9_readMark 66 = .ok (.invokevirtual 65, 3) := by decide +kernel
theorem dX9_readMark_69 : decode cX9_readMark 69 = .ok (.return_, 1) := by decide +kernel
theorem dX9_readPost_0 : decode cX9_readPost 0 = .ok (.aload_n 1, 1) := by decide +kernel
theorem dX9_readPost_1 : decode cX9_readPost 1 = .ok (.getfield 105, 3) := by decide +kernel
theorem dX9_readPost_4 : decode cX9_readPost 4 = .ok (.istore_n 2, 1) := by decide +kernel
theorem dX9_readPost_5 : decode cX9_readPost 5 = .ok (.iload_n 2, 1) := by decide +kernel
theorem dX9_readPost_6 : decode cX9_readPost 6 = .ok (.iconst 2, 1) := by decide +kernel
theorem dX9_readPost_7 : decode cX9_readPost 7 = .ok (.if_icmp .lt 9, 3) := by decide +kernel
theorem dX9_readPost_10 : decode cX9_readPost 10 = .ok (.aload_n 0, 1) := by decide +kernel
theorem dX9_readPost_11 : decode cX9_readPost 11 = .ok (.iconst 3, 1) := by decide +kernel
theorem dX9_readPost_12 : decode cX9_readPost 12 = .ok (.invokevirtual 65, 3) := by decide +kernel
theorem dX9_readPost_15 : decode cX9_readPost 15 = .ok (.return_, 1) := by decide +kernel
theorem dX9_readPost_16 : decode cX9_readPost 16 = .ok (.aload_n 0, 1) := by decide +kernel
theorem dX9_readPost_17 : decode cX9_readPost 17 = .ok (.invokevirtual 33, 3) := by decide +kernel
theorem dX9_readPost_20 : decode cX9_readPost 20 = .ok (.aload_n 1, 1) := by decide +kernel
theorem dX9_readPost_21 : decode cX9_readPost 21 = .ok (.getfield 108, 3) := by decide +kernel
theorem dX9_readPost_24 : decode cX9_readPost 24 = .ok (.iload_n 2, 1) := by decide +kernel
theorem dX9_readPost_25 : decode cX9_readPost 25 = .ok (.aload_n 0, 1) := by decide +kernel
theorem dX9_readPost_26 : decode cX9_readPost 26 = .ok (.ldc 111, 2) := by decide +kernel
theorem dX9_readPost_28 : decode cX9_readPost 28 = .ok (.iconst 0, 1) := by decide +kernel
theorem dX9_readPost_29 : decode cX9_readPost 29 = .ok (.bipush 100, 2) := by decide +kernel
theorem dX9_readPost_31 : decode cX9_readPost 31 = .ok (.invokevirtual 71, 3) := by decide +kernel
theorem dX9_readPost_34 : decode cX9_readPost 34 = .ok (.iastore, 1) := by decide +kernel
theorem dX9_readPost_35 : decode cX9_readPost 35 = .ok (.aload_n 1, 1) := by decide +kernel
theorem dX9_readPost_36 : decode cX9_readPost 36 = .ok (.getfield 112, 3) := by decide +kernel
theorem dX9_readPost_39 : decode cX9_readPost 39 = .ok (.iload_n 2, 1) := by decide +kernel
theorem dX9_readPost_40 : decode cX9_readPost 40 = .ok (.aload_n 0, 1) := by decide +kernel
theorem dX9_readPost_41 : decode cX9_readPost 41 = .ok (.ldc 115, 2) := by decide +kernel
theorem dX9_readPost_43 : decode cX9_readPost 43 = .ok (.iconst 0, 1) := by decide +kernel
theorem dX9_readPost_44 : decode cX9_readPost 44 = .ok (.bipush 9, 2) := by decide +kernel
theorem dX9_readPost_46 : decode cX9_readPost 46 = .ok (.invokevirtual 71, 3) := by decide +kernel
theorem dX9_readPost_49 : decode cX9_readPost 49 = .ok (.iastore, 1) := by decide +kernel
theorem dX9_readPost_50 : decode cX9_readPost 50 = .ok (.aload_n 1, 1) := by decide +kernel
theorem dX9_readPost_51 : decode cX9_readPost 51 = .ok (.getfield 116, 3) := by decide +kernel
theorem dX9_readPost_54 : decode cX9_readPost 54 = .ok (.iload_n 2, 1) := by decide +kernel
theorem dX9_readPost_55 : decode cX9_readPost 55 = .ok (.aload_n 0, 1) := by decide +kernel
theorem dX9_readPost_56 : decode cX9_readPost 56 = .ok (.ldc 119, 2) := by decide +kernel
theorem dX9_readPost_58 : decode cX9_readPost 58 = .ok (.iconst 0, 1) := by decide +kernel
theorem dX9_readPost_59 : decode cX9_readPost 59 = .ok (.iconst 3, 1) := by decide +kernel
theorem dX9_readPost_60 : decode cX9_readPost 60 = .ok (.invokevirtual 71, 3) := by decide +kernel
theorem dX9_readPost_63 : decode cX9_readPost 63 = .ok (.iastore, 1) := by decide +kernel
theorem dX9_readPost_64 : decode cX9_readPost 64 = .ok (.aload_n 1, 1) := by decide +kernel
theorem dX9_readPost_65 : decode cX9_readPost 65 = .ok (.dup, 1) := by decide +kernel
theorem dX9_readPost_66 : decode cX9_readPost 66 = .ok (.getfield 105, 3) := by decide +kernel
theorem dX9_readPost_69 : decode cX9_readPost 69 = .ok (.iconst 1, 1) := by decide +kernel
theorem dX9_readPost_70 : decode cX9_readPost 70 = .ok (.iadd, 1) := by decide +kernel
theorem dX9_readPost_71 : decode cX9_readPost 71 = .ok (.putfield 105, 3) := by decide +kernel
theorem dX9_readPost_74 : decode cX9_readPost 74 = .ok (.return_, 1) := by decide +kernel
theorem dX9_numberBehind_0 : decode cX9_numberBehind 0 = .ok (.aload_n 0, 1) := by decide +kernel
theorem dX9_numberBehind_1 : decode cX9_numberBehind 1 = .ok (.getfield 22, 3) := by decide +kernel
theorem dX9_numberBehind_4 : decode cX9_numberBehind 4 = .ok (.ifCond .eq 5, 3) := by decide +kernel
theorem dX9_numberBehind_7 : decode cX9_numberBehind 7 = .ok (.iconst 0, 1) := by decide +kernel
theorem dX9_numberBehind_8 : decode cX9_numberBehind 8 = .ok (.ireturn, 1) := by decide +kernel
theorem dX9_numberBehind_9 : decode cX9_numberBehind 9 = .ok (.aload_n 0, 1) := by decide +kernel
theorem dX9_numberBehind_10 : decode cX9_numberBehind 10 = .ok (.aload_n 1, 1) := by decide +kernel
theorem dX9_numberBehind_11 : decode cX9_numberBehind 11 = .ok (.invokevirtual 48, 3) := by decide +kernel
theorem dX9_numberBehind_14 : decode cX9_numberBehind 14 = .ok (.ifCond .ne 10, 3) := by decide +kernel
theorem dX9_numberBehind_17 : decode cX9_numberBehind 17 = .ok (.aload_n 0, 1) := by decide +kernel
theorem dX9_numberBehind_18 : decode cX9_numberBehind 18 = .ok (.iconst 1, 1) := by decide +kernel
theorem dX9_numberBehind_19 : decode cX9_numberBehind 19 = .ok (.invokevirtual 65, 3) := by decide +kernel
theorem dX9_numberBehind_22 : decode cX9_numberBehind 22 = .ok (.iconst 0, 1) := by decide +kernel
theorem dX9_numberBehind_23 : decode cX9_numberBehind 23 = .ok (.ireturn, 1) := by decide +kernel
theorem dX9_numberBehind_24 : decode cX9_numberBehind 24 = .ok (.aload_n 0, 1) := by decide +kernel
theorem dX9_numberBehind_25 : decode cX9_numberBehind 25 = .ok (.invokevirtual 33, 3) := by decide +kernel
theorem dX9_numberBehind_28 : decode cX9_numberBehind 28 = .ok (.aload_n 0, 1) := by decide +kernel
theorem dX9_numberBehind_29 : decode cX9_numberBehind 29 = .ok (.getfield 36, 3) := by decide +kernel
theorem dX9_numberBehind_32 : decode cX9_numberBehind 32 = .ok (.iconst 2, 1) := by decide +kernel
theorem dX9_numberBehind_33 : decode cX9_numberBehind 33 = .ok (.if_icmp .eq 10, 3) := by decide +kernel
theorem dX9_numberBehind_36 : decode cX9_numberBehind 36 = .ok (.aload_n 0, 1) := by decide +kernel
theorem dX9_numberBehind_37 : decode cX9_numberBehind 37 = .ok (.iconst 1, 1) := by decide +kernel
theorem dX9_numberBehind_38 : decode cX9_numberBehind 38 = .ok (.invokevirtual 65, 3) := by decide +kernel
theorem dX9_numberBehind_41 : decode cX9_numberBehind 41 = .ok (.iconst 0, 1) := by decide +kernel
theorem dX9_numberBehind_42 : decode cX9_numberBehind 42 = .ok (.ireturn, 1) := by decide +kernel
theorem dX9_numberBehind_43 : decode cX9_numberBehind 43 = .ok (.aload_n 0, 1) := by decide +kernel
theorem dX9_numberBehind_44 : decode cX9_numberBehind 44 = .ok (.invokevirtual 120, 3) := by decide +kernel
theorem dX9_numberBehind_47 : decode cX9_numberBehind 47 = .ok (.istore 4, 2) := by decide +kernel
theorem dX9_numberBehind_49 : decode cX9_numberBehind 49 = .ok (.iload 4, 2) := by decide +kernel
theorem dX9_numberBehind_51 : decode cX9_numberBehind 51 = .ok (.iload_n 2, 1) := by decide +kernel
theorem dX9_numberBehind_52 : decode cX9_numberBehind 52 = .ok (.if_icmp .lt 9, 3) := by decide +kernel
theorem dX9_numberBehind_55 : decode cX9_numberBehind 55 = .ok (.iload 4, 2) := by decide +kernel
theorem dX9_numberBehind_57 : decode cX9_numberBehind 57 = .ok (.iload_n 3, 1) := by decide +kernel
theorem dX9_numberBehind_58 : decode cX9_numberBehind 58 = .ok (.if_icmp .le 10, 3) := by decide +kernel
theorem dX9_numberBehind_61 : decode cX9_numberBehind 61 = .ok (.aload_n 0, 1) := by decide +kernel
theorem dX9_numberBehind_62 : decode cX9_numberBehind 62 = .ok (.iconst 2, 1) := by decide +kernel
theorem dX9_numberBehind_63 : decode cX9_numberBehind 63 = .ok (.invokevirtual 65, 3) := by decide +kernel
theorem dX9_numberBehind_66 : decode cX9_numberBehind 66 = .ok (.iconst 0, 1) := by decide +kernel
theorem dX9_numberBehind_67 : decode cX9_numberBehind 67 = .ok (.ireturn, 1) := by decide +kernel
theorem dX9_numberBehind_68 : decode cX9_numberBehind 68 = .ok (.aload_n 0, 1) := by decide +kernel
theorem dX9_numberBehind_69 : decode cX9_numberBehind 69 = .ok (.invokevirtual 33, 3) := by decide +kernel
theorem dX9_numberBehind_72 : decode cX9_numberBehind 72 = .ok (.iload 4, 2) := by decide +kernel
theorem dX9_numberBehind_74 : decode cX9_numberBehind 74 = .ok (.ireturn, 1) := by decide +kernel
theorem dX9_numberHere_0 : decode cX9_numberHere 0 = .ok (.iconst 0, 1) := by decide +kernel
theorem dX9_numberHere_1 : decode cX9_numberHere 1 = .ok (.istore_n 1, 1) := by decide +kernel
theorem dX9_numberHere_2 : decode cX9_numberHere 2 = .ok (.aload_n 0, 1) := by decide +kernel
theorem dX9_numberHere_3 : decode cX9_numberHere 3 = .ok (.getfield 124, 3) := by decide +kernel
theorem dX9_numberHere_6 : decode cX9_numberHere 6 = .ok (.istore_n 2, 1) := by decide +kernel
theorem dX9_numberHere_7 : decode cX9_numberHere 7 = .ok (.iload_n 2, 1) := by decide +kernel
theorem dX9_numberHere_8 : decode cX9_numberHere 8 = .ok (.aload_n 0, 1) := by decide +kernel
theorem dX9_numberHere_9 : decode cX9_numberHere 9 = .ok (.getfield 25, 3) := by decide +kernel
theorem dX9_numberHere_12 : decode cX9_numberHere 12 = .ok (.if_icmp .ge 29, 3) := by decide +kernel
theorem dX9_numberHere_15 : decode cX9_numberHere 15 = .ok (.sipush 999, 3) := by decide +kernel
theorem dX9_numberHere_18 : decode cX9_numberHere 18 = .ok (.iload_n 1, 1) := by decide +kernel
theorem dX9_numberHere_19 : decode cX9_numberHere 19 = .ok (.bipush 10, 2) := by decide +kernel
theorem dX9_numberHere_21 : decode cX9_numberHere 21 = .ok (.imul, 1) := by decide +kernel
theorem dX9_numberHere_22 : decode cX9_numberHere 22 = .ok (.aload_n 0, 1) := by decide +kernel
theorem dX9_numberHere_23 : decode cX9_numberHere 23 = .ok (.iload_n 2, 1) := by decide +kernel
theorem dX9_numberHere_24 : decode cX9_numberHere 24 = .ok (.invokevirtual 127, 3) := by decide +kernel
theorem dX9_numberHere_27 : decode cX9_numberHere 27 = .ok (.iadd, 1) := by decide +kernel
theorem dX9_numberHere_28 : decode cX9_numberHere 28 = .ok (.bipush 48, 2) := by decide +kernel
theorem dX9_numberHere_30 : decode cX9_numberHere 30 = .ok (.isub, 1) := by decide +kernel
theorem dX9_numberHere_31 : decode cX9_numberHere 31 = .ok (.invokestatic 131, 3) := by decide +kernel
theorem dX9_numberHere_34 : decode cX9_numberHere 34 = .ok (.istore_n 1, 1) := by decide +kernel
theorem dX9_numberHere_35 : decode cX9_numberHere 35 = .ok (.iinc 2 1, 3) := by decide +kernel
theorem dX9_numberHere_38 : decode cX9_numberHere 38 = .ok (.goto (-31), 3) := by decide +kernel
theorem dX9_numberHere_41 : decode cX9_numberHere 41 = .ok (.iload_n 1, 1) := by decide +kernel
theorem dX9_numberHere_42 : decode cX9_numberHere 42 = .ok (.ireturn, 1) := by decide +kernel
theorem dX9_fail_0 : decode cX9_fail 0 = .ok (.aload_n 0, 1) := by decide +kernel
theorem dX9_fail_1 : decode cX9_fail 1 = .ok (.getfield 22, 3) := by decide +kernel
theorem dX9_fail_4 : decode cX9_fail 4 = .ok (.ifCond .ne 16, 3) := by decide +kernel
theorem dX9_fail_7 : decode cX9_fail 7 = .ok (.aload_n 0, 1) := by decide +kernel
theorem dX9_fail_8 : decode cX9_fail 8 = .ok (.iload_n 1, 1) := by decide +kernel
theorem dX9_fail_9 : decode cX9_fail 9 = .ok (.putfield 22, 3) := by decide +kernel
theorem dX9_fail_12 : decode cX9_fail 12 = .ok (.aload_n 0, 1) := by decide +kernel
theorem dX9_fail_13 : decode cX9_fail 13 = .ok (.aload_n 0, 1) := by decide +kernel
theorem dX9_fail_14 : decode cX9_fail 14 = .ok (.getfield 124, 3) := by decide +kernel
theorem dX9_fail_17 : decode cX9_fail 17 = .ok (.putfield 15, 3) := by decide +kernel
theorem dX9_fail_20 : decode cX9_fail 20 = .ok (.return_, 1) := by decide +kernel
theorem dX9_isWord_0 : decode cX9_isWord 0 = .ok (.aload_n 0, 1) := by decide +kernel
theorem dX9_isWord_1 : decode cX9_isWord 1 = .ok (.getfield 36, 3) := by decide +kernel
theorem dX9_isWord_4 : decode cX9_isWord 4 = .ok (.iconst 1, 1) := by decide +kernel
theorem dX9_isWord_5 : decode cX9_isWord 5 = .ok (.if_icmp .ne 19, 3) := by decide +kernel
theorem dX9_isWord_8 : decode cX9_isWord 8 = .ok (.aload_n 0, 1) := by decide +kernel
theorem dX9_isWord_9 : decode cX9_isWord 9 = .ok (.getfield 25, 3) := by decide +kernel
theorem dX9_isWord_12 : decode cX9_isWord 12 = .ok (.aload_n 0, 1) := by decide +kernel
theorem dX9_isWord_13 : decode cX9_isWord 13 = .ok (.getfield 124, 3) := by decide +kernel
theorem dX9_isWord_16 : decode cX9_isWord 16 = .ok (.isub, 1) := by decide +kernel
theorem dX9_isWord_17 : decode cX9_isWord 17 = .ok (.aload_n 1, 1) := by decide +kernel
theorem dX9_isWord_18 : decode cX9_isWord 18 = .ok (.invokevirtual 137, 3) := by decide +kernel
theorem dX9_isWord_21 : decode cX9_isWord 21 = .ok (.if_icmp .eq 5, 3) := by decide +kernel
theorem dX9_isWord_24 : decode cX9_isWord 24 = .ok (.iconst 0, 1) := by decide +kernel
theorem dX9_isWord_25 : decode cX9_isWord 25 = .ok (.ireturn, 1) := by decide +kernel
theorem dX9_isWord_26 : decode cX9_isWord 26 = .ok (.iconst 0, 1) := by decide +kernel
theorem dX9_isWord_27 : decode cX9_isWord 27 = .ok (.istore_n 2, 1) := by decide +kernel
theorem dX9_isWord_28 : decode cX9_isWord 28 = .ok (.iload_n 2, 1) := by decide +kernel
theorem dX9_isWord_29 : decode cX9_isWord 29 = .ok (.aload_n 1, 1) := by decide +kernel
theorem dX9_isWord_30 : decode cX9_isWord 30 = .ok (.invokevirtual 137, 3) := by decide +kernel
theorem dX9_isWord_33 : decode cX9_isWord 33 = .ok (.if_icmp .ge 29, 3) := by decide +kernel
theorem dX9_isWord_36 : decode cX9_isWord 36 = .ok (.aload_n 0, 1) := by decide +kernel
theorem dX9_isWord_37 : decode cX9_isWord 37 = .ok (.aload_n 0, 1) := by decide +kernel
theorem dX9_isWord_38 : decode cX9_isWord 38 = .ok (.getfield 124, 3) := by decide +kernel
theorem dX9_isWord_41 : decode cX9_isWord 41 = .ok (.iload_n 2, 1) := by decide +kernel
theorem dX9_isWord_42 : decode cX9_isWord 42 = .ok (.iadd, 1) := by decide +kernel
theorem dX9_isWord_43 : decode cX9_isWord 43 = .ok (.invokevirtual 127, 3) := by decide +kernel
theorem dX9_isWord_46 : decode cX9_isWord 46 = .ok (.aload_n 1, 1) := by decide +kernel
theorem dX9_isWord_47 : decode cX9_isWord 47 = .ok (.iload_n 2, 1) := by decide +kernel
theorem dX9_isWord_48 : decode cX9_isWord 48 = .ok (.invokevirtual 141, 3) := by decide +kernel
theorem dX9_isWord_51 : decode cX9_isWord 51 = .ok (.if_icmp .eq 5, 3) := by decide +kernel
theorem dX9_isWord_54 : decode cX9_isWord 54 = .ok (.iconst 0, 1) := by decide +kernel
theorem dX9_isWord_55 : decode cX9_isWord 55 = .ok (.ireturn, 1) := by decide +kernel
theorem dX9_isWord_56 : decode cX9_isWord 56 = .ok (.iinc 2 1, 3) := by decide +kernel
theorem dX9_isWord_59 : decode cX9_isWord 59 = .ok (.goto (-31), 3) := by decide +kernel
theorem dX9_isWord_62 : decode cX9_isWord 62 = .ok (.iconst 1, 1) := by decide +kernel
theorem dX9_isWord_63 : decode cX9_isWord 63 = .ok (.ireturn, 1) := by decide +kernel
theorem dX9_step_0 : decode cX9_step 0 = .ok (.aload_n 0, 1) := by decide +kernel
theorem dX9_step_1 : decode cX9_step 1 = .ok (.aload_n 0, 1) := by decide +kernel
theorem dX9_step_2 : decode cX9_step 2 = .ok (.getfield 25, 3) := by decide +kernel
theorem dX9_step_5 : decode cX9_step 5 = .ok (.putfield 124, 3) := by decide +kernel
theorem dX9_step_8 : decode cX9_step 8 = .ok (.aload_n 0, 1) := by decide +kernel
theorem dX9_step_9 : decode cX9_step 9 = .ok (.getfield 124, 3) := by decide +kernel
theorem dX9_step_12 : decode cX9_step 12 = .ok (.aload_n 0, 1) := by decide +kernel
theorem dX9_step_13 : decode cX9_step 13 = .ok (.getfield 19, 3) := by decide +kernel
theorem dX9_step_16 : decode cX9_step 16 = .ok (.if_icmp .ge 28, 3) := by decide +kernel
theorem dX9_step_19 : decode cX9_step 19 = .ok (.aload_n 0, 1) := by decide +kernel
theorem dX9_step_20 : decode cX9_step 20 = .ok (.aload_n 0, 1) := by decide +kernel
theorem dX9_step_21 : decode cX9_step 21 = .ok (.getfield 124, 3) := by decide +kernel
theorem dX9_step_24 : decode cX9_step 24 = .ok (.invokevirtual 145, 3) := by decide +kernel
theorem dX9_step_27 : decode cX9_step 27 = .ok (.iconst 4, 1) := by decide +kernel
theorem dX9_step_28 : decode cX9_step 28 = .ok (.if_icmp .ne 16, 3) := by decide +kernel
theorem dX9_step_31 : decode cX9_step 31 = .ok (.aload_n 0, 1) := by decide +kernel
theorem dX9_step_32 : decode cX9_step 32 = .ok (.dup, 1) := by decide +kernel
theorem dX9_step_33 : decode cX9_step 33 = .ok (.getfield 124, 3) := by decide +kernel
theorem dX9_step_36 : decode cX9_step 36 = .ok (.iconst 1, 1) := by decide +kernel
theorem dX9_step_37 : decode cX9_step 37 = .ok (.iadd, 1) := by decide +kernel
theorem dX9_step_38 : decode cX9_step 38 = .ok (.putfield 124, 3) := by decide +kernel
theorem dX9_step_41 : decode cX9_step 41 = .ok (.goto (-33), 3) := by decide +kernel
theorem dX9_step_44 : decode cX9_step 44 = .ok (.aload_n 0, 1) := by decide +kernel
theorem dX9_step_45 : decode cX9_step 45 = .ok (.aload_n 0, 1) := by decide +kernel
theorem dX9_step_46 : decode cX9_step 46 = .ok (.getfield 124, 3) := by decide +kernel
theorem dX9_step_49 : decode cX9_step 49 = .ok (.putfield 25, 3) := by decide +kernel
theorem dX9_step_52 : decode cX9_step 52 = .ok (.aload_n 0, 1) := by decide +kernel
theorem dX9_step_53 : decode cX9_step 53 = .ok (.aload_n 0, 1) := by decide +kernel
theorem dX9_step_54 : decode cX9_step 54 = .ok (.aload_n 0, 1) := by decide +kernel
theorem dX9_step_55 : decode cX9_step 55 = .ok (.getfield 124, 3) := by decide +kernel
theorem dX9_step_58 : decode cX9_step 58 = .ok (.invokevirtual 145, 3) := by decide +kernel
theorem dX9_step_61 : decode cX9_step 61 = .ok (.putfield 36, 3) := by decide +kernel
theorem dX9_step_64 : decode cX9_step 64 = .ok (.aload_n 0, 1) := by decide +kernel
theorem dX9_step_65 : decode cX9_step 65 = .ok (.getfield 36, 3) := by decide +kernel
theorem dX9_step_68 : decode cX9_step 68 = .ok (.ifCond .eq 13, 3) := by decide +kernel
theorem dX9_step_71 : decode cX9_step 71 = .ok (.aload_n 0, 1) := by decide +kernel
theorem dX9_step_72 : decode cX9_step 72 = .ok (.dup, 1) := by decide +kernel
theorem dX9_step_73 : decode cX9_step 73 = .ok (.getfield 25, 3) := by decide +kernel
theorem dX9_step_76 : decode cX9_step 76 = .ok (.iconst 1, 1) := by decide +kernel
theorem dX9_step_77 : decode cX9_step 77 = .ok (.iadd, 1) := by decide +kernel
theorem dX9_step_78 : decode cX9_step 78 = .ok (.putfield 25, 3) := by decide +kernel
theorem dX9_step_81 : decode cX9_step 81 = .ok (.aload_n 0, 1) := by decide +kernel
theorem dX9_step_82 : decode cX9_step 82 = .ok (.getfield 36, 3) := by decide +kernel
theorem dX9_step_85 : decode cX9_step 85 = .ok (.iconst 1, 1) := by decide +kernel
theorem dX9_step_86 : decode cX9_step 86 = .ok (.if_icmp .eq 11, 3) := by decide +kernel
theorem dX9_step_89 : decode cX9_step 89 = .ok (.aload_n 0, 1) := by decide +kernel
theorem dX9_step_90 : decode cX9_step 90 = .ok (.getfield 36, 3) := by decide +kernel
theorem dX9_step_93 : decode cX9_step 93 = .ok (.iconst 2, 1) := by decide +kernel
theorem dX9_step_94 : decode cX9_step 94 = .ok (.if_icmp .ne 7, 3) := by decide +kernel
theorem dX9_step_97 : decode cX9_step 97 = .ok (.iconst 1, 1) := by decide +kernel
theorem dX9_step_98 : decode cX9_step 98 = .ok (.goto 4, 3) := by decide +kernel
theorem dX9_step_101 : decode cX9_step 101 = .ok (.iconst 0, 1) := by decide +kernel
theorem dX9_step_102 : decode cX9_step 102 = .ok (.istore_n 1, 1) := by decide +kernel
theorem dX9_step_103 : decode cX9_step 103 = .ok (.iload_n 1, 1) := by decide +kernel
theorem dX9_step_104 : decode cX9_step 104 = .ok (.ifCond .eq 42, 3) := by decide +kernel
theorem dX9_step_107 : decode cX9_step 107 = .ok (.aload_n 0, 1) := by decide +kernel
theorem dX9_step_108 : decode cX9_step 108 = .ok (.getfield 25, 3) := by decide +kernel
theorem dX9_step_111 : decode cX9_step 111 = .ok (.aload_n 0, 1) := by decide +kernel
theorem dX9_step_112 : decode cX9_step 112 = .ok (.getfield 19, 3) := by decide +kernel
theorem dX9_step_115 : decode cX9_step 115 = .ok (.if_icmp .ge 31, 3) := by decide +kernel
theorem dX9_step_118 : decode cX9_step 118 = .ok (.aload_n 0, 1) := by decide +kernel
theorem dX9_step_119 : decode cX9_step 119 = .ok (.aload_n 0, 1) := by decide +kernel
theorem dX9_step_120 : decode cX9_step 120 = .ok (.getfield 25, 3) := by decide +kernel
theorem dX9_step_123 : decode cX9_step 123 = .ok (.invokevirtual 145, 3) := by decide +kernel
theorem dX9_step_126 : decode cX9_step 126 = .ok (.aload_n 0, 1) := by decide +kernel
theorem dX9_step_127 : decode cX9_step 127 = .ok (.getfield 36, 3) := by decide +kernel
theorem dX9_step_130 : decode cX9_step 130 = .ok (.if_icmp .ne 16, 3) := by decide +kernel
theorem dX9_step_133 : decode cX9_step 133 = .ok (.aload_n 0, 1) := by decide +kernel
theorem dX9_step_134 : decode cX9_step 134 = .ok (.dup, 1) := by decide +kernel
theorem dX9_step_135 : decode cX9_step 135 = .ok (.getfield 25, 3) := by decide +kernel
theorem dX9_step_138 : decode cX9_step 138 = .ok (.iconst 1, 1) := by decide +kernel
theorem dX9_step_139 : decode cX9_step 139 = .ok (.iadd, 1) := by decide +kernel
theorem dX9_step_140 : decode cX9_step 140 = .ok (.putfield 25, 3) := by decide +kernel
theorem dX9_step_143 : decode cX9_step 143 = .ok (.goto (-40), 3) := by decide +kernel
theorem dX9_step_146 : decode cX9_step 146 = .ok (.return_, 1) := by decide +kernel
theorem dX9_kindAt_0 : decode cX9_kindAt 0 = .ok (.iload_n 1, 1) := by decide +kernel
theorem dX9_kindAt_1 : decode cX9_kindAt 1 = .ok (.ifCond .lt 18, 3) := by decide +kernel
theorem dX9_kindAt_4 : decode cX9_kindAt 4 = .ok (.iload_n 1, 1) := by decide +kernel
theorem dX9_kindAt_5 : decode cX9_kindAt 5 = .ok (.aload_n 0, 1) := by decide +kernel
theorem dX9_kindAt_6 : decode cX9_kindAt 6 = .ok (.getfield 19, 3) := by decide +kernel
theorem dX9_kindAt_9 : decode cX9_kindAt 9 = .ok (.if_icmp .ge 10, 3) := by decide +kernel
theorem dX9_kindAt_12 : decode cX9_kindAt 12 = .ok (.iload_n 1, 1) := by decide +kernel
theorem dX9_kindAt_13 : decode cX9_kindAt 13 = .ok (.sipush 600, 3) := by decide +kernel
theorem dX9_kindAt_16 : decode cX9_kindAt 16 = .ok (.if_icmp .lt 5, 3) := by decide +kernel
theorem dX9_kindAt_19 : decode cX9_kindAt 19 = .ok (.iconst 0, 1) := by decide +kernel
theorem dX9_kindAt_20 : decode cX9_kindAt 20 = .ok (.ireturn, 1) := by decide +kernel
theorem dX9_kindAt_21 : decode cX9_kindAt 21 = .ok (.aload_n 0, 1) := by decide +kernel
theorem dX9_kindAt_22 : decode cX9_kindAt 22 = .ok (.getfield 11, 3) := by decide +kernel
theorem dX9_kindAt_25 : decode cX9_kindAt 25 = .ok (.iload_n 1, 1) := by decide +kernel
theorem dX9_kindAt_26 : decode cX9_kindAt 26 = .ok (.baload, 1) := by decide +kernel
theorem dX9_kindAt_27 : decode cX9_kindAt 27 = .ok (.istore_n 2, 1) := by decide +kernel
theorem dX9_kindAt_28 : decode cX9_kindAt 28 = .ok (.iload_n 2, 1) := by decide +kernel
theorem dX9_kindAt_29 : decode cX9_kindAt 29 = .ok (.bipush 97, 2) := by decide +kernel
theorem dX9_kindAt_31 : decode cX9_kindAt 31 = .ok (.if_icmp .lt 11, 3) := by decide +kernel
theorem dX9_kindAt_34 : decode cX9_kindAt 34 = .ok (.iload_n 2, 1) := by decide +kernel
theorem dX9_kindAt_35 : decode cX9_kindAt 35 = .ok (.bipush 122, 2) := by decide +kernel
theorem dX9_kindAt_37 : decode cX9_kindAt 37 = .ok (.if_icmp .gt 5, 3) := by decide +kernel
theorem dX9_kindAt_40 : decode cX9_kindAt 40 = .ok (.iconst 1, 1) := by decide +kernel
theorem dX9_kindAt_41 : decode cX9_kindAt 41 = .ok (.ireturn, 1) := by decide +kernel
theorem dX9_kindAt_42 : decode cX9_kindAt 42 = .ok (.iload_n 2, 1) := by decide +kernel
theorem dX9_kindAt_43 : decode cX9_kindAt 43 = .ok (.bipush 48, 2) := by decide +kernel
theorem dX9_kindAt_45 : decode cX9_kindAt 45 = .ok (.if_icmp .lt 11, 3) := by decide +kernel
theorem dX9_kindAt_48 : decode cX9_kindAt 48 = .ok (.iload_n 2, 1) := by decide +kernel
theorem dX9_kindAt_49 : decode cX9_kindAt 49 = .ok (.bipush 57, 2) := by decide +kernel
theorem dX9_kindAt_51 : decode cX9_kindAt 51 = .ok (.if_icmp .gt 5, 3) := by decide +kernel
theorem dX9_kindAt_54 : decode cX9_kindAt 54 = .ok (.iconst 2, 1) := by decide +kernel
theorem dX9_kindAt_55 : decode cX9_kindAt 55 = .ok (.ireturn, 1) := by decide +kernel
theorem dX9_kindAt_56 : decode cX9_kindAt 56 = .ok (.iload_n 2, 1) := by decide +kernel
theorem dX9_kindAt_57 : decode cX9_kindAt 57 = .ok (.lookupswitch 41 #[(10, 39), (32, 37), (59, 35)], 35) := by decide +kernel
theorem dX9_kindAt_92 : decode cX9_kindAt 92 = .ok (.iconst 3, 1) := by decide +kernel
theorem dX9_kindAt_93 : decode cX9_kindAt 93 = .ok (.ireturn, 1) := by decide +kernel
theorem dX9_kindAt_94 : decode cX9_kindAt 94 = .ok (.iconst 4, 1) := by decide +kernel
theorem dX9_kindAt_95 : decode cX9_kindAt 95 = .ok (.ireturn, 1) := by decide +kernel
theorem dX9_kindAt_96 : decode cX9_kindAt 96 = .ok (.iconst 4, 1) := by decide +kernel
theorem dX9_kindAt_97 : decode cX9_kindAt 97 = .ok (.ireturn, 1) := by decide +kernel
theorem dX9_kindAt_98 : decode cX9_kindAt 98 = .ok (.iconst 5, 1) := by decide +kernel
theorem dX9_kindAt_99 : decode cX9_kindAt 99 = .ok (.ireturn, 1) := by decide +kernel
theorem dX9_byteAt_0 : decode cX9_byteAt 0 = .ok (.iload_n 1, 1) := by decide +kernel
theorem dX9_byteAt_1 : decode cX9_byteAt 1 = .ok (.ifCond .lt 31, 3) := by decide +kernel
theorem dX9_byteAt_4 : decode cX9_byteAt 4 = .ok (.iload_n 1, 1) := by decide +kernel
theorem dX9_byteAt_5 : decode cX9_byteAt 5 = .ok (.aload_n 0, 1) := by decide +kernel
theorem dX9_byteAt_6 : decode cX9_byteAt 6 = .ok (.getfield 19, 3) := by decide +kernel
theorem dX9_byteAt_9 : decode cX9_byteAt 9 = .ok (.if_icmp .ge 23, 3) := by decide +kernel
theorem dX9_byteAt_12 : decode cX9_byteAt 12 = .ok (.iload_n 1, 1) := by decide +kernel
theorem dX9_byteAt_13 : decode cX9_byteAt 13 = .ok (.sipush 600, 3) := by decide +kernel
theorem dX9_byteAt_16 : decode cX9_byteAt 16 = .ok (.if_icmp .ge 16, 3) := by decide +kernel
theorem dX9_byteAt_19 : decode cX9_byteAt 19 = .ok (.aload_n 0, 1) := by decide +kernel
theorem dX9_byteAt_20 : decode cX9_byteAt 20 = .ok (.getfield 11, 3) := by decide +kernel
theorem dX9_byteAt_23 : decode cX9_byteAt 23 = .ok (.iload_n 1, 1) := by decide +kernel
theorem dX9_byteAt_24 : decode cX9_byteAt 24 = .ok (.baload, 1) := by decide +kernel
theorem dX9_byteAt_25 : decode cX9_byteAt 25 = .ok (.sipush 255, 3) := by decide +kernel
theorem dX9_byteAt_28 : decode cX9_byteAt 28 = .ok (.iand, 1) := by decide +kernel
theorem dX9_byteAt_29 : decode cX9_byteAt 29 = .ok (.goto 4, 3) := by decide +kernel
theorem dX9_byteAt_32 : decode cX9_byteAt 32 = .ok (.iconst (-1), 1) := by decide +kernel
theorem dX9_byteAt_33 : decode cX9_byteAt 33 = .ok (.ireturn, 1) := by decide +kernel
theorem dX10_init_0 : decode cX10_init 0 = .ok (.aload_n 0, 1) := by decide +kernel
theorem dX10_init_1 : decode cX10_init 1 = .ok (.invokespecial 3, 3) := by decide +kernel
theorem dX10_init_4 : decode cX10_init 4 = .ok (.aload_n 0, 1) := by decide +kernel
theorem dX10_init_5 : decode cX10_init 5 = .ok (.bipush 60, 2) := by decide +kernel
theorem dX10_init_7 : decode cX10_init 7 = .ok (.newarray .int, 2) := by decide +kernel
theorem dX10_init_9 : decode cX10_init 9 = .ok (.putfield 9, 3) := by decide +kernel
theorem dX10_init_12 : decode cX10_init 12 = .ok (.aload_n 0, 1) := by decide +kernel
theorem dX10_init_13 : decode cX10_init 13 = .ok (.bipush 60, 2) := by decide +kernel
theorem dX10_init_15 : decode cX10_init 15 = .ok (.newarray .int, 2) := by decide +kernel
theorem dX10_init_17 : decode cX10_init 17 = .ok (.putfield 15, 3) := by decide +kernel
theorem dX10_init_20 : decode cX10_init 20 = .ok (.aload_n 0, 1) := by decide +kernel
theorem dX10_init_21 : decode cX10_init 21 = .ok (.iconst 2, 1) := by decide +kernel
theorem dX10_init_22 : decode cX10_init 22 = .ok (.newarray .int, 2) := by decide +kernel
theorem dX10_init_24 : decode cX10_init 24 = .ok (.putfield 18, 3) := by decide +kernel
theorem dX10_init_27 : decode cX10_init 27 = .ok (.aload_n 0, 1) := by decide +kernel
theorem dX10_init_28 : decode cX10_init 28 = .ok (.invokevirtual 21, 3) := by decide +kernel
theorem dX10_init_31 : decode cX10_init 31 = .ok (.return_, 1) := by decide +kernel
theorem dX10_restart_0 : decode cX10_restart 0 = .ok (.aload_n 0, 1) := by decide +kernel
theorem dX10_restart_1 : decode cX10_restart 1 = .ok (.iconst 0, 1) := by decide +kernel
theorem dX10_restart_2 : decode cX10_restart 2 = .ok (.putfield 24, 3) := by decide +kernel
theorem dX10_restart_5 : decode cX10_restart 5 = .ok (.aload_n 0, 1) := by decide +kernel
theorem dX10_restart_6 : decode cX10_restart 6 = .ok (.iconst 0, 1) := by decide +kernel
theorem dX10_restart_7 : decode cX10_restart 7 = .ok (.putfield 28, 3) := by decide +kernel
theorem dX10_restart_10 : decode cX10_restart 10 = .ok (.aload_n 0, 1) := by decide +kernel
theorem dX10_restart_11 : decode cX10_restart 11 = .ok (.iconst 0, 1) := by decide +kernel
theorem dX10_restart_12 : decode cX10_restart 12 = .ok (.putfield 31, 3) := by decide +kernel
theorem dX10_restart_15 : decode cX10_restart 15 = .ok (.aload_n 0, 1) := by decide +kernel
theorem dX10_restart_16 : decode cX10_restart 16 = .ok (.iconst 0, 1) := by decide +kernel
theorem dX10_restart_17 : decode cX10_restart 17 = .ok (.putfield 34, 3) := by decide +kernel
theorem dX10_restart_20 : decode cX10_restart 20 = .ok (.aload_n 0, 1) := by decide +kernel
theorem dX10_restart_21 : decode cX10_restart 21 = .ok (.iconst 0, 1) := by decide +kernel
theorem dX10_restart_22 : decode cX10_restart 22 = .ok (.putfield 37, 3) := by decide +kernel
theorem dX10_restart_25 : decode cX10_restart 25 = .ok (.aload_n 0, 1) := by decide +kernel
theorem dX10_restart_26 : decode cX10_restart 26 = .ok (.iconst 1, 1) := by decide +kernel
theorem dX10_restart_27 : decode cX10_restart 27 = .ok (.putfield 42, 3) := by decide +kernel
theorem dX10_restart_30 : decode cX10_restart 30 = .ok (.aload_n 0, 1) := by decide +kernel
theorem dX10_restart_31 : decode cX10_restart 31 = .ok (.getfield 18, 3) := by decide +kernel
theorem dX10_restart_34 : decode cX10_restart 34 = .ok (.iconst (-1), 1) := by decide +kernel
theorem dX10_restart_35 : decode cX10_restart 35 = .ok (.invokestatic 45, 3) := by decide +kernel
theorem dX10_restart_38 : decode cX10_restart 38 = .ok (.return_, 1) := by decide +kernel
theorem dX10_copyFrom_0 : decode cX10_copyFrom 0 = .ok (.aload_n 1, 1) := by decide +kernel
theorem dX10_copyFrom_1 : decode cX10_copyFrom 1 = .ok (.getfield 9, 3) := by decide +kernel
theorem dX10_copyFrom_4 : decode cX10_copyFrom 4 = .ok (.iconst 0, 1) := by decide +kernel
theorem dX10_copyFrom_5 : decode cX10_copyFrom 5 = .ok (.aload_n 0, 1) := by decide +kernel
theorem dX10_copyFrom_6 : decode cX10_copyFrom 6 = .ok (.getfield 9, 3) := by decide +kernel
theorem dX10_copyFrom_9 : decode cX10_copyFrom 9 = .ok (.iconst 0, 1) := by decide +kernel
theorem dX10_copyFrom_10 : decode cX10_copyFrom 10 = .ok (.bipush 60, 2) := by decide +kernel
theorem dX10_copyFrom_12 : decode cX10_copyFrom 12 = .ok (.invokestatic 51, 3) := by decide +kernel
theorem dX10_copyFrom_15 : decode cX10_copyFrom 15 = .ok (.aload_n 1, 1) := by decide +kernel
theorem dX10_copyFrom_16 : decode cX10_copyFrom 16 = .ok (.getfield 15, 3) := by decide +kernel
theorem dX10_copyFrom_19 : decode cX10_copyFrom 19 = .ok (.iconst 0, 1) := by decide +kernel
theorem dX10_copyFrom_20 : decode cX10_copyFrom 20 = .ok (.aload_n 0, 1) := by decide +kernel
theorem dX10_copyFrom_21 : decode cX10_copyFrom 21 = .ok (.getfield 15, 3) := by decide +kernel
theorem dX10_copyFrom_24 : decode cX10_copyFrom 24 = .ok (.iconst 0, 1) := by decide +kernel
theorem dX10_copyFrom_25 : decode cX10_copyFrom 25 = .ok (.bipush 60, 2) := by decide +kernel
theorem dX10_copyFrom_27 : decode cX10_copyFrom 27 = .ok (.invokestatic 51, 3) := by decide +kernel
theorem dX10_copyFrom_30 : decode cX10_copyFrom 30 = .ok (.aload_n 1, 1) := by decide +kernel
theorem dX10_copyFrom_31 : decode cX10_copyFrom 31 = .ok (.getfield 18, 3) := by decide +kernel
theorem dX10_copyFrom_34 : decode cX10_copyFrom 34 = .ok (.iconst 0, 1) := by decide +kernel
theorem dX10_copyFrom_35 : decode cX10_copyFrom 35 = .ok (.aload_n 0, 1) := by decide +kernel
theorem dX10_copyFrom_36 : decode cX10_copyFrom 36 = .ok (.getfield 18, 3) := by decide +kernel
theorem dX10_copyFrom_39 : decode cX10_copyFrom 39 = .ok (.iconst 0, 1) := by decide +kernel
theorem dX10_copyFrom_40 : decode cX10_copyFrom 40 = .ok (.iconst 2, 1) := by decide +kernel
theorem dX10_copyFrom_41 : decode cX10_copyFrom 41 = .ok (.invokestatic 51, 3) := by decide +kernel
theorem dX10_copyFrom_44 : decode cX10_copyFrom 44 = .ok (.aload_n 0, 1) := by decide +kernel
theorem dX10_copyFrom_45 : decode cX10_copyFrom 45 = .ok (.aload_n 1, 1) := by decide +kernel
theorem dX10_copyFrom_46 : decode cX10_copyFrom 46 = .ok (.getfield 24, 3) := by decide +kernel
theorem dX10_copyFrom_49 : decode cX10_copyFrom 49 = .ok (.putfield 24, 3) := by decide +kernel
theorem dX10_copyFrom_52 : decode cX10_copyFrom 52 = .ok (.aload_n 0, 1) := by decide +kernel
theorem dX10_copyFrom_53 : decode cX10_copyFrom 53 = .ok (.aload_n 1, 1) := by decide +kernel
theorem dX10_copyFrom_54 : decode cX10_copyFrom 54 = .ok (.getfield 28, 3) := by decide +kernel
theorem dX10_copyFrom_57 : decode cX10_copyFrom 57 = .ok (.putfield 28, 3) := by decide +kernel
theorem dX10_copyFrom_60 : decode cX10_copyFrom 60 = .ok (.aload_n 0, 1) := by decide +kernel
theorem dX10_copyFrom_61 : decode cX10_copyFrom 61 = .ok (.aload_n 1, 1) := by decide +kernel
theorem dX10_copyFrom_62 : decode cX10_copyFrom 62 = .ok (.getfield 31, 3) := by decide +kernel
theorem dX10_copyFrom_65 : decode cX10_copyFrom 65 = .ok (.putfield 31, 3) := by decide +kernel
theorem dX10_copyFrom_68 : decode cX10_copyFrom 68 = .ok (.aload_n 0, 1) := by decide +kernel
theorem dX10_copyFrom_69 : decode cX10_copyFrom 69 = .ok (.aload_n 1, 1) := by decide +kernel
theorem dX10_copyFrom_70 : decode cX10_copyFrom 70 = .ok (.getfield 34, 3) := by decide +kernel
theorem dX10_copyFrom_73 : decode cX10_copyFrom 73 = .ok (.putfield 34, 3) := by decide +kernel
theorem dX10_copyFrom_76 : decode cX10_copyFrom 76 = .ok (.aload_n 0, 1) := by decide +kernel
theorem dX10_copyFrom_77 : decode cX10_copyFrom 77 = .ok (.aload_n 1, 1) := by decide +kernel
theorem dX10_copyFrom_78 : decode cX10_copyFrom 78 = .ok (.getfield 37, 3) := by decide +kernel
theorem dX10_copyFrom_81 : decode cX10_copyFrom 81 = .ok (.putfield 37, 3) := by decide +kernel
theorem dX10_copyFrom_84 : decode cX10_copyFrom 84 = .ok (.aload_n 0, 1) := by decide +kernel
theorem dX10_copyFrom_85 : decode cX10_copyFrom 85 = .ok (.aload_n 1, 1) := by decide +kernel
theorem dX10_copyFrom_86 : decode cX10_copyFrom 86 = .ok (.getfield 42, 3) := by decide +kernel
theorem dX10_copyFrom_89 : decode cX10_copyFrom 89 = .ok (.putfield 42, 3) := by decide +kernel
theorem dX10_copyFrom_92 : decode cX10_copyFrom 92 = .ok (.return_, 1) := by decide +kernel
theorem dX10_replay_0 : decode cX10_replay 0 = .ok (.aload_n 0, 1) := by decide +kernel
theorem dX10_replay_1 : decode cX10_replay 1 = .ok (.invokevirtual 21, 3) := by decide +kernel
theorem dX10_replay_4 : decode cX10_replay 4 = .ok (.iconst 0, 1) := by decide +kernel
theorem dX10_replay_5 : decode cX10_replay 5 = .ok (.istore_n 3, 1) := by decide +kernel
theorem dX10_replay_6 : decode cX10_replay 6 = .ok (.iload_n 3, 1) := by decide +kernel
theorem dX10_replay_7 : decode cX10_replay 7 = .ok (.iload_n 2, 1) := by decide +kernel
theorem dX10_replay_8 : decode cX10_replay 8 = .ok (.if_icmp .ge 27, 3) := by decide +kernel
theorem dX10_replay_11 : decode cX10_replay 11 = .ok (.iload_n 3, 1) := by decide +kernel
theorem dX10_replay_12 : decode cX10_replay 12 = .ok (.bipush 60, 2) := by decide +kernel
theorem dX10_replay_14 : decode cX10_replay 14 = .ok (.if_icmp .ge 21, 3) := by decide +kernel
theorem dX10_replay_17 : decode cX10_replay 17 = .ok (.aload_n 0, 1) := by decide +kernel
theorem dX10_replay_18 : decode cX10_replay 18 = .ok (.aload_n 1, 1) := by decide +kernel
theorem dX10_replay_19 : decode cX10_replay 19 = .ok (.aload_n 0, 1) := by decide +kernel
theorem dX10_replay_20 : decode cX10_replay 20 = .ok (.getfield 9, 3) := by decide +kernel
theorem dX10_replay_23 : decode cX10_replay 23 = .ok (.iload_n 3, 1) := by decide +kernel
theorem dX10_replay_24 : decode cX10_replay 24 = .ok (.iaload, 1) := by decide +kernel
theorem dX10_replay_25 : decode cX10_replay 25 = .ok (.invokevirtual 57, 3) := by decide +kernel
theorem dX10_replay_28 : decode cX10_replay 28 = .ok (.pop, 1) := by decide +kernel
theorem dX10_replay_29 : decode cX10_replay 29 = .ok (.iinc 3 1, 3) := by decide +kernel
theorem dX10_replay_32 : decode cX10_replay 32 = .ok (.goto (-26), 3) := by decide +kernel
theorem dX10_replay_35 : decode cX10_replay 35 = .ok (.return_, 1) := by decide +kernel
theorem dX10_hindrance_0 : decode cX10_hindrance 0 = .ok (.aload_n 0, 1) := by decide +kernel
theorem dX10_hindrance_1 : decode cX10_hindrance 1 = .ok (.getfield 34, 3) := by decide +kernel
theorem dX10_hindrance_4 : decode cX10_hindrance 4 = .ok (.iconst 1, 1) := by decide +kernel
theorem dX10_hindrance_5 : decode cX10_hindrance 5 = .ok (.if_icmp .ne 10, 3) := by decide +kernel
theorem dX10_hindrance_8 : decode cX10_hindrance 8 = .ok (.aload_n 0, 1) := by decide +kernel
theorem dX10_hindrance_9 : decode cX10_hindrance 9 = .ok (.getfield 31, 3) := by decide +kernel
theorem dX10_hindrance_12 : decode cX10_hindrance 12 = .ok (.goto 14, 3) := by decide +kernel
theorem dX10_hindrance_15 : decode cX10_hindrance 15 = .ok (.aload_n 1, 1) := by decide +kernel
theorem dX10_hindrance_16 : decode cX10_hindrance 16 = .ok (.invokevirtual 61, 3) := by decide +kernel
theorem dX10_hindrance_19 : decode cX10_hindrance 19 = .ok (.aload_n 0, 1) := by decide +kernel
theorem dX10_hindrance_20 : decode cX10_hindrance 20 = .ok (.getfield 31, 3) := by decide +kernel
theorem dX10_hindrance_23 : decode cX10_hindrance 23 = .ok (.iconst (-1), 1) := by decide +kernel
theorem dX10_hindrance_24 : decode cX10_hindrance 24 = .ok (.ixor, 1) := by decide +kernel
theorem dX10_hindrance_25 : decode cX10_hindrance 25 = .ok (.iand, 1) := by decide +kernel
theorem dX10_hindrance_26 : decode cX10_hindrance 26 = .ok (.istore 5, 2) := by decide +kernel
theorem dX10_hindrance_28 : decode cX10_hindrance 28 = .ok (.iload 5, 2) := by decide +kernel
theorem dX10_hindrance_30 : decode cX10_hindrance 30 = .ok (.iload_n 2, 1) := by decide +kernel
theorem dX10_hindrance_31 : decode cX10_hindrance 31 = .ok (.invokestatic 67, 3) := by decide +kernel
theorem dX10_hindrance_34 : decode cX10_hindrance 34 = .ok (.ifCond .ne 5, 3) := by decide +kernel
theorem dX10_hindrance_37 : decode cX10_hindrance 37 = .ok (.iconst 1, 1) := by decide +kernel
theorem dX10_hindrance_38 : decode cX10_hindrance 38 = .ok (.ireturn, 1) := by decide +kernel
theorem dX10_hindrance_39 : decode cX10_hindrance 39 = .ok (.aload_n 1, 1) := by decide +kernel
theorem dX10_hindrance_40 : decode cX10_hindrance 40 = .ok (.getfield 71, 3) := by decide +kernel
theorem dX10_hindrance_43 : decode cX10_hindrance 43 = .ok (.iload_n 2, 1) := by decide +kernel
theorem dX10_hindrance_44 : decode cX10_hindrance 44 = .ok (.iaload, 1) := by decide +kernel
theorem dX10_hindrance_45 : decode cX10_hindrance 45 = .ok (.iconst 1, 1) := by decide +kernel
theorem dX10_hindrance_46 : decode cX10_hindrance 46 = .ok (.if_icmp .ne 5, 3) := by decide +kernel
theorem dX10_hindrance_49 : decode cX10_hindrance 49 = .ok (.iconst 2, 1) := by decide +kernel
theorem dX10_hindrance_50 : decode cX10_hindrance 50 = .ok (.ireturn, 1) := by decide +kernel
theorem dX10_hindrance_51 : decode cX10_hindrance 51 = .ok (.iload_n 3, 1) := by decide +kernel
theorem dX10_hindrance_52 : decode cX10_hindrance 52 = .ok (.iconst (-1), 1) := by decide +kernel
theorem dX10_hindrance_53 : decode cX10_hindrance 53 = .ok (.if_icmp .eq 19, 3) := by decide +kernel
theorem dX10_hindrance_56 : decode cX10_hindrance 56 = .ok (.iload 5, 2) := by decide +kernel
theorem dX10_hindrance_58 : decode cX10_hindrance 58 = .ok (.aload_n 1, 1) := by decide +kernel
theorem dX10_hindrance_59 : decode cX10_hindrance 59 = .ok (.invokevirtual 74, 3) := by decide +kernel
theorem dX10_hindrance_62 : decode cX10_hindrance 62 = .ok (.iand, 1) := by decide +kernel
theorem dX10_hindrance_63 : decode cX10_hindrance 63 = .ok (.iload_n 3, 1) := by decide +kernel
theorem dX10_hindrance_64 : decode cX10_hindrance 64 = .ok (.invokestatic 67, 3) := by decide +kernel
theorem dX10_hindrance_67 : decode cX10_hindrance 67 = .ok (.ifCond .ne 5, 3) := by decide +kernel
theorem dX10_hindrance_70 : decode cX10_hindrance 70 = .ok (.iconst 3, 1) := by decide +kernel
theorem dX10_hindrance_71 : decode cX10_hindrance 71 = .ok (.ireturn, 1) := by decide +kernel
theorem dX10_hindrance_72 : decode cX10_hindrance 72 = .ok (.aload_n 1, 1) := by decide +kernel
theorem dX10_hindrance_73 : decode cX10_hindrance 73 = .ok (.aload_n 0, 1) := by decide +kernel
theorem dX10_hindrance_74 : decode cX10_hindrance 74 = .ok (.getfield 18, 3) := by decide +kernel
theorem dX10_hindrance_77 : decode cX10_hindrance 77 = .ok (.iload 4, 2) := by decide +kernel
theorem dX10_hindrance_79 : decode cX10_hindrance 79 = .ok (.iaload, 1) := by decide +kernel
theorem dX10_hindrance_80 : decode cX10_hindrance 80 = .ok (.iload 4, 2) := by decide +kernel
theorem dX10_hindrance_82 : decode cX10_hindrance 82 = .ok (.invokevirtual 77, 3) := by decide +kernel
theorem dX10_hindrance_85 : decode cX10_hindrance 85 = .ok (.iload_n 2, 1) := by decide +kernel
theorem dX10_hindrance_86 : decode cX10_hindrance 86 = .ok (.invokestatic 67, 3) := by decide +kernel
theorem dX10_hindrance_89 : decode cX10_hindrance 89 = .ok (.ifCond .ne 5, 3) := by decide +kernel
theorem dX10_hindrance_92 : decode cX10_hindrance 92 = .ok (.iconst 4, 1) := by decide +kernel
theorem dX10_hindrance_93 : decode cX10_hindrance 93 = .ok (.ireturn, 1) := by decide +kernel
theorem dX10_hindrance_94 : decode cX10_hindrance 94 = .ok (.aload_n 0, 1) := by decide +kernel
theorem dX10_hindrance_95 : decode cX10_hindrance 95 = .ok (.getfield 42, 3) := by decide +kernel
theorem dX10_hindrance_98 : decode cX10_hindrance 98 = .ok (.aload_n 0, 1) := by decide +kernel
theorem dX10_hindrance_99 : decode cX10_hindrance 99 = .ok (.getfield 34, 3) := by decide +kernel
theorem dX10_hindrance_102 : decode cX10_hindrance 102 = .ok (.aload_n 1, 1) := by decide +kernel
theorem dX10_hindrance_103 : decode cX10_hindrance 103 = .ok (.getfield 81, 3) := by decide +kernel
theorem dX10_hindrance_106 : decode cX10_hindrance 106 = .ok (.iload 4, 2) := by decide +kernel
theorem dX10_hindrance_108 : decode cX10_hindrance 108 = .ok (.iaload, 1) := by decide +kernel
theorem dX10_hindrance_109 : decode cX10_hindrance 109 = .ok (.invokestatic 84, 3) := by decide +kernel
theorem dX10_hindrance_112 : decode cX10_hindrance 112 = .ok (.ifCond .eq 7, 3) := by decide +kernel
theorem dX10_hindrance_115 : decode cX10_hindrance 115 = .ok (.iconst 0, 1) := by decide +kernel
theorem dX10_hindrance_116 : decode cX10_hindrance 116 = .ok (.goto 4, 3) := by decide +kernel
theorem dX10_hindrance_119 : decode cX10_hindrance 119 = .ok (.iconst 5, 1) := by decide +kernel
theorem dX10_hindrance_120 : decode cX10_hindrance 120 = .ok (.ireturn, 1) := by decide +kernel
theorem dX10_isIn_0 : decode cX10_isIn 0 = .ok (.iload_n 0, 1) := by decide +kernel
theorem dX10_isIn_1 : decode cX10_isIn 1 = .ok (.iload_n 1, 1) := by decide +kernel
theorem dX10_isIn_2 : decode cX10_isIn 2 = .ok (.ishr, 1) := by decide +kernel
theorem dX10_isIn_3 : decode cX10_isIn 3 = .ok (.iconst 1, 1) := by decide +kernel
theorem dX10_isIn_4 : decode cX10_isIn 4 = .ok (.iand, 1) := by decide +kernel
theorem dX10_isIn_5 : decode cX10_isIn 5 = .ok (.iconst 1, 1) := by decide +kernel
theorem dX10_isIn_6 : decode cX10_isIn 6 = .ok (.if_icmp .ne 7, 3) := by decide +kernel
theorem dX10_isIn_9 : decode cX10_isIn 9 = .ok (.iconst 1, 1) := by decide +kernel
theorem dX10_isIn_10 : decode cX10_isIn 10 = .ok (.goto 4, 3) := by decide +kernel
theorem dX10_isIn_13 : decode cX10_isIn 13 = .ok (.iconst 0, 1) := by decide +kernel
theorem dX10_isIn_14 : decode cX10_isIn 14 = .ok (.ireturn, 1) := by decide +kernel
theorem dX10_tries_0 : decode cX10_tries 0 = .ok (.iload_n 2, 1) := by decide +kernel
theorem dX10_tries_1 : decode cX10_tries 1 = .ok (.sipush 200, 3) := by decide +kernel
theorem dX10_tries_4 : decode cX10_tries 4 = .ok (.if_icmp .ne 10, 3) := by decide +kernel
theorem dX10_tries_7 : decode cX10_tries 7 = .ok (.aload_n 0, 1) := by decide +kernel
theorem dX10_tries_8 : decode cX10_tries 8 = .ok (.aload_n 1, 1) := by decide +kernel
theorem dX10_tries_9 : decode cX10_tries 9 = .ok (.invokevirtual 88, 3) := by decide +kernel
theorem dX10_tries_12 : decode cX10_tries 12 = .ok (.iconst 1, 1) := by decide +kernel
theorem dX10_tries_13 : decode cX10_tries 13 = .ok (.ireturn, 1) := by decide +kernel
theorem dX10_tries_14 : decode cX10_tries 14 = .ok (.iload_n 2, 1) := by decide +kernel
theorem dX10_tries_15 : decode cX10_tries 15 = .ok (.invokestatic 92, 3) := by decide +kernel
theorem dX10_tries_18 : decode cX10_tries 18 = .ok (.istore_n 3, 1) := by decide +kernel
theorem dX10_tries_19 : decode cX10_tries 19 = .ok (.iload_n 2, 1) := by decide +kernel
theorem dX10_tries_20 : decode cX10_tries 20 = .ok (.invokestatic 96, 3) := by decide +kernel
theorem dX10_tries_23 : decode cX10_tries 23 = .ok (.istore 4, 2) := by decide +kernel
theorem dX10_tries_25 : decode cX10_tries 25 = .ok (.iload_n 2, 1) := by decide +kernel
theorem dX10_tries_26 : decode cX10_tries 26 = .ok (.invokestatic 99, 3) := by decide +kernel
theorem dX10_tries_29 : decode cX10_tries 29 = .ok (.istore 5, 2) := by decide +kernel
theorem dX10_tries_31 : decode cX10_tries 31 = .ok (.aload_n 0, 1) := by decide +kernel
theorem dX10_tries_32 : decode cX10_tries 32 = .ok (.aload_n 1, 1) := by decide +kernel
theorem dX10_tries_33 : decode cX10_tries 33 = .ok (.iload_n 3, 1) := by decide +kernel
theorem dX10_tries_34 : decode cX10_tries 34 = .ok (.iload 4, 2) := by decide +kernel
theorem dX10_tries_36 : decode cX10_tries 36 = .ok (.iload 5, 2) := by decide +kernel
theorem dX10_tries_38 : decode cX10_tries 38 = .ok (.invokevirtual 102, 3) := by decide +kernel
theorem dX10_tries_41 : decode cX10_tries 41 = .ok (.ifCond .eq 5, 3) := by decide +kernel
theorem dX10_tries_44 : decode cX10_tries 44 = .ok (.iconst 0, 1) := by decide +kernel
theorem dX10_tries_45 : decode cX10_tries 45 = .ok (.ireturn, 1) := by decide +kernel
theorem dX10_tries_46 : decode cX10_tries 46 = .ok (.aload_n 0, 1) := by decide +kernel
theorem dX10_tries_47 : decode cX10_tries 47 = .ok (.aload_n 1, 1) := by decide +kernel
theorem dX10_tries_48 : decode cX10_tries 48 = .ok (.iload_n 3, 1) := by decide +kernel
theorem dX10_tries_49 : decode cX10_tries 49 = .ok (.iload 4, 2) := by decide +kernel
theorem dX10_tries_51 : decode cX10_tries 51 = .ok (.iload 5, 2) := by decide +kernel
theorem dX10_tries_53 : decode cX10_tries 53 = .ok (.invokevirtual 106, 3) := by decide +kernel
theorem dX10_tries_56 : decode cX10_tries 56 = .ok (.iconst 1, 1) := by decide +kernel
theorem dX10_tries_57 : decode cX10_tries 57 = .ok (.ireturn, 1) := by decide +kernel
theorem dX10_pass_0 : decode cX10_pass 0 = .ok (.aload_n 0, 1) := by decide +kernel
theorem dX10_pass_1 : decode cX10_pass 1 = .ok (.iload_n 2, 1) := by decide +kernel
theorem dX10_pass_2 : decode cX10_pass 2 = .ok (.iload_n 3, 1) := by decide +kernel
theorem dX10_pass_3 : decode cX10_pass 3 = .ok (.iload 4, 2) := by decide +kernel
theorem dX10_pass_5 : decode cX10_pass 5 = .ok (.invokestatic 110, 3) := by decide +kernel
theorem dX10_pass_8 : decode cX10_pass 8 = .ok (.invokevirtual 114, 3) := by decide +kernel
theorem dX10_pass_11 : decode cX10_pass 11 = .ok (.aload_n 0, 1) := by decide +kernel
theorem dX10_pass_12 : decode cX10_pass 12 = .ok (.getfield 28, 3) := by decide +kernel
theorem dX10_pass_15 : decode cX10_pass 15 = .ok (.bipush 60, 2) := by decide +kernel
theorem dX10_pass_17 : decode cX10_pass 17 = .ok (.if_icmp .ge 32, 3) := by decide +kernel
theorem dX10_pass_20 : decode cX10_pass 20 = .ok (.aload_n 0, 1) := by decide +kernel
theorem dX10_pass_21 : decode cX10_pass 21 = .ok (.getfield 15, 3) := by decide +kernel
theorem dX10_pass_24 : decode cX10_pass 24 = .ok (.aload_n 0, 1) := by decide +kernel
theorem dX10_pass_25 : decode cX10_pass 25 = .ok (.getfield 28, 3) := by decide +kernel
theorem dX10_pass_28 : decode cX10_pass 28 = .ok (.bipush 10, 2) := by decide +kernel
theorem dX10_pass_30 : decode cX10_pass 30 = .ok (.iload 4, 2) := by decide +kernel
theorem dX10_pass_32 : decode cX10_pass 32 = .ok (.imul, 1) := by decide +kernel
theorem dX10_pass_33 : decode cX10_pass 33 = .ok (.aload_n 0, 1) := by decide +kernel
theorem dX10_pass_34 : decode cX10_pass 34 = .ok (.getfield 34, 3) := by decide +kernel
theorem dX10_pass_37 : decode cX10_pass 37 = .ok (.iadd, 1) := by decide +kernel
theorem dX10_pass_38 : decode cX10_pass 38 = .ok (.iastore, 1) := by decide +kernel
theorem dX10_pass_39 : decode cX10_pass 39 = .ok (.aload_n 0, 1) := by decide +kernel
theorem dX10_pass_40 : decode cX10_pass 40 = .ok (.dup, 1) := by decide +kernel
theorem dX10_pass_41 : decode cX10_pass 41 = .ok (.getfield 28, 3) := by decide +kernel
theorem dX10_pass_44 : decode cX10_pass 44 = .ok (.iconst 1, 1) := by decide +kernel
theorem dX10_pass_45 : decode cX10_pass 45 = .ok (.iadd, 1) := by decide +kernel
theorem dX10_pass_46 : decode cX10_pass 46 = .ok (.putfield 28, 3) := by decide +kernel
theorem dX10_pass_49 : decode cX10_pass 49 = .ok (.aload_n 0, 1) := by decide +kernel
theorem dX10_pass_50 : decode cX10_pass 50 = .ok (.aload_n 0, 1) := by decide +kernel
theorem dX10_pass_51 : decode cX10_pass 51 = .ok (.getfield 42, 3) := by decide +kernel
theorem dX10_pass_54 : decode cX10_pass 54 = .ok (.aload_n 0, 1) := by decide +kernel
theorem dX10_pass_55 : decode cX10_pass 55 = .ok (.getfield 34, 3) := by decide +kernel
theorem dX10_pass_58 : decode cX10_pass 58 = .ok (.invokestatic 118, 3) := by decide +kernel
theorem dX10_pass_61 : decode cX10_pass 61 = .ok (.putfield 42, 3) := by decide +kernel
theorem dX10_pass_64 : decode cX10_pass 64 = .ok (.aload_n 0, 1) := by decide +kernel
theorem dX10_pass_65 : decode cX10_pass 65 = .ok (.dup, 1) := by decide +kernel
theorem dX10_pass_66 : decode cX10_pass 66 = .ok (.getfield 31, 3) := by decide +kernel
theorem dX10_pass_69 : decode cX10_pass 69 = .ok (.iconst 1, 1) := by decide +kernel
theorem dX10_pass_70 : decode cX10_pass 70 = .ok (.iload_n 2, 1) := by decide +kernel
theorem dX10_pass_71 : decode cX10_pass 71 = .ok (.ishl, 1) := by decide +kernel
theorem dX10_pass_72 : decode cX10_pass 72 = .ok (.ixor, 1) := by decide +kernel
theorem dX10_pass_73 : decode cX10_pass 73 = .ok (.putfield 31, 3) := by decide +kernel
theorem dX10_pass_76 : decode cX10_pass 76 = .ok (.iload_n 3, 1) := by decide +kernel
theorem dX10_pass_77 : decode cX10_pass 77 = .ok (.iconst (-1), 1) := by decide +kernel
theorem dX10_pass_78 : decode cX10_pass 78 = .ok (.if_icmp .eq 15, 3) := by decide +kernel
theorem dX10_pass_81 : decode cX10_pass 81 = .ok (.aload_n 0, 1) := by decide +kernel
theorem dX10_pass_82 : decode cX10_pass 82 = .ok (.dup, 1) := by decide +kernel
theorem dX10_pass_83 : decode cX10_pass 83 = .ok (.getfield 31, 3) := by decide +kernel
theorem dX10_pass_86 : decode cX10_pass 86 = .ok (.iconst 1, 1) := by decide +kernel
theorem dX10_pass_87 : decode cX10_pass 87 = .ok (.iload_n 3, 1) := by decide +kernel
theorem dX10_pass_88 : decode cX10_pass 88 = .ok (.ishl, 1) := by decide +kernel
theorem dX10_pass_89 : decode cX10_pass 89 = .ok (.ixor, 1) := by decide +kernel
theorem dX10_pass_90 : decode cX10_pass 90 = .ok (.putfield 31, 3) := by decide +kernel
theorem dX10_pass_93 : decode cX10_pass 93 = .ok (.aload_n 0, 1) := by decide +kernel
theorem dX10_pass_94 : decode cX10_pass 94 = .ok (.iconst 1, 1) := by decide +kernel
theorem dX10_pass_95 : decode cX10_pass 95 = .ok (.aload_n 0, 1) := by decide +kernel
theorem dX10_pass_96 : decode cX10_pass 96 = .ok (.getfield 34, 3) := by decide +kernel
theorem dX10_pass_99 : decode cX10_pass 99 = .ok (.isub, 1) := by decide +kernel
theorem dX10_pass_100 : decode cX10_pass 100 = .ok (.putfield 34, 3) := by decide +kernel
theorem dX10_pass_103 : decode cX10_pass 103 = .ok (.aload_n 0, 1) := by decide +kernel
theorem dX10_pass_104 : decode cX10_pass 104 = .ok (.dup, 1) := by decide +kernel
theorem dX10_pass_105 : decode cX10_pass 105 = .ok (.getfield 37, 3) := by decide +kernel
theorem dX10_pass_108 : decode cX10_pass 108 = .ok (.iconst 1, 1) := by decide +kernel
theorem dX10_pass_109 : decode cX10_pass 109 = .ok (.iadd, 1) := by decide +kernel
theorem dX10_pass_110 : decode cX10_pass 110 = .ok (.putfield 37, 3) := by decide +kernel
theorem dX10_pass_113 : decode cX10_pass 113 = .ok (.iconst 0, 1) := by decide +kernel
theorem dX10_pass_114 : decode cX10_pass 114 = .ok (.istore 5, 2) := by decide +kernel
theorem dX10_pass_116 : decode cX10_pass 116 = .ok (.iload 5, 2) := by decide +kernel
theorem dX10_pass_118 : decode cX10_pass 118 = .ok (.aload_n 1, 1) := by decide +kernel
theorem dX10_pass_119 : decode cX10_pass 119 = .ok (.getfield 121, 3) := by decide +kernel
theorem dX10_pass_122 : decode cX10_pass 122 = .ok (.if_icmp .ge 32, 3) := by decide +kernel
theorem dX10_pass_125 : decode cX10_pass 125 = .ok (.iload 5, 2) := by decide +kernel
theorem dX10_pass_127 : decode cX10_pass 127 = .ok (.iload 4, 2) := by decide +kernel
theorem dX10_pass_129 : decode cX10_pass 129 = .ok (.if_icmp .eq 11, 3) := by decide +kernel
theorem dX10_pass_132 : decode cX10_pass 132 = .ok (.aload_n 1, 1) := by decide +kernel
theorem dX10_pass_133 : decode cX10_pass 133 = .ok (.getfield 124, 3) := by decide +kernel
theorem dX10_pass_136 : decode cX10_pass 136 = .ok (.iconst 1, 1) := by decide +kernel
theorem dX10_pass_137 : decode cX10_pass 137 = .ok (.if_icmp .ne 11, 3) := by decide +kernel
theorem dX10_pass_140 : decode cX10_pass 140 = .ok (.aload_n 0, 1) := by decide +kernel
theorem dX10_pass_141 : decode cX10_pass 141 = .ok (.getfield 18, 3) := by decide +kernel
theorem dX10_pass_144 : decode cX10_pass 144 = .ok (.iload 5, 2) := by decide +kernel
theorem dX10_pass_146 : decode cX10_pass 146 = .ok (.iload_n 2, 1) := by decide +kernel
theorem dX10_pass_147 : decode cX10_pass 147 = .ok (.iastore, 1) := by decide +kernel
theorem dX10_pass_148 : decode cX10_pass 148 = .ok (.iinc 5 1, 3) := by decide +kernel
theorem dX10_pass_151 : decode cX10_pass 151 = .ok (.goto (-35), 3) := by decide +kernel
theorem dX10_pass_154 : decode cX10_pass 154 = .ok (.return_, 1) := by decide +kernel
theorem dX10_send_0 : decode cX10_send 0 = .ok (.aload_n 0, 1) := by decide +kernel
theorem dX10_send_1 : decode cX10_send 1 = .ok (.sipush 200, 3) := by decide +kernel
theorem dX10_send_4 : decode cX10_send 4 = .ok (.invokevirtual 114, 3) := by decide +kernel
theorem dX10_send_7 : decode cX10_send 7 = .ok (.aload_n 0, 1) := by decide +kernel
theorem dX10_send_8 : decode cX10_send 8 = .ok (.iconst 1, 1) := by decide +kernel
theorem dX10_send_9 : decode cX10_send 9 = .ok (.aload_n 0, 1) := by decide +kernel
theorem dX10_send_10 : decode cX10_send 10 = .ok (.getfield 34, 3) := by decide +kernel
theorem dX10_send_13 : decode cX10_send 13 = .ok (.isub, 1) := by decide +kernel
theorem dX10_send_14 : decode cX10_send 14 = .ok (.putfield 34, 3) := by decide +kernel
theorem dX10_send_17 : decode cX10_send 17 = .ok (.aload_n 0, 1) := by decide +kernel
theorem dX10_send_18 : decode cX10_send 18 = .ok (.dup, 1) := by decide +kernel
theorem dX10_send_19 : decode cX10_send 19 = .ok (.getfield 37, 3) := by decide +kernel
theorem dX10_send_22 : decode cX10_send 22 = .ok (.aload_n 1, 1) := by decide +kernel
theorem dX10_send_23 : decode cX10_send 23 = .ok (.getfield 127, 3) := by decide +kernel
theorem dX10_send_26 : decode cX10_send 26 = .ok (.iadd, 1) := by decide +kernel
theorem dX10_send_27 : decode cX10_send 27 = .ok (.putfield 37, 3) := by decide +kernel
theorem dX10_send_30 : decode cX10_send 30 = .ok (.return_, 1) := by decide +kernel
theorem dX10_note_0 : decode cX10_note 0 = .ok (.aload_n 0, 1) := by decide +kernel
theorem dX10_note_1 : decode cX10_note 1 = .ok (.getfield 24, 3) := by decide +kernel
theorem dX10_note_4 : decode cX10_note 4 = .ok (.bipush 60, 2) := by decide +kernel
theorem dX10_note_6 : decode cX10_note 6 = .ok (.if_icmp .ge 23, 3) := by decide +kernel
theorem dX10_note_9 : decode cX10_note 9 = .ok (.aload_n 0, 1) := by decide +kernel
theorem dX10_note_10 : decode cX10_note 10 = .ok (.getfield 9, 3) := by decide +kernel
theorem dX10_note_13 : decode cX10_note 13 = .ok (.aload_n 0, 1) := by decide +kernel
theorem dX10_note_14 : decode cX10_note 14 = .ok (.getfield 24, 3) := by decide +kernel
theorem dX10_note_17 : decode cX10_note 17 = .ok (.iload_n 1, 1) := by decide +kernel
theorem dX10_note_18 : decode cX10_note 18 = .ok (.iastore, 1) := by decide +kernel
theorem dX10_note_19 : decode cX10_note 19 = .ok (.aload_n 0, 1) := by decide +kernel
theorem dX10_note_20 : decode cX10_note 20 = .ok (.dup, 1) := by decide +kernel
theorem dX10_note_21 : decode cX10_note 21 = .ok (.getfield 24, 3) := by decide +kernel
theorem dX10_note_24 : decode cX10_note 24 = .ok (.iconst 1, 1) := by decide +kernel
theorem dX10_note_25 : decode cX10_note 25 = .ok (.iadd, 1) := by decide +kernel
theorem dX10_note_26 : decode cX10_note 26 = .ok (.putfield 24, 3) := by decide +kernel
theorem dX10_note_29 : decode cX10_note 29 = .ok (.return_, 1) := by decide +kernel
theorem dX10_countLies_0 : decode cX10_countLies 0 = .ok (.iconst 0, 1) := by decide +kernel
theorem dX10_countLies_1 : decode cX10_countLies 1 = .ok (.istore_n 1, 1) := by decide +kernel
theorem dX10_countLies_2 : decode cX10_countLies 2 = .ok (.iconst 1, 1) := by decide +kernel
theorem dX10_countLies_3 : decode cX10_countLies 3 = .ok (.istore_n 2, 1) := by decide +kernel
theorem dX10_countLies_4 : decode cX10_countLies 4 = .ok (.iload_n 2, 1) := by decide +kernel
theorem dX10_countLies_5 : decode cX10_countLies 5 = .ok (.aload_n 0, 1) := by decide +kernel
theorem dX10_countLies_6 : decode cX10_countLies 6 = .ok (.getfield 28, 3) := by decide +kernel
theorem dX10_countLies_9 : decode cX10_countLies 9 = .ok (.if_icmp .ge 35, 3) := by decide +kernel
theorem dX10_countLies_12 : decode cX10_countLies 12 = .ok (.aload_n 0, 1) := by decide +kernel
theorem dX10_countLies_13 : decode cX10_countLies 13 = .ok (.getfield 15, 3) := by decide +kernel
theorem dX10_countLies_16 : decode cX10_countLies 16 = .ok (.iload_n 2, 1) := by decide +kernel
theorem dX10_countLies_17 : decode cX10_countLies 17 = .ok (.iaload, 1) := by decide +kernel
theorem dX10_countLies_18 : decode cX10_countLies 18 = .ok (.bipush 10, 2) := by decide +kernel
theorem dX10_countLies_20 : decode cX10_countLies 20 = .ok (.irem, 1) := by decide +kernel
theorem dX10_countLies_21 : decode cX10_countLies 21 = .ok (.aload_n 0, 1) := by decide +kernel
theorem dX10_countLies_22 : decode cX10_countLies 22 = .ok (.getfield 15, 3) := by decide +kernel
theorem dX10_countLies_25 : decode cX10_countLies 25 = .ok (.iload_n 2, 1) := by decide +kernel
theorem dX10_countLies_26 : decode cX10_countLies 26 = .ok (.iconst 1, 1) := by decide +kernel
theorem dX10_countLies_27 : decode cX10_countLies 27 = .ok (.isub, 1) := by decide +kernel
theorem dX10_countLies_28 : decode cX10_countLies 28 = .ok (.iaload, 1) := by decide +kernel
theorem dX10_countLies_29 : decode cX10_countLies 29 = .ok (.bipush 10, 2) := by decide +kernel
theorem dX10_countLies_31 : decode cX10_countLies 31 = .ok (.irem, 1) := by decide +kernel
theorem dX10_countLies_32 : decode cX10_countLies 32 = .ok (.if_icmp .ne 6, 3) := by decide +kernel
theorem dX10_countLies_35 : decode cX10_countLies 35 = .ok (.iinc 1 1, 3) := by decide +kernel
theorem dX10_countLies_38 : decode cX10_countLies 38 = .ok (.iinc 2 1, 3) := by decide +kernel
theorem dX10_countLies_41 : decode cX10_countLies 41 = .ok (.goto (-37), 3) := by decide +kernel
theorem dX10_countLies_44 : decode cX10_countLies 44 = .ok (.iload_n 1, 1) := by decide +kernel
theorem dX10_countLies_45 : decode cX10_countLies 45 = .ok (.ireturn, 1) := by decide +kernel
theorem dX10_riskTogether_0 : decode cX10_riskTogether 0 = .ok (.iconst 0, 1) := by decide +kernel
theorem dX10_riskTogether_1 : decode cX10_riskTogether 1 = .ok (.istore_n 2, 1) := by decide +kernel
theorem dX10_riskTogether_2 : decode cX10_riskTogether 2 = .ok (.iconst 0, 1) := by decide +kernel
theorem dX10_riskTogether_3 : decode cX10_riskTogether 3 = .ok (.istore_n 3, 1) := by decide +kernel
theorem dX10_riskTogether_4 : decode cX10_riskTogether 4 = .ok (.iload_n 3, 1) := by decide +kernel
theorem dX10_riskTogether_5 : decode cX10_riskTogether 5 = .ok (.aload_n 0, 1) := by decide +kernel
theorem dX10_riskTogether_6 : decode cX10_riskTogether 6 = .ok (.getfield 24, 3) := by decide +kernel
theorem dX10_riskTogether_9 : decode cX10_riskTogether 9 = .ok (.if_icmp .ge 22, 3) := by decide +kernel
theorem dX10_riskTogether_12 : decode cX10_riskTogether 12 = .ok (.iload_n 2, 1) := by decide +kernel
theorem dX10_riskTogether_13 : decode cX10_riskTogether 13 = .ok (.aload_n 1, 1) := by decide +kernel
theorem dX10_riskTogether_14 : decode cX10_riskTogether 14 = .ok (.aload_n 0, 1) := by decide +kernel
theorem dX10_riskTogether_15 : decode cX10_riskTogether 15 = .ok (.getfield 9, 3) := by decide +kernel
theorem dX10_riskTogether_18 : decode cX10_riskTogether 18 = .ok (.iload_n 3, 1) := by decide +kernel
theorem dX10_riskTogether_19 : decode cX10_riskTogether 19 = .ok (.iaload, 1) := by decide +kernel
theorem dX10_riskTogether_20 : decode cX10_riskTogether 20 = .ok (.invokevirtual 130, 3) := by decide +kernel
theorem dX10_riskTogether_23 : decode cX10_riskTogether 23 = .ok (.iadd, 1) := by decide +kernel
theorem dX10_riskTogether_24 : decode cX10_riskTogether 24 = .ok (.istore_n 2, 1) := by decide +kernel
theorem dX10_riskTogether_25 : decode cX10_riskTogether 25 = .ok (.iinc 3 1, 3) := by decide +kernel
theorem dX10_riskTogether_28 : decode cX10_riskTogether 28 = .ok (.goto (-24), 3) := by decide +kernel
theorem dX10_riskTogether_31 : decode cX10_riskTogether 31 = .ok (.iload_n 2, 1) := by decide +kernel
theorem dX10_riskTogether_32 : decode cX10_riskTogether 32 = .ok (.ireturn, 1) := by decide +kernel
theorem dJ6_bitCount_0f7a4_0 : decode cJ6_bitCount_0f7a4 0 = .ok (.iload_n 0, 1) := by decide +kernel
theorem dJ6_bitCount_0f7a4_1 : decode cJ6_bitCount_0f7a4 1 = .ok (.iload_n 0, 1) := by decide +kernel
theorem dJ6_bitCount_0f7a4_2 : decode cJ6_bitCount_0f7a4 2 = .ok (.iconst 1, 1) := by decide +kernel
theorem dJ6_bitCount_0f7a4_3 : decode cJ6_bitCount_0f7a4 3 = .ok (.iushr, 1) := by decide +kernel
theorem dJ6_bitCount_0f7a4_4 : decode cJ6_bitCount_0f7a4 4 = .ok (.ldc_w 265, 3) := by decide +kernel
theorem dJ6_bitCount_0f7a4_7 : decode cJ6_bitCount_0f7a4 7 = .ok (.iand, 1) := by decide +kernel
theorem dJ6_bitCount_0f7a4_8 : decode cJ6_bitCount_0f7a4 8 = .ok (.isub, 1) := by decide +kernel
theorem dJ6_bitCount_0f7a4_9 : decode cJ6_bitCount_0f7a4 9 = .ok (.istore_n 0, 1) := by decide +kernel
theorem dJ6_bitCount_0f7a4_10 : decode cJ6_bitCount_0f7a4 10 = .ok (.iload_n 0, 1) := by decide +kernel
theorem dJ6_bitCount_0f7a4_11 : decode cJ6_bitCount_0f7a4 11 = .ok (.ldc_w 266, 3) := by decide +kernel
theorem dJ6_bitCount_0f7a4_14 : decode cJ6_bitCount_0f7a4 14 = .ok (.iand, 1) := by decide +kernel
theorem dJ6_bitCount_0f7a4_15 : decode cJ6_bitCount_0f7a4 15 = .ok (.iload_n 0, 1) := by decide +kernel
theorem dJ6_bitCount_0f7a4_16 : decode cJ6_bitCount_0f7a4 16 = .ok (.iconst 2, 1) := by decide +kernel
theorem dJ6_bitCount_0f7a4_17 : decode cJ6_bitCount_0f7a4 17 = .ok (.iushr, 1) := by decide +kernel
theorem dJ6_bitCount_0f7a4_18 : decode cJ6_bitCount_0f7a4 18 = .ok (.ldc_w 266, 3) := by decide +kernel
theorem dJ6_bitCount_0f7a4_21 : decode cJ6_bitCount_0f7a4 21 = .ok (.iand, 1) := by decide +kernel
theorem dJ6_bitCount_0f7a4_22 : decode cJ6_bitCount_0f7a4 22 = .ok (.iadd, 1) := by decide +kernel
theorem dJ6_bitCount_0f7a4_23 : decode cJ6_bitCount_0f7a4 23 = .ok (.istore_n 0, 1) := by decide +kernel
theorem dJ6_bitCount_0f7a4_24 : decode cJ6_bitCount_0f7a4 24 = .ok (.iload_n 0, 1) := by decide +kernel
theorem dJ6_bitCount_0f7a4_25 : decode cJ6_bitCount_0f7a4 25 = .ok (.iload_n 0, 1) := by decide +kernel
theorem dJ6_bitCount_0f7a4_26 : decode cJ6_bitCount_0f7a4 26 = .ok (.iconst 4, 1) := by decide +kernel
theorem dJ6_bitCount_0f7a4_27 : decode cJ6_bitCount_0f7a4 27 = .ok (.iushr, 1) := by decide +kernel
theorem dJ6_bitCount_0f7a4_28 : decode cJ6_bitCount_0f7a4 28 = .ok (.iadd, 1) := by decide +kernel
theorem dJ6_bitCount_0f7a4_29 : decode cJ6_bitCount_0f7a4 29 = .ok (.ldc_w 267, 3) := by decide +kernel
theorem dJ6_bitCount_0f7a4_32 : decode cJ6_bitCount_0f7a4 32 = .ok (.iand, 1) := by decide +kernel
theorem dJ6_bitCount_0f7a4_33 : decode cJ6_bitCount_0f7a4 33 = .ok (.istore_n 0, 1) := by decide +kernel
theorem dJ6_bitCount_0f7a4_34 : decode cJ6_bitCount_0f7a4 34 = .ok (.iload_n 0, 1) := by decide +kernel
theorem dJ6_bitCount_0f7a4_35 : decode cJ6_bitCount_0f7a4 35 = .ok (.iload_n 0, 1) := by decide +kernel
theorem dJ6_bitCount_0f7a4_36 : decode cJ6_bitCount_0f7a4 36 = .ok (.bipush 8, 2) := by decide +kernel
theorem dJ6_bitCount_0f7a4_38 : decode cJ6_bitCount_0f7a4 38 = .ok (.iushr, 1) := by decide +kernel
theorem dJ6_bitCount_0f7a4_39 : decode cJ6_bitCount_0f7a4 39 = .ok (.iadd, 1) := by decide +kernel
theorem dJ6_bitCount_0f7a4_40 : decode cJ6_bitCount_0f7a4 40 = .ok (.istore_n 0, 1) := by decide +kernel
theorem dJ6_bitCount_0f7a4_41 : decode cJ6_bitCount_0f7a4 41 = .ok (.iload_n 0, 1) := by decide +kernel
theorem dJ6_bitCount_0f7a4_42 : decode cJ6_bitCount_0f7a4 42 = .ok (.iload_n 0, 1) := by decide +kernel
theorem dJ6_bitCount_0f7a4_43 : decode cJ6_bitCount_0f7a4 43 = .ok (.bipush 16, 2) := by decide +kernel
theorem dJ6_bitCount_0f7a4_45 : decode cJ6_bitCount_0f7a4 45 = .ok (.iushr, 1) := by decide +kernel
theorem dJ6_bitCount_0f7a4_46 : decode cJ6_bitCount_0f7a4 46 = .ok (.iadd, 1) := by decide +kernel
theorem dJ6_bitCount_0f7a4_47 : decode cJ6_bitCount_0f7a4 47 = .ok (.istore_n 0, 1) := by decide +kernel
theorem dJ6_bitCount_0f7a4_48 : decode cJ6_bitCount_0f7a4 48 = .ok (.iload_n 0, 1) := by decide +kernel
theorem dJ6_bitCount_0f7a4_49 : decode cJ6_bitCount_0f7a4 49 = .ok (.bipush 63, 2) := by decide +kernel
theorem dJ6_bitCount_0f7a4_51 : decode cJ6_bitCount_0f7a4 51 = .ok (.iand, 1) := by decide +kernel
theorem dJ6_bitCount_0f7a4_52 : decode cJ6_bitCount_0f7a4 52 = .ok (.ireturn, 1) := by decide +kernel
theorem dJ9_abs_0f7a4_0 : decode cJ9_abs_0f7a4 0 = .ok (.iload_n 0, 1) := by decide +kernel
theorem dJ9_abs_0f7a4_1 : decode cJ9_abs_0f7a4 1 = .ok (.ifCond .ge 8, 3) := by decide +kernel
theorem dJ9_abs_0f7a4_4 : decode cJ9_abs_0f7a4 4 = .ok (.iload_n 0, 1) := by decide +kernel
theorem dJ9_abs_0f7a4_5 : decode cJ9_abs_0f7a4 5 = .ok (.ineg, 1) := by decide +kernel
theorem dJ9_abs_0f7a4_6 : decode cJ9_abs_0f7a4 6 = .ok (.goto 4, 3) := by decide +kernel
theorem dJ9_abs_0f7a4_9 : decode cJ9_abs_0f7a4 9 = .ok (.iload_n 0, 1) := by decide +kernel
theorem dJ9_abs_0f7a4_10 : decode cJ9_abs_0f7a4 10 = .ok (.ireturn, 1) := by decide +kernel
theorem dJ9_max_7cf53_0 : decode cJ9_max_7cf53 0 = .ok (.iload_n 0, 1) := by decide +kernel
theorem dJ9_max_7cf53_1 : decode cJ9_max_7cf53 1 = .ok (.iload_n 1, 1) := by decide +kernel
theorem dJ9_max_7cf53_2 : decode cJ9_max_7cf53 2 = .ok (.if_icmp .lt 7, 3) := by decide +kernel
theorem dJ9_max_7cf53_5 : decode cJ9_max_7cf53 5 = .ok (.iload_n 0, 1) := by decide +kernel
theorem dJ9_max_7cf53_6 : decode cJ9_max_7cf53 6 = .ok (.goto 4, 3) := by decide +kernel
theorem dJ9_max_7cf53_9 : decode cJ9_max_7cf53 9 = .ok (.iload_n 1, 1) := by decide +kernel
theorem dJ9_max_7cf53_10 : decode cJ9_max_7cf53 10 = .ok (.ireturn, 1) := by decide +kernel
theorem dJ9_min_7cf53_0 : decode cJ9_min_7cf53 0 = .ok (.iload_n 0, 1) := by decide +kernel
theorem dJ9_min_7cf53_1 : decode cJ9_min_7cf53 1 = .ok (.iload_n 1, 1) := by decide +kernel
theorem dJ9_min_7cf53_2 : decode cJ9_min_7cf53 2 = .ok (.if_icmp .gt 7, 3) := by decide +kernel
theorem dJ9_min_7cf53_5 : decode cJ9_min_7cf53 5 = .ok (.iload_n 0, 1) := by decide +kernel
theorem dJ9_min_7cf53_6 : decode cJ9_min_7cf53 6 = .ok (.goto 4, 3) := by decide +kernel
theorem dJ9_min_7cf53_9 : decode cJ9_min_7cf53 9 = .ok (.iload_n 1, 1) := by decide +kernel
theorem dJ9_min_7cf53_10 : decode cJ9_min_7cf53 10 = .ok (.ireturn, 1) := by decide +kernel
theorem dJ9_min_f86c9_0 : decode cJ9_min_f86c9 0 = .ok (.lload_n 0, 1) := by decide +kernel
theorem dJ9_min_f86c9_1 : decode cJ9_min_f86c9 1 = .ok (.lload_n 2, 1) := by decide +kernel
theorem dJ9_min_f86c9_2 : decode cJ9_min_f86c9 2 = .ok (.lcmp, 1) := by decide +kernel
theorem dJ9_min_f86c9_3 : decode cJ9_min_f86c9 3 = .ok (.ifCond .gt 7, 3) := by decide +kernel
theorem dJ9_min_f86c9_6 : decode cJ9_min_f86c9 6 = .ok (.lload_n 0, 1) := by decide +kernel
theorem dJ9_min_f86c9_7 : decode cJ9_min_f86c9 7 = .ok (.goto 4, 3) := by decide +kernel
theorem dJ9_min_f86c9_10 : decode cJ9_min_f86c9 10 = .ok (.lload_n 2, 1) := by decide +kernel
theorem dJ9_min_f86c9_11 : decode cJ9_min_f86c9 11 = .ok (.lreturn, 1) := by decide +kernel
theorem dJ0_length_8abf5_0 : decode cJ0_length_8abf5 0 = .ok (.aload_n 0, 1) := by decide +kernel
theorem dJ0_length_8abf5_1 : decode cJ0_length_8abf5 1 = .ok (.getfield 9, 3) := by decide +kernel
theorem dJ0_length_8abf5_4 : decode cJ0_length_8abf5 4 = .ok (.arraylength, 1) := by decide +kernel
theorem dJ0_length_8abf5_5 : decode cJ0_length_8abf5 5 = .ok (.aload_n 0, 1) := by decide +kernel
theorem dJ0_length_8abf5_6 : decode cJ0_length_8abf5 6 = .ok (.invokevirtual 335, 3) := by decide +kernel
theorem dJ0_length_8abf5_9 : decode cJ0_length_8abf5 9 = .ok (.ishr, 1) := by decide +kernel
theorem dJ0_length_8abf5_10 : decode cJ0_length_8abf5 10 = .ok (.ireturn, 1) := by decide +kernel
theorem dJ0_charAt_5068e_0 : decode cJ0_charAt_5068e 0 = .ok (.aload_n 0, 1) := by decide +kernel
theorem dJ0_charAt_5068e_1 : decode cJ0_charAt_5068e 1 = .ok (.invokevirtual 492, 3) := by decide +kernel
theorem dJ0_charAt_5068e_4 : decode cJ0_charAt_5068e 4 = .ok (.ifCond .eq 12, 3) := by decide +kernel
theorem dJ0_charAt_5068e_7 : decode cJ0_charAt_5068e 7 = .ok (.aload_n 0, 1) := by decide +kernel
theorem dJ0_charAt_5068e_8 : decode cJ0_charAt_5068e 8 = .ok (.getfield 9, 3) := by decide +kernel
theorem dJ0_charAt_5068e_11 : decode cJ0_charAt_5068e 11 = .ok (.iload_n 1, 1) := by decide +kernel
theorem dJ0_charAt_5068e_12 : decode cJ0_charAt_5068e 12 = .ok (.invokestatic 495, 3) := by decide +kernel
theorem dJ0_charAt_5068e_15 : decode cJ0_charAt_5068e 15 = .ok (.ireturn, 1) := by decide +kernel
theorem dJ0_charAt_5068e_16 : decode cJ0_charAt_5068e 16 = .ok (.aload_n 0, 1) := by decide +kernel
theorem dJ0_charAt_5068e_17 : decode cJ0_charAt_5068e 17 = .ok (.getfield 9, 3) := by decide +kernel
theorem dJ0_charAt_5068e_20 : decode cJ0_charAt_5068e 20 = .ok (.iload_n 1, 1) := by decide +kernel
theorem dJ0_charAt_5068e_21 : decode cJ0_charAt_5068e 21 = .ok (.invokestatic 498, 3) := by decide +kernel
theorem dJ0_charAt_5068e_24 : decode cJ0_charAt_5068e 24 = .ok (.ireturn, 1) := by decide +kernel
theorem dJ0_coder_7d493_0 : decode cJ0_coder_7d493 0 = .ok (.getstatic 38, 3) := by decide +kernel
theorem dJ0_coder_7d493_3 : decode cJ0_coder_7d493 3 = .ok (.ifCond .eq 10, 3) := by decide +kernel
theorem dJ0_coder_7d493_6 : decode cJ0_coder_7d493 6 = .ok (.aload_n 0, 1) := by decide +kernel
theorem dJ0_coder_7d493_7 : decode cJ0_coder_7d493 7 = .ok (.getfield 15, 3) := by decide +kernel
theorem dJ0_coder_7d493_10 : decode cJ0_coder_7d493 10 = .ok (.goto 4, 3) := by decide +kernel
theorem dJ0_coder_7d493_13 : decode cJ0_coder_7d493 13 = .ok (.iconst 1, 1) := by decide +kernel
theorem dJ0_coder_7d493_14 : decode cJ0_coder_7d493 14 = .ok (.ireturn, 1) := by decide +kernel
theorem dJ0_isLatin1_aae02_0 : decode cJ0_isLatin1_aae02 0 = .ok (.getstatic 38, 3) := by decide +kernel
theorem dJ0_isLatin1_aae02_3 : decode cJ0_isLatin1_aae02 3 = .ok (.ifCond .eq 14, 3) := by decide +kernel
theorem dJ0_isLatin1_aae02_6 : decode cJ0_isLatin1_aae02 6 = .ok (.aload_n 0, 1) := by decide +kernel
theorem dJ0_isLatin1_aae02_7 : decode cJ0_isLatin1_aae02 7 = .ok (.getfield 15, 3) := by decide +kernel
theorem dJ0_isLatin1_aae02_10 : decode cJ0_isLatin1_aae02 10 = .ok (.ifCond .ne 7, 3) := by decide +kernel
theorem dJ0_isLatin1_aae02_13 : decode cJ0_isLatin1_aae02 13 = .ok (.iconst 1, 1) := by decide +kernel
theorem dJ0_isLatin1_aae02_14 : decode cJ0_isLatin1_aae02 14 = .ok (.goto 4, 3) := by decide +kernel
theorem dJ0_isLatin1_aae02_17 : decode cJ0_isLatin1_aae02 17 = .ok (.iconst 0, 1) := by decide +kernel
theorem dJ0_isLatin1_aae02_18 : decode cJ0_isLatin1_aae02 18 = .ok (.ireturn, 1) := by decide +kernel
theorem dJ0_checkIndex_df160_0 : decode cJ0_checkIndex_df160 0 = .ok (.iload_n 0, 1) := by decide +kernel
theorem dJ0_checkIndex_df160_1 : decode cJ0_checkIndex_df160 1 = .ok (.iload_n 1, 1) := by decide +kernel
theorem dJ0_checkIndex_df160_2 : decode cJ0_checkIndex_df160 2 = .ok (.getstatic 1053, 3) := by decide +kernel
theorem dJ0_checkIndex_df160_5 : decode cJ0_checkIndex_df160 5 = .ok (.invokestatic 1059, 3) := by decide +kernel
theorem dJ0_checkIndex_df160_8 : decode cJ0_checkIndex_df160 8 = .ok (.pop, 1) := by decide +kernel
theorem dJ0_checkIndex_df160_9 : decode cJ0_checkIndex_df160 9 = .ok (.return_, 1) := by decide +kernel
theorem dJ1_charAt_3b067_0 : decode cJ1_charAt_3b067 0 = .ok (.iload_n 1, 1) := by decide +kernel
theorem dJ1_charAt_3b067_1 : decode cJ1_charAt_3b067 1 = .ok (.aload_n 0, 1) := by decide +kernel
theorem dJ1_charAt_3b067_2 : decode cJ1_charAt_3b067 2 = .ok (.arraylength, 1) := by decide +kernel
theorem dJ1_charAt_3b067_3 : decode cJ1_charAt_3b067 3 = .ok (.invokestatic 9, 3) := by decide +kernel
theorem dJ1_charAt_3b067_6 : decode cJ1_charAt_3b067 6 = .ok (.aload_n 0, 1) := by decide +kernel
theorem dJ1_charAt_3b067_7 : decode cJ1_charAt_3b067 7 = .ok (.iload_n 1, 1) := by decide +kernel
theorem dJ1_charAt_3b067_8 : decode cJ1_charAt_3b067 8 = .ok (.baload, 1) := by decide +kernel
theorem dJ1_charAt_3b067_9 : decode cJ1_charAt_3b067 9 = .ok (.sipush 255, 3) := by decide +kernel
theorem dJ1_charAt_3b067_12 : decode cJ1_charAt_3b067 12 = .ok (.iand, 1) := by decide +kernel
theorem dJ1_charAt_3b067_13 : decode cJ1_charAt_3b067 13 = .ok (.i2c, 1) := by decide +kernel
theorem dJ1_charAt_3b067_14 : decode cJ1_charAt_3b067 14 = .ok (.ireturn, 1) := by decide +kernel
theorem dJ2_getChar_3b067_0 : decode cJ2_getChar_3b067 0 = .ok (.getstatic 44, 3) := by decide +kernel
theorem dJ2_getChar_3b067_3 : decode cJ2_getChar_3b067 3 = .ok (.ifCond .ne 25, 3) := by decide +kernel
theorem dJ2_getChar_3b067_6 : decode cJ2_getChar_3b067 6 = .ok (.iload_n 1, 1) := by decide +kernel
theorem dJ2_getChar_3b067_7 : decode cJ2_getChar_3b067 7 = .ok (.ifCond .lt 11, 3) := by decide +kernel
theorem dJ2_getChar_3b067_10 : decode cJ2_getChar_3b067 10 = .ok (.iload_n 1, 1) := by decide +kernel
theorem dJ2_getChar_3b067_11 : decode cJ2_getChar_3b067 11 = .ok (.aload_n 0, 1) := by decide +kernel
theorem dJ2_getChar_3b067_12 : decode cJ2_getChar_3b067 12 = .ok (.invokestatic 48, 3) := by decide +kernel
theorem dJ2_getChar_3b067_15 : decode cJ2_getChar_3b067 15 = .ok (.if_icmp .lt 13, 3) := by decide +kernel
theorem dJ2_getChar_3b067_18 : decode cJ2_getChar_3b067 18 = .ok (.new 52, 3) := by decide +kernel
theorem dJ2_getChar_3b067_21 : decode cJ2_getChar_3b067 21 = .ok (.dup, 1) := by decide +kernel
theorem dJ2_getChar_3b067_22 : decode cJ2_getChar_3b067 22 = .ok (.ldc 54, 2) := by decide +kernel
theorem dJ2_getChar_3b067_24 : decode cJ2_getChar_3b067 24 = .ok (.invokespecial 56, 3) := by decide +kernel
theorem dJ2_getChar_3b067_27 : decode cJ2_getChar_3b067 27 = .ok (.athrow, 1) := by decide +kernel
theorem dJ2_getChar_3b067_28 : decode cJ2_getChar_3b067 28 = .ok (.iload_n 1, 1) := by decide +kernel
theorem dJ2_getChar_3b067_29 : decode cJ2_getChar_3b067 29 = .ok (.iconst 1, 1) := by decide +kernel
theorem dJ2_getChar_3b067_30 : decode cJ2_getChar_3b067 30 = .ok (.ishl, 1) := by decide +kernel
theorem dJ2_getChar_3b067_31 : decode cJ2_getChar_3b067 31 = .ok (.istore_n 1, 1) := by decide +kernel
theorem dJ2_getChar_3b067_32 : decode cJ2_getChar_3b067 32 = .ok (.aload_n 0, 1) := by decide +kernel
theorem dJ2_getChar_3b067_33 : decode cJ2_getChar_3b067 33 = .ok (.iload_n 1, 1) := by decide +kernel
theorem dJ2_getChar_3b067_34 : decode cJ2_getChar_3b067 34 = .ok (.iinc 1 1, 3) := by decide +kernel
theorem dJ2_getChar_3b067_37 : decode cJ2_getChar_3b067 37 = .ok (.baload, 1) := by decide +kernel
theorem dJ2_getChar_3b067_38 : decode cJ2_getChar_3b067 38 = .ok (.sipush 255, 3) := by decide +kernel
theorem dJ2_getChar_3b067_41 : decode cJ2_getChar_3b067 41 = .ok (.iand, 1) := by decide +kernel
theorem dJ2_getChar_3b067_42 : decode cJ2_getChar_3b067 42 = .ok (.getstatic 59, 3) := by decide +kernel
theorem dJ2_getChar_3b067_45 : decode cJ2_getChar_3b067 45 = .ok (.ishl, 1) := by decide +kernel
theorem dJ2_getChar_3b067_46 : decode cJ2_getChar_3b067 46 = .ok (.aload_n 0, 1) := by decide +kernel
theorem dJ2_getChar_3b067_47 : decode cJ2_getChar_3b067 47 = .ok (.iload_n 1, 1) := by decide +kernel
theorem dJ2_getChar_3b067_48 : decode cJ2_getChar_3b067 48 = .ok (.baload, 1) := by decide +kernel
theorem dJ2_getChar_3b067_49 : decode cJ2_getChar_3b067 49 = .ok (.sipush 255, 3) := by decide +kernel
theorem dJ2_getChar_3b067_52 : decode cJ2_getChar_3b067 52 = .ok (.iand, 1) := by decide +kernel
theorem dJ2_getChar_3b067_53 : decode cJ2_getChar_3b067 53 = .ok (.getstatic 63, 3) := by decide +kernel
theorem dJ2_getChar_3b067_56 : decode cJ2_getChar_3b067 56 = .ok (.ishl, 1) := by decide +kernel
theorem dJ2_getChar_3b067_57 : decode cJ2_getChar_3b067 57 = .ok (.ior, 1) := by decide +kernel
theorem dJ2_getChar_3b067_58 : decode cJ2_getChar_3b067 58 = .ok (.i2c, 1) := by decide +kernel
theorem dJ2_getChar_3b067_59 : decode cJ2_getChar_3b067 59 = .ok (.ireturn, 1) := by decide +kernel
theorem dJ2_length_9d52b_0 : decode cJ2_length_9d52b 0 = .ok (.aload_n 0, 1) := by decide +kernel
theorem dJ2_length_9d52b_1 : decode cJ2_length_9d52b 1 = .ok (.arraylength, 1) := by decide +kernel
theorem dJ2_length_9d52b_2 : decode cJ2_length_9d52b 2 = .ok (.iconst 1, 1) := by decide +kernel
theorem dJ2_length_9d52b_3 : decode cJ2_length_9d52b 3 = .ok (.ishr, 1) := by decide +kernel
theorem dJ2_length_9d52b_4 : decode cJ2_length_9d52b 4 = .ok (.ireturn, 1) := by decide +kernel
theorem dJ2_charAt_3b067_0 : decode cJ2_charAt_3b067 0 = .ok (.iload_n 1, 1) := by decide +kernel
theorem dJ2_charAt_3b067_1 : decode cJ2_charAt_3b067 1 = .ok (.aload_n 0, 1) := by decide +kernel
theorem dJ2_charAt_3b067_2 : decode cJ2_charAt_3b067 2 = .ok (.invokestatic 67, 3) := by decide +kernel
theorem dJ2_charAt_3b067_5 : decode cJ2_charAt_3b067 5 = .ok (.aload_n 0, 1) := by decide +kernel
theorem dJ2_charAt_3b067_6 : decode cJ2_charAt_3b067 6 = .ok (.iload_n 1, 1) := by decide +kernel
theorem dJ2_charAt_3b067_7 : decode cJ2_charAt_3b067 7 = .ok (.invokestatic 71, 3) := by decide +kernel
theorem dJ2_charAt_3b067_10 : decode cJ2_charAt_3b067 10 = .ok (.ireturn, 1) := by decide +kernel
theorem dJ2_checkIndex_2214a_0 : decode cJ2_checkIndex_2214a 0 = .ok (.iload_n 0, 1) := by decide +kernel
theorem dJ2_checkIndex_2214a_1 : decode cJ2_checkIndex_2214a 1 = .ok (.aload_n 1, 1) := by decide +kernel
theorem dJ2_checkIndex_2214a_2 : decode cJ2_checkIndex_2214a 2 = .ok (.invokestatic 48, 3) := by decide +kernel
theorem dJ2_checkIndex_2214a_5 : decode cJ2_checkIndex_2214a 5 = .ok (.invokestatic 414, 3) := by decide +kernel
theorem dJ2_checkIndex_2214a_8 : decode cJ2_checkIndex_2214a 8 = .ok (.return_, 1) := by decide +kernel
theorem dJ7_fill_d0a16_0 : decode cJ7_fill_d0a16 0 = .ok (.iconst 0, 1) := by decide +kernel
theorem dJ7_fill_d0a16_1 : decode cJ7_fill_d0a16 1 = .ok (.istore_n 3, 1) := by decide +kernel
theorem dJ7_fill_d0a16_2 : decode cJ7_fill_d0a16 2 = .ok (.aload_n 0, 1) := by decide +kernel
theorem dJ7_fill_d0a16_3 : decode cJ7_fill_d0a16 3 = .ok (.arraylength, 1) := by decide +kernel
theorem dJ7_fill_d0a16_4 : decode cJ7_fill_d0a16 4 = .ok (.istore 4, 2) := by decide +kernel
theorem dJ7_fill_d0a16_6 : decode cJ7_fill_d0a16 6 = .ok (.iload_n 3, 1) := by decide +kernel
theorem dJ7_fill_d0a16_7 : decode cJ7_fill_d0a16 7 = .ok (.iload 4, 2) := by decide +kernel
theorem dJ7_fill_d0a16_9 : decode cJ7_fill_d0a16 9 = .ok (.if_icmp .ge 13, 3) := by decide +kernel
theorem dJ7_fill_d0a16_12 : decode cJ7_fill_d0a16 12 = .ok (.aload_n 0, 1) := by decide +kernel
theorem dJ7_fill_d0a16_13 : decode cJ7_fill_d0a16 13 = .ok (.iload_n 3, 1) := by decide +kernel
theorem dJ7_fill_d0a16_14 : decode cJ7_fill_d0a16 14 = .ok (.lload_n 1, 1) := by decide +kernel
theorem dJ7_fill_d0a16_15 : decode cJ7_fill_d0a16 15 = .ok (.lastore, 1) := by decide +kernel
theorem dJ7_fill_d0a16_16 : decode cJ7_fill_d0a16 16 = .ok (.iinc 3 1, 3) := by decide +kernel
theorem dJ7_fill_d0a16_19 : decode cJ7_fill_d0a16 19 = .ok (.goto (-13), 3) := by decide +kernel
theorem dJ7_fill_d0a16_22 : decode cJ7_fill_d0a16 22 = .ok (.return_, 1) := by decide +kernel
theorem dJ7_fill_53178_0 : decode cJ7_fill_53178 0 = .ok (.iconst 0, 1) := by decide +kernel
theorem dJ7_fill_53178_1 : decode cJ7_fill_53178 1 = .ok (.istore_n 2, 1) := by decide +kernel
theorem dJ7_fill_53178_2 : decode cJ7_fill_53178 2 = .ok (.aload_n 0, 1) := by decide +kernel
theorem dJ7_fill_53178_3 : decode cJ7_fill_53178 3 = .ok (.arraylength, 1) := by decide +kernel
theorem dJ7_fill_53178_4 : decode cJ7_fill_53178 4 = .ok (.istore_n 3, 1) := by decide +kernel
theorem dJ7_fill_53178_5 : decode cJ7_fill_53178 5 = .ok (.iload_n 2, 1) := by decide +kernel
theorem dJ7_fill_53178_6 : decode cJ7_fill_53178 6 = .ok (.iload_n 3, 1) := by decide +kernel
theorem dJ7_fill_53178_7 : decode cJ7_fill_53178 7 = .ok (.if_icmp .ge 13, 3) := by decide +kernel
theorem dJ7_fill_53178_10 : decode cJ7_fill_53178 10 = .ok (.aload_n 0, 1) := by decide +kernel
theorem dJ7_fill_53178_11 : decode cJ7_fill_53178 11 = .ok (.iload_n 2, 1) := by decide +kernel
theorem dJ7_fill_53178_12 : decode cJ7_fill_53178 12 = .ok (.iload_n 1, 1) := by decide +kernel
theorem dJ7_fill_53178_13 : decode cJ7_fill_53178 13 = .ok (.iastore, 1) := by decide +kernel
theorem dJ7_fill_53178_14 : decode cJ7_fill_53178 14 = .ok (.iinc 2 1, 3) := by decide +kernel
theorem dJ7_fill_53178_17 : decode cJ7_fill_53178 17 = .ok (.goto (-12), 3) := by decide +kernel
theorem dJ7_fill_53178_20 : decode cJ7_fill_53178 20 = .ok (.return_, 1) := by decide +kernel
theorem dJ3_checkIndex_8e157_0 : decode cJ3_checkIndex_8e157 0 = .ok (.iload_n 0, 1) := by decide +kernel
theorem dJ3_checkIndex_8e157_1 : decode cJ3_checkIndex_8e157 1 = .ok (.ifCond .lt 8, 3) := by decide +kernel
theorem dJ3_checkIndex_8e157_4 : decode cJ3_checkIndex_8e157 4 = .ok (.iload_n 0, 1) := by decide +kernel
theorem dJ3_checkIndex_8e157_5 : decode cJ3_checkIndex_8e157 5 = .ok (.iload_n 1, 1) := by decide +kernel
theorem dJ3_checkIndex_8e157_6 : decode cJ3_checkIndex_8e157 6 = .ok (.if_icmp .lt 10, 3) := by decide +kernel
theorem dJ3_checkIndex_8e157_9 : decode cJ3_checkIndex_8e157 9 = .ok (.aload_n 2, 1) := by decide +kernel
theorem dJ3_checkIndex_8e157_10 : decode cJ3_checkIndex_8e157 10 = .ok (.iload_n 0, 1) := by decide +kernel
theorem dJ3_checkIndex_8e157_11 : decode cJ3_checkIndex_8e157 11 = .ok (.iload_n 1, 1) := by decide +kernel
theorem dJ3_checkIndex_8e157_12 : decode cJ3_checkIndex_8e157 12 = .ok (.invokestatic 95, 3) := by decide +kernel
theorem dJ3_checkIndex_8e157_15 : decode cJ3_checkIndex_8e157 15 = .ok (.athrow, 1) := by decide +kernel
theorem dJ3_checkIndex_8e157_16 : decode cJ3_checkIndex_8e157 16 = .ok (.iload_n 0, 1) := by decide +kernel
theorem dJ3_checkIndex_8e157_17 : decode cJ3_checkIndex_8e157 17 = .ok (.ireturn, 1) := by decide +kernel
