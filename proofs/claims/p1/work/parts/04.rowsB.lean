theorem dX11_init_0 : decode cX11_init 0 = .ok (.aload_n 0, 1) := by decide +kernel
theorem dX11_init_1 : decode cX11_init 1 = .ok (.invokespecial 1, 3) := by decide +kernel
theorem dX11_init_4 : decode cX11_init 4 = .ok (.aload_n 0, 1) := by decide +kernel
theorem dX11_init_5 : decode cX11_init 5 = .ok (.new 7, 3) := by decide +kernel
theorem dX11_init_8 : decode cX11_init 8 = .ok (.dup, 1) := by decide +kernel
theorem dX11_init_9 : decode cX11_init 9 = .ok (.invokespecial 9, 3) := by decide +kernel
theorem dX11_init_12 : decode cX11_init 12 = .ok (.putfield 10, 3) := by decide +kernel
theorem dX11_init_15 : decode cX11_init 15 = .ok (.aload_n 0, 1) := by decide +kernel
theorem dX11_init_16 : decode cX11_init 16 = .ok (.new 16, 3) := by decide +kernel
theorem dX11_init_19 : decode cX11_init 19 = .ok (.dup, 1) := by decide +kernel
theorem dX11_init_20 : decode cX11_init 20 = .ok (.invokespecial 18, 3) := by decide +kernel
theorem dX11_init_23 : decode cX11_init 23 = .ok (.putfield 19, 3) := by decide +kernel
theorem dX11_init_26 : decode cX11_init 26 = .ok (.aload_n 0, 1) := by decide +kernel
theorem dX11_init_27 : decode cX11_init 27 = .ok (.new 16, 3) := by decide +kernel
theorem dX11_init_30 : decode cX11_init 30 = .ok (.dup, 1) := by decide +kernel
theorem dX11_init_31 : decode cX11_init 31 = .ok (.invokespecial 18, 3) := by decide +kernel
theorem dX11_init_34 : decode cX11_init 34 = .ok (.putfield 23, 3) := by decide +kernel
theorem dX11_init_37 : decode cX11_init 37 = .ok (.aload_n 0, 1) := by decide +kernel
theorem dX11_init_38 : decode cX11_init 38 = .ok (.new 26, 3) := by decide +kernel
theorem dX11_init_41 : decode cX11_init 41 = .ok (.dup, 1) := by decide +kernel
theorem dX11_init_42 : decode cX11_init 42 = .ok (.invokespecial 28, 3) := by decide +kernel
theorem dX11_init_45 : decode cX11_init 45 = .ok (.putfield 29, 3) := by decide +kernel
theorem dX11_init_48 : decode cX11_init 48 = .ok (.aload_n 0, 1) := by decide +kernel
theorem dX11_init_49 : decode cX11_init 49 = .ok (.new 26, 3) := by decide +kernel
theorem dX11_init_52 : decode cX11_init 52 = .ok (.dup, 1) := by decide +kernel
theorem dX11_init_53 : decode cX11_init 53 = .ok (.invokespecial 28, 3) := by decide +kernel
theorem dX11_init_56 : decode cX11_init 56 = .ok (.putfield 33, 3) := by decide +kernel
theorem dX11_init_59 : decode cX11_init 59 = .ok (.aload_n 0, 1) := by decide +kernel
theorem dX11_init_60 : decode cX11_init 60 = .ok (.new 36, 3) := by decide +kernel
theorem dX11_init_63 : decode cX11_init 63 = .ok (.dup, 1) := by decide +kernel
theorem dX11_init_64 : decode cX11_init 64 = .ok (.aload_n 0, 1) := by decide +kernel
theorem dX11_init_65 : decode cX11_init 65 = .ok (.getfield 23, 3) := by decide +kernel
theorem dX11_init_68 : decode cX11_init 68 = .ok (.aload_n 0, 1) := by decide +kernel
theorem dX11_init_69 : decode cX11_init 69 = .ok (.getfield 29, 3) := by decide +kernel
theorem dX11_init_72 : decode cX11_init 72 = .ok (.invokespecial 38, 3) := by decide +kernel
theorem dX11_init_75 : decode cX11_init 75 = .ok (.putfield 41, 3) := by decide +kernel
theorem dX11_init_78 : decode cX11_init 78 = .ok (.aload_n 0, 1) := by decide +kernel
theorem dX11_init_79 : decode cX11_init 79 = .ok (.new 45, 3) := by decide +kernel
theorem dX11_init_82 : decode cX11_init 82 = .ok (.dup, 1) := by decide +kernel
theorem dX11_init_83 : decode cX11_init 83 = .ok (.invokespecial 47, 3) := by decide +kernel
theorem dX11_init_86 : decode cX11_init 86 = .ok (.putfield 48, 3) := by decide +kernel
theorem dX11_init_89 : decode cX11_init 89 = .ok (.aload_n 0, 1) := by decide +kernel
theorem dX11_init_90 : decode cX11_init 90 = .ok (.new 52, 3) := by decide +kernel
theorem dX11_init_93 : decode cX11_init 93 = .ok (.dup, 1) := by decide +kernel
theorem dX11_init_94 : decode cX11_init 94 = .ok (.invokespecial 54, 3) := by decide +kernel
theorem dX11_init_97 : decode cX11_init 97 = .ok (.putfield 55, 3) := by decide +kernel
theorem dX11_init_100 : decode cX11_init 100 = .ok (.aload_n 0, 1) := by decide +kernel
theorem dX11_init_101 : decode cX11_init 101 = .ok (.iconst 3, 1) := by decide +kernel
theorem dX11_init_102 : decode cX11_init 102 = .ok (.anewarray 16, 3) := by decide +kernel
theorem dX11_init_105 : decode cX11_init 105 = .ok (.putfield 59, 3) := by decide +kernel
theorem dX11_init_108 : decode cX11_init 108 = .ok (.aload_n 0, 1) := by decide +kernel
theorem dX11_init_109 : decode cX11_init 109 = .ok (.iconst 3, 1) := by decide +kernel
theorem dX11_init_110 : decode cX11_init 110 = .ok (.anewarray 26, 3) := by decide +kernel
theorem dX11_init_113 : decode cX11_init 113 = .ok (.putfield 63, 3) := by decide +kernel
theorem dX11_init_116 : decode cX11_init 116 = .ok (.aload_n 0, 1) := by decide +kernel
theorem dX11_init_117 : decode cX11_init 117 = .ok (.iconst 3, 1) := by decide +kernel
theorem dX11_init_118 : decode cX11_init 118 = .ok (.newarray .boolean, 2) := by decide +kernel
theorem dX11_init_120 : decode cX11_init 120 = .ok (.putfield 67, 3) := by decide +kernel
theorem dX11_init_123 : decode cX11_init 123 = .ok (.iconst 0, 1) := by decide +kernel
theorem dX11_init_124 : decode cX11_init 124 = .ok (.istore_n 1, 1) := by decide +kernel
theorem dX11_init_125 : decode cX11_init 125 = .ok (.iload_n 1, 1) := by decide +kernel
theorem dX11_init_126 : decode cX11_init 126 = .ok (.iconst 3, 1) := by decide +kernel
theorem dX11_init_127 : decode cX11_init 127 = .ok (.if_icmp .ge 35, 3) := by decide +kernel
theorem dX11_init_130 : decode cX11_init 130 = .ok (.aload_n 0, 1) := by decide +kernel
theorem dX11_init_131 : decode cX11_init 131 = .ok (.getfield 59, 3) := by decide +kernel
theorem dX11_init_134 : decode cX11_init 134 = .ok (.iload_n 1, 1) := by decide +kernel
theorem dX11_init_135 : decode cX11_init 135 = .ok (.new 16, 3) := by decide +kernel
theorem dX11_init_138 : decode cX11_init 138 = .ok (.dup, 1) := by decide +kernel
theorem dX11_init_139 : decode cX11_init 139 = .ok (.invokespecial 18, 3) := by decide +kernel
theorem dX11_init_142 : decode cX11_init 142 = .ok (.aastore, 1) := by decide +kernel
theorem dX11_init_143 : decode cX11_init 143 = .ok (.aload_n 0, 1) := by decide +kernel
theorem dX11_init_144 : decode cX11_init 144 = .ok (.getfield 63, 3) := by decide +kernel
theorem dX11_init_147 : decode cX11_init 147 = .ok (.iload_n 1, 1) := by decide +kernel
theorem dX11_init_148 : decode cX11_init 148 = .ok (.new 26, 3) := by decide +kernel
theorem dX11_init_151 : decode cX11_init 151 = .ok (.dup, 1) := by decide +kernel
theorem dX11_init_152 : decode cX11_init 152 = .ok (.invokespecial 28, 3) := by decide +kernel
theorem dX11_init_155 : decode cX11_init 155 = .ok (.aastore, 1) := by decide +kernel
theorem dX11_init_156 : decode cX11_init 156 = .ok (.iinc 1 1, 3) := by decide +kernel
theorem dX11_init_159 : decode cX11_init 159 = .ok (.goto (-34), 3) := by decide +kernel
theorem dX11_init_162 : decode cX11_init 162 = .ok (.return_, 1) := by decide +kernel
theorem dX11_feed_0 : decode cX11_feed 0 = .ok (.aload_n 0, 1) := by decide +kernel
theorem dX11_feed_1 : decode cX11_feed 1 = .ok (.getfield 10, 3) := by decide +kernel
theorem dX11_feed_4 : decode cX11_feed 4 = .ok (.getfield 71, 3) := by decide +kernel
theorem dX11_feed_7 : decode cX11_feed 7 = .ok (.bipush 20, 2) := by decide +kernel
theorem dX11_feed_9 : decode cX11_feed 9 = .ok (.iadd, 1) := by decide +kernel
theorem dX11_feed_10 : decode cX11_feed 10 = .ok (.sipush 600, 3) := by decide +kernel
theorem dX11_feed_13 : decode cX11_feed 13 = .ok (.if_icmp .le 5, 3) := by decide +kernel
theorem dX11_feed_16 : decode cX11_feed 16 = .ok (.iconst (-1), 1) := by decide +kernel
theorem dX11_feed_17 : decode cX11_feed 17 = .ok (.ireturn, 1) := by decide +kernel
theorem dX11_feed_18 : decode cX11_feed 18 = .ok (.aload_n 0, 1) := by decide +kernel
theorem dX11_feed_19 : decode cX11_feed 19 = .ok (.getfield 10, 3) := by decide +kernel
theorem dX11_feed_22 : decode cX11_feed 22 = .ok (.iload_n 1, 1) := by decide +kernel
theorem dX11_feed_23 : decode cX11_feed 23 = .ok (.invokevirtual 75, 3) := by decide +kernel
theorem dX11_feed_26 : decode cX11_feed 26 = .ok (.aload_n 0, 1) := by decide +kernel
theorem dX11_feed_27 : decode cX11_feed 27 = .ok (.getfield 10, 3) := by decide +kernel
theorem dX11_feed_30 : decode cX11_feed 30 = .ok (.iload_n 2, 1) := by decide +kernel
theorem dX11_feed_31 : decode cX11_feed 31 = .ok (.invokevirtual 75, 3) := by decide +kernel
theorem dX11_feed_34 : decode cX11_feed 34 = .ok (.aload_n 0, 1) := by decide +kernel
theorem dX11_feed_35 : decode cX11_feed 35 = .ok (.getfield 10, 3) := by decide +kernel
theorem dX11_feed_38 : decode cX11_feed 38 = .ok (.iload_n 3, 1) := by decide +kernel
theorem dX11_feed_39 : decode cX11_feed 39 = .ok (.invokevirtual 75, 3) := by decide +kernel
theorem dX11_feed_42 : decode cX11_feed 42 = .ok (.aload_n 0, 1) := by decide +kernel
theorem dX11_feed_43 : decode cX11_feed 43 = .ok (.getfield 10, 3) := by decide +kernel
theorem dX11_feed_46 : decode cX11_feed 46 = .ok (.iload 4, 2) := by decide +kernel
theorem dX11_feed_48 : decode cX11_feed 48 = .ok (.invokevirtual 75, 3) := by decide +kernel
theorem dX11_feed_51 : decode cX11_feed 51 = .ok (.aload_n 0, 1) := by decide +kernel
theorem dX11_feed_52 : decode cX11_feed 52 = .ok (.getfield 10, 3) := by decide +kernel
theorem dX11_feed_55 : decode cX11_feed 55 = .ok (.iload 5, 2) := by decide +kernel
theorem dX11_feed_57 : decode cX11_feed 57 = .ok (.invokevirtual 75, 3) := by decide +kernel
theorem dX11_feed_60 : decode cX11_feed 60 = .ok (.aload_n 0, 1) := by decide +kernel
theorem dX11_feed_61 : decode cX11_feed 61 = .ok (.getfield 10, 3) := by decide +kernel
theorem dX11_feed_64 : decode cX11_feed 64 = .ok (.getfield 71, 3) := by decide +kernel
theorem dX11_feed_67 : decode cX11_feed 67 = .ok (.ireturn, 1) := by decide +kernel
theorem dX11_end_0 : decode cX11_end 0 = .ok (.iload_n 1, 1) := by decide +kernel
theorem dX11_end_1 : decode cX11_end 1 = .ok (.ifCond .lt 14, 3) := by decide +kernel
theorem dX11_end_4 : decode cX11_end 4 = .ok (.iload_n 1, 1) := by decide +kernel
theorem dX11_end_5 : decode cX11_end 5 = .ok (.aload_n 0, 1) := by decide +kernel
theorem dX11_end_6 : decode cX11_end 6 = .ok (.getfield 10, 3) := by decide +kernel
theorem dX11_end_9 : decode cX11_end 9 = .ok (.getfield 71, 3) := by decide +kernel
theorem dX11_end_12 : decode cX11_end 12 = .ok (.if_icmp .le 5, 3) := by decide +kernel
theorem dX11_end_15 : decode cX11_end 15 = .ok (.iconst (-1), 1) := by decide +kernel
theorem dX11_end_16 : decode cX11_end 16 = .ok (.ireturn, 1) := by decide +kernel
theorem dX11_end_17 : decode cX11_end 17 = .ok (.aload_n 0, 1) := by decide +kernel
theorem dX11_end_18 : decode cX11_end 18 = .ok (.getfield 10, 3) := by decide +kernel
theorem dX11_end_21 : decode cX11_end 21 = .ok (.iload_n 1, 1) := by decide +kernel
theorem dX11_end_22 : decode cX11_end 22 = .ok (.putfield 71, 3) := by decide +kernel
theorem dX11_end_25 : decode cX11_end 25 = .ok (.iload_n 1, 1) := by decide +kernel
theorem dX11_end_26 : decode cX11_end 26 = .ok (.ireturn, 1) := by decide +kernel
theorem dX11_family_0 : decode cX11_family 0 = .ok (.aload_n 0, 1) := by decide +kernel
theorem dX11_family_1 : decode cX11_family 1 = .ok (.getfield 10, 3) := by decide +kernel
theorem dX11_family_4 : decode cX11_family 4 = .ok (.aload_n 0, 1) := by decide +kernel
theorem dX11_family_5 : decode cX11_family 5 = .ok (.getfield 19, 3) := by decide +kernel
theorem dX11_family_8 : decode cX11_family 8 = .ok (.invokevirtual 79, 3) := by decide +kernel
theorem dX11_family_11 : decode cX11_family 11 = .ok (.aload_n 0, 1) := by decide +kernel
theorem dX11_family_12 : decode cX11_family 12 = .ok (.getfield 10, 3) := by decide +kernel
theorem dX11_family_15 : decode cX11_family 15 = .ok (.iconst 0, 1) := by decide +kernel
theorem dX11_family_16 : decode cX11_family 16 = .ok (.putfield 71, 3) := by decide +kernel
theorem dX11_family_19 : decode cX11_family 19 = .ok (.aload_n 0, 1) := by decide +kernel
theorem dX11_family_20 : decode cX11_family 20 = .ok (.getfield 10, 3) := by decide +kernel
theorem dX11_family_23 : decode cX11_family 23 = .ok (.getfield 83, 3) := by decide +kernel
theorem dX11_family_26 : decode cX11_family 26 = .ok (.ifCond .eq 6, 3) := by decide +kernel
theorem dX11_family_29 : decode cX11_family 29 = .ok (.bipush (-4), 2) := by decide +kernel
theorem dX11_family_31 : decode cX11_family 31 = .ok (.ireturn, 1) := by decide +kernel
theorem dX11_family_32 : decode cX11_family 32 = .ok (.aload_n 0, 1) := by decide +kernel
theorem dX11_family_33 : decode cX11_family 33 = .ok (.getfield 23, 3) := by decide +kernel
theorem dX11_family_36 : decode cX11_family 36 = .ok (.aload_n 0, 1) := by decide +kernel
theorem dX11_family_37 : decode cX11_family 37 = .ok (.getfield 19, 3) := by decide +kernel
theorem dX11_family_40 : decode cX11_family 40 = .ok (.invokevirtual 86, 3) := by decide +kernel
theorem dX11_family_43 : decode cX11_family 43 = .ok (.aload_n 0, 1) := by decide +kernel
theorem dX11_family_44 : decode cX11_family 44 = .ok (.getfield 29, 3) := by decide +kernel
theorem dX11_family_47 : decode cX11_family 47 = .ok (.invokevirtual 89, 3) := by decide +kernel
theorem dX11_family_50 : decode cX11_family 50 = .ok (.aload_n 0, 1) := by decide +kernel
theorem dX11_family_51 : decode cX11_family 51 = .ok (.getfield 41, 3) := by decide +kernel
theorem dX11_family_54 : decode cX11_family 54 = .ok (.invokevirtual 92, 3) := by decide +kernel
theorem dX11_family_57 : decode cX11_family 57 = .ok (.aload_n 0, 1) := by decide +kernel
theorem dX11_family_58 : decode cX11_family 58 = .ok (.getfield 23, 3) := by decide +kernel
theorem dX11_family_61 : decode cX11_family 61 = .ok (.getfield 95, 3) := by decide +kernel
theorem dX11_family_64 : decode cX11_family 64 = .ok (.ireturn, 1) := by decide +kernel
theorem dX11_fault_0 : decode cX11_fault 0 = .ok (.iload_n 1, 1) := by decide +kernel
theorem dX11_fault_1 : decode cX11_fault 1 = .ok (.lookupswitch 43 #[(0, 27), (1, 35)], 27) := by decide +kernel
theorem dX11_fault_28 : decode cX11_fault 28 = .ok (.aload_n 0, 1) := by decide +kernel
theorem dX11_fault_29 : decode cX11_fault 29 = .ok (.getfield 10, 3) := by decide +kernel
theorem dX11_fault_32 : decode cX11_fault 32 = .ok (.getfield 83, 3) := by decide +kernel
theorem dX11_fault_35 : decode cX11_fault 35 = .ok (.ireturn, 1) := by decide +kernel
theorem dX11_fault_36 : decode cX11_fault 36 = .ok (.aload_n 0, 1) := by decide +kernel
theorem dX11_fault_37 : decode cX11_fault 37 = .ok (.getfield 10, 3) := by decide +kernel
theorem dX11_fault_40 : decode cX11_fault 40 = .ok (.getfield 98, 3) := by decide +kernel
theorem dX11_fault_43 : decode cX11_fault 43 = .ok (.ireturn, 1) := by decide +kernel
theorem dX11_fault_44 : decode cX11_fault 44 = .ok (.iconst (-1), 1) := by decide +kernel
theorem dX11_fault_45 : decode cX11_fault 45 = .ok (.ireturn, 1) := by decide +kernel
theorem dX11_person_0 : decode cX11_person 0 = .ok (.aload_n 0, 1) := by decide +kernel
theorem dX11_person_1 : decode cX11_person 1 = .ok (.getfield 23, 3) := by decide +kernel
theorem dX11_person_4 : decode cX11_person 4 = .ok (.iload_n 1, 1) := by decide +kernel
theorem dX11_person_5 : decode cX11_person 5 = .ok (.invokevirtual 101, 3) := by decide +kernel
theorem dX11_person_8 : decode cX11_person 8 = .ok (.ifCond .ne 6, 3) := by decide +kernel
theorem dX11_person_11 : decode cX11_person 11 = .ok (.bipush (-2), 2) := by decide +kernel
theorem dX11_person_13 : decode cX11_person 13 = .ok (.ireturn, 1) := by decide +kernel
theorem dX11_person_14 : decode cX11_person 14 = .ok (.iload_n 2, 1) := by decide +kernel
theorem dX11_person_15 : decode cX11_person 15 = .ok (.tableswitch 85 0 4 #[33, 43, 53, 63, 73], 33) := by decide +kernel
theorem dX11_person_48 : decode cX11_person 48 = .ok (.aload_n 0, 1) := by decide +kernel
theorem dX11_person_49 : decode cX11_person 49 = .ok (.getfield 23, 3) := by decide +kernel
theorem dX11_person_52 : decode cX11_person 52 = .ok (.getfield 105, 3) := by decide +kernel
theorem dX11_person_55 : decode cX11_person 55 = .ok (.iload_n 1, 1) := by decide +kernel
theorem dX11_person_56 : decode cX11_person 56 = .ok (.iaload, 1) := by decide +kernel
theorem dX11_person_57 : decode cX11_person 57 = .ok (.ireturn, 1) := by decide +kernel
theorem dX11_person_58 : decode cX11_person 58 = .ok (.aload_n 0, 1) := by decide +kernel
theorem dX11_person_59 : decode cX11_person 59 = .ok (.getfield 23, 3) := by decide +kernel
theorem dX11_person_62 : decode cX11_person 62 = .ok (.getfield 109, 3) := by decide +kernel
theorem dX11_person_65 : decode cX11_person 65 = .ok (.iload_n 1, 1) := by decide +kernel
theorem dX11_person_66 : decode cX11_person 66 = .ok (.iaload, 1) := by decide +kernel
theorem dX11_person_67 : decode cX11_person 67 = .ok (.ireturn, 1) := by decide +kernel
theorem dX11_person_68 : decode cX11_person 68 = .ok (.aload_n 0, 1) := by decide +kernel
theorem dX11_person_69 : decode cX11_person 69 = .ok (.getfield 23, 3) := by decide +kernel
theorem dX11_person_72 : decode cX11_person 72 = .ok (.getfield 112, 3) := by decide +kernel
theorem dX11_person_75 : decode cX11_person 75 = .ok (.iload_n 1, 1) := by decide +kernel
theorem dX11_person_76 : decode cX11_person 76 = .ok (.iaload, 1) := by decide +kernel
theorem dX11_person_77 : decode cX11_person 77 = .ok (.ireturn, 1) := by decide +kernel
theorem dX11_person_78 : decode cX11_person 78 = .ok (.aload_n 0, 1) := by decide +kernel
theorem dX11_person_79 : decode cX11_person 79 = .ok (.getfield 23, 3) := by decide +kernel
theorem dX11_person_82 : decode cX11_person 82 = .ok (.getfield 115, 3) := by decide +kernel
theorem dX11_person_85 : decode cX11_person 85 = .ok (.iload_n 1, 1) := by decide +kernel
theorem dX11_person_86 : decode cX11_person 86 = .ok (.iaload, 1) := by decide +kernel
theorem dX11_person_87 : decode cX11_person 87 = .ok (.ireturn, 1) := by decide +kernel
theorem dX11_person_88 : decode cX11_person 88 = .ok (.aload_n 0, 1) := by decide +kernel
theorem dX11_person_89 : decode cX11_person 89 = .ok (.getfield 29, 3) := by decide +kernel
theorem dX11_person_92 : decode cX11_person 92 = .ok (.getfield 118, 3) := by decide +kernel
theorem dX11_person_95 : decode cX11_person 95 = .ok (.iload_n 1, 1) := by decide +kernel
theorem dX11_person_96 : decode cX11_person 96 = .ok (.ishr, 1) := by decide +kernel
theorem dX11_person_97 : decode cX11_person 97 = .ok (.iconst 1, 1) := by decide +kernel
theorem dX11_person_98 : decode cX11_person 98 = .ok (.iand, 1) := by decide +kernel
theorem dX11_person_99 : decode cX11_person 99 = .ok (.ireturn, 1) := by decide +kernel
theorem dX11_person_100 : decode cX11_person 100 = .ok (.bipush (-2), 2) := by decide +kernel
theorem dX11_person_102 : decode cX11_person 102 = .ok (.ireturn, 1) := by decide +kernel
theorem dX11_post_0 : decode cX11_post 0 = .ok (.aload_n 0, 1) := by decide +kernel
theorem dX11_post_1 : decode cX11_post 1 = .ok (.getfield 23, 3) := by decide +kernel
theorem dX11_post_4 : decode cX11_post 4 = .ok (.iload_n 1, 1) := by decide +kernel
theorem dX11_post_5 : decode cX11_post 5 = .ok (.invokevirtual 121, 3) := by decide +kernel
theorem dX11_post_8 : decode cX11_post 8 = .ok (.ifCond .ne 6, 3) := by decide +kernel
theorem dX11_post_11 : decode cX11_post 11 = .ok (.bipush (-2), 2) := by decide +kernel
theorem dX11_post_13 : decode cX11_post 13 = .ok (.ireturn, 1) := by decide +kernel
theorem dX11_post_14 : decode cX11_post 14 = .ok (.iload_n 2, 1) := by decide +kernel
theorem dX11_post_15 : decode cX11_post 15 = .ok (.tableswitch 69 0 3 #[29, 39, 49, 59], 29) := by decide +kernel
theorem dX11_post_44 : decode cX11_post 44 = .ok (.aload_n 0, 1) := by decide +kernel
theorem dX11_post_45 : decode cX11_post 45 = .ok (.getfield 23, 3) := by decide +kernel
theorem dX11_post_48 : decode cX11_post 48 = .ok (.getfield 124, 3) := by decide +kernel
theorem dX11_post_51 : decode cX11_post 51 = .ok (.iload_n 1, 1) := by decide +kernel
theorem dX11_post_52 : decode cX11_post 52 = .ok (.iaload, 1) := by decide +kernel
theorem dX11_post_53 : decode cX11_post 53 = .ok (.ireturn, 1) := by decide +kernel
theorem dX11_post_54 : decode cX11_post 54 = .ok (.aload_n 0, 1) := by decide +kernel
theorem dX11_post_55 : decode cX11_post 55 = .ok (.getfield 23, 3) := by decide +kernel
theorem dX11_post_58 : decode cX11_post 58 = .ok (.getfield 127, 3) := by decide +kernel
theorem dX11_post_61 : decode cX11_post 61 = .ok (.iload_n 1, 1) := by decide +kernel
theorem dX11_post_62 : decode cX11_post 62 = .ok (.iaload, 1) := by decide +kernel
theorem dX11_post_63 : decode cX11_post 63 = .ok (.ireturn, 1) := by decide +kernel
theorem dX11_post_64 : decode cX11_post 64 = .ok (.aload_n 0, 1) := by decide +kernel
theorem dX11_post_65 : decode cX11_post 65 = .ok (.getfield 23, 3) := by decide +kernel
theorem dX11_post_68 : decode cX11_post 68 = .ok (.getfield 130, 3) := by decide +kernel
theorem dX11_post_71 : decode cX11_post 71 = .ok (.iload_n 1, 1) := by decide +kernel
theorem dX11_post_72 : decode cX11_post 72 = .ok (.iaload, 1) := by decide +kernel
theorem dX11_post_73 : decode cX11_post 73 = .ok (.ireturn, 1) := by decide +kernel
theorem dX11_post_74 : decode cX11_post 74 = .ok (.aload_n 0, 1) := by decide +kernel
theorem dX11_post_75 : decode cX11_post 75 = .ok (.getfield 29, 3) := by decide +kernel
theorem dX11_post_78 : decode cX11_post 78 = .ok (.getfield 133, 3) := by decide +kernel
theorem dX11_post_81 : decode cX11_post 81 = .ok (.iload_n 1, 1) := by decide +kernel
theorem dX11_post_82 : decode cX11_post 82 = .ok (.iaload, 1) := by decide +kernel
theorem dX11_post_83 : decode cX11_post 83 = .ok (.ireturn, 1) := by decide +kernel
theorem dX11_post_84 : decode cX11_post 84 = .ok (.bipush (-2), 2) := by decide +kernel
theorem dX11_post_86 : decode cX11_post 86 = .ok (.ireturn, 1) := by decide +kernel
theorem dX11_risk_0 : decode cX11_risk 0 = .ok (.aload_n 0, 1) := by decide +kernel
theorem dX11_risk_1 : decode cX11_risk 1 = .ok (.getfield 23, 3) := by decide +kernel
theorem dX11_risk_4 : decode cX11_risk 4 = .ok (.iload_n 1, 1) := by decide +kernel
theorem dX11_risk_5 : decode cX11_risk 5 = .ok (.invokevirtual 101, 3) := by decide +kernel
theorem dX11_risk_8 : decode cX11_risk 8 = .ok (.ifCond .eq 14, 3) := by decide +kernel
theorem dX11_risk_11 : decode cX11_risk 11 = .ok (.aload_n 0, 1) := by decide +kernel
theorem dX11_risk_12 : decode cX11_risk 12 = .ok (.getfield 23, 3) := by decide +kernel
theorem dX11_risk_15 : decode cX11_risk 15 = .ok (.iload_n 2, 1) := by decide +kernel
theorem dX11_risk_16 : decode cX11_risk 16 = .ok (.invokevirtual 121, 3) := by decide +kernel
theorem dX11_risk_19 : decode cX11_risk 19 = .ok (.ifCond .ne 6, 3) := by decide +kernel
theorem dX11_risk_22 : decode cX11_risk 22 = .ok (.bipush (-2), 2) := by decide +kernel
theorem dX11_risk_24 : decode cX11_risk 24 = .ok (.ireturn, 1) := by decide +kernel
theorem dX11_risk_25 : decode cX11_risk 25 = .ok (.aload_n 0, 1) := by decide +kernel
theorem dX11_risk_26 : decode cX11_risk 26 = .ok (.getfield 23, 3) := by decide +kernel
theorem dX11_risk_29 : decode cX11_risk 29 = .ok (.iload_n 1, 1) := by decide +kernel
theorem dX11_risk_30 : decode cX11_risk 30 = .ok (.iload_n 2, 1) := by decide +kernel
theorem dX11_risk_31 : decode cX11_risk 31 = .ok (.invokevirtual 136, 3) := by decide +kernel
theorem dX11_risk_34 : decode cX11_risk 34 = .ok (.ireturn, 1) := by decide +kernel
theorem dX11_after_0 : decode cX11_after 0 = .ok (.aload_n 0, 1) := by decide +kernel
theorem dX11_after_1 : decode cX11_after 1 = .ok (.getfield 23, 3) := by decide +kernel
theorem dX11_after_4 : decode cX11_after 4 = .ok (.iload_n 2, 1) := by decide +kernel
theorem dX11_after_5 : decode cX11_after 5 = .ok (.invokevirtual 121, 3) := by decide +kernel
theorem dX11_after_8 : decode cX11_after 8 = .ok (.ifCond .eq 14, 3) := by decide +kernel
theorem dX11_after_11 : decode cX11_after 11 = .ok (.aload_n 0, 1) := by decide +kernel
theorem dX11_after_12 : decode cX11_after 12 = .ok (.getfield 23, 3) := by decide +kernel
theorem dX11_after_15 : decode cX11_after 15 = .ok (.iload_n 1, 1) := by decide +kernel
theorem dX11_after_16 : decode cX11_after 16 = .ok (.invokevirtual 140, 3) := by decide +kernel
theorem dX11_after_19 : decode cX11_after 19 = .ok (.ifCond .ne 6, 3) := by decide +kernel
theorem dX11_after_22 : decode cX11_after 22 = .ok (.bipush (-2), 2) := by decide +kernel
theorem dX11_after_24 : decode cX11_after 24 = .ok (.ireturn, 1) := by decide +kernel
theorem dX11_after_25 : decode cX11_after 25 = .ok (.aload_n 0, 1) := by decide +kernel
theorem dX11_after_26 : decode cX11_after 26 = .ok (.getfield 23, 3) := by decide +kernel
theorem dX11_after_29 : decode cX11_after 29 = .ok (.iload_n 1, 1) := by decide +kernel
theorem dX11_after_30 : decode cX11_after 30 = .ok (.iload_n 2, 1) := by decide +kernel
theorem dX11_after_31 : decode cX11_after 31 = .ok (.invokevirtual 143, 3) := by decide +kernel
theorem dX11_after_34 : decode cX11_after 34 = .ok (.ireturn, 1) := by decide +kernel
theorem dX11_now_0 : decode cX11_now 0 = .ok (.aload_n 0, 1) := by decide +kernel
theorem dX11_now_1 : decode cX11_now 1 = .ok (.getfield 23, 3) := by decide +kernel
theorem dX11_now_4 : decode cX11_now 4 = .ok (.invokevirtual 146, 3) := by decide +kernel
theorem dX11_now_7 : decode cX11_now 7 = .ok (.ifCond .ne 6, 3) := by decide +kernel
theorem dX11_now_10 : decode cX11_now 10 = .ok (.bipush (-2), 2) := by decide +kernel
theorem dX11_now_12 : decode cX11_now 12 = .ok (.ireturn, 1) := by decide +kernel
theorem dX11_now_13 : decode cX11_now 13 = .ok (.iload_n 1, 1) := by decide +kernel
theorem dX11_now_14 : decode cX11_now 14 = .ok (.tableswitch 78 0 4 #[34, 42, 50, 58, 66], 34) := by decide +kernel
theorem dX11_now_48 : decode cX11_now 48 = .ok (.aload_n 0, 1) := by decide +kernel
theorem dX11_now_49 : decode cX11_now 49 = .ok (.getfield 29, 3) := by decide +kernel
theorem dX11_now_52 : decode cX11_now 52 = .ok (.getfield 118, 3) := by decide +kernel
theorem dX11_now_55 : decode cX11_now 55 = .ok (.ireturn, 1) := by decide +kernel
theorem dX11_now_56 : decode cX11_now 56 = .ok (.aload_n 0, 1) := by decide +kernel
theorem dX11_now_57 : decode cX11_now 57 = .ok (.getfield 29, 3) := by decide +kernel
theorem dX11_now_60 : decode cX11_now 60 = .ok (.getfield 150, 3) := by decide +kernel
theorem dX11_now_63 : decode cX11_now 63 = .ok (.ireturn, 1) := by decide +kernel
theorem dX11_now_64 : decode cX11_now 64 = .ok (.aload_n 0, 1) := by decide +kernel
theorem dX11_now_65 : decode cX11_now 65 = .ok (.getfield 29, 3) := by decide +kernel
theorem dX11_now_68 : decode cX11_now 68 = .ok (.getfield 153, 3) := by decide +kernel
theorem dX11_now_71 : decode cX11_now 71 = .ok (.ireturn, 1) := by decide +kernel
theorem dX11_now_72 : decode cX11_now 72 = .ok (.aload_n 0, 1) := by decide +kernel
theorem dX11_now_73 : decode cX11_now 73 = .ok (.getfield 29, 3) := by decide +kernel
theorem dX11_now_76 : decode cX11_now 76 = .ok (.getfield 156, 3) := by decide +kernel
theorem dX11_now_79 : decode cX11_now 79 = .ok (.ireturn, 1) := by decide +kernel
theorem dX11_now_80 : decode cX11_now 80 = .ok (.aload_n 0, 1) := by decide +kernel
theorem dX11_now_81 : decode cX11_now 81 = .ok (.getfield 29, 3) := by decide +kernel
theorem dX11_now_84 : decode cX11_now 84 = .ok (.aload_n 0, 1) := by decide +kernel
theorem dX11_now_85 : decode cX11_now 85 = .ok (.getfield 23, 3) := by decide +kernel
theorem dX11_now_88 : decode cX11_now 88 = .ok (.invokevirtual 159, 3) := by decide +kernel
theorem dX11_now_91 : decode cX11_now 91 = .ok (.ireturn, 1) := by decide +kernel
theorem dX11_now_92 : decode cX11_now 92 = .ok (.bipush (-2), 2) := by decide +kernel
theorem dX11_now_94 : decode cX11_now 94 = .ok (.ireturn, 1) := by decide +kernel
theorem dX11_stamp_0 : decode cX11_stamp 0 = .ok (.aload_n 0, 1) := by decide +kernel
theorem dX11_stamp_1 : decode cX11_stamp 1 = .ok (.getfield 23, 3) := by decide +kernel
theorem dX11_stamp_4 : decode cX11_stamp 4 = .ok (.invokevirtual 146, 3) := by decide +kernel
theorem dX11_stamp_7 : decode cX11_stamp 7 = .ok (.ifCond .ne 6, 3) := by decide +kernel
theorem dX11_stamp_10 : decode cX11_stamp 10 = .ok (.bipush (-2), 2) := by decide +kernel
theorem dX11_stamp_12 : decode cX11_stamp 12 = .ok (.ireturn, 1) := by decide +kernel
theorem dX11_stamp_13 : decode cX11_stamp 13 = .ok (.iload_n 1, 1) := by decide +kernel
theorem dX11_stamp_14 : decode cX11_stamp 14 = .ok (.ifCond .lt 26, 3) := by decide +kernel
theorem dX11_stamp_17 : decode cX11_stamp 17 = .ok (.iload_n 1, 1) := by decide +kernel
theorem dX11_stamp_18 : decode cX11_stamp 18 = .ok (.aload_n 0, 1) := by decide +kernel
theorem dX11_stamp_19 : decode cX11_stamp 19 = .ok (.getfield 29, 3) := by decide +kernel
theorem dX11_stamp_22 : decode cX11_stamp 22 = .ok (.getfield 156, 3) := by decide +kernel
theorem dX11_stamp_25 : decode cX11_stamp 25 = .ok (.if_icmp .ge 15, 3) := by decide +kernel
theorem dX11_stamp_28 : decode cX11_stamp 28 = .ok (.aload_n 0, 1) := by decide +kernel
theorem dX11_stamp_29 : decode cX11_stamp 29 = .ok (.getfield 29, 3) := by decide +kernel
theorem dX11_stamp_32 : decode cX11_stamp 32 = .ok (.getfield 163, 3) := by decide +kernel
theorem dX11_stamp_35 : decode cX11_stamp 35 = .ok (.iload_n 1, 1) := by decide +kernel
theorem dX11_stamp_36 : decode cX11_stamp 36 = .ok (.iaload, 1) := by decide +kernel
theorem dX11_stamp_37 : decode cX11_stamp 37 = .ok (.goto 4, 3) := by decide +kernel
theorem dX11_stamp_40 : decode cX11_stamp 40 = .ok (.iconst (-1), 1) := by decide +kernel
theorem dX11_stamp_41 : decode cX11_stamp 41 = .ok (.ireturn, 1) := by decide +kernel
theorem dX11_lies_0 : decode cX11_lies 0 = .ok (.aload_n 0, 1) := by decide +kernel
theorem dX11_lies_1 : decode cX11_lies 1 = .ok (.getfield 23, 3) := by decide +kernel
theorem dX11_lies_4 : decode cX11_lies 4 = .ok (.invokevirtual 146, 3) := by decide +kernel
theorem dX11_lies_7 : decode cX11_lies 7 = .ok (.ifCond .eq 13, 3) := by decide +kernel
theorem dX11_lies_10 : decode cX11_lies 10 = .ok (.aload_n 0, 1) := by decide +kernel
theorem dX11_lies_11 : decode cX11_lies 11 = .ok (.getfield 29, 3) := by decide +kernel
theorem dX11_lies_14 : decode cX11_lies 14 = .ok (.invokevirtual 166, 3) := by decide +kernel
theorem dX11_lies_17 : decode cX11_lies 17 = .ok (.goto 5, 3) := by decide +kernel
theorem dX11_lies_20 : decode cX11_lies 20 = .ok (.bipush (-2), 2) := by decide +kernel
theorem dX11_lies_22 : decode cX11_lies 22 = .ok (.ireturn, 1) := by decide +kernel
theorem dX11_why_0 : decode cX11_why 0 = .ok (.aload_n 0, 1) := by decide +kernel
theorem dX11_why_1 : decode cX11_why 1 = .ok (.getfield 23, 3) := by decide +kernel
theorem dX11_why_4 : decode cX11_why 4 = .ok (.iload_n 1, 1) := by decide +kernel
theorem dX11_why_5 : decode cX11_why 5 = .ok (.iload_n 2, 1) := by decide +kernel
theorem dX11_why_6 : decode cX11_why 6 = .ok (.iload_n 3, 1) := by decide +kernel
theorem dX11_why_7 : decode cX11_why 7 = .ok (.invokevirtual 170, 3) := by decide +kernel
theorem dX11_why_10 : decode cX11_why 10 = .ok (.ifCond .ne 6, 3) := by decide +kernel
theorem dX11_why_13 : decode cX11_why 13 = .ok (.bipush (-2), 2) := by decide +kernel
theorem dX11_why_15 : decode cX11_why 15 = .ok (.ireturn, 1) := by decide +kernel
theorem dX11_why_16 : decode cX11_why 16 = .ok (.aload_n 0, 1) := by decide +kernel
theorem dX11_why_17 : decode cX11_why 17 = .ok (.getfield 29, 3) := by decide +kernel
theorem dX11_why_20 : decode cX11_why 20 = .ok (.aload_n 0, 1) := by decide +kernel
theorem dX11_why_21 : decode cX11_why 21 = .ok (.getfield 23, 3) := by decide +kernel
theorem dX11_why_24 : decode cX11_why 24 = .ok (.iload_n 1, 1) := by decide +kernel
theorem dX11_why_25 : decode cX11_why 25 = .ok (.iload_n 2, 1) := by decide +kernel
theorem dX11_why_26 : decode cX11_why 26 = .ok (.iload_n 3, 1) := by decide +kernel
theorem dX11_why_27 : decode cX11_why 27 = .ok (.invokevirtual 174, 3) := by decide +kernel
theorem dX11_why_30 : decode cX11_why 30 = .ok (.ireturn, 1) := by decide +kernel
theorem dX11_cross_0 : decode cX11_cross 0 = .ok (.aload_n 0, 1) := by decide +kernel
theorem dX11_cross_1 : decode cX11_cross 1 = .ok (.getfield 23, 3) := by decide +kernel
theorem dX11_cross_4 : decode cX11_cross 4 = .ok (.iload_n 1, 1) := by decide +kernel
theorem dX11_cross_5 : decode cX11_cross 5 = .ok (.iload_n 2, 1) := by decide +kernel
theorem dX11_cross_6 : decode cX11_cross 6 = .ok (.iload_n 3, 1) := by decide +kernel
theorem dX11_cross_7 : decode cX11_cross 7 = .ok (.invokevirtual 170, 3) := by decide +kernel
theorem dX11_cross_10 : decode cX11_cross 10 = .ok (.ifCond .ne 6, 3) := by decide +kernel
theorem dX11_cross_13 : decode cX11_cross 13 = .ok (.bipush (-2), 2) := by decide +kernel
theorem dX11_cross_15 : decode cX11_cross 15 = .ok (.ireturn, 1) := by decide +kernel
theorem dX11_cross_16 : decode cX11_cross 16 = .ok (.aload_n 0, 1) := by decide +kernel
theorem dX11_cross_17 : decode cX11_cross 17 = .ok (.getfield 29, 3) := by decide +kernel
theorem dX11_cross_20 : decode cX11_cross 20 = .ok (.getfield 178, 3) := by decide +kernel
theorem dX11_cross_23 : decode cX11_cross 23 = .ok (.bipush 40, 2) := by decide +kernel
theorem dX11_cross_25 : decode cX11_cross 25 = .ok (.if_icmp .ge 20, 3) := by decide +kernel
theorem dX11_cross_28 : decode cX11_cross 28 = .ok (.aload_n 0, 1) := by decide +kernel
theorem dX11_cross_29 : decode cX11_cross 29 = .ok (.getfield 29, 3) := by decide +kernel
theorem dX11_cross_32 : decode cX11_cross 32 = .ok (.aload_n 0, 1) := by decide +kernel
theorem dX11_cross_33 : decode cX11_cross 33 = .ok (.getfield 23, 3) := by decide +kernel
theorem dX11_cross_36 : decode cX11_cross 36 = .ok (.iload_n 1, 1) := by decide +kernel
theorem dX11_cross_37 : decode cX11_cross 37 = .ok (.iload_n 2, 1) := by decide +kernel
theorem dX11_cross_38 : decode cX11_cross 38 = .ok (.iload_n 3, 1) := by decide +kernel
theorem dX11_cross_39 : decode cX11_cross 39 = .ok (.invokevirtual 174, 3) := by decide +kernel
theorem dX11_cross_42 : decode cX11_cross 42 = .ok (.ifCond .eq 6, 3) := by decide +kernel
theorem dX11_cross_45 : decode cX11_cross 45 = .ok (.bipush (-5), 2) := by decide +kernel
theorem dX11_cross_47 : decode cX11_cross 47 = .ok (.ireturn, 1) := by decide +kernel
theorem dX11_cross_48 : decode cX11_cross 48 = .ok (.aload_n 0, 1) := by decide +kernel
theorem dX11_cross_49 : decode cX11_cross 49 = .ok (.getfield 29, 3) := by decide +kernel
theorem dX11_cross_52 : decode cX11_cross 52 = .ok (.aload_n 0, 1) := by decide +kernel
theorem dX11_cross_53 : decode cX11_cross 53 = .ok (.getfield 23, 3) := by decide +kernel
theorem dX11_cross_56 : decode cX11_cross 56 = .ok (.iload_n 1, 1) := by decide +kernel
theorem dX11_cross_57 : decode cX11_cross 57 = .ok (.iload_n 2, 1) := by decide +kernel
theorem dX11_cross_58 : decode cX11_cross 58 = .ok (.iload_n 3, 1) := by decide +kernel
theorem dX11_cross_59 : decode cX11_cross 59 = .ok (.invokevirtual 181, 3) := by decide +kernel
theorem dX11_cross_62 : decode cX11_cross 62 = .ok (.aload_n 0, 1) := by decide +kernel
theorem dX11_cross_63 : decode cX11_cross 63 = .ok (.getfield 29, 3) := by decide +kernel
theorem dX11_cross_66 : decode cX11_cross 66 = .ok (.getfield 153, 3) := by decide +kernel
theorem dX11_cross_69 : decode cX11_cross 69 = .ok (.ireturn, 1) := by decide +kernel
theorem dX11_loaf_0 : decode cX11_loaf 0 = .ok (.aload_n 0, 1) := by decide +kernel
theorem dX11_loaf_1 : decode cX11_loaf 1 = .ok (.getfield 23, 3) := by decide +kernel
theorem dX11_loaf_4 : decode cX11_loaf 4 = .ok (.invokevirtual 146, 3) := by decide +kernel
theorem dX11_loaf_7 : decode cX11_loaf 7 = .ok (.ifCond .ne 6, 3) := by decide +kernel
theorem dX11_loaf_10 : decode cX11_loaf 10 = .ok (.bipush (-2), 2) := by decide +kernel
theorem dX11_loaf_12 : decode cX11_loaf 12 = .ok (.ireturn, 1) := by decide +kernel
theorem dX11_loaf_13 : decode cX11_loaf 13 = .ok (.aload_n 0, 1) := by decide +kernel
theorem dX11_loaf_14 : decode cX11_loaf 14 = .ok (.getfield 29, 3) := by decide +kernel
theorem dX11_loaf_17 : decode cX11_loaf 17 = .ok (.getfield 178, 3) := by decide +kernel
theorem dX11_loaf_20 : decode cX11_loaf 20 = .ok (.bipush 40, 2) := by decide +kernel
theorem dX11_loaf_22 : decode cX11_loaf 22 = .ok (.if_icmp .lt 6, 3) := by decide +kernel
theorem dX11_loaf_25 : decode cX11_loaf 25 = .ok (.bipush (-5), 2) := by decide +kernel
theorem dX11_loaf_27 : decode cX11_loaf 27 = .ok (.ireturn, 1) := by decide +kernel
theorem dX11_loaf_28 : decode cX11_loaf 28 = .ok (.aload_n 0, 1) := by decide +kernel
theorem dX11_loaf_29 : decode cX11_loaf 29 = .ok (.getfield 29, 3) := by decide +kernel
theorem dX11_loaf_32 : decode cX11_loaf 32 = .ok (.aload_n 0, 1) := by decide +kernel
theorem dX11_loaf_33 : decode cX11_loaf 33 = .ok (.getfield 23, 3) := by decide +kernel
theorem dX11_loaf_36 : decode cX11_loaf 36 = .ok (.invokevirtual 185, 3) := by decide +kernel
theorem dX11_loaf_39 : decode cX11_loaf 39 = .ok (.aload_n 0, 1) := by decide +kernel
theorem dX11_loaf_40 : decode cX11_loaf 40 = .ok (.getfield 29, 3) := by decide +kernel
theorem dX11_loaf_43 : decode cX11_loaf 43 = .ok (.getfield 153, 3) := by decide +kernel
theorem dX11_loaf_46 : decode cX11_loaf 46 = .ok (.ireturn, 1) := by decide +kernel
theorem dX11_undo_0 : decode cX11_undo 0 = .ok (.aload_n 0, 1) := by decide +kernel
theorem dX11_undo_1 : decode cX11_undo 1 = .ok (.getfield 23, 3) := by decide +kernel
theorem dX11_undo_4 : decode cX11_undo 4 = .ok (.invokevirtual 146, 3) := by decide +kernel
theorem dX11_undo_7 : decode cX11_undo 7 = .ok (.ifCond .ne 6, 3) := by decide +kernel
theorem dX11_undo_10 : decode cX11_undo 10 = .ok (.bipush (-2), 2) := by decide +kernel
theorem dX11_undo_12 : decode cX11_undo 12 = .ok (.ireturn, 1) := by decide +kernel
theorem dX11_undo_13 : decode cX11_undo 13 = .ok (.aload_n 0, 1) := by decide +kernel
theorem dX11_undo_14 : decode cX11_undo 14 = .ok (.getfield 29, 3) := by decide +kernel
theorem dX11_undo_17 : decode cX11_undo 17 = .ok (.getfield 178, 3) := by decide +kernel
theorem dX11_undo_20 : decode cX11_undo 20 = .ok (.ifCond .ne 6, 3) := by decide +kernel
theorem dX11_undo_23 : decode cX11_undo 23 = .ok (.bipush (-5), 2) := by decide +kernel
theorem dX11_undo_25 : decode cX11_undo 25 = .ok (.ireturn, 1) := by decide +kernel
theorem dX11_undo_26 : decode cX11_undo 26 = .ok (.aload_n 0, 1) := by decide +kernel
theorem dX11_undo_27 : decode cX11_undo 27 = .ok (.getfield 29, 3) := by decide +kernel
theorem dX11_undo_30 : decode cX11_undo 30 = .ok (.aload_n 0, 1) := by decide +kernel
theorem dX11_undo_31 : decode cX11_undo 31 = .ok (.getfield 23, 3) := by decide +kernel
theorem dX11_undo_34 : decode cX11_undo 34 = .ok (.aload_n 0, 1) := by decide +kernel
theorem dX11_undo_35 : decode cX11_undo 35 = .ok (.getfield 29, 3) := by decide +kernel
theorem dX11_undo_38 : decode cX11_undo 38 = .ok (.getfield 178, 3) := by decide +kernel
theorem dX11_undo_41 : decode cX11_undo 41 = .ok (.iconst 1, 1) := by decide +kernel
theorem dX11_undo_42 : decode cX11_undo 42 = .ok (.isub, 1) := by decide +kernel
theorem dX11_undo_43 : decode cX11_undo 43 = .ok (.invokevirtual 188, 3) := by decide +kernel
theorem dX11_undo_46 : decode cX11_undo 46 = .ok (.aload_n 0, 1) := by decide +kernel
theorem dX11_undo_47 : decode cX11_undo 47 = .ok (.getfield 29, 3) := by decide +kernel
theorem dX11_undo_50 : decode cX11_undo 50 = .ok (.getfield 178, 3) := by decide +kernel
theorem dX11_undo_53 : decode cX11_undo 53 = .ok (.ireturn, 1) := by decide +kernel
theorem dX11_anew_0 : decode cX11_anew 0 = .ok (.aload_n 0, 1) := by decide +kernel
theorem dX11_anew_1 : decode cX11_anew 1 = .ok (.getfield 23, 3) := by decide +kernel
theorem dX11_anew_4 : decode cX11_anew 4 = .ok (.invokevirtual 146, 3) := by decide +kernel
theorem dX11_anew_7 : decode cX11_anew 7 = .ok (.ifCond .ne 6, 3) := by decide +kernel
theorem dX11_anew_10 : decode cX11_anew 10 = .ok (.bipush (-2), 2) := by decide +kernel
theorem dX11_anew_12 : decode cX11_anew 12 = .ok (.ireturn, 1) := by decide +kernel
theorem dX11_anew_13 : decode cX11_anew 13 = .ok (.aload_n 0, 1) := by decide +kernel
theorem dX11_anew_14 : decode cX11_anew 14 = .ok (.getfield 29, 3) := by decide +kernel
theorem dX11_anew_17 : decode cX11_anew 17 = .ok (.getfield 178, 3) := by decide +kernel
theorem dX11_anew_20 : decode cX11_anew 20 = .ok (.istore_n 1, 1) := by decide +kernel
theorem dX11_anew_21 : decode cX11_anew 21 = .ok (.aload_n 0, 1) := by decide +kernel
theorem dX11_anew_22 : decode cX11_anew 22 = .ok (.getfield 29, 3) := by decide +kernel
theorem dX11_anew_25 : decode cX11_anew 25 = .ok (.invokevirtual 89, 3) := by decide +kernel
theorem dX11_anew_28 : decode cX11_anew 28 = .ok (.iload_n 1, 1) := by decide +kernel
theorem dX11_anew_29 : decode cX11_anew 29 = .ok (.ireturn, 1) := by decide +kernel
theorem dX11_act_0 : decode cX11_act 0 = .ok (.aload_n 0, 1) := by decide +kernel
theorem dX11_act_1 : decode cX11_act 1 = .ok (.getfield 23, 3) := by decide +kernel
theorem dX11_act_4 : decode cX11_act 4 = .ok (.invokevirtual 146, 3) := by decide +kernel
theorem dX11_act_7 : decode cX11_act 7 = .ok (.ifCond .ne 6, 3) := by decide +kernel
theorem dX11_act_10 : decode cX11_act 10 = .ok (.bipush (-2), 2) := by decide +kernel
theorem dX11_act_12 : decode cX11_act 12 = .ok (.ireturn, 1) := by decide +kernel
theorem dX11_act_13 : decode cX11_act 13 = .ok (.iload_n 1, 1) := by decide +kernel
theorem dX11_act_14 : decode cX11_act 14 = .ok (.ifCond .lt 26, 3) := by decide +kernel
theorem dX11_act_17 : decode cX11_act 17 = .ok (.iload_n 1, 1) := by decide +kernel
theorem dX11_act_18 : decode cX11_act 18 = .ok (.aload_n 0, 1) := by decide +kernel
theorem dX11_act_19 : decode cX11_act 19 = .ok (.getfield 29, 3) := by decide +kernel
theorem dX11_act_22 : decode cX11_act 22 = .ok (.getfield 178, 3) := by decide +kernel
theorem dX11_act_25 : decode cX11_act 25 = .ok (.if_icmp .ge 15, 3) := by decide +kernel
theorem dX11_act_28 : decode cX11_act 28 = .ok (.aload_n 0, 1) := by decide +kernel
theorem dX11_act_29 : decode cX11_act 29 = .ok (.getfield 29, 3) := by decide +kernel
theorem dX11_act_32 : decode cX11_act 32 = .ok (.getfield 192, 3) := by decide +kernel
theorem dX11_act_35 : decode cX11_act 35 = .ok (.iload_n 1, 1) := by decide +kernel
theorem dX11_act_36 : decode cX11_act 36 = .ok (.iaload, 1) := by decide +kernel
theorem dX11_act_37 : decode cX11_act 37 = .ok (.goto 4, 3) := by decide +kernel
theorem dX11_act_40 : decode cX11_act 40 = .ok (.iconst (-1), 1) := by decide +kernel
theorem dX11_act_41 : decode cX11_act 41 = .ok (.ireturn, 1) := by decide +kernel
theorem dX11_acts_0 : decode cX11_acts 0 = .ok (.aload_n 0, 1) := by decide +kernel
theorem dX11_acts_1 : decode cX11_acts 1 = .ok (.getfield 23, 3) := by decide +kernel
theorem dX11_acts_4 : decode cX11_acts 4 = .ok (.invokevirtual 146, 3) := by decide +kernel
theorem dX11_acts_7 : decode cX11_acts 7 = .ok (.ifCond .eq 13, 3) := by decide +kernel
theorem dX11_acts_10 : decode cX11_acts 10 = .ok (.aload_n 0, 1) := by decide +kernel
theorem dX11_acts_11 : decode cX11_acts 11 = .ok (.getfield 41, 3) := by decide +kernel
theorem dX11_acts_14 : decode cX11_acts 14 = .ok (.invokevirtual 195, 3) := by decide +kernel
theorem dX11_acts_17 : decode cX11_acts 17 = .ok (.goto 5, 3) := by decide +kernel
theorem dX11_acts_20 : decode cX11_acts 20 = .ok (.bipush (-2), 2) := by decide +kernel
theorem dX11_acts_22 : decode cX11_acts 22 = .ok (.ireturn, 1) := by decide +kernel
theorem dX11_may_0 : decode cX11_may 0 = .ok (.aload_n 0, 1) := by decide +kernel
theorem dX11_may_1 : decode cX11_may 1 = .ok (.getfield 23, 3) := by decide +kernel
theorem dX11_may_4 : decode cX11_may 4 = .ok (.invokevirtual 146, 3) := by decide +kernel
theorem dX11_may_7 : decode cX11_may 7 = .ok (.ifCond .eq 14, 3) := by decide +kernel
theorem dX11_may_10 : decode cX11_may 10 = .ok (.aload_n 0, 1) := by decide +kernel
theorem dX11_may_11 : decode cX11_may 11 = .ok (.getfield 41, 3) := by decide +kernel
theorem dX11_may_14 : decode cX11_may 14 = .ok (.iload_n 1, 1) := by decide +kernel
theorem dX11_may_15 : decode cX11_may 15 = .ok (.invokevirtual 198, 3) := by decide +kernel
theorem dX11_may_18 : decode cX11_may 18 = .ok (.goto 5, 3) := by decide +kernel
theorem dX11_may_21 : decode cX11_may 21 = .ok (.bipush (-2), 2) := by decide +kernel
theorem dX11_may_23 : decode cX11_may 23 = .ok (.ireturn, 1) := by decide +kernel
theorem dX11_days_0 : decode cX11_days 0 = .ok (.aload_n 0, 1) := by decide +kernel
theorem dX11_days_1 : decode cX11_days 1 = .ok (.getfield 23, 3) := by decide +kernel
theorem dX11_days_4 : decode cX11_days 4 = .ok (.invokevirtual 146, 3) := by decide +kernel
theorem dX11_days_7 : decode cX11_days 7 = .ok (.ifCond .ne 6, 3) := by decide +kernel
theorem dX11_days_10 : decode cX11_days 10 = .ok (.bipush (-2), 2) := by decide +kernel
theorem dX11_days_12 : decode cX11_days 12 = .ok (.ireturn, 1) := by decide +kernel
theorem dX11_days_13 : decode cX11_days 13 = .ok (.aload_n 0, 1) := by decide +kernel
theorem dX11_days_14 : decode cX11_days 14 = .ok (.getfield 41, 3) := by decide +kernel
theorem dX11_days_17 : decode cX11_days 17 = .ok (.invokevirtual 202, 3) := by decide +kernel
theorem dX11_days_20 : decode cX11_days 20 = .ok (.ifCond .eq 20, 3) := by decide +kernel
theorem dX11_days_23 : decode cX11_days 23 = .ok (.aload_n 0, 1) := by decide +kernel
theorem dX11_days_24 : decode cX11_days 24 = .ok (.getfield 41, 3) := by decide +kernel
theorem dX11_days_27 : decode cX11_days 27 = .ok (.aload_n 0, 1) := by decide +kernel
theorem dX11_days_28 : decode cX11_days 28 = .ok (.getfield 41, 3) := by decide +kernel
theorem dX11_days_31 : decode cX11_days 31 = .ok (.getfield 205, 3) := by decide +kernel
theorem dX11_days_34 : decode cX11_days 34 = .ok (.invokevirtual 209, 3) := by decide +kernel
theorem dX11_days_37 : decode cX11_days 37 = .ok (.goto 4, 3) := by decide +kernel
theorem dX11_days_40 : decode cX11_days 40 = .ok (.iconst (-1), 1) := by decide +kernel
theorem dX11_days_41 : decode cX11_days 41 = .ok (.ireturn, 1) := by decide +kernel
theorem dX11_plan_0 : decode cX11_plan 0 = .ok (.aload_n 0, 1) := by decide +kernel
theorem dX11_plan_1 : decode cX11_plan 1 = .ok (.getfield 23, 3) := by decide +kernel
theorem dX11_plan_4 : decode cX11_plan 4 = .ok (.invokevirtual 146, 3) := by decide +kernel
theorem dX11_plan_7 : decode cX11_plan 7 = .ok (.ifCond .eq 21, 3) := by decide +kernel
theorem dX11_plan_10 : decode cX11_plan 10 = .ok (.aload_n 0, 1) := by decide +kernel
theorem dX11_plan_11 : decode cX11_plan 11 = .ok (.getfield 41, 3) := by decide +kernel
theorem dX11_plan_14 : decode cX11_plan 14 = .ok (.aload_n 0, 1) := by decide +kernel
theorem dX11_plan_15 : decode cX11_plan 15 = .ok (.getfield 41, 3) := by decide +kernel
theorem dX11_plan_18 : decode cX11_plan 18 = .ok (.getfield 205, 3) := by decide +kernel
theorem dX11_plan_21 : decode cX11_plan 21 = .ok (.iload_n 1, 1) := by decide +kernel
theorem dX11_plan_22 : decode cX11_plan 22 = .ok (.invokevirtual 213, 3) := by decide +kernel
theorem dX11_plan_25 : decode cX11_plan 25 = .ok (.goto 5, 3) := by decide +kernel
theorem dX11_plan_28 : decode cX11_plan 28 = .ok (.bipush (-2), 2) := by decide +kernel
theorem dX11_plan_30 : decode cX11_plan 30 = .ok (.ireturn, 1) := by decide +kernel
theorem dX11_surest_0 : decode cX11_surest 0 = .ok (.aload_n 0, 1) := by decide +kernel
theorem dX11_surest_1 : decode cX11_surest 1 = .ok (.getfield 23, 3) := by decide +kernel
theorem dX11_surest_4 : decode cX11_surest 4 = .ok (.invokevirtual 146, 3) := by decide +kernel
theorem dX11_surest_7 : decode cX11_surest 7 = .ok (.ifCond .ne 6, 3) := by decide +kernel
theorem dX11_surest_10 : decode cX11_surest 10 = .ok (.bipush (-2), 2) := by decide +kernel
theorem dX11_surest_12 : decode cX11_surest 12 = .ok (.ireturn, 1) := by decide +kernel
theorem dX11_surest_13 : decode cX11_surest 13 = .ok (.aload_n 0, 1) := by decide +kernel
theorem dX11_surest_14 : decode cX11_surest 14 = .ok (.getfield 41, 3) := by decide +kernel
theorem dX11_surest_17 : decode cX11_surest 17 = .ok (.invokevirtual 202, 3) := by decide +kernel
theorem dX11_surest_20 : decode cX11_surest 20 = .ok (.ifCond .eq 20, 3) := by decide +kernel
theorem dX11_surest_23 : decode cX11_surest 23 = .ok (.aload_n 0, 1) := by decide +kernel
theorem dX11_surest_24 : decode cX11_surest 24 = .ok (.getfield 41, 3) := by decide +kernel
theorem dX11_surest_27 : decode cX11_surest 27 = .ok (.aload_n 0, 1) := by decide +kernel
theorem dX11_surest_28 : decode cX11_surest 28 = .ok (.getfield 41, 3) := by decide +kernel
theorem dX11_surest_31 : decode cX11_surest 31 = .ok (.getfield 217, 3) := by decide +kernel
theorem dX11_surest_34 : decode cX11_surest 34 = .ok (.invokevirtual 220, 3) := by decide +kernel
theorem dX11_surest_37 : decode cX11_surest 37 = .ok (.goto 4, 3) := by decide +kernel
theorem dX11_surest_40 : decode cX11_surest 40 = .ok (.iconst (-1), 1) := by decide +kernel
theorem dX11_surest_41 : decode cX11_surest 41 = .ok (.ireturn, 1) := by decide +kernel
theorem dX11_surely_0 : decode cX11_surely 0 = .ok (.aload_n 0, 1) := by decide +kernel
theorem dX11_surely_1 : decode cX11_surely 1 = .ok (.getfield 23, 3) := by decide +kernel
theorem dX11_surely_4 : decode cX11_surely 4 = .ok (.invokevirtual 146, 3) := by decide +kernel
theorem dX11_surely_7 : decode cX11_surely 7 = .ok (.ifCond .eq 21, 3) := by decide +kernel
theorem dX11_surely_10 : decode cX11_surely 10 = .ok (.aload_n 0, 1) := by decide +kernel
theorem dX11_surely_11 : decode cX11_surely 11 = .ok (.getfield 41, 3) := by decide +kernel
theorem dX11_surely_14 : decode cX11_surely 14 = .ok (.aload_n 0, 1) := by decide +kernel
theorem dX11_surely_15 : decode cX11_surely 15 = .ok (.getfield 41, 3) := by decide +kernel
theorem dX11_surely_18 : decode cX11_surely 18 = .ok (.getfield 217, 3) := by decide +kernel
theorem dX11_surely_21 : decode cX11_surely 21 = .ok (.iload_n 1, 1) := by decide +kernel
theorem dX11_surely_22 : decode cX11_surely 22 = .ok (.invokevirtual 213, 3) := by decide +kernel
theorem dX11_surely_25 : decode cX11_surely 25 = .ok (.goto 5, 3) := by decide +kernel
theorem dX11_surely_28 : decode cX11_surely 28 = .ok (.bipush (-2), 2) := by decide +kernel
theorem dX11_surely_30 : decode cX11_surely 30 = .ok (.ireturn, 1) := by decide +kernel
theorem dX11_slowly_0 : decode cX11_slowly 0 = .ok (.aload_n 0, 1) := by decide +kernel
theorem dX11_slowly_1 : decode cX11_slowly 1 = .ok (.getfield 23, 3) := by decide +kernel
theorem dX11_slowly_4 : decode cX11_slowly 4 = .ok (.invokevirtual 146, 3) := by decide +kernel
theorem dX11_slowly_7 : decode cX11_slowly 7 = .ok (.ifCond .ne 6, 3) := by decide +kernel
theorem dX11_slowly_10 : decode cX11_slowly 10 = .ok (.bipush (-2), 2) := by decide +kernel
theorem dX11_slowly_12 : decode cX11_slowly 12 = .ok (.ireturn, 1) := by decide +kernel
theorem dX11_slowly_13 : decode cX11_slowly 13 = .ok (.aload_n 0, 1) := by decide +kernel
theorem dX11_slowly_14 : decode cX11_slowly 14 = .ok (.getfield 41, 3) := by decide +kernel
theorem dX11_slowly_17 : decode cX11_slowly 17 = .ok (.invokevirtual 202, 3) := by decide +kernel
theorem dX11_slowly_20 : decode cX11_slowly 20 = .ok (.ifCond .eq 20, 3) := by decide +kernel
theorem dX11_slowly_23 : decode cX11_slowly 23 = .ok (.aload_n 0, 1) := by decide +kernel
theorem dX11_slowly_24 : decode cX11_slowly 24 = .ok (.getfield 41, 3) := by decide +kernel
theorem dX11_slowly_27 : decode cX11_slowly 27 = .ok (.aload_n 0, 1) := by decide +kernel
theorem dX11_slowly_28 : decode cX11_slowly 28 = .ok (.getfield 41, 3) := by decide +kernel
theorem dX11_slowly_31 : decode cX11_slowly 31 = .ok (.getfield 217, 3) := by decide +kernel
theorem dX11_slowly_34 : decode cX11_slowly 34 = .ok (.invokevirtual 209, 3) := by decide +kernel
theorem dX11_slowly_37 : decode cX11_slowly 37 = .ok (.goto 4, 3) := by decide +kernel
theorem dX11_slowly_40 : decode cX11_slowly 40 = .ok (.iconst (-1), 1) := by decide +kernel
theorem dX11_slowly_41 : decode cX11_slowly 41 = .ok (.ireturn, 1) := by decide +kernel
theorem dX11_crossings_0 : decode cX11_crossings 0 = .ok (.aload_n 0, 1) := by decide +kernel
theorem dX11_crossings_1 : decode cX11_crossings 1 = .ok (.getfield 23, 3) := by decide +kernel
theorem dX11_crossings_4 : decode cX11_crossings 4 = .ok (.invokevirtual 146, 3) := by decide +kernel
theorem dX11_crossings_7 : decode cX11_crossings 7 = .ok (.ifCond .ne 6, 3) := by decide +kernel
theorem dX11_crossings_10 : decode cX11_crossings 10 = .ok (.bipush (-2), 2) := by decide +kernel
theorem dX11_crossings_12 : decode cX11_crossings 12 = .ok (.ireturn, 1) := by decide +kernel
theorem dX11_crossings_13 : decode cX11_crossings 13 = .ok (.aload_n 0, 1) := by decide +kernel
theorem dX11_crossings_14 : decode cX11_crossings 14 = .ok (.getfield 41, 3) := by decide +kernel
theorem dX11_crossings_17 : decode cX11_crossings 17 = .ok (.invokevirtual 202, 3) := by decide +kernel
theorem dX11_crossings_20 : decode cX11_crossings 20 = .ok (.ifCond .eq 20, 3) := by decide +kernel
theorem dX11_crossings_23 : decode cX11_crossings 23 = .ok (.aload_n 0, 1) := by decide +kernel
theorem dX11_crossings_24 : decode cX11_crossings 24 = .ok (.getfield 41, 3) := by decide +kernel
theorem dX11_crossings_27 : decode cX11_crossings 27 = .ok (.aload_n 0, 1) := by decide +kernel
theorem dX11_crossings_28 : decode cX11_crossings 28 = .ok (.getfield 41, 3) := by decide +kernel
theorem dX11_crossings_31 : decode cX11_crossings 31 = .ok (.getfield 223, 3) := by decide +kernel
theorem dX11_crossings_34 : decode cX11_crossings 34 = .ok (.invokevirtual 220, 3) := by decide +kernel
theorem dX11_crossings_37 : decode cX11_crossings 37 = .ok (.goto 4, 3) := by decide +kernel
theorem dX11_crossings_40 : decode cX11_crossings 40 = .ok (.iconst (-1), 1) := by decide +kernel
theorem dX11_crossings_41 : decode cX11_crossings 41 = .ok (.ireturn, 1) := by decide +kernel
theorem dX11_moves_0 : decode cX11_moves 0 = .ok (.aload_n 0, 1) := by decide +kernel
theorem dX11_moves_1 : decode cX11_moves 1 = .ok (.getfield 23, 3) := by decide +kernel
theorem dX11_moves_4 : decode cX11_moves 4 = .ok (.invokevirtual 146, 3) := by decide +kernel
theorem dX11_moves_7 : decode cX11_moves 7 = .ok (.ifCond .ne 6, 3) := by decide +kernel
theorem dX11_moves_10 : decode cX11_moves 10 = .ok (.bipush (-2), 2) := by decide +kernel
theorem dX11_moves_12 : decode cX11_moves 12 = .ok (.ireturn, 1) := by decide +kernel
theorem dX11_moves_13 : decode cX11_moves 13 = .ok (.aload_n 0, 1) := by decide +kernel
theorem dX11_moves_14 : decode cX11_moves 14 = .ok (.getfield 41, 3) := by decide +kernel
theorem dX11_moves_17 : decode cX11_moves 17 = .ok (.invokevirtual 202, 3) := by decide +kernel
theorem dX11_moves_20 : decode cX11_moves 20 = .ok (.ifCond .eq 20, 3) := by decide +kernel
theorem dX11_moves_23 : decode cX11_moves 23 = .ok (.aload_n 0, 1) := by decide +kernel
theorem dX11_moves_24 : decode cX11_moves 24 = .ok (.getfield 41, 3) := by decide +kernel
theorem dX11_moves_27 : decode cX11_moves 27 = .ok (.aload_n 0, 1) := by decide +kernel
theorem dX11_moves_28 : decode cX11_moves 28 = .ok (.getfield 41, 3) := by decide +kernel
theorem dX11_moves_31 : decode cX11_moves 31 = .ok (.getfield 223, 3) := by decide +kernel
theorem dX11_moves_34 : decode cX11_moves 34 = .ok (.invokevirtual 209, 3) := by decide +kernel
theorem dX11_moves_37 : decode cX11_moves 37 = .ok (.goto 4, 3) := by decide +kernel
theorem dX11_moves_40 : decode cX11_moves 40 = .ok (.iconst (-1), 1) := by decide +kernel
theorem dX11_moves_41 : decode cX11_moves 41 = .ok (.ireturn, 1) := by decide +kernel
theorem dX11_chance_0 : decode cX11_chance 0 = .ok (.aload_n 0, 1) := by decide +kernel
theorem dX11_chance_1 : decode cX11_chance 1 = .ok (.getfield 23, 3) := by decide +kernel
theorem dX11_chance_4 : decode cX11_chance 4 = .ok (.invokevirtual 146, 3) := by decide +kernel
theorem dX11_chance_7 : decode cX11_chance 7 = .ok (.ifCond .eq 12, 3) := by decide +kernel
theorem dX11_chance_10 : decode cX11_chance 10 = .ok (.iload_n 1, 1) := by decide +kernel
theorem dX11_chance_11 : decode cX11_chance 11 = .ok (.ifCond .lt 8, 3) := by decide +kernel
theorem dX11_chance_14 : decode cX11_chance 14 = .ok (.iload_n 1, 1) := by decide +kernel
theorem dX11_chance_15 : decode cX11_chance 15 = .ok (.iconst 1, 1) := by decide +kernel
theorem dX11_chance_16 : decode cX11_chance 16 = .ok (.if_icmp .le 7, 3) := by decide +kernel
theorem dX11_chance_19 : decode cX11_chance 19 = .ok (.ldc2_w 226, 3) := by decide +kernel
theorem dX11_chance_22 : decode cX11_chance 22 = .ok (.lreturn, 1) := by decide +kernel
theorem dX11_chance_23 : decode cX11_chance 23 = .ok (.aload_n 0, 1) := by decide +kernel
theorem dX11_chance_24 : decode cX11_chance 24 = .ok (.getfield 41, 3) := by decide +kernel
theorem dX11_chance_27 : decode cX11_chance 27 = .ok (.invokevirtual 202, 3) := by decide +kernel
theorem dX11_chance_30 : decode cX11_chance 30 = .ok (.ifCond .eq 11, 3) := by decide +kernel
theorem dX11_chance_33 : decode cX11_chance 33 = .ok (.aload_n 0, 1) := by decide +kernel
theorem dX11_chance_34 : decode cX11_chance 34 = .ok (.iload_n 1, 1) := by decide +kernel
theorem dX11_chance_35 : decode cX11_chance 35 = .ok (.invokevirtual 228, 3) := by decide +kernel
theorem dX11_chance_38 : decode cX11_chance 38 = .ok (.goto 6, 3) := by decide +kernel
theorem dX11_chance_41 : decode cX11_chance 41 = .ok (.ldc2_w 232, 3) := by decide +kernel
theorem dX11_chance_44 : decode cX11_chance 44 = .ok (.lreturn, 1) := by decide +kernel
theorem dX11_chanceOfSafest_0 : decode cX11_chanceOfSafest 0 = .ok (.lconst 1, 1) := by decide +kernel
theorem dX11_chanceOfSafest_1 : decode cX11_chanceOfSafest 1 = .ok (.lstore_n 2, 1) := by decide +kernel
theorem dX11_chanceOfSafest_2 : decode cX11_chanceOfSafest 2 = .ok (.lconst 1, 1) := by decide +kernel
theorem dX11_chanceOfSafest_3 : decode cX11_chanceOfSafest 3 = .ok (.lstore 4, 2) := by decide +kernel
theorem dX11_chanceOfSafest_5 : decode cX11_chanceOfSafest 5 = .ok (.aload_n 0, 1) := by decide +kernel
theorem dX11_chanceOfSafest_6 : decode cX11_chanceOfSafest 6 = .ok (.getfield 41, 3) := by decide +kernel
theorem dX11_chanceOfSafest_9 : decode cX11_chanceOfSafest 9 = .ok (.aload_n 0, 1) := by decide +kernel
theorem dX11_chanceOfSafest_10 : decode cX11_chanceOfSafest 10 = .ok (.getfield 41, 3) := by decide +kernel
theorem dX11_chanceOfSafest_13 : decode cX11_chanceOfSafest 13 = .ok (.getfield 217, 3) := by decide +kernel
theorem dX11_chanceOfSafest_16 : decode cX11_chanceOfSafest 16 = .ok (.invokevirtual 234, 3) := by decide +kernel
theorem dX11_chanceOfSafest_19 : decode cX11_chanceOfSafest 19 = .ok (.astore 6, 2) := by decide +kernel
theorem dX11_chanceOfSafest_21 : decode cX11_chanceOfSafest 21 = .ok (.iconst 0, 1) := by decide +kernel
theorem dX11_chanceOfSafest_22 : decode cX11_chanceOfSafest 22 = .ok (.istore 7, 2) := by decide +kernel
theorem dX11_chanceOfSafest_24 : decode cX11_chanceOfSafest 24 = .ok (.iconst 0, 1) := by decide +kernel
theorem dX11_chanceOfSafest_25 : decode cX11_chanceOfSafest 25 = .ok (.istore 8, 2) := by decide +kernel
theorem dX11_chanceOfSafest_27 : decode cX11_chanceOfSafest 27 = .ok (.iload 8, 2) := by decide +kernel
theorem dX11_chanceOfSafest_29 : decode cX11_chanceOfSafest 29 = .ok (.ldc 240, 2) := by decide +kernel
theorem dX11_chanceOfSafest_31 : decode cX11_chanceOfSafest 31 = .ok (.if_icmp .ge 71, 3) := by decide +kernel
theorem dX11_chanceOfSafest_34 : decode cX11_chanceOfSafest 34 = .ok (.aload 6, 2) := by decide +kernel
theorem dX11_chanceOfSafest_36 : decode cX11_chanceOfSafest 36 = .ok (.invokevirtual 241, 3) := by decide +kernel
theorem dX11_chanceOfSafest_39 : decode cX11_chanceOfSafest 39 = .ok (.istore 9, 2) := by decide +kernel
theorem dX11_chanceOfSafest_41 : decode cX11_chanceOfSafest 41 = .ok (.iload 9, 2) := by decide +kernel
theorem dX11_chanceOfSafest_43 : decode cX11_chanceOfSafest 43 = .ok (.iconst (-1), 1) := by decide +kernel
theorem dX11_chanceOfSafest_44 : decode cX11_chanceOfSafest 44 = .ok (.if_icmp .ne 6, 3) := by decide +kernel
theorem dX11_chanceOfSafest_47 : decode cX11_chanceOfSafest 47 = .ok (.goto 55, 3) := by decide +kernel
theorem dX11_chanceOfSafest_50 : decode cX11_chanceOfSafest 50 = .ok (.iload 9, 2) := by decide +kernel
theorem dX11_chanceOfSafest_52 : decode cX11_chanceOfSafest 52 = .ok (.sipush 200, 3) := by decide +kernel
theorem dX11_chanceOfSafest_55 : decode cX11_chanceOfSafest 55 = .ok (.if_icmp .eq 41, 3) := by decide +kernel
theorem dX11_chanceOfSafest_58 : decode cX11_chanceOfSafest 58 = .ok (.iinc 7 1, 3) := by decide +kernel
theorem dX11_chanceOfSafest_61 : decode cX11_chanceOfSafest 61 = .ok (.iload 7, 2) := by decide +kernel
theorem dX11_chanceOfSafest_63 : decode cX11_chanceOfSafest 63 = .ok (.bipush 9, 2) := by decide +kernel
theorem dX11_chanceOfSafest_65 : decode cX11_chanceOfSafest 65 = .ok (.if_icmp .le 7, 3) := by decide +kernel
theorem dX11_chanceOfSafest_68 : decode cX11_chanceOfSafest 68 = .ok (.ldc2_w 232, 3) := by decide +kernel
theorem dX11_chanceOfSafest_71 : decode cX11_chanceOfSafest 71 = .ok (.lreturn, 1) := by decide +kernel
theorem dX11_chanceOfSafest_72 : decode cX11_chanceOfSafest 72 = .ok (.lload_n 2, 1) := by decide +kernel
theorem dX11_chanceOfSafest_73 : decode cX11_chanceOfSafest 73 = .ok (.bipush 100, 2) := by decide +kernel
theorem dX11_chanceOfSafest_75 : decode cX11_chanceOfSafest 75 = .ok (.aload_n 0, 1) := by decide +kernel
theorem dX11_chanceOfSafest_76 : decode cX11_chanceOfSafest 76 = .ok (.getfield 23, 3) := by decide +kernel
theorem dX11_chanceOfSafest_79 : decode cX11_chanceOfSafest 79 = .ok (.iload 9, 2) := by decide +kernel
theorem dX11_chanceOfSafest_81 : decode cX11_chanceOfSafest 81 = .ok (.invokevirtual 246, 3) := by decide +kernel
theorem dX11_chanceOfSafest_84 : decode cX11_chanceOfSafest 84 = .ok (.isub, 1) := by decide +kernel
theorem dX11_chanceOfSafest_85 : decode cX11_chanceOfSafest 85 = .ok (.i2l, 1) := by decide +kernel
theorem dX11_chanceOfSafest_86 : decode cX11_chanceOfSafest 86 = .ok (.lmul, 1) := by decide +kernel
theorem dX11_chanceOfSafest_87 : decode cX11_chanceOfSafest 87 = .ok (.lstore_n 2, 1) := by decide +kernel
theorem dX11_chanceOfSafest_88 : decode cX11_chanceOfSafest 88 = .ok (.lload 4, 2) := by decide +kernel
theorem dX11_chanceOfSafest_90 : decode cX11_chanceOfSafest 90 = .ok (.ldc2_w 249, 3) := by decide +kernel
theorem dX11_chanceOfSafest_93 : decode cX11_chanceOfSafest 93 = .ok (.lmul, 1) := by decide +kernel
theorem dX11_chanceOfSafest_94 : decode cX11_chanceOfSafest 94 = .ok (.lstore 4, 2) := by decide +kernel
theorem dX11_chanceOfSafest_96 : decode cX11_chanceOfSafest 96 = .ok (.iinc 8 1, 3) := by decide +kernel
theorem dX11_chanceOfSafest_99 : decode cX11_chanceOfSafest 99 = .ok (.goto (-72), 3) := by decide +kernel
theorem dX11_chanceOfSafest_102 : decode cX11_chanceOfSafest 102 = .ok (.lload_n 2, 1) := by decide +kernel
theorem dX11_chanceOfSafest_103 : decode cX11_chanceOfSafest 103 = .ok (.lload 4, 2) := by decide +kernel
theorem dX11_chanceOfSafest_105 : decode cX11_chanceOfSafest 105 = .ok (.invokestatic 251, 3) := by decide +kernel
theorem dX11_chanceOfSafest_108 : decode cX11_chanceOfSafest 108 = .ok (.lstore 8, 2) := by decide +kernel
theorem dX11_chanceOfSafest_110 : decode cX11_chanceOfSafest 110 = .ok (.lload 8, 2) := by decide +kernel
theorem dX11_chanceOfSafest_112 : decode cX11_chanceOfSafest 112 = .ok (.lconst 1, 1) := by decide +kernel
theorem dX11_chanceOfSafest_113 : decode cX11_chanceOfSafest 113 = .ok (.lcmp, 1) := by decide +kernel
theorem dX11_chanceOfSafest_114 : decode cX11_chanceOfSafest 114 = .ok (.ifCond .ge 7, 3) := by decide +kernel
theorem dX11_chanceOfSafest_117 : decode cX11_chanceOfSafest 117 = .ok (.ldc2_w 232, 3) := by decide +kernel
theorem dX11_chanceOfSafest_120 : decode cX11_chanceOfSafest 120 = .ok (.lreturn, 1) := by decide +kernel
theorem dX11_chanceOfSafest_121 : decode cX11_chanceOfSafest 121 = .ok (.iload_n 1, 1) := by decide +kernel
theorem dX11_chanceOfSafest_122 : decode cX11_chanceOfSafest 122 = .ok (.ifCond .ne 10, 3) := by decide +kernel
theorem dX11_chanceOfSafest_125 : decode cX11_chanceOfSafest 125 = .ok (.lload_n 2, 1) := by decide +kernel
theorem dX11_chanceOfSafest_126 : decode cX11_chanceOfSafest 126 = .ok (.lload 8, 2) := by decide +kernel
theorem dX11_chanceOfSafest_128 : decode cX11_chanceOfSafest 128 = .ok (.ldiv, 1) := by decide +kernel
theorem dX11_chanceOfSafest_129 : decode cX11_chanceOfSafest 129 = .ok (.goto 8, 3) := by decide +kernel
theorem dX11_chanceOfSafest_132 : decode cX11_chanceOfSafest 132 = .ok (.lload 4, 2) := by decide +kernel
theorem dX11_chanceOfSafest_134 : decode cX11_chanceOfSafest 134 = .ok (.lload 8, 2) := by decide +kernel
theorem dX11_chanceOfSafest_136 : decode cX11_chanceOfSafest 136 = .ok (.ldiv, 1) := by decide +kernel
theorem dX11_chanceOfSafest_137 : decode cX11_chanceOfSafest 137 = .ok (.lreturn, 1) := by decide +kernel
theorem dX11_commonDivisor_0 : decode cX11_commonDivisor 0 = .ok (.lload_n 2, 1) := by decide +kernel
theorem dX11_commonDivisor_1 : decode cX11_commonDivisor 1 = .ok (.lstore 4, 2) := by decide +kernel
theorem dX11_commonDivisor_3 : decode cX11_commonDivisor 3 = .ok (.lload_n 0, 1) := by decide +kernel
theorem dX11_commonDivisor_4 : decode cX11_commonDivisor 4 = .ok (.lstore 6, 2) := by decide +kernel
theorem dX11_commonDivisor_6 : decode cX11_commonDivisor 6 = .ok (.iconst 0, 1) := by decide +kernel
theorem dX11_commonDivisor_7 : decode cX11_commonDivisor 7 = .ok (.istore 8, 2) := by decide +kernel
theorem dX11_commonDivisor_9 : decode cX11_commonDivisor 9 = .ok (.iload 8, 2) := by decide +kernel
theorem dX11_commonDivisor_11 : decode cX11_commonDivisor 11 = .ok (.sipush 200, 3) := by decide +kernel
theorem dX11_commonDivisor_14 : decode cX11_commonDivisor 14 = .ok (.if_icmp .ge 31, 3) := by decide +kernel
theorem dX11_commonDivisor_17 : decode cX11_commonDivisor 17 = .ok (.lload 6, 2) := by decide +kernel
theorem dX11_commonDivisor_19 : decode cX11_commonDivisor 19 = .ok (.lconst 0, 1) := by decide +kernel
theorem dX11_commonDivisor_20 : decode cX11_commonDivisor 20 = .ok (.lcmp, 1) := by decide +kernel
theorem dX11_commonDivisor_21 : decode cX11_commonDivisor 21 = .ok (.ifCond .eq 24, 3) := by decide +kernel
theorem dX11_commonDivisor_24 : decode cX11_commonDivisor 24 = .ok (.lload 4, 2) := by decide +kernel
theorem dX11_commonDivisor_26 : decode cX11_commonDivisor 26 = .ok (.lload 6, 2) := by decide +kernel
theorem dX11_commonDivisor_28 : decode cX11_commonDivisor 28 = .ok (.lrem, 1) := by decide +kernel
theorem dX11_commonDivisor_29 : decode cX11_commonDivisor 29 = .ok (.lstore 9, 2) := by decide +kernel
theorem dX11_commonDivisor_31 : decode cX11_commonDivisor 31 = .ok (.lload 6, 2) := by decide +kernel
theorem dX11_commonDivisor_33 : decode cX11_commonDivisor 33 = .ok (.lstore 4, 2) := by decide +kernel
theorem dX11_commonDivisor_35 : decode cX11_commonDivisor 35 = .ok (.lload 9, 2) := by decide +kernel
theorem dX11_commonDivisor_37 : decode cX11_commonDivisor 37 = .ok (.lstore 6, 2) := by decide +kernel
theorem dX11_commonDivisor_39 : decode cX11_commonDivisor 39 = .ok (.iinc 8 1, 3) := by decide +kernel
theorem dX11_commonDivisor_42 : decode cX11_commonDivisor 42 = .ok (.goto (-33), 3) := by decide +kernel
theorem dX11_commonDivisor_45 : decode cX11_commonDivisor 45 = .ok (.lload 4, 2) := by decide +kernel
theorem dX11_commonDivisor_47 : decode cX11_commonDivisor 47 = .ok (.lreturn, 1) := by decide +kernel
theorem dX11_states_0 : decode cX11_states 0 = .ok (.aload_n 0, 1) := by decide +kernel
theorem dX11_states_1 : decode cX11_states 1 = .ok (.getfield 23, 3) := by decide +kernel
theorem dX11_states_4 : decode cX11_states 4 = .ok (.invokevirtual 146, 3) := by decide +kernel
theorem dX11_states_7 : decode cX11_states 7 = .ok (.ifCond .eq 13, 3) := by decide +kernel
theorem dX11_states_10 : decode cX11_states 10 = .ok (.aload_n 0, 1) := by decide +kernel
theorem dX11_states_11 : decode cX11_states 11 = .ok (.getfield 41, 3) := by decide +kernel
theorem dX11_states_14 : decode cX11_states 14 = .ok (.invokevirtual 255, 3) := by decide +kernel
theorem dX11_states_17 : decode cX11_states 17 = .ok (.goto 5, 3) := by decide +kernel
theorem dX11_states_20 : decode cX11_states 20 = .ok (.bipush (-2), 2) := by decide +kernel
theorem dX11_states_22 : decode cX11_states 22 = .ok (.ireturn, 1) := by decide +kernel
theorem dX11_hopeful_0 : decode cX11_hopeful 0 = .ok (.aload_n 0, 1) := by decide +kernel
theorem dX11_hopeful_1 : decode cX11_hopeful 1 = .ok (.getfield 23, 3) := by decide +kernel
theorem dX11_hopeful_4 : decode cX11_hopeful 4 = .ok (.invokevirtual 146, 3) := by decide +kernel
theorem dX11_hopeful_7 : decode cX11_hopeful 7 = .ok (.ifCond .eq 13, 3) := by decide +kernel
theorem dX11_hopeful_10 : decode cX11_hopeful 10 = .ok (.aload_n 0, 1) := by decide +kernel
theorem dX11_hopeful_11 : decode cX11_hopeful 11 = .ok (.getfield 41, 3) := by decide +kernel
theorem dX11_hopeful_14 : decode cX11_hopeful 14 = .ok (.invokevirtual 258, 3) := by decide +kernel
theorem dX11_hopeful_17 : decode cX11_hopeful 17 = .ok (.goto 5, 3) := by decide +kernel
theorem dX11_hopeful_20 : decode cX11_hopeful 20 = .ok (.bipush (-2), 2) := by decide +kernel
theorem dX11_hopeful_22 : decode cX11_hopeful 22 = .ok (.ireturn, 1) := by decide +kernel
theorem dX11_till_0 : decode cX11_till 0 = .ok (.aload_n 0, 1) := by decide +kernel
theorem dX11_till_1 : decode cX11_till 1 = .ok (.getfield 23, 3) := by decide +kernel
theorem dX11_till_4 : decode cX11_till 4 = .ok (.invokevirtual 146, 3) := by decide +kernel
theorem dX11_till_7 : decode cX11_till 7 = .ok (.ifCond .eq 18, 3) := by decide +kernel
theorem dX11_till_10 : decode cX11_till 10 = .ok (.iload_n 1, 1) := by decide +kernel
theorem dX11_till_11 : decode cX11_till 11 = .ok (.ifCond .lt 14, 3) := by decide +kernel
theorem dX11_till_14 : decode cX11_till 14 = .ok (.iload_n 1, 1) := by decide +kernel
theorem dX11_till_15 : decode cX11_till 15 = .ok (.aload_n 0, 1) := by decide +kernel
theorem dX11_till_16 : decode cX11_till 16 = .ok (.getfield 23, 3) := by decide +kernel
theorem dX11_till_19 : decode cX11_till 19 = .ok (.invokevirtual 261, 3) := by decide +kernel
theorem dX11_till_22 : decode cX11_till 22 = .ok (.if_icmp .le 6, 3) := by decide +kernel
theorem dX11_till_25 : decode cX11_till 25 = .ok (.bipush (-2), 2) := by decide +kernel
theorem dX11_till_27 : decode cX11_till 27 = .ok (.ireturn, 1) := by decide +kernel
theorem dX11_till_28 : decode cX11_till 28 = .ok (.aload_n 0, 1) := by decide +kernel
theorem dX11_till_29 : decode cX11_till 29 = .ok (.getfield 41, 3) := by decide +kernel
theorem dX11_till_32 : decode cX11_till 32 = .ok (.iload_n 1, 1) := by decide +kernel
theorem dX11_till_33 : decode cX11_till 33 = .ok (.invokevirtual 264, 3) := by decide +kernel
theorem dX11_till_36 : decode cX11_till 36 = .ok (.ireturn, 1) := by decide +kernel
theorem dX11_over_0 : decode cX11_over 0 = .ok (.aload_n 0, 1) := by decide +kernel
theorem dX11_over_1 : decode cX11_over 1 = .ok (.getfield 23, 3) := by decide +kernel
theorem dX11_over_4 : decode cX11_over 4 = .ok (.iload_n 1, 1) := by decide +kernel
theorem dX11_over_5 : decode cX11_over 5 = .ok (.invokevirtual 101, 3) := by decide +kernel
theorem dX11_over_8 : decode cX11_over 8 = .ok (.ifCond .eq 14, 3) := by decide +kernel
theorem dX11_over_11 : decode cX11_over 11 = .ok (.aload_n 0, 1) := by decide +kernel
theorem dX11_over_12 : decode cX11_over 12 = .ok (.getfield 41, 3) := by decide +kernel
theorem dX11_over_15 : decode cX11_over 15 = .ok (.iload_n 1, 1) := by decide +kernel
theorem dX11_over_16 : decode cX11_over 16 = .ok (.invokevirtual 267, 3) := by decide +kernel
theorem dX11_over_19 : decode cX11_over 19 = .ok (.goto 5, 3) := by decide +kernel
theorem dX11_over_22 : decode cX11_over 22 = .ok (.bipush (-2), 2) := by decide +kernel
theorem dX11_over_24 : decode cX11_over 24 = .ok (.ireturn, 1) := by decide +kernel
theorem dX11_never_0 : decode cX11_never 0 = .ok (.aload_n 0, 1) := by decide +kernel
theorem dX11_never_1 : decode cX11_never 1 = .ok (.getfield 23, 3) := by decide +kernel
theorem dX11_never_4 : decode cX11_never 4 = .ok (.invokevirtual 146, 3) := by decide +kernel
theorem dX11_never_7 : decode cX11_never 7 = .ok (.ifCond .ne 6, 3) := by decide +kernel
theorem dX11_never_10 : decode cX11_never 10 = .ok (.bipush (-2), 2) := by decide +kernel
theorem dX11_never_12 : decode cX11_never 12 = .ok (.ireturn, 1) := by decide +kernel
theorem dX11_never_13 : decode cX11_never 13 = .ok (.iconst 0, 1) := by decide +kernel
theorem dX11_never_14 : decode cX11_never 14 = .ok (.istore_n 1, 1) := by decide +kernel
theorem dX11_never_15 : decode cX11_never 15 = .ok (.iconst 0, 1) := by decide +kernel
theorem dX11_never_16 : decode cX11_never 16 = .ok (.istore_n 2, 1) := by decide +kernel
theorem dX11_never_17 : decode cX11_never 17 = .ok (.iload_n 2, 1) := by decide +kernel
theorem dX11_never_18 : decode cX11_never 18 = .ok (.aload_n 0, 1) := by decide +kernel
theorem dX11_never_19 : decode cX11_never 19 = .ok (.getfield 23, 3) := by decide +kernel
theorem dX11_never_22 : decode cX11_never 22 = .ok (.getfield 270, 3) := by decide +kernel
theorem dX11_never_25 : decode cX11_never 25 = .ok (.if_icmp .ge 27, 3) := by decide +kernel
theorem dX11_never_28 : decode cX11_never 28 = .ok (.aload_n 0, 1) := by decide +kernel
theorem dX11_never_29 : decode cX11_never 29 = .ok (.getfield 41, 3) := by decide +kernel
theorem dX11_never_32 : decode cX11_never 32 = .ok (.iload_n 2, 1) := by decide +kernel
theorem dX11_never_33 : decode cX11_never 33 = .ok (.invokevirtual 267, 3) := by decide +kernel
theorem dX11_never_36 : decode cX11_never 36 = .ok (.iconst (-1), 1) := by decide +kernel
theorem dX11_never_37 : decode cX11_never 37 = .ok (.if_icmp .ne 9, 3) := by decide +kernel
theorem dX11_never_40 : decode cX11_never 40 = .ok (.iload_n 1, 1) := by decide +kernel
theorem dX11_never_41 : decode cX11_never 41 = .ok (.iconst 1, 1) := by decide +kernel
theorem dX11_never_42 : decode cX11_never 42 = .ok (.iload_n 2, 1) := by decide +kernel
theorem dX11_never_43 : decode cX11_never 43 = .ok (.ishl, 1) := by decide +kernel
theorem dX11_never_44 : decode cX11_never 44 = .ok (.ior, 1) := by decide +kernel
theorem dX11_never_45 : decode cX11_never 45 = .ok (.istore_n 1, 1) := by decide +kernel
theorem dX11_never_46 : decode cX11_never 46 = .ok (.iinc 2 1, 3) := by decide +kernel
theorem dX11_never_49 : decode cX11_never 49 = .ok (.goto (-32), 3) := by decide +kernel
theorem dX11_never_52 : decode cX11_never 52 = .ok (.iload_n 1, 1) := by decide +kernel
theorem dX11_never_53 : decode cX11_never 53 = .ok (.ireturn, 1) := by decide +kernel
theorem dX11_lost_0 : decode cX11_lost 0 = .ok (.aload_n 0, 1) := by decide +kernel
theorem dX11_lost_1 : decode cX11_lost 1 = .ok (.getfield 23, 3) := by decide +kernel
theorem dX11_lost_4 : decode cX11_lost 4 = .ok (.invokevirtual 146, 3) := by decide +kernel
theorem dX11_lost_7 : decode cX11_lost 7 = .ok (.ifCond .eq 7, 3) := by decide +kernel
theorem dX11_lost_10 : decode cX11_lost 10 = .ok (.iload_n 1, 1) := by decide +kernel
theorem dX11_lost_11 : decode cX11_lost 11 = .ok (.ifCond .ge 6, 3) := by decide +kernel
theorem dX11_lost_14 : decode cX11_lost 14 = .ok (.bipush (-2), 2) := by decide +kernel
theorem dX11_lost_16 : decode cX11_lost 16 = .ok (.ireturn, 1) := by decide +kernel
theorem dX11_lost_17 : decode cX11_lost 17 = .ok (.aload_n 0, 1) := by decide +kernel
theorem dX11_lost_18 : decode cX11_lost 18 = .ok (.getfield 41, 3) := by decide +kernel
theorem dX11_lost_21 : decode cX11_lost 21 = .ok (.invokevirtual 202, 3) := by decide +kernel
theorem dX11_lost_24 : decode cX11_lost 24 = .ok (.ifCond .ne 5, 3) := by decide +kernel
theorem dX11_lost_27 : decode cX11_lost 27 = .ok (.iconst (-1), 1) := by decide +kernel
theorem dX11_lost_28 : decode cX11_lost 28 = .ok (.ireturn, 1) := by decide +kernel
theorem dX11_lost_29 : decode cX11_lost 29 = .ok (.aload_n 0, 1) := by decide +kernel
theorem dX11_lost_30 : decode cX11_lost 30 = .ok (.getfield 41, 3) := by decide +kernel
theorem dX11_lost_33 : decode cX11_lost 33 = .ok (.aload_n 0, 1) := by decide +kernel
theorem dX11_lost_34 : decode cX11_lost 34 = .ok (.getfield 41, 3) := by decide +kernel
theorem dX11_lost_37 : decode cX11_lost 37 = .ok (.getfield 205, 3) := by decide +kernel
theorem dX11_lost_40 : decode cX11_lost 40 = .ok (.invokevirtual 234, 3) := by decide +kernel
theorem dX11_lost_43 : decode cX11_lost 43 = .ok (.astore_n 2, 1) := by decide +kernel
theorem dX11_lost_44 : decode cX11_lost 44 = .ok (.aload_n 2, 1) := by decide +kernel
theorem dX11_lost_45 : decode cX11_lost 45 = .ok (.iload_n 1, 1) := by decide +kernel
theorem dX11_lost_46 : decode cX11_lost 46 = .ok (.invokevirtual 273, 3) := by decide +kernel
theorem dX11_lost_49 : decode cX11_lost 49 = .ok (.iload_n 1, 1) := by decide +kernel
theorem dX11_lost_50 : decode cX11_lost 50 = .ok (.if_icmp .ne 10, 3) := by decide +kernel
theorem dX11_lost_53 : decode cX11_lost 53 = .ok (.aload_n 2, 1) := by decide +kernel
theorem dX11_lost_54 : decode cX11_lost 54 = .ok (.invokevirtual 276, 3) := by decide +kernel
theorem dX11_lost_57 : decode cX11_lost 57 = .ok (.goto 4, 3) := by decide +kernel
theorem dX11_lost_60 : decode cX11_lost 60 = .ok (.iconst (-1), 1) := by decide +kernel
theorem dX11_lost_61 : decode cX11_lost 61 = .ok (.ireturn, 1) := by decide +kernel
theorem dX11_worst_0 : decode cX11_worst 0 = .ok (.aload_n 0, 1) := by decide +kernel
theorem dX11_worst_1 : decode cX11_worst 1 = .ok (.getfield 23, 3) := by decide +kernel
theorem dX11_worst_4 : decode cX11_worst 4 = .ok (.invokevirtual 146, 3) := by decide +kernel
theorem dX11_worst_7 : decode cX11_worst 7 = .ok (.ifCond .ne 6, 3) := by decide +kernel
theorem dX11_worst_10 : decode cX11_worst 10 = .ok (.bipush (-2), 2) := by decide +kernel
theorem dX11_worst_12 : decode cX11_worst 12 = .ok (.ireturn, 1) := by decide +kernel
theorem dX11_worst_13 : decode cX11_worst 13 = .ok (.aload_n 0, 1) := by decide +kernel
theorem dX11_worst_14 : decode cX11_worst 14 = .ok (.getfield 41, 3) := by decide +kernel
theorem dX11_worst_17 : decode cX11_worst 17 = .ok (.invokevirtual 202, 3) := by decide +kernel
theorem dX11_worst_20 : decode cX11_worst 20 = .ok (.ifCond .ne 5, 3) := by decide +kernel
theorem dX11_worst_23 : decode cX11_worst 23 = .ok (.iconst (-1), 1) := by decide +kernel
theorem dX11_worst_24 : decode cX11_worst 24 = .ok (.ireturn, 1) := by decide +kernel
theorem dX11_worst_25 : decode cX11_worst 25 = .ok (.aload_n 0, 1) := by decide +kernel
theorem dX11_worst_26 : decode cX11_worst 26 = .ok (.getfield 41, 3) := by decide +kernel
theorem dX11_worst_29 : decode cX11_worst 29 = .ok (.aload_n 0, 1) := by decide +kernel
theorem dX11_worst_30 : decode cX11_worst 30 = .ok (.getfield 41, 3) := by decide +kernel
theorem dX11_worst_33 : decode cX11_worst 33 = .ok (.getfield 205, 3) := by decide +kernel
theorem dX11_worst_36 : decode cX11_worst 36 = .ok (.invokevirtual 234, 3) := by decide +kernel
theorem dX11_worst_39 : decode cX11_worst 39 = .ok (.astore_n 1, 1) := by decide +kernel
theorem dX11_worst_40 : decode cX11_worst 40 = .ok (.aload_n 0, 1) := by decide +kernel
theorem dX11_worst_41 : decode cX11_worst 41 = .ok (.getfield 23, 3) := by decide +kernel
theorem dX11_worst_44 : decode cX11_worst 44 = .ok (.invokevirtual 279, 3) := by decide +kernel
theorem dX11_worst_47 : decode cX11_worst 47 = .ok (.istore_n 2, 1) := by decide +kernel
theorem dX11_worst_48 : decode cX11_worst 48 = .ok (.iconst 0, 1) := by decide +kernel
theorem dX11_worst_49 : decode cX11_worst 49 = .ok (.istore_n 3, 1) := by decide +kernel
theorem dX11_worst_50 : decode cX11_worst 50 = .ok (.aload_n 1, 1) := by decide +kernel
theorem dX11_worst_51 : decode cX11_worst 51 = .ok (.invokevirtual 276, 3) := by decide +kernel
theorem dX11_worst_54 : decode cX11_worst 54 = .ok (.iload_n 2, 1) := by decide +kernel
theorem dX11_worst_55 : decode cX11_worst 55 = .ok (.ixor, 1) := by decide +kernel
theorem dX11_worst_56 : decode cX11_worst 56 = .ok (.invokestatic 282, 3) := by decide +kernel
theorem dX11_worst_59 : decode cX11_worst 59 = .ok (.istore 4, 2) := by decide +kernel
theorem dX11_worst_61 : decode cX11_worst 61 = .ok (.iconst 1, 1) := by decide +kernel
theorem dX11_worst_62 : decode cX11_worst 62 = .ok (.istore 5, 2) := by decide +kernel
theorem dX11_worst_64 : decode cX11_worst 64 = .ok (.iload 5, 2) := by decide +kernel
theorem dX11_worst_66 : decode cX11_worst 66 = .ok (.ldc 240, 2) := by decide +kernel
theorem dX11_worst_68 : decode cX11_worst 68 = .ok (.if_icmp .gt 42, 3) := by decide +kernel
theorem dX11_worst_71 : decode cX11_worst 71 = .ok (.aload_n 1, 1) := by decide +kernel
theorem dX11_worst_72 : decode cX11_worst 72 = .ok (.invokevirtual 241, 3) := by decide +kernel
theorem dX11_worst_75 : decode cX11_worst 75 = .ok (.iconst (-1), 1) := by decide +kernel
theorem dX11_worst_76 : decode cX11_worst 76 = .ok (.if_icmp .eq 34, 3) := by decide +kernel
theorem dX11_worst_79 : decode cX11_worst 79 = .ok (.aload_n 1, 1) := by decide +kernel
theorem dX11_worst_80 : decode cX11_worst 80 = .ok (.invokevirtual 276, 3) := by decide +kernel
theorem dX11_worst_83 : decode cX11_worst 83 = .ok (.iload_n 2, 1) := by decide +kernel
theorem dX11_worst_84 : decode cX11_worst 84 = .ok (.ixor, 1) := by decide +kernel
theorem dX11_worst_85 : decode cX11_worst 85 = .ok (.invokestatic 282, 3) := by decide +kernel
theorem dX11_worst_88 : decode cX11_worst 88 = .ok (.istore 6, 2) := by decide +kernel
theorem dX11_worst_90 : decode cX11_worst 90 = .ok (.iload 6, 2) := by decide +kernel
theorem dX11_worst_92 : decode cX11_worst 92 = .ok (.iload 4, 2) := by decide +kernel
theorem dX11_worst_94 : decode cX11_worst 94 = .ok (.if_icmp .le 10, 3) := by decide +kernel
theorem dX11_worst_97 : decode cX11_worst 97 = .ok (.iload 6, 2) := by decide +kernel
theorem dX11_worst_99 : decode cX11_worst 99 = .ok (.istore 4, 2) := by decide +kernel
theorem dX11_worst_101 : decode cX11_worst 101 = .ok (.iload 5, 2) := by decide +kernel
theorem dX11_worst_103 : decode cX11_worst 103 = .ok (.istore_n 3, 1) := by decide +kernel
theorem dX11_worst_104 : decode cX11_worst 104 = .ok (.iinc 5 1, 3) := by decide +kernel
theorem dX11_worst_107 : decode cX11_worst 107 = .ok (.goto (-43), 3) := by decide +kernel
theorem dX11_worst_110 : decode cX11_worst 110 = .ok (.iload_n 3, 1) := by decide +kernel
theorem dX11_worst_111 : decode cX11_worst 111 = .ok (.ireturn, 1) := by decide +kernel
theorem dX11_judge_0 : decode cX11_judge 0 = .ok (.aload_n 0, 1) := by decide +kernel
theorem dX11_judge_1 : decode cX11_judge 1 = .ok (.iload_n 1, 1) := by decide +kernel
theorem dX11_judge_2 : decode cX11_judge 2 = .ok (.invokevirtual 287, 3) := by decide +kernel
theorem dX11_judge_5 : decode cX11_judge 5 = .ok (.istore_n 2, 1) := by decide +kernel
theorem dX11_judge_6 : decode cX11_judge 6 = .ok (.iload_n 2, 1) := by decide +kernel
theorem dX11_judge_7 : decode cX11_judge 7 = .ok (.ifCond .eq 7, 3) := by decide +kernel
theorem dX11_judge_10 : decode cX11_judge 10 = .ok (.iload_n 2, 1) := by decide +kernel
theorem dX11_judge_11 : decode cX11_judge 11 = .ok (.goto 10, 3) := by decide +kernel
theorem dX11_judge_14 : decode cX11_judge 14 = .ok (.aload_n 0, 1) := by decide +kernel
theorem dX11_judge_15 : decode cX11_judge 15 = .ok (.getfield 33, 3) := by decide +kernel
theorem dX11_judge_18 : decode cX11_judge 18 = .ok (.getfield 178, 3) := by decide +kernel
theorem dX11_judge_21 : decode cX11_judge 21 = .ok (.ireturn, 1) := by decide +kernel
theorem dX11_there_0 : decode cX11_there 0 = .ok (.aload_n 0, 1) := by decide +kernel
theorem dX11_there_1 : decode cX11_there 1 = .ok (.iload_n 1, 1) := by decide +kernel
theorem dX11_there_2 : decode cX11_there 2 = .ok (.invokevirtual 287, 3) := by decide +kernel
theorem dX11_there_5 : decode cX11_there 5 = .ok (.istore_n 2, 1) := by decide +kernel
theorem dX11_there_6 : decode cX11_there 6 = .ok (.iload_n 2, 1) := by decide +kernel
theorem dX11_there_7 : decode cX11_there 7 = .ok (.ifCond .eq 7, 3) := by decide +kernel
theorem dX11_there_10 : decode cX11_there 10 = .ok (.iload_n 2, 1) := by decide +kernel
theorem dX11_there_11 : decode cX11_there 11 = .ok (.goto 10, 3) := by decide +kernel
theorem dX11_there_14 : decode cX11_there 14 = .ok (.aload_n 0, 1) := by decide +kernel
theorem dX11_there_15 : decode cX11_there 15 = .ok (.getfield 33, 3) := by decide +kernel
theorem dX11_there_18 : decode cX11_there 18 = .ok (.getfield 118, 3) := by decide +kernel
theorem dX11_there_21 : decode cX11_there 21 = .ok (.ireturn, 1) := by decide +kernel
theorem dX11_takes_0 : decode cX11_takes 0 = .ok (.aload_n 0, 1) := by decide +kernel
theorem dX11_takes_1 : decode cX11_takes 1 = .ok (.iload_n 1, 1) := by decide +kernel
theorem dX11_takes_2 : decode cX11_takes 2 = .ok (.invokevirtual 287, 3) := by decide +kernel
theorem dX11_takes_5 : decode cX11_takes 5 = .ok (.istore_n 2, 1) := by decide +kernel
theorem dX11_takes_6 : decode cX11_takes 6 = .ok (.iload_n 2, 1) := by decide +kernel
theorem dX11_takes_7 : decode cX11_takes 7 = .ok (.ifCond .eq 7, 3) := by decide +kernel
theorem dX11_takes_10 : decode cX11_takes 10 = .ok (.iload_n 2, 1) := by decide +kernel
theorem dX11_takes_11 : decode cX11_takes 11 = .ok (.goto 10, 3) := by decide +kernel
theorem dX11_takes_14 : decode cX11_takes 14 = .ok (.aload_n 0, 1) := by decide +kernel
theorem dX11_takes_15 : decode cX11_takes 15 = .ok (.getfield 33, 3) := by decide +kernel
theorem dX11_takes_18 : decode cX11_takes 18 = .ok (.getfield 153, 3) := by decide +kernel
theorem dX11_takes_21 : decode cX11_takes 21 = .ok (.ireturn, 1) := by decide +kernel
theorem dX11_dares_0 : decode cX11_dares 0 = .ok (.aload_n 0, 1) := by decide +kernel
theorem dX11_dares_1 : decode cX11_dares 1 = .ok (.iload_n 1, 1) := by decide +kernel
theorem dX11_dares_2 : decode cX11_dares 2 = .ok (.invokevirtual 287, 3) := by decide +kernel
theorem dX11_dares_5 : decode cX11_dares 5 = .ok (.istore_n 2, 1) := by decide +kernel
theorem dX11_dares_6 : decode cX11_dares 6 = .ok (.iload_n 2, 1) := by decide +kernel
theorem dX11_dares_7 : decode cX11_dares 7 = .ok (.ifCond .eq 7, 3) := by decide +kernel
theorem dX11_dares_10 : decode cX11_dares 10 = .ok (.iload_n 2, 1) := by decide +kernel
theorem dX11_dares_11 : decode cX11_dares 11 = .ok (.goto 14, 3) := by decide +kernel
theorem dX11_dares_14 : decode cX11_dares 14 = .ok (.aload_n 0, 1) := by decide +kernel
theorem dX11_dares_15 : decode cX11_dares 15 = .ok (.getfield 33, 3) := by decide +kernel
theorem dX11_dares_18 : decode cX11_dares 18 = .ok (.aload_n 0, 1) := by decide +kernel
theorem dX11_dares_19 : decode cX11_dares 19 = .ok (.getfield 23, 3) := by decide +kernel
theorem dX11_dares_22 : decode cX11_dares 22 = .ok (.invokevirtual 159, 3) := by decide +kernel
theorem dX11_dares_25 : decode cX11_dares 25 = .ok (.ireturn, 1) := by decide +kernel
theorem dX11_lied_0 : decode cX11_lied 0 = .ok (.aload_n 0, 1) := by decide +kernel
theorem dX11_lied_1 : decode cX11_lied 1 = .ok (.iload_n 1, 1) := by decide +kernel
theorem dX11_lied_2 : decode cX11_lied 2 = .ok (.invokevirtual 287, 3) := by decide +kernel
theorem dX11_lied_5 : decode cX11_lied 5 = .ok (.istore_n 2, 1) := by decide +kernel
theorem dX11_lied_6 : decode cX11_lied 6 = .ok (.iload_n 2, 1) := by decide +kernel
theorem dX11_lied_7 : decode cX11_lied 7 = .ok (.ifCond .eq 7, 3) := by decide +kernel
theorem dX11_lied_10 : decode cX11_lied 10 = .ok (.iload_n 2, 1) := by decide +kernel
theorem dX11_lied_11 : decode cX11_lied 11 = .ok (.goto 10, 3) := by decide +kernel
theorem dX11_lied_14 : decode cX11_lied 14 = .ok (.aload_n 0, 1) := by decide +kernel
theorem dX11_lied_15 : decode cX11_lied 15 = .ok (.getfield 33, 3) := by decide +kernel
theorem dX11_lied_18 : decode cX11_lied 18 = .ok (.invokevirtual 166, 3) := by decide +kernel
theorem dX11_lied_21 : decode cX11_lied 21 = .ok (.ireturn, 1) := by decide +kernel
theorem dX11_judgeRow_0 : decode cX11_judgeRow 0 = .ok (.aload_n 0, 1) := by decide +kernel
theorem dX11_judgeRow_1 : decode cX11_judgeRow 1 = .ok (.iload_n 1, 1) := by decide +kernel
theorem dX11_judgeRow_2 : decode cX11_judgeRow 2 = .ok (.invokevirtual 290, 3) := by decide +kernel
theorem dX11_judgeRow_5 : decode cX11_judgeRow 5 = .ok (.istore_n 2, 1) := by decide +kernel
theorem dX11_judgeRow_6 : decode cX11_judgeRow 6 = .ok (.iload_n 2, 1) := by decide +kernel
theorem dX11_judgeRow_7 : decode cX11_judgeRow 7 = .ok (.ifCond .eq 5, 3) := by decide +kernel
theorem dX11_judgeRow_10 : decode cX11_judgeRow 10 = .ok (.iload_n 2, 1) := by decide +kernel
theorem dX11_judgeRow_11 : decode cX11_judgeRow 11 = .ok (.ireturn, 1) := by decide +kernel
theorem dX11_judgeRow_12 : decode cX11_judgeRow 12 = .ok (.iconst 0, 1) := by decide +kernel
theorem dX11_judgeRow_13 : decode cX11_judgeRow 13 = .ok (.istore_n 3, 1) := by decide +kernel
theorem dX11_judgeRow_14 : decode cX11_judgeRow 14 = .ok (.iload_n 3, 1) := by decide +kernel
theorem dX11_judgeRow_15 : decode cX11_judgeRow 15 = .ok (.aload_n 0, 1) := by decide +kernel
theorem dX11_judgeRow_16 : decode cX11_judgeRow 16 = .ok (.getfield 55, 3) := by decide +kernel
theorem dX11_judgeRow_19 : decode cX11_judgeRow 19 = .ok (.getfield 293, 3) := by decide +kernel
theorem dX11_judgeRow_22 : decode cX11_judgeRow 22 = .ok (.iload_n 1, 1) := by decide +kernel
theorem dX11_judgeRow_23 : decode cX11_judgeRow 23 = .ok (.iaload, 1) := by decide +kernel
theorem dX11_judgeRow_24 : decode cX11_judgeRow 24 = .ok (.if_icmp .ge 33, 3) := by decide +kernel
theorem dX11_judgeRow_27 : decode cX11_judgeRow 27 = .ok (.aload_n 0, 1) := by decide +kernel
theorem dX11_judgeRow_28 : decode cX11_judgeRow 28 = .ok (.getfield 23, 3) := by decide +kernel
theorem dX11_judgeRow_31 : decode cX11_judgeRow 31 = .ok (.aload_n 0, 1) := by decide +kernel
theorem dX11_judgeRow_32 : decode cX11_judgeRow 32 = .ok (.getfield 55, 3) := by decide +kernel
theorem dX11_judgeRow_35 : decode cX11_judgeRow 35 = .ok (.getfield 296, 3) := by decide +kernel
theorem dX11_judgeRow_38 : decode cX11_judgeRow 38 = .ok (.iload_n 1, 1) := by decide +kernel
theorem dX11_judgeRow_39 : decode cX11_judgeRow 39 = .ok (.aaload, 1) := by decide +kernel
theorem dX11_judgeRow_40 : decode cX11_judgeRow 40 = .ok (.iload_n 3, 1) := by decide +kernel
theorem dX11_judgeRow_41 : decode cX11_judgeRow 41 = .ok (.laload, 1) := by decide +kernel
theorem dX11_judgeRow_42 : decode cX11_judgeRow 42 = .ok (.invokevirtual 300, 3) := by decide +kernel
theorem dX11_judgeRow_45 : decode cX11_judgeRow 45 = .ok (.ifCond .ne 6, 3) := by decide +kernel
theorem dX11_judgeRow_48 : decode cX11_judgeRow 48 = .ok (.bipush (-2), 2) := by decide +kernel
theorem dX11_judgeRow_50 : decode cX11_judgeRow 50 = .ok (.ireturn, 1) := by decide +kernel
theorem dX11_judgeRow_51 : decode cX11_judgeRow 51 = .ok (.iinc 3 1, 3) := by decide +kernel
theorem dX11_judgeRow_54 : decode cX11_judgeRow 54 = .ok (.goto (-40), 3) := by decide +kernel
theorem dX11_judgeRow_57 : decode cX11_judgeRow 57 = .ok (.aload_n 0, 1) := by decide +kernel
theorem dX11_judgeRow_58 : decode cX11_judgeRow 58 = .ok (.getfield 33, 3) := by decide +kernel
theorem dX11_judgeRow_61 : decode cX11_judgeRow 61 = .ok (.invokevirtual 89, 3) := by decide +kernel
theorem dX11_judgeRow_64 : decode cX11_judgeRow 64 = .ok (.iconst 0, 1) := by decide +kernel
theorem dX11_judgeRow_65 : decode cX11_judgeRow 65 = .ok (.istore_n 3, 1) := by decide +kernel
theorem dX11_judgeRow_66 : decode cX11_judgeRow 66 = .ok (.iload_n 3, 1) := by decide +kernel
theorem dX11_judgeRow_67 : decode cX11_judgeRow 67 = .ok (.aload_n 0, 1) := by decide +kernel
theorem dX11_judgeRow_68 : decode cX11_judgeRow 68 = .ok (.getfield 55, 3) := by decide +kernel
theorem dX11_judgeRow_71 : decode cX11_judgeRow 71 = .ok (.getfield 293, 3) := by decide +kernel
theorem dX11_judgeRow_74 : decode cX11_judgeRow 74 = .ok (.iload_n 1, 1) := by decide +kernel
theorem dX11_judgeRow_75 : decode cX11_judgeRow 75 = .ok (.iaload, 1) := by decide +kernel
theorem dX11_judgeRow_76 : decode cX11_judgeRow 76 = .ok (.if_icmp .ge 37, 3) := by decide +kernel
theorem dX11_judgeRow_79 : decode cX11_judgeRow 79 = .ok (.aload_n 0, 1) := by decide +kernel
theorem dX11_judgeRow_80 : decode cX11_judgeRow 80 = .ok (.getfield 33, 3) := by decide +kernel
theorem dX11_judgeRow_83 : decode cX11_judgeRow 83 = .ok (.aload_n 0, 1) := by decide +kernel
theorem dX11_judgeRow_84 : decode cX11_judgeRow 84 = .ok (.getfield 23, 3) := by decide +kernel
theorem dX11_judgeRow_87 : decode cX11_judgeRow 87 = .ok (.aload_n 0, 1) := by decide +kernel
theorem dX11_judgeRow_88 : decode cX11_judgeRow 88 = .ok (.getfield 55, 3) := by decide +kernel
theorem dX11_judgeRow_91 : decode cX11_judgeRow 91 = .ok (.getfield 296, 3) := by decide +kernel
theorem dX11_judgeRow_94 : decode cX11_judgeRow 94 = .ok (.iload_n 1, 1) := by decide +kernel
theorem dX11_judgeRow_95 : decode cX11_judgeRow 95 = .ok (.aaload, 1) := by decide +kernel
theorem dX11_judgeRow_96 : decode cX11_judgeRow 96 = .ok (.iload_n 3, 1) := by decide +kernel
theorem dX11_judgeRow_97 : decode cX11_judgeRow 97 = .ok (.laload, 1) := by decide +kernel
theorem dX11_judgeRow_98 : decode cX11_judgeRow 98 = .ok (.l2i, 1) := by decide +kernel
theorem dX11_judgeRow_99 : decode cX11_judgeRow 99 = .ok (.invokevirtual 304, 3) := by decide +kernel
theorem dX11_judgeRow_102 : decode cX11_judgeRow 102 = .ok (.ifCond .ne 5, 3) := by decide +kernel
theorem dX11_judgeRow_105 : decode cX11_judgeRow 105 = .ok (.iconst 0, 1) := by decide +kernel
theorem dX11_judgeRow_106 : decode cX11_judgeRow 106 = .ok (.ireturn, 1) := by decide +kernel
theorem dX11_judgeRow_107 : decode cX11_judgeRow 107 = .ok (.iinc 3 1, 3) := by decide +kernel
theorem dX11_judgeRow_110 : decode cX11_judgeRow 110 = .ok (.goto (-44), 3) := by decide +kernel
theorem dX11_judgeRow_113 : decode cX11_judgeRow 113 = .ok (.iconst 0, 1) := by decide +kernel
theorem dX11_judgeRow_114 : decode cX11_judgeRow 114 = .ok (.ireturn, 1) := by decide +kernel
theorem dX11_refusedSlot_0 : decode cX11_refusedSlot 0 = .ok (.aload_n 0, 1) := by decide +kernel
theorem dX11_refusedSlot_1 : decode cX11_refusedSlot 1 = .ok (.getfield 55, 3) := by decide +kernel
theorem dX11_refusedSlot_4 : decode cX11_refusedSlot 4 = .ok (.iload_n 1, 1) := by decide +kernel
theorem dX11_refusedSlot_5 : decode cX11_refusedSlot 5 = .ok (.invokevirtual 308, 3) := by decide +kernel
theorem dX11_refusedSlot_8 : decode cX11_refusedSlot 8 = .ok (.ifCond .eq 13, 3) := by decide +kernel
theorem dX11_refusedSlot_11 : decode cX11_refusedSlot 11 = .ok (.aload_n 0, 1) := by decide +kernel
theorem dX11_refusedSlot_12 : decode cX11_refusedSlot 12 = .ok (.getfield 23, 3) := by decide +kernel
theorem dX11_refusedSlot_15 : decode cX11_refusedSlot 15 = .ok (.invokevirtual 146, 3) := by decide +kernel
theorem dX11_refusedSlot_18 : decode cX11_refusedSlot 18 = .ok (.ifCond .ne 6, 3) := by decide +kernel
theorem dX11_refusedSlot_21 : decode cX11_refusedSlot 21 = .ok (.bipush (-2), 2) := by decide +kernel
theorem dX11_refusedSlot_23 : decode cX11_refusedSlot 23 = .ok (.ireturn, 1) := by decide +kernel
theorem dX11_refusedSlot_24 : decode cX11_refusedSlot 24 = .ok (.aload_n 0, 1) := by decide +kernel
theorem dX11_refusedSlot_25 : decode cX11_refusedSlot 25 = .ok (.getfield 55, 3) := by decide +kernel
theorem dX11_refusedSlot_28 : decode cX11_refusedSlot 28 = .ok (.iload_n 1, 1) := by decide +kernel
theorem dX11_refusedSlot_29 : decode cX11_refusedSlot 29 = .ok (.invokevirtual 311, 3) := by decide +kernel
theorem dX11_refusedSlot_32 : decode cX11_refusedSlot 32 = .ok (.ifCond .eq 7, 3) := by decide +kernel
theorem dX11_refusedSlot_35 : decode cX11_refusedSlot 35 = .ok (.iconst 0, 1) := by decide +kernel
theorem dX11_refusedSlot_36 : decode cX11_refusedSlot 36 = .ok (.goto 5, 3) := by decide +kernel
theorem dX11_refusedSlot_39 : decode cX11_refusedSlot 39 = .ok (.bipush (-6), 2) := by decide +kernel
theorem dX11_refusedSlot_41 : decode cX11_refusedSlot 41 = .ok (.ireturn, 1) := by decide +kernel
theorem dX11_stamped_0 : decode cX11_stamped 0 = .ok (.aload_n 0, 1) := by decide +kernel
theorem dX11_stamped_1 : decode cX11_stamped 1 = .ok (.iload_n 1, 1) := by decide +kernel
theorem dX11_stamped_2 : decode cX11_stamped 2 = .ok (.invokevirtual 314, 3) := by decide +kernel
theorem dX11_stamped_5 : decode cX11_stamped 5 = .ok (.istore_n 2, 1) := by decide +kernel
theorem dX11_stamped_6 : decode cX11_stamped 6 = .ok (.iload_n 2, 1) := by decide +kernel
theorem dX11_stamped_7 : decode cX11_stamped 7 = .ok (.ifCond .eq 6, 3) := by decide +kernel
theorem dX11_stamped_10 : decode cX11_stamped 10 = .ok (.iload_n 2, 1) := by decide +kernel
theorem dX11_stamped_11 : decode cX11_stamped 11 = .ok (.i2l, 1) := by decide +kernel
theorem dX11_stamped_12 : decode cX11_stamped 12 = .ok (.lreturn, 1) := by decide +kernel
theorem dX11_stamped_13 : decode cX11_stamped 13 = .ok (.aload_n 0, 1) := by decide +kernel
theorem dX11_stamped_14 : decode cX11_stamped 14 = .ok (.iload_n 1, 1) := by decide +kernel
theorem dX11_stamped_15 : decode cX11_stamped 15 = .ok (.iconst (-1), 1) := by decide +kernel
theorem dX11_stamped_16 : decode cX11_stamped 16 = .ok (.iconst (-1), 1) := by decide +kernel
theorem dX11_stamped_17 : decode cX11_stamped 17 = .ok (.invokevirtual 317, 3) := by decide +kernel
theorem dX11_stamped_20 : decode cX11_stamped 20 = .ok (.aload_n 0, 1) := by decide +kernel
theorem dX11_stamped_21 : decode cX11_stamped 21 = .ok (.getfield 48, 3) := by decide +kernel
theorem dX11_stamped_24 : decode cX11_stamped 24 = .ok (.invokevirtual 321, 3) := by decide +kernel
theorem dX11_stamped_27 : decode cX11_stamped 27 = .ok (.lreturn, 1) := by decide +kernel
theorem dX11_had_0 : decode cX11_had 0 = .ok (.iload_n 2, 1) := by decide +kernel
theorem dX11_had_1 : decode cX11_had 1 = .ok (.ifCond .ge 6, 3) := by decide +kernel
theorem dX11_had_4 : decode cX11_had 4 = .ok (.bipush (-2), 2) := by decide +kernel
theorem dX11_had_6 : decode cX11_had 6 = .ok (.ireturn, 1) := by decide +kernel
theorem dX11_had_7 : decode cX11_had 7 = .ok (.aload_n 0, 1) := by decide +kernel
theorem dX11_had_8 : decode cX11_had 8 = .ok (.iload_n 1, 1) := by decide +kernel
theorem dX11_had_9 : decode cX11_had 9 = .ok (.invokevirtual 314, 3) := by decide +kernel
theorem dX11_had_12 : decode cX11_had 12 = .ok (.istore_n 3, 1) := by decide +kernel
theorem dX11_had_13 : decode cX11_had 13 = .ok (.iload_n 3, 1) := by decide +kernel
theorem dX11_had_14 : decode cX11_had 14 = .ok (.ifCond .eq 5, 3) := by decide +kernel
theorem dX11_had_17 : decode cX11_had 17 = .ok (.iload_n 3, 1) := by decide +kernel
theorem dX11_had_18 : decode cX11_had 18 = .ok (.ireturn, 1) := by decide +kernel
theorem dX11_had_19 : decode cX11_had 19 = .ok (.iconst 0, 1) := by decide +kernel
theorem dX11_had_20 : decode cX11_had 20 = .ok (.istore 4, 2) := by decide +kernel
theorem dX11_had_22 : decode cX11_had 22 = .ok (.iconst 0, 1) := by decide +kernel
theorem dX11_had_23 : decode cX11_had 23 = .ok (.istore 5, 2) := by decide +kernel
theorem dX11_had_25 : decode cX11_had 25 = .ok (.iload 5, 2) := by decide +kernel
theorem dX11_had_27 : decode cX11_had 27 = .ok (.aload_n 0, 1) := by decide +kernel
theorem dX11_had_28 : decode cX11_had 28 = .ok (.getfield 23, 3) := by decide +kernel
theorem dX11_had_31 : decode cX11_had 31 = .ok (.getfield 270, 3) := by decide +kernel
theorem dX11_had_34 : decode cX11_had 34 = .ok (.if_icmp .ge 51, 3) := by decide +kernel
theorem dX11_had_37 : decode cX11_had 37 = .ok (.iload_n 2, 1) := by decide +kernel
theorem dX11_had_38 : decode cX11_had 38 = .ok (.aload_n 0, 1) := by decide +kernel
theorem dX11_had_39 : decode cX11_had 39 = .ok (.getfield 55, 3) := by decide +kernel
theorem dX11_had_42 : decode cX11_had 42 = .ok (.getfield 293, 3) := by decide +kernel
theorem dX11_had_45 : decode cX11_had 45 = .ok (.iload_n 1, 1) := by decide +kernel
theorem dX11_had_46 : decode cX11_had 46 = .ok (.iaload, 1) := by decide +kernel
theorem dX11_had_47 : decode cX11_had 47 = .ok (.if_icmp .ge 38, 3) := by decide +kernel
theorem dX11_had_50 : decode cX11_had 50 = .ok (.aload_n 0, 1) := by decide +kernel
theorem dX11_had_51 : decode cX11_had 51 = .ok (.iload_n 1, 1) := by decide +kernel
theorem dX11_had_52 : decode cX11_had 52 = .ok (.iload_n 2, 1) := by decide +kernel
theorem dX11_had_53 : decode cX11_had 53 = .ok (.iload 5, 2) := by decide +kernel
theorem dX11_had_55 : decode cX11_had 55 = .ok (.invokevirtual 317, 3) := by decide +kernel
theorem dX11_had_58 : decode cX11_had 58 = .ok (.aload_n 0, 1) := by decide +kernel
theorem dX11_had_59 : decode cX11_had 59 = .ok (.getfield 48, 3) := by decide +kernel
theorem dX11_had_62 : decode cX11_had 62 = .ok (.invokevirtual 321, 3) := by decide +kernel
theorem dX11_had_65 : decode cX11_had 65 = .ok (.lconst 0, 1) := by decide +kernel
theorem dX11_had_66 : decode cX11_had 66 = .ok (.lcmp, 1) := by decide +kernel
theorem dX11_had_67 : decode cX11_had 67 = .ok (.ifCond .le 12, 3) := by decide +kernel
theorem dX11_had_70 : decode cX11_had 70 = .ok (.iload 4, 2) := by decide +kernel
theorem dX11_had_72 : decode cX11_had 72 = .ok (.iconst 1, 1) := by decide +kernel
theorem dX11_had_73 : decode cX11_had 73 = .ok (.iload 5, 2) := by decide +kernel
theorem dX11_had_75 : decode cX11_had 75 = .ok (.ishl, 1) := by decide +kernel
theorem dX11_had_76 : decode cX11_had 76 = .ok (.ior, 1) := by decide +kernel
theorem dX11_had_77 : decode cX11_had 77 = .ok (.istore 4, 2) := by decide +kernel
theorem dX11_had_79 : decode cX11_had 79 = .ok (.iinc 5 1, 3) := by decide +kernel
theorem dX11_had_82 : decode cX11_had 82 = .ok (.goto (-57), 3) := by decide +kernel
theorem dX11_had_85 : decode cX11_had 85 = .ok (.iload 4, 2) := by decide +kernel
theorem dX11_had_87 : decode cX11_had 87 = .ok (.ireturn, 1) := by decide +kernel
theorem dX11_sure_0 : decode cX11_sure 0 = .ok (.iload_n 2, 1) := by decide +kernel
theorem dX11_sure_1 : decode cX11_sure 1 = .ok (.ifCond .lt 8, 3) := by decide +kernel
theorem dX11_sure_4 : decode cX11_sure 4 = .ok (.iload_n 2, 1) := by decide +kernel
theorem dX11_sure_5 : decode cX11_sure 5 = .ok (.iconst 1, 1) := by decide +kernel
theorem dX11_sure_6 : decode cX11_sure 6 = .ok (.if_icmp .le 6, 3) := by decide +kernel
theorem dX11_sure_9 : decode cX11_sure 9 = .ok (.bipush (-2), 2) := by decide +kernel
theorem dX11_sure_11 : decode cX11_sure 11 = .ok (.ireturn, 1) := by decide +kernel
theorem dX11_sure_12 : decode cX11_sure 12 = .ok (.aload_n 0, 1) := by decide +kernel
theorem dX11_sure_13 : decode cX11_sure 13 = .ok (.iload_n 1, 1) := by decide +kernel
theorem dX11_sure_14 : decode cX11_sure 14 = .ok (.invokevirtual 314, 3) := by decide +kernel
theorem dX11_sure_17 : decode cX11_sure 17 = .ok (.istore_n 3, 1) := by decide +kernel
theorem dX11_sure_18 : decode cX11_sure 18 = .ok (.iload_n 3, 1) := by decide +kernel
theorem dX11_sure_19 : decode cX11_sure 19 = .ok (.ifCond .eq 5, 3) := by decide +kernel
theorem dX11_sure_22 : decode cX11_sure 22 = .ok (.iload_n 3, 1) := by decide +kernel
theorem dX11_sure_23 : decode cX11_sure 23 = .ok (.ireturn, 1) := by decide +kernel
theorem dX11_sure_24 : decode cX11_sure 24 = .ok (.aload_n 0, 1) := by decide +kernel
theorem dX11_sure_25 : decode cX11_sure 25 = .ok (.iload_n 1, 1) := by decide +kernel
theorem dX11_sure_26 : decode cX11_sure 26 = .ok (.iconst (-1), 1) := by decide +kernel
theorem dX11_sure_27 : decode cX11_sure 27 = .ok (.iconst (-1), 1) := by decide +kernel
theorem dX11_sure_28 : decode cX11_sure 28 = .ok (.invokevirtual 317, 3) := by decide +kernel
theorem dX11_sure_31 : decode cX11_sure 31 = .ok (.iload_n 2, 1) := by decide +kernel
theorem dX11_sure_32 : decode cX11_sure 32 = .ok (.ifCond .ne 13, 3) := by decide +kernel
theorem dX11_sure_35 : decode cX11_sure 35 = .ok (.aload_n 0, 1) := by decide +kernel
theorem dX11_sure_36 : decode cX11_sure 36 = .ok (.getfield 48, 3) := by decide +kernel
theorem dX11_sure_39 : decode cX11_sure 39 = .ok (.invokevirtual 325, 3) := by decide +kernel
theorem dX11_sure_42 : decode cX11_sure 42 = .ok (.goto 10, 3) := by decide +kernel
theorem dX11_sure_45 : decode cX11_sure 45 = .ok (.aload_n 0, 1) := by decide +kernel
theorem dX11_sure_46 : decode cX11_sure 46 = .ok (.getfield 48, 3) := by decide +kernel
theorem dX11_sure_49 : decode cX11_sure 49 = .ok (.invokevirtual 328, 3) := by decide +kernel
theorem dX11_sure_52 : decode cX11_sure 52 = .ok (.ireturn, 1) := by decide +kernel
theorem dX11_dared_0 : decode cX11_dared 0 = .ok (.aload_n 0, 1) := by decide +kernel
theorem dX11_dared_1 : decode cX11_dared 1 = .ok (.iload_n 1, 1) := by decide +kernel
theorem dX11_dared_2 : decode cX11_dared 2 = .ok (.invokevirtual 314, 3) := by decide +kernel
theorem dX11_dared_5 : decode cX11_dared 5 = .ok (.istore_n 2, 1) := by decide +kernel
theorem dX11_dared_6 : decode cX11_dared 6 = .ok (.iload_n 2, 1) := by decide +kernel
theorem dX11_dared_7 : decode cX11_dared 7 = .ok (.ifCond .eq 5, 3) := by decide +kernel
theorem dX11_dared_10 : decode cX11_dared 10 = .ok (.iload_n 2, 1) := by decide +kernel
theorem dX11_dared_11 : decode cX11_dared 11 = .ok (.ireturn, 1) := by decide +kernel
theorem dX11_dared_12 : decode cX11_dared 12 = .ok (.aload_n 0, 1) := by decide +kernel
theorem dX11_dared_13 : decode cX11_dared 13 = .ok (.iload_n 1, 1) := by decide +kernel
theorem dX11_dared_14 : decode cX11_dared 14 = .ok (.iconst (-1), 1) := by decide +kernel
theorem dX11_dared_15 : decode cX11_dared 15 = .ok (.iconst (-1), 1) := by decide +kernel
theorem dX11_dared_16 : decode cX11_dared 16 = .ok (.invokevirtual 317, 3) := by decide +kernel
theorem dX11_dared_19 : decode cX11_dared 19 = .ok (.aload_n 0, 1) := by decide +kernel
theorem dX11_dared_20 : decode cX11_dared 20 = .ok (.getfield 48, 3) := by decide +kernel
theorem dX11_dared_23 : decode cX11_dared 23 = .ok (.invokevirtual 331, 3) := by decide +kernel
theorem dX11_dared_26 : decode cX11_dared 26 = .ok (.ireturn, 1) := by decide +kernel
theorem dX11_refusedStamps_0 : decode cX11_refusedStamps 0 = .ok (.aload_n 0, 1) := by decide +kernel
theorem dX11_refusedStamps_1 : decode cX11_refusedStamps 1 = .ok (.iload_n 1, 1) := by decide +kernel
theorem dX11_refusedStamps_2 : decode cX11_refusedStamps 2 = .ok (.invokevirtual 290, 3) := by decide +kernel
theorem dX11_refusedStamps_5 : decode cX11_refusedStamps 5 = .ok (.istore_n 2, 1) := by decide +kernel
theorem dX11_refusedStamps_6 : decode cX11_refusedStamps 6 = .ok (.iload_n 2, 1) := by decide +kernel
theorem dX11_refusedStamps_7 : decode cX11_refusedStamps 7 = .ok (.ifCond .eq 5, 3) := by decide +kernel
theorem dX11_refusedStamps_10 : decode cX11_refusedStamps 10 = .ok (.iload_n 2, 1) := by decide +kernel
theorem dX11_refusedStamps_11 : decode cX11_refusedStamps 11 = .ok (.ireturn, 1) := by decide +kernel
theorem dX11_refusedStamps_12 : decode cX11_refusedStamps 12 = .ok (.aload_n 0, 1) := by decide +kernel
theorem dX11_refusedStamps_13 : decode cX11_refusedStamps 13 = .ok (.getfield 55, 3) := by decide +kernel
theorem dX11_refusedStamps_16 : decode cX11_refusedStamps 16 = .ok (.getfield 293, 3) := by decide +kernel
theorem dX11_refusedStamps_19 : decode cX11_refusedStamps 19 = .ok (.iload_n 1, 1) := by decide +kernel
theorem dX11_refusedStamps_20 : decode cX11_refusedStamps 20 = .ok (.iaload, 1) := by decide +kernel
theorem dX11_refusedStamps_21 : decode cX11_refusedStamps 21 = .ok (.bipush 12, 2) := by decide +kernel
theorem dX11_refusedStamps_23 : decode cX11_refusedStamps 23 = .ok (.if_icmp .le 6, 3) := by decide +kernel
theorem dX11_refusedStamps_26 : decode cX11_refusedStamps 26 = .ok (.bipush (-2), 2) := by decide +kernel
theorem dX11_refusedStamps_28 : decode cX11_refusedStamps 28 = .ok (.ireturn, 1) := by decide +kernel
theorem dX11_refusedStamps_29 : decode cX11_refusedStamps 29 = .ok (.iconst 0, 1) := by decide +kernel
theorem dX11_refusedStamps_30 : decode cX11_refusedStamps 30 = .ok (.istore_n 3, 1) := by decide +kernel
theorem dX11_refusedStamps_31 : decode cX11_refusedStamps 31 = .ok (.iload_n 3, 1) := by decide +kernel
theorem dX11_refusedStamps_32 : decode cX11_refusedStamps 32 = .ok (.aload_n 0, 1) := by decide +kernel
theorem dX11_refusedStamps_33 : decode cX11_refusedStamps 33 = .ok (.getfield 55, 3) := by decide +kernel
theorem dX11_refusedStamps_36 : decode cX11_refusedStamps 36 = .ok (.getfield 293, 3) := by decide +kernel
theorem dX11_refusedStamps_39 : decode cX11_refusedStamps 39 = .ok (.iload_n 1, 1) := by decide +kernel
theorem dX11_refusedStamps_40 : decode cX11_refusedStamps 40 = .ok (.iaload, 1) := by decide +kernel
theorem dX11_refusedStamps_41 : decode cX11_refusedStamps 41 = .ok (.if_icmp .ge 33, 3) := by decide +kernel
theorem dX11_refusedStamps_44 : decode cX11_refusedStamps 44 = .ok (.aload_n 0, 1) := by decide +kernel
theorem dX11_refusedStamps_45 : decode cX11_refusedStamps 45 = .ok (.getfield 23, 3) := by decide +kernel
theorem dX11_refusedStamps_48 : decode cX11_refusedStamps 48 = .ok (.aload_n 0, 1) := by decide +kernel
theorem dX11_refusedStamps_49 : decode cX11_refusedStamps 49 = .ok (.getfield 55, 3) := by decide +kernel
theorem dX11_refusedStamps_52 : decode cX11_refusedStamps 52 = .ok (.getfield 296, 3) := by decide +kernel
theorem dX11_refusedStamps_55 : decode cX11_refusedStamps 55 = .ok (.iload_n 1, 1) := by decide +kernel
theorem dX11_refusedStamps_56 : decode cX11_refusedStamps 56 = .ok (.aaload, 1) := by decide +kernel
theorem dX11_refusedStamps_57 : decode cX11_refusedStamps 57 = .ok (.iload_n 3, 1) := by decide +kernel
theorem dX11_refusedStamps_58 : decode cX11_refusedStamps 58 = .ok (.laload, 1) := by decide +kernel
theorem dX11_refusedStamps_59 : decode cX11_refusedStamps 59 = .ok (.invokevirtual 334, 3) := by decide +kernel
theorem dX11_refusedStamps_62 : decode cX11_refusedStamps 62 = .ok (.ifCond .ne 6, 3) := by decide +kernel
theorem dX11_refusedStamps_65 : decode cX11_refusedStamps 65 = .ok (.bipush (-2), 2) := by decide +kernel
theorem dX11_refusedStamps_67 : decode cX11_refusedStamps 67 = .ok (.ireturn, 1) := by decide +kernel
theorem dX11_refusedStamps_68 : decode cX11_refusedStamps 68 = .ok (.iinc 3 1, 3) := by decide +kernel
theorem dX11_refusedStamps_71 : decode cX11_refusedStamps 71 = .ok (.goto (-40), 3) := by decide +kernel
theorem dX11_refusedStamps_74 : decode cX11_refusedStamps 74 = .ok (.iconst 0, 1) := by decide +kernel
theorem dX11_refusedStamps_75 : decode cX11_refusedStamps 75 = .ok (.ireturn, 1) := by decide +kernel
theorem dX11_enterStamps_0 : decode cX11_enterStamps 0 = .ok (.aload_n 0, 1) := by decide +kernel
theorem dX11_enterStamps_1 : decode cX11_enterStamps 1 = .ok (.getfield 48, 3) := by decide +kernel
theorem dX11_enterStamps_4 : decode cX11_enterStamps 4 = .ok (.invokevirtual 337, 3) := by decide +kernel
theorem dX11_enterStamps_7 : decode cX11_enterStamps 7 = .ok (.iconst 0, 1) := by decide +kernel
theorem dX11_enterStamps_8 : decode cX11_enterStamps 8 = .ok (.istore 4, 2) := by decide +kernel
theorem dX11_enterStamps_10 : decode cX11_enterStamps 10 = .ok (.iload 4, 2) := by decide +kernel
theorem dX11_enterStamps_12 : decode cX11_enterStamps 12 = .ok (.aload_n 0, 1) := by decide +kernel
theorem dX11_enterStamps_13 : decode cX11_enterStamps 13 = .ok (.getfield 55, 3) := by decide +kernel
theorem dX11_enterStamps_16 : decode cX11_enterStamps 16 = .ok (.getfield 293, 3) := by decide +kernel
theorem dX11_enterStamps_19 : decode cX11_enterStamps 19 = .ok (.iload_n 1, 1) := by decide +kernel
theorem dX11_enterStamps_20 : decode cX11_enterStamps 20 = .ok (.iaload, 1) := by decide +kernel
theorem dX11_enterStamps_21 : decode cX11_enterStamps 21 = .ok (.if_icmp .ge 63, 3) := by decide +kernel
theorem dX11_enterStamps_24 : decode cX11_enterStamps 24 = .ok (.iload 4, 2) := by decide +kernel
theorem dX11_enterStamps_26 : decode cX11_enterStamps 26 = .ok (.iload_n 2, 1) := by decide +kernel
theorem dX11_enterStamps_27 : decode cX11_enterStamps 27 = .ok (.if_icmp .ne 9, 3) := by decide +kernel
theorem dX11_enterStamps_30 : decode cX11_enterStamps 30 = .ok (.iconst 1, 1) := by decide +kernel
theorem dX11_enterStamps_31 : decode cX11_enterStamps 31 = .ok (.iload_n 3, 1) := by decide +kernel
theorem dX11_enterStamps_32 : decode cX11_enterStamps 32 = .ok (.ishl, 1) := by decide +kernel
theorem dX11_enterStamps_33 : decode cX11_enterStamps 33 = .ok (.goto 10, 3) := by decide +kernel
theorem dX11_enterStamps_36 : decode cX11_enterStamps 36 = .ok (.aload_n 0, 1) := by decide +kernel
theorem dX11_enterStamps_37 : decode cX11_enterStamps 37 = .ok (.getfield 23, 3) := by decide +kernel
theorem dX11_enterStamps_40 : decode cX11_enterStamps 40 = .ok (.invokevirtual 261, 3) := by decide +kernel
theorem dX11_enterStamps_43 : decode cX11_enterStamps 43 = .ok (.istore 5, 2) := by decide +kernel
theorem dX11_enterStamps_45 : decode cX11_enterStamps 45 = .ok (.aload_n 0, 1) := by decide +kernel
theorem dX11_enterStamps_46 : decode cX11_enterStamps 46 = .ok (.getfield 48, 3) := by decide +kernel
theorem dX11_enterStamps_49 : decode cX11_enterStamps 49 = .ok (.aload_n 0, 1) := by decide +kernel
theorem dX11_enterStamps_50 : decode cX11_enterStamps 50 = .ok (.getfield 23, 3) := by decide +kernel
theorem dX11_enterStamps_53 : decode cX11_enterStamps 53 = .ok (.aload_n 0, 1) := by decide +kernel
theorem dX11_enterStamps_54 : decode cX11_enterStamps 54 = .ok (.getfield 41, 3) := by decide +kernel
theorem dX11_enterStamps_57 : decode cX11_enterStamps 57 = .ok (.getfield 340, 3) := by decide +kernel
theorem dX11_enterStamps_60 : decode cX11_enterStamps 60 = .ok (.aload_n 0, 1) := by decide +kernel
theorem dX11_enterStamps_61 : decode cX11_enterStamps 61 = .ok (.getfield 55, 3) := by decide +kernel
theorem dX11_enterStamps_64 : decode cX11_enterStamps 64 = .ok (.getfield 296, 3) := by decide +kernel
theorem dX11_enterStamps_67 : decode cX11_enterStamps 67 = .ok (.iload_n 1, 1) := by decide +kernel
theorem dX11_enterStamps_68 : decode cX11_enterStamps 68 = .ok (.aaload, 1) := by decide +kernel
theorem dX11_enterStamps_69 : decode cX11_enterStamps 69 = .ok (.iload 4, 2) := by decide +kernel
theorem dX11_enterStamps_71 : decode cX11_enterStamps 71 = .ok (.laload, 1) := by decide +kernel
theorem dX11_enterStamps_72 : decode cX11_enterStamps 72 = .ok (.l2i, 1) := by decide +kernel
theorem dX11_enterStamps_73 : decode cX11_enterStamps 73 = .ok (.iload 5, 2) := by decide +kernel
theorem dX11_enterStamps_75 : decode cX11_enterStamps 75 = .ok (.invokevirtual 344, 3) := by decide +kernel
theorem dX11_enterStamps_78 : decode cX11_enterStamps 78 = .ok (.iinc 4 1, 3) := by decide +kernel
theorem dX11_enterStamps_81 : decode cX11_enterStamps 81 = .ok (.goto (-71), 3) := by decide +kernel
theorem dX11_enterStamps_84 : decode cX11_enterStamps 84 = .ok (.return_, 1) := by decide +kernel
theorem dX11_alone_0 : decode cX11_alone 0 = .ok (.aload_n 0, 1) := by decide +kernel
theorem dX11_alone_1 : decode cX11_alone 1 = .ok (.getfield 23, 3) := by decide +kernel
theorem dX11_alone_4 : decode cX11_alone 4 = .ok (.iload_n 1, 1) := by decide +kernel
theorem dX11_alone_5 : decode cX11_alone 5 = .ok (.invokevirtual 121, 3) := by decide +kernel
theorem dX11_alone_8 : decode cX11_alone 8 = .ok (.ifCond .eq 13, 3) := by decide +kernel
theorem dX11_alone_11 : decode cX11_alone 11 = .ok (.iload_n 2, 1) := by decide +kernel
theorem dX11_alone_12 : decode cX11_alone 12 = .ok (.ifCond .lt 9, 3) := by decide +kernel
theorem dX11_alone_15 : decode cX11_alone 15 = .ok (.iload_n 2, 1) := by decide +kernel
theorem dX11_alone_16 : decode cX11_alone 16 = .ok (.bipush 12, 2) := by decide +kernel
theorem dX11_alone_18 : decode cX11_alone 18 = .ok (.if_icmp .le 6, 3) := by decide +kernel
theorem dX11_alone_21 : decode cX11_alone 21 = .ok (.bipush (-2), 2) := by decide +kernel
theorem dX11_alone_23 : decode cX11_alone 23 = .ok (.ireturn, 1) := by decide +kernel
theorem dX11_alone_24 : decode cX11_alone 24 = .ok (.iload_n 2, 1) := by decide +kernel
theorem dX11_alone_25 : decode cX11_alone 25 = .ok (.iconst 2, 1) := by decide +kernel
theorem dX11_alone_26 : decode cX11_alone 26 = .ok (.if_icmp .ge 5, 3) := by decide +kernel
theorem dX11_alone_29 : decode cX11_alone 29 = .ok (.iconst 0, 1) := by decide +kernel
theorem dX11_alone_30 : decode cX11_alone 30 = .ok (.ireturn, 1) := by decide +kernel
theorem dX11_alone_31 : decode cX11_alone 31 = .ok (.aload_n 0, 1) := by decide +kernel
theorem dX11_alone_32 : decode cX11_alone 32 = .ok (.getfield 23, 3) := by decide +kernel
theorem dX11_alone_35 : decode cX11_alone 35 = .ok (.getfield 130, 3) := by decide +kernel
theorem dX11_alone_38 : decode cX11_alone 38 = .ok (.iload_n 1, 1) := by decide +kernel
theorem dX11_alone_39 : decode cX11_alone 39 = .ok (.iaload, 1) := by decide +kernel
theorem dX11_alone_40 : decode cX11_alone 40 = .ok (.ifCond .ne 9, 3) := by decide +kernel
theorem dX11_alone_43 : decode cX11_alone 43 = .ok (.iload_n 2, 1) := by decide +kernel
theorem dX11_alone_44 : decode cX11_alone 44 = .ok (.iconst 1, 1) := by decide +kernel
theorem dX11_alone_45 : decode cX11_alone 45 = .ok (.isub, 1) := by decide +kernel
theorem dX11_alone_46 : decode cX11_alone 46 = .ok (.goto 4, 3) := by decide +kernel
theorem dX11_alone_49 : decode cX11_alone 49 = .ok (.iconst (-1), 1) := by decide +kernel
theorem dX11_alone_50 : decode cX11_alone 50 = .ok (.ireturn, 1) := by decide +kernel
theorem dX11_worth_0 : decode cX11_worth 0 = .ok (.aload_n 0, 1) := by decide +kernel
theorem dX11_worth_1 : decode cX11_worth 1 = .ok (.getfield 23, 3) := by decide +kernel
theorem dX11_worth_4 : decode cX11_worth 4 = .ok (.iload_n 1, 1) := by decide +kernel
theorem dX11_worth_5 : decode cX11_worth 5 = .ok (.invokevirtual 101, 3) := by decide +kernel
theorem dX11_worth_8 : decode cX11_worth 8 = .ok (.ifCond .eq 13, 3) := by decide +kernel
theorem dX11_worth_11 : decode cX11_worth 11 = .ok (.iload_n 2, 1) := by decide +kernel
theorem dX11_worth_12 : decode cX11_worth 12 = .ok (.ifCond .lt 9, 3) := by decide +kernel
theorem dX11_worth_15 : decode cX11_worth 15 = .ok (.iload_n 2, 1) := by decide +kernel
theorem dX11_worth_16 : decode cX11_worth 16 = .ok (.bipush 100, 2) := by decide +kernel
theorem dX11_worth_18 : decode cX11_worth 18 = .ok (.if_icmp .le 6, 3) := by decide +kernel
theorem dX11_worth_21 : decode cX11_worth 21 = .ok (.bipush (-2), 2) := by decide +kernel
theorem dX11_worth_23 : decode cX11_worth 23 = .ok (.ireturn, 1) := by decide +kernel
theorem dX11_worth_24 : decode cX11_worth 24 = .ok (.aload_n 0, 1) := by decide +kernel
theorem dX11_worth_25 : decode cX11_worth 25 = .ok (.getfield 41, 3) := by decide +kernel
theorem dX11_worth_28 : decode cX11_worth 28 = .ok (.invokevirtual 202, 3) := by decide +kernel
theorem dX11_worth_31 : decode cX11_worth 31 = .ok (.ifCond .eq 15, 3) := by decide +kernel
theorem dX11_worth_34 : decode cX11_worth 34 = .ok (.aload_n 0, 1) := by decide +kernel
theorem dX11_worth_35 : decode cX11_worth 35 = .ok (.getfield 41, 3) := by decide +kernel
theorem dX11_worth_38 : decode cX11_worth 38 = .ok (.iload_n 1, 1) := by decide +kernel
theorem dX11_worth_39 : decode cX11_worth 39 = .ok (.iload_n 2, 1) := by decide +kernel
theorem dX11_worth_40 : decode cX11_worth 40 = .ok (.invokevirtual 348, 3) := by decide +kernel
theorem dX11_worth_43 : decode cX11_worth 43 = .ok (.goto 4, 3) := by decide +kernel
theorem dX11_worth_46 : decode cX11_worth 46 = .ok (.iconst (-1), 1) := by decide +kernel
theorem dX11_worth_47 : decode cX11_worth 47 = .ok (.ireturn, 1) := by decide +kernel
theorem dX11_whom_0 : decode cX11_whom 0 = .ok (.aload_n 0, 1) := by decide +kernel
theorem dX11_whom_1 : decode cX11_whom 1 = .ok (.getfield 23, 3) := by decide +kernel
theorem dX11_whom_4 : decode cX11_whom 4 = .ok (.invokevirtual 146, 3) := by decide +kernel
theorem dX11_whom_7 : decode cX11_whom 7 = .ok (.ifCond .eq 13, 3) := by decide +kernel
theorem dX11_whom_10 : decode cX11_whom 10 = .ok (.iload_n 1, 1) := by decide +kernel
theorem dX11_whom_11 : decode cX11_whom 11 = .ok (.ifCond .lt 9, 3) := by decide +kernel
theorem dX11_whom_14 : decode cX11_whom 14 = .ok (.iload_n 1, 1) := by decide +kernel
theorem dX11_whom_15 : decode cX11_whom 15 = .ok (.bipush 100, 2) := by decide +kernel
theorem dX11_whom_17 : decode cX11_whom 17 = .ok (.if_icmp .le 6, 3) := by decide +kernel
theorem dX11_whom_20 : decode cX11_whom 20 = .ok (.bipush (-2), 2) := by decide +kernel
theorem dX11_whom_22 : decode cX11_whom 22 = .ok (.ireturn, 1) := by decide +kernel
theorem dX11_whom_23 : decode cX11_whom 23 = .ok (.aload_n 0, 1) := by decide +kernel
theorem dX11_whom_24 : decode cX11_whom 24 = .ok (.getfield 41, 3) := by decide +kernel
theorem dX11_whom_27 : decode cX11_whom 27 = .ok (.invokevirtual 202, 3) := by decide +kernel
theorem dX11_whom_30 : decode cX11_whom 30 = .ok (.ifCond .ne 5, 3) := by decide +kernel
theorem dX11_whom_33 : decode cX11_whom 33 = .ok (.iconst (-1), 1) := by decide +kernel
theorem dX11_whom_34 : decode cX11_whom 34 = .ok (.ireturn, 1) := by decide +kernel
theorem dX11_whom_35 : decode cX11_whom 35 = .ok (.iconst 0, 1) := by decide +kernel
theorem dX11_whom_36 : decode cX11_whom 36 = .ok (.istore_n 2, 1) := by decide +kernel
theorem dX11_whom_37 : decode cX11_whom 37 = .ok (.iconst (-1), 1) := by decide +kernel
theorem dX11_whom_38 : decode cX11_whom 38 = .ok (.istore_n 3, 1) := by decide +kernel
theorem dX11_whom_39 : decode cX11_whom 39 = .ok (.iconst 0, 1) := by decide +kernel
theorem dX11_whom_40 : decode cX11_whom 40 = .ok (.istore 4, 2) := by decide +kernel
theorem dX11_whom_42 : decode cX11_whom 42 = .ok (.iload 4, 2) := by decide +kernel
theorem dX11_whom_44 : decode cX11_whom 44 = .ok (.aload_n 0, 1) := by decide +kernel
theorem dX11_whom_45 : decode cX11_whom 45 = .ok (.getfield 23, 3) := by decide +kernel
theorem dX11_whom_48 : decode cX11_whom 48 = .ok (.getfield 270, 3) := by decide +kernel
theorem dX11_whom_51 : decode cX11_whom 51 = .ok (.if_icmp .ge 33, 3) := by decide +kernel
theorem dX11_whom_54 : decode cX11_whom 54 = .ok (.aload_n 0, 1) := by decide +kernel
theorem dX11_whom_55 : decode cX11_whom 55 = .ok (.getfield 41, 3) := by decide +kernel
theorem dX11_whom_58 : decode cX11_whom 58 = .ok (.iload 4, 2) := by decide +kernel
theorem dX11_whom_60 : decode cX11_whom 60 = .ok (.iload_n 1, 1) := by decide +kernel
theorem dX11_whom_61 : decode cX11_whom 61 = .ok (.invokevirtual 348, 3) := by decide +kernel
theorem dX11_whom_64 : decode cX11_whom 64 = .ok (.istore 5, 2) := by decide +kernel
theorem dX11_whom_66 : decode cX11_whom 66 = .ok (.iload 5, 2) := by decide +kernel
theorem dX11_whom_68 : decode cX11_whom 68 = .ok (.iload_n 2, 1) := by decide +kernel
theorem dX11_whom_69 : decode cX11_whom 69 = .ok (.if_icmp .le 9, 3) := by decide +kernel
theorem dX11_whom_72 : decode cX11_whom 72 = .ok (.iload 5, 2) := by decide +kernel
theorem dX11_whom_74 : decode cX11_whom 74 = .ok (.istore_n 2, 1) := by decide +kernel
theorem dX11_whom_75 : decode cX11_whom 75 = .ok (.iload 4, 2) := by decide +kernel
theorem dX11_whom_77 : decode cX11_whom 77 = .ok (.istore_n 3, 1) := by decide +kernel
theorem dX11_whom_78 : decode cX11_whom 78 = .ok (.iinc 4 1, 3) := by decide +kernel
theorem dX11_whom_81 : decode cX11_whom 81 = .ok (.goto (-39), 3) := by decide +kernel
theorem dX11_whom_84 : decode cX11_whom 84 = .ok (.iload_n 3, 1) := by decide +kernel
theorem dX11_whom_85 : decode cX11_whom 85 = .ok (.ireturn, 1) := by decide +kernel
theorem dX11_blur_0 : decode cX11_blur 0 = .ok (.aload_n 0, 1) := by decide +kernel
theorem dX11_blur_1 : decode cX11_blur 1 = .ok (.getfield 23, 3) := by decide +kernel
theorem dX11_blur_4 : decode cX11_blur 4 = .ok (.iload_n 1, 1) := by decide +kernel
theorem dX11_blur_5 : decode cX11_blur 5 = .ok (.invokevirtual 121, 3) := by decide +kernel
theorem dX11_blur_8 : decode cX11_blur 8 = .ok (.ifCond .eq 14, 3) := by decide +kernel
theorem dX11_blur_11 : decode cX11_blur 11 = .ok (.aload_n 0, 1) := by decide +kernel
theorem dX11_blur_12 : decode cX11_blur 12 = .ok (.getfield 41, 3) := by decide +kernel
theorem dX11_blur_15 : decode cX11_blur 15 = .ok (.iload_n 1, 1) := by decide +kernel
theorem dX11_blur_16 : decode cX11_blur 16 = .ok (.invokevirtual 351, 3) := by decide +kernel
theorem dX11_blur_19 : decode cX11_blur 19 = .ok (.goto 5, 3) := by decide +kernel
theorem dX11_blur_22 : decode cX11_blur 22 = .ok (.bipush (-2), 2) := by decide +kernel
theorem dX11_blur_24 : decode cX11_blur 24 = .ok (.ireturn, 1) := by decide +kernel
theorem dX11_looks_0 : decode cX11_looks 0 = .ok (.aload_n 0, 1) := by decide +kernel
theorem dX11_looks_1 : decode cX11_looks 1 = .ok (.getfield 23, 3) := by decide +kernel
theorem dX11_looks_4 : decode cX11_looks 4 = .ok (.iload_n 1, 1) := by decide +kernel
theorem dX11_looks_5 : decode cX11_looks 5 = .ok (.invokevirtual 121, 3) := by decide +kernel
theorem dX11_looks_8 : decode cX11_looks 8 = .ok (.ifCond .eq 14, 3) := by decide +kernel
theorem dX11_looks_11 : decode cX11_looks 11 = .ok (.aload_n 0, 1) := by decide +kernel
theorem dX11_looks_12 : decode cX11_looks 12 = .ok (.getfield 41, 3) := by decide +kernel
theorem dX11_looks_15 : decode cX11_looks 15 = .ok (.iload_n 1, 1) := by decide +kernel
theorem dX11_looks_16 : decode cX11_looks 16 = .ok (.invokevirtual 354, 3) := by decide +kernel
theorem dX11_looks_19 : decode cX11_looks 19 = .ok (.goto 5, 3) := by decide +kernel
theorem dX11_looks_22 : decode cX11_looks 22 = .ok (.bipush (-2), 2) := by decide +kernel
theorem dX11_looks_24 : decode cX11_looks 24 = .ok (.ireturn, 1) := by decide +kernel
theorem dX11_drawn_0 : decode cX11_drawn 0 = .ok (.aload_n 0, 1) := by decide +kernel
theorem dX11_drawn_1 : decode cX11_drawn 1 = .ok (.getfield 23, 3) := by decide +kernel
theorem dX11_drawn_4 : decode cX11_drawn 4 = .ok (.invokevirtual 146, 3) := by decide +kernel
theorem dX11_drawn_7 : decode cX11_drawn 7 = .ok (.ifCond .eq 29, 3) := by decide +kernel
theorem dX11_drawn_10 : decode cX11_drawn 10 = .ok (.iload_n 1, 1) := by decide +kernel
theorem dX11_drawn_11 : decode cX11_drawn 11 = .ok (.invokestatic 357, 3) := by decide +kernel
theorem dX11_drawn_14 : decode cX11_drawn 14 = .ok (.ifCond .eq 22, 3) := by decide +kernel
theorem dX11_drawn_17 : decode cX11_drawn 17 = .ok (.iload_n 2, 1) := by decide +kernel
theorem dX11_drawn_18 : decode cX11_drawn 18 = .ok (.ifCond .lt 18, 3) := by decide +kernel
theorem dX11_drawn_21 : decode cX11_drawn 21 = .ok (.iload_n 2, 1) := by decide +kernel
theorem dX11_drawn_22 : decode cX11_drawn 22 = .ok (.iconst 1, 1) := by decide +kernel
theorem dX11_drawn_23 : decode cX11_drawn 23 = .ok (.if_icmp .gt 13, 3) := by decide +kernel
theorem dX11_drawn_26 : decode cX11_drawn 26 = .ok (.aload_n 0, 1) := by decide +kernel
theorem dX11_drawn_27 : decode cX11_drawn 27 = .ok (.getfield 41, 3) := by decide +kernel
theorem dX11_drawn_30 : decode cX11_drawn 30 = .ok (.invokevirtual 202, 3) := by decide +kernel
theorem dX11_drawn_33 : decode cX11_drawn 33 = .ok (.ifCond .ne 6, 3) := by decide +kernel
theorem dX11_drawn_36 : decode cX11_drawn 36 = .ok (.bipush (-2), 2) := by decide +kernel
theorem dX11_drawn_38 : decode cX11_drawn 38 = .ok (.ireturn, 1) := by decide +kernel
theorem dX11_drawn_39 : decode cX11_drawn 39 = .ok (.aload_n 0, 1) := by decide +kernel
theorem dX11_drawn_40 : decode cX11_drawn 40 = .ok (.iload_n 1, 1) := by decide +kernel
theorem dX11_drawn_41 : decode cX11_drawn 41 = .ok (.invokevirtual 360, 3) := by decide +kernel
theorem dX11_drawn_44 : decode cX11_drawn 44 = .ok (.istore_n 3, 1) := by decide +kernel
theorem dX11_drawn_45 : decode cX11_drawn 45 = .ok (.iload_n 2, 1) := by decide +kernel
theorem dX11_drawn_46 : decode cX11_drawn 46 = .ok (.ifCond .ne 5, 3) := by decide +kernel
theorem dX11_drawn_49 : decode cX11_drawn 49 = .ok (.iload_n 3, 1) := by decide +kernel
theorem dX11_drawn_50 : decode cX11_drawn 50 = .ok (.ireturn, 1) := by decide +kernel
theorem dX11_drawn_51 : decode cX11_drawn 51 = .ok (.iload_n 3, 1) := by decide +kernel
theorem dX11_drawn_52 : decode cX11_drawn 52 = .ok (.iconst (-1), 1) := by decide +kernel
theorem dX11_drawn_53 : decode cX11_drawn 53 = .ok (.if_icmp .ne 11, 3) := by decide +kernel
theorem dX11_drawn_56 : decode cX11_drawn 56 = .ok (.aload_n 0, 1) := by decide +kernel
theorem dX11_drawn_57 : decode cX11_drawn 57 = .ok (.getfield 23, 3) := by decide +kernel
theorem dX11_drawn_60 : decode cX11_drawn 60 = .ok (.invokevirtual 279, 3) := by decide +kernel
theorem dX11_drawn_63 : decode cX11_drawn 63 = .ok (.ireturn, 1) := by decide +kernel
theorem dX11_drawn_64 : decode cX11_drawn 64 = .ok (.aload_n 0, 1) := by decide +kernel
theorem dX11_drawn_65 : decode cX11_drawn 65 = .ok (.getfield 41, 3) := by decide +kernel
theorem dX11_drawn_68 : decode cX11_drawn 68 = .ok (.aload_n 0, 1) := by decide +kernel
theorem dX11_drawn_69 : decode cX11_drawn 69 = .ok (.getfield 41, 3) := by decide +kernel
theorem dX11_drawn_72 : decode cX11_drawn 72 = .ok (.getfield 217, 3) := by decide +kernel
theorem dX11_drawn_75 : decode cX11_drawn 75 = .ok (.invokevirtual 234, 3) := by decide +kernel
theorem dX11_drawn_78 : decode cX11_drawn 78 = .ok (.astore 4, 2) := by decide +kernel
theorem dX11_drawn_80 : decode cX11_drawn 80 = .ok (.aload 4, 2) := by decide +kernel
theorem dX11_drawn_82 : decode cX11_drawn 82 = .ok (.iload_n 3, 1) := by decide +kernel
theorem dX11_drawn_83 : decode cX11_drawn 83 = .ok (.invokevirtual 273, 3) := by decide +kernel
theorem dX11_drawn_86 : decode cX11_drawn 86 = .ok (.pop, 1) := by decide +kernel
theorem dX11_drawn_87 : decode cX11_drawn 87 = .ok (.aload 4, 2) := by decide +kernel
theorem dX11_drawn_89 : decode cX11_drawn 89 = .ok (.invokevirtual 276, 3) := by decide +kernel
theorem dX11_drawn_92 : decode cX11_drawn 92 = .ok (.ireturn, 1) := by decide +kernel
theorem dX11_luck_0 : decode cX11_luck 0 = .ok (.aload_n 0, 1) := by decide +kernel
theorem dX11_luck_1 : decode cX11_luck 1 = .ok (.getfield 23, 3) := by decide +kernel
theorem dX11_luck_4 : decode cX11_luck 4 = .ok (.invokevirtual 146, 3) := by decide +kernel
theorem dX11_luck_7 : decode cX11_luck 7 = .ok (.ifCond .eq 31, 3) := by decide +kernel
theorem dX11_luck_10 : decode cX11_luck 10 = .ok (.iload_n 1, 1) := by decide +kernel
theorem dX11_luck_11 : decode cX11_luck 11 = .ok (.invokestatic 357, 3) := by decide +kernel
theorem dX11_luck_14 : decode cX11_luck 14 = .ok (.ifCond .eq 24, 3) := by decide +kernel
theorem dX11_luck_17 : decode cX11_luck 17 = .ok (.iload_n 2, 1) := by decide +kernel
theorem dX11_luck_18 : decode cX11_luck 18 = .ok (.iconst 1, 1) := by decide +kernel
theorem dX11_luck_19 : decode cX11_luck 19 = .ok (.if_icmp .lt 19, 3) := by decide +kernel
theorem dX11_luck_22 : decode cX11_luck 22 = .ok (.iload_n 2, 1) := by decide +kernel
theorem dX11_luck_23 : decode cX11_luck 23 = .ok (.bipush 20, 2) := by decide +kernel
theorem dX11_luck_25 : decode cX11_luck 25 = .ok (.if_icmp .gt 13, 3) := by decide +kernel
theorem dX11_luck_28 : decode cX11_luck 28 = .ok (.aload_n 0, 1) := by decide +kernel
theorem dX11_luck_29 : decode cX11_luck 29 = .ok (.getfield 41, 3) := by decide +kernel
theorem dX11_luck_32 : decode cX11_luck 32 = .ok (.invokevirtual 202, 3) := by decide +kernel
theorem dX11_luck_35 : decode cX11_luck 35 = .ok (.ifCond .ne 6, 3) := by decide +kernel
theorem dX11_luck_38 : decode cX11_luck 38 = .ok (.bipush (-2), 2) := by decide +kernel
theorem dX11_luck_40 : decode cX11_luck 40 = .ok (.ireturn, 1) := by decide +kernel
theorem dX11_luck_41 : decode cX11_luck 41 = .ok (.iconst 0, 1) := by decide +kernel
theorem dX11_luck_42 : decode cX11_luck 42 = .ok (.istore_n 3, 1) := by decide +kernel
theorem dX11_luck_43 : decode cX11_luck 43 = .ok (.iconst 0, 1) := by decide +kernel
theorem dX11_luck_44 : decode cX11_luck 44 = .ok (.istore 4, 2) := by decide +kernel
theorem dX11_luck_46 : decode cX11_luck 46 = .ok (.iload 4, 2) := by decide +kernel
theorem dX11_luck_48 : decode cX11_luck 48 = .ok (.iload_n 2, 1) := by decide +kernel
theorem dX11_luck_49 : decode cX11_luck 49 = .ok (.if_icmp .ge 24, 3) := by decide +kernel
theorem dX11_luck_52 : decode cX11_luck 52 = .ok (.aload_n 0, 1) := by decide +kernel
theorem dX11_luck_53 : decode cX11_luck 53 = .ok (.iload_n 1, 1) := by decide +kernel
theorem dX11_luck_54 : decode cX11_luck 54 = .ok (.iload 4, 2) := by decide +kernel
theorem dX11_luck_56 : decode cX11_luck 56 = .ok (.iadd, 1) := by decide +kernel
theorem dX11_luck_57 : decode cX11_luck 57 = .ok (.invokevirtual 360, 3) := by decide +kernel
theorem dX11_luck_60 : decode cX11_luck 60 = .ok (.iconst (-1), 1) := by decide +kernel
theorem dX11_luck_61 : decode cX11_luck 61 = .ok (.if_icmp .ne 6, 3) := by decide +kernel
theorem dX11_luck_64 : decode cX11_luck 64 = .ok (.iinc 3 1, 3) := by decide +kernel
theorem dX11_luck_67 : decode cX11_luck 67 = .ok (.iinc 4 1, 3) := by decide +kernel
theorem dX11_luck_70 : decode cX11_luck 70 = .ok (.goto (-24), 3) := by decide +kernel
theorem dX11_luck_73 : decode cX11_luck 73 = .ok (.iload_n 3, 1) := by decide +kernel
theorem dX11_luck_74 : decode cX11_luck 74 = .ok (.ireturn, 1) := by decide +kernel
theorem dX11_isSeed_0 : decode cX11_isSeed 0 = .ok (.iload_n 0, 1) := by decide +kernel
theorem dX11_isSeed_1 : decode cX11_isSeed 1 = .ok (.ifCond .lt 14, 3) := by decide +kernel
theorem dX11_isSeed_4 : decode cX11_isSeed 4 = .ok (.iload_n 0, 1) := by decide +kernel
theorem dX11_isSeed_5 : decode cX11_isSeed 5 = .ok (.ldc_w 363, 3) := by decide +kernel
theorem dX11_isSeed_8 : decode cX11_isSeed 8 = .ok (.if_icmp .gt 7, 3) := by decide +kernel
theorem dX11_isSeed_11 : decode cX11_isSeed 11 = .ok (.iconst 1, 1) := by decide +kernel
theorem dX11_isSeed_12 : decode cX11_isSeed 12 = .ok (.goto 4, 3) := by decide +kernel
theorem dX11_isSeed_15 : decode cX11_isSeed 15 = .ok (.iconst 0, 1) := by decide +kernel
theorem dX11_isSeed_16 : decode cX11_isSeed 16 = .ok (.ireturn, 1) := by decide +kernel
theorem dX11_caughtAt_0 : decode cX11_caughtAt 0 = .ok (.iload_n 1, 1) := by decide +kernel
theorem dX11_caughtAt_1 : decode cX11_caughtAt 1 = .ok (.i2l, 1) := by decide +kernel
theorem dX11_caughtAt_2 : decode cX11_caughtAt 2 = .ok (.lstore_n 2, 1) := by decide +kernel
theorem dX11_caughtAt_3 : decode cX11_caughtAt 3 = .ok (.aload_n 0, 1) := by decide +kernel
theorem dX11_caughtAt_4 : decode cX11_caughtAt 4 = .ok (.getfield 41, 3) := by decide +kernel
theorem dX11_caughtAt_7 : decode cX11_caughtAt 7 = .ok (.aload_n 0, 1) := by decide +kernel
theorem dX11_caughtAt_8 : decode cX11_caughtAt 8 = .ok (.getfield 41, 3) := by decide +kernel
theorem dX11_caughtAt_11 : decode cX11_caughtAt 11 = .ok (.getfield 217, 3) := by decide +kernel
theorem dX11_caughtAt_14 : decode cX11_caughtAt 14 = .ok (.invokevirtual 234, 3) := by decide +kernel
theorem dX11_caughtAt_17 : decode cX11_caughtAt 17 = .ok (.astore 4, 2) := by decide +kernel
theorem dX11_caughtAt_19 : decode cX11_caughtAt 19 = .ok (.iconst 0, 1) := by decide +kernel
theorem dX11_caughtAt_20 : decode cX11_caughtAt 20 = .ok (.istore 5, 2) := by decide +kernel
theorem dX11_caughtAt_22 : decode cX11_caughtAt 22 = .ok (.iload 5, 2) := by decide +kernel
theorem dX11_caughtAt_24 : decode cX11_caughtAt 24 = .ok (.ldc 240, 2) := by decide +kernel
theorem dX11_caughtAt_26 : decode cX11_caughtAt 26 = .ok (.if_icmp .ge 73, 3) := by decide +kernel
theorem dX11_caughtAt_29 : decode cX11_caughtAt 29 = .ok (.aload 4, 2) := by decide +kernel
theorem dX11_caughtAt_31 : decode cX11_caughtAt 31 = .ok (.invokevirtual 241, 3) := by decide +kernel
theorem dX11_caughtAt_34 : decode cX11_caughtAt 34 = .ok (.istore 6, 2) := by decide +kernel
theorem dX11_caughtAt_36 : decode cX11_caughtAt 36 = .ok (.iload 6, 2) := by decide +kernel
theorem dX11_caughtAt_38 : decode cX11_caughtAt 38 = .ok (.iconst (-1), 1) := by decide +kernel
theorem dX11_caughtAt_39 : decode cX11_caughtAt 39 = .ok (.if_icmp .ne 6, 3) := by decide +kernel
theorem dX11_caughtAt_42 : decode cX11_caughtAt 42 = .ok (.goto 57, 3) := by decide +kernel
theorem dX11_caughtAt_45 : decode cX11_caughtAt 45 = .ok (.iload 6, 2) := by decide +kernel
theorem dX11_caughtAt_47 : decode cX11_caughtAt 47 = .ok (.sipush 200, 3) := by decide +kernel
theorem dX11_caughtAt_50 : decode cX11_caughtAt 50 = .ok (.if_icmp .eq 43, 3) := by decide +kernel
theorem dX11_caughtAt_53 : decode cX11_caughtAt 53 = .ok (.ldc2_w 364, 3) := by decide +kernel
theorem dX11_caughtAt_56 : decode cX11_caughtAt 56 = .ok (.lload_n 2, 1) := by decide +kernel
theorem dX11_caughtAt_57 : decode cX11_caughtAt 57 = .ok (.lmul, 1) := by decide +kernel
theorem dX11_caughtAt_58 : decode cX11_caughtAt 58 = .ok (.ldc2_w 366, 3) := by decide +kernel
theorem dX11_caughtAt_61 : decode cX11_caughtAt 61 = .ok (.ladd, 1) := by decide +kernel
theorem dX11_caughtAt_62 : decode cX11_caughtAt 62 = .ok (.ldc2_w 368, 3) := by decide +kernel
theorem dX11_caughtAt_65 : decode cX11_caughtAt 65 = .ok (.lrem, 1) := by decide +kernel
theorem dX11_caughtAt_66 : decode cX11_caughtAt 66 = .ok (.lstore_n 2, 1) := by decide +kernel
theorem dX11_caughtAt_67 : decode cX11_caughtAt 67 = .ok (.lload_n 2, 1) := by decide +kernel
theorem dX11_caughtAt_68 : decode cX11_caughtAt 68 = .ok (.ldc2_w 370, 3) := by decide +kernel
theorem dX11_caughtAt_71 : decode cX11_caughtAt 71 = .ok (.ldiv, 1) := by decide +kernel
theorem dX11_caughtAt_72 : decode cX11_caughtAt 72 = .ok (.ldc2_w 249, 3) := by decide +kernel
theorem dX11_caughtAt_75 : decode cX11_caughtAt 75 = .ok (.lrem, 1) := by decide +kernel
theorem dX11_caughtAt_76 : decode cX11_caughtAt 76 = .ok (.aload_n 0, 1) := by decide +kernel
theorem dX11_caughtAt_77 : decode cX11_caughtAt 77 = .ok (.getfield 23, 3) := by decide +kernel
theorem dX11_caughtAt_80 : decode cX11_caughtAt 80 = .ok (.iload 6, 2) := by decide +kernel
theorem dX11_caughtAt_82 : decode cX11_caughtAt 82 = .ok (.invokevirtual 246, 3) := by decide +kernel
theorem dX11_caughtAt_85 : decode cX11_caughtAt 85 = .ok (.i2l, 1) := by decide +kernel
theorem dX11_caughtAt_86 : decode cX11_caughtAt 86 = .ok (.lcmp, 1) := by decide +kernel
theorem dX11_caughtAt_87 : decode cX11_caughtAt 87 = .ok (.ifCond .ge 6, 3) := by decide +kernel
theorem dX11_caughtAt_90 : decode cX11_caughtAt 90 = .ok (.iload 5, 2) := by decide +kernel
theorem dX11_caughtAt_92 : decode cX11_caughtAt 92 = .ok (.ireturn, 1) := by decide +kernel
theorem dX11_caughtAt_93 : decode cX11_caughtAt 93 = .ok (.iinc 5 1, 3) := by decide +kernel
theorem dX11_caughtAt_96 : decode cX11_caughtAt 96 = .ok (.goto (-74), 3) := by decide +kernel
theorem dX11_caughtAt_99 : decode cX11_caughtAt 99 = .ok (.iconst (-1), 1) := by decide +kernel
theorem dX11_caughtAt_100 : decode cX11_caughtAt 100 = .ok (.ireturn, 1) := by decide +kernel
theorem dX11_grow_0 : decode cX11_grow 0 = .ok (.aload_n 0, 1) := by decide +kernel
theorem dX11_grow_1 : decode cX11_grow 1 = .ok (.getfield 23, 3) := by decide +kernel
theorem dX11_grow_4 : decode cX11_grow 4 = .ok (.iload_n 1, 1) := by decide +kernel
theorem dX11_grow_5 : decode cX11_grow 5 = .ok (.invokevirtual 101, 3) := by decide +kernel
theorem dX11_grow_8 : decode cX11_grow 8 = .ok (.ifCond .eq 13, 3) := by decide +kernel
theorem dX11_grow_11 : decode cX11_grow 11 = .ok (.iload_n 2, 1) := by decide +kernel
theorem dX11_grow_12 : decode cX11_grow 12 = .ok (.ifCond .lt 9, 3) := by decide +kernel
theorem dX11_grow_15 : decode cX11_grow 15 = .ok (.iload_n 2, 1) := by decide +kernel
theorem dX11_grow_16 : decode cX11_grow 16 = .ok (.bipush 100, 2) := by decide +kernel
theorem dX11_grow_18 : decode cX11_grow 18 = .ok (.if_icmp .le 6, 3) := by decide +kernel
theorem dX11_grow_21 : decode cX11_grow 21 = .ok (.bipush (-2), 2) := by decide +kernel
theorem dX11_grow_23 : decode cX11_grow 23 = .ok (.ireturn, 1) := by decide +kernel
theorem dX11_grow_24 : decode cX11_grow 24 = .ok (.aload_n 0, 1) := by decide +kernel
theorem dX11_grow_25 : decode cX11_grow 25 = .ok (.getfield 23, 3) := by decide +kernel
theorem dX11_grow_28 : decode cX11_grow 28 = .ok (.getfield 105, 3) := by decide +kernel
theorem dX11_grow_31 : decode cX11_grow 31 = .ok (.iload_n 1, 1) := by decide +kernel
theorem dX11_grow_32 : decode cX11_grow 32 = .ok (.iaload, 1) := by decide +kernel
theorem dX11_grow_33 : decode cX11_grow 33 = .ok (.istore_n 3, 1) := by decide +kernel
theorem dX11_grow_34 : decode cX11_grow 34 = .ok (.aload_n 0, 1) := by decide +kernel
theorem dX11_grow_35 : decode cX11_grow 35 = .ok (.getfield 23, 3) := by decide +kernel
theorem dX11_grow_38 : decode cX11_grow 38 = .ok (.getfield 105, 3) := by decide +kernel
theorem dX11_grow_41 : decode cX11_grow 41 = .ok (.iload_n 1, 1) := by decide +kernel
theorem dX11_grow_42 : decode cX11_grow 42 = .ok (.iload_n 2, 1) := by decide +kernel
theorem dX11_grow_43 : decode cX11_grow 43 = .ok (.iastore, 1) := by decide +kernel
theorem dX11_grow_44 : decode cX11_grow 44 = .ok (.aload_n 0, 1) := by decide +kernel
theorem dX11_grow_45 : decode cX11_grow 45 = .ok (.getfield 41, 3) := by decide +kernel
theorem dX11_grow_48 : decode cX11_grow 48 = .ok (.invokevirtual 372, 3) := by decide +kernel
theorem dX11_grow_51 : decode cX11_grow 51 = .ok (.iload_n 3, 1) := by decide +kernel
theorem dX11_grow_52 : decode cX11_grow 52 = .ok (.ireturn, 1) := by decide +kernel
theorem dX11_guard_0 : decode cX11_guard 0 = .ok (.aload_n 0, 1) := by decide +kernel
theorem dX11_guard_1 : decode cX11_guard 1 = .ok (.getfield 23, 3) := by decide +kernel
theorem dX11_guard_4 : decode cX11_guard 4 = .ok (.iload_n 1, 1) := by decide +kernel
theorem dX11_guard_5 : decode cX11_guard 5 = .ok (.invokevirtual 121, 3) := by decide +kernel
theorem dX11_guard_8 : decode cX11_guard 8 = .ok (.ifCond .eq 13, 3) := by decide +kernel
theorem dX11_guard_11 : decode cX11_guard 11 = .ok (.iload_n 2, 1) := by decide +kernel
theorem dX11_guard_12 : decode cX11_guard 12 = .ok (.ifCond .lt 9, 3) := by decide +kernel
theorem dX11_guard_15 : decode cX11_guard 15 = .ok (.iload_n 2, 1) := by decide +kernel
theorem dX11_guard_16 : decode cX11_guard 16 = .ok (.bipush 100, 2) := by decide +kernel
theorem dX11_guard_18 : decode cX11_guard 18 = .ok (.if_icmp .le 6, 3) := by decide +kernel
theorem dX11_guard_21 : decode cX11_guard 21 = .ok (.bipush (-2), 2) := by decide +kernel
theorem dX11_guard_23 : decode cX11_guard 23 = .ok (.ireturn, 1) := by decide +kernel
theorem dX11_guard_24 : decode cX11_guard 24 = .ok (.aload_n 0, 1) := by decide +kernel
theorem dX11_guard_25 : decode cX11_guard 25 = .ok (.getfield 23, 3) := by decide +kernel
theorem dX11_guard_28 : decode cX11_guard 28 = .ok (.getfield 124, 3) := by decide +kernel
theorem dX11_guard_31 : decode cX11_guard 31 = .ok (.iload_n 1, 1) := by decide +kernel
theorem dX11_guard_32 : decode cX11_guard 32 = .ok (.iaload, 1) := by decide +kernel
theorem dX11_guard_33 : decode cX11_guard 33 = .ok (.istore_n 3, 1) := by decide +kernel
theorem dX11_guard_34 : decode cX11_guard 34 = .ok (.aload_n 0, 1) := by decide +kernel
theorem dX11_guard_35 : decode cX11_guard 35 = .ok (.getfield 23, 3) := by decide +kernel
theorem dX11_guard_38 : decode cX11_guard 38 = .ok (.getfield 124, 3) := by decide +kernel
theorem dX11_guard_41 : decode cX11_guard 41 = .ok (.iload_n 1, 1) := by decide +kernel
theorem dX11_guard_42 : decode cX11_guard 42 = .ok (.iload_n 2, 1) := by decide +kernel
theorem dX11_guard_43 : decode cX11_guard 43 = .ok (.iastore, 1) := by decide +kernel
theorem dX11_guard_44 : decode cX11_guard 44 = .ok (.aload_n 0, 1) := by decide +kernel
theorem dX11_guard_45 : decode cX11_guard 45 = .ok (.getfield 41, 3) := by decide +kernel
theorem dX11_guard_48 : decode cX11_guard 48 = .ok (.invokevirtual 372, 3) := by decide +kernel
theorem dX11_guard_51 : decode cX11_guard 51 = .ok (.iload_n 3, 1) := by decide +kernel
theorem dX11_guard_52 : decode cX11_guard 52 = .ok (.ireturn, 1) := by decide +kernel
theorem dX11_stay_0 : decode cX11_stay 0 = .ok (.aload_n 0, 1) := by decide +kernel
theorem dX11_stay_1 : decode cX11_stay 1 = .ok (.getfield 23, 3) := by decide +kernel
theorem dX11_stay_4 : decode cX11_stay 4 = .ok (.iload_n 1, 1) := by decide +kernel
theorem dX11_stay_5 : decode cX11_stay 5 = .ok (.invokevirtual 101, 3) := by decide +kernel
theorem dX11_stay_8 : decode cX11_stay 8 = .ok (.ifCond .eq 12, 3) := by decide +kernel
theorem dX11_stay_11 : decode cX11_stay 11 = .ok (.iload_n 2, 1) := by decide +kernel
theorem dX11_stay_12 : decode cX11_stay 12 = .ok (.ifCond .lt 8, 3) := by decide +kernel
theorem dX11_stay_15 : decode cX11_stay 15 = .ok (.iload_n 2, 1) := by decide +kernel
theorem dX11_stay_16 : decode cX11_stay 16 = .ok (.iconst 1, 1) := by decide +kernel
theorem dX11_stay_17 : decode cX11_stay 17 = .ok (.if_icmp .le 6, 3) := by decide +kernel
theorem dX11_stay_20 : decode cX11_stay 20 = .ok (.bipush (-2), 2) := by decide +kernel
theorem dX11_stay_22 : decode cX11_stay 22 = .ok (.ireturn, 1) := by decide +kernel
theorem dX11_stay_23 : decode cX11_stay 23 = .ok (.aload_n 0, 1) := by decide +kernel
theorem dX11_stay_24 : decode cX11_stay 24 = .ok (.getfield 23, 3) := by decide +kernel
theorem dX11_stay_27 : decode cX11_stay 27 = .ok (.getfield 115, 3) := by decide +kernel
theorem dX11_stay_30 : decode cX11_stay 30 = .ok (.iload_n 1, 1) := by decide +kernel
theorem dX11_stay_31 : decode cX11_stay 31 = .ok (.iaload, 1) := by decide +kernel
theorem dX11_stay_32 : decode cX11_stay 32 = .ok (.istore_n 3, 1) := by decide +kernel
theorem dX11_stay_33 : decode cX11_stay 33 = .ok (.aload_n 0, 1) := by decide +kernel
theorem dX11_stay_34 : decode cX11_stay 34 = .ok (.getfield 23, 3) := by decide +kernel
theorem dX11_stay_37 : decode cX11_stay 37 = .ok (.getfield 115, 3) := by decide +kernel
theorem dX11_stay_40 : decode cX11_stay 40 = .ok (.iload_n 1, 1) := by decide +kernel
theorem dX11_stay_41 : decode cX11_stay 41 = .ok (.iload_n 2, 1) := by decide +kernel
theorem dX11_stay_42 : decode cX11_stay 42 = .ok (.iastore, 1) := by decide +kernel
theorem dX11_stay_43 : decode cX11_stay 43 = .ok (.aload_n 0, 1) := by decide +kernel
theorem dX11_stay_44 : decode cX11_stay 44 = .ok (.getfield 41, 3) := by decide +kernel
theorem dX11_stay_47 : decode cX11_stay 47 = .ok (.invokevirtual 375, 3) := by decide +kernel
theorem dX11_stay_50 : decode cX11_stay 50 = .ok (.iload_n 3, 1) := by decide +kernel
theorem dX11_stay_51 : decode cX11_stay 51 = .ok (.ireturn, 1) := by decide +kernel
theorem dX11_count_0 : decode cX11_count 0 = .ok (.iload_n 1, 1) := by decide +kernel
theorem dX11_count_1 : decode cX11_count 1 = .ok (.tableswitch 141 0 9 #[55, 63, 71, 79, 90, 101, 109, 117, 125, 133], 55) := by decide +kernel
theorem dX11_count_56 : decode cX11_count 56 = .ok (.aload_n 0, 1) := by decide +kernel
theorem dX11_count_57 : decode cX11_count 57 = .ok (.getfield 23, 3) := by decide +kernel
theorem dX11_count_60 : decode cX11_count 60 = .ok (.getfield 270, 3) := by decide +kernel
theorem dX11_count_63 : decode cX11_count 63 = .ok (.ireturn, 1) := by decide +kernel
theorem dX11_count_64 : decode cX11_count 64 = .ok (.aload_n 0, 1) := by decide +kernel
theorem dX11_count_65 : decode cX11_count 65 = .ok (.getfield 23, 3) := by decide +kernel
theorem dX11_count_68 : decode cX11_count 68 = .ok (.getfield 378, 3) := by decide +kernel
theorem dX11_count_71 : decode cX11_count 71 = .ok (.ireturn, 1) := by decide +kernel
theorem dX11_count_72 : decode cX11_count 72 = .ok (.aload_n 0, 1) := by decide +kernel
theorem dX11_count_73 : decode cX11_count 73 = .ok (.getfield 23, 3) := by decide +kernel
theorem dX11_count_76 : decode cX11_count 76 = .ok (.getfield 381, 3) := by decide +kernel
theorem dX11_count_79 : decode cX11_count 79 = .ok (.ireturn, 1) := by decide +kernel
theorem dX11_count_80 : decode cX11_count 80 = .ok (.aload_n 0, 1) := by decide +kernel
theorem dX11_count_81 : decode cX11_count 81 = .ok (.getfield 23, 3) := by decide +kernel
theorem dX11_count_84 : decode cX11_count 84 = .ok (.invokevirtual 384, 3) := by decide +kernel
theorem dX11_count_87 : decode cX11_count 87 = .ok (.invokestatic 282, 3) := by decide +kernel
theorem dX11_count_90 : decode cX11_count 90 = .ok (.ireturn, 1) := by decide +kernel
theorem dX11_count_91 : decode cX11_count 91 = .ok (.aload_n 0, 1) := by decide +kernel
theorem dX11_count_92 : decode cX11_count 92 = .ok (.getfield 23, 3) := by decide +kernel
theorem dX11_count_95 : decode cX11_count 95 = .ok (.invokevirtual 387, 3) := by decide +kernel
theorem dX11_count_98 : decode cX11_count 98 = .ok (.invokestatic 282, 3) := by decide +kernel
theorem dX11_count_101 : decode cX11_count 101 = .ok (.ireturn, 1) := by decide +kernel
theorem dX11_count_102 : decode cX11_count 102 = .ok (.aload_n 0, 1) := by decide +kernel
theorem dX11_count_103 : decode cX11_count 103 = .ok (.getfield 23, 3) := by decide +kernel
theorem dX11_count_106 : decode cX11_count 106 = .ok (.getfield 390, 3) := by decide +kernel
theorem dX11_count_109 : decode cX11_count 109 = .ok (.ireturn, 1) := by decide +kernel
theorem dX11_count_110 : decode cX11_count 110 = .ok (.aload_n 0, 1) := by decide +kernel
theorem dX11_count_111 : decode cX11_count 111 = .ok (.getfield 29, 3) := by decide +kernel
theorem dX11_count_114 : decode cX11_count 114 = .ok (.getfield 178, 3) := by decide +kernel
theorem dX11_count_117 : decode cX11_count 117 = .ok (.ireturn, 1) := by decide +kernel
theorem dX11_count_118 : decode cX11_count 118 = .ok (.aload_n 0, 1) := by decide +kernel
theorem dX11_count_119 : decode cX11_count 119 = .ok (.getfield 23, 3) := by decide +kernel
theorem dX11_count_122 : decode cX11_count 122 = .ok (.getfield 95, 3) := by decide +kernel
theorem dX11_count_125 : decode cX11_count 125 = .ok (.ireturn, 1) := by decide +kernel
theorem dX11_count_126 : decode cX11_count 126 = .ok (.aload_n 0, 1) := by decide +kernel
theorem dX11_count_127 : decode cX11_count 127 = .ok (.getfield 10, 3) := by decide +kernel
theorem dX11_count_130 : decode cX11_count 130 = .ok (.getfield 71, 3) := by decide +kernel
theorem dX11_count_133 : decode cX11_count 133 = .ok (.ireturn, 1) := by decide +kernel
theorem dX11_count_134 : decode cX11_count 134 = .ok (.aload_n 0, 1) := by decide +kernel
theorem dX11_count_135 : decode cX11_count 135 = .ok (.getfield 55, 3) := by decide +kernel
theorem dX11_count_138 : decode cX11_count 138 = .ok (.invokevirtual 393, 3) := by decide +kernel
theorem dX11_count_141 : decode cX11_count 141 = .ok (.ireturn, 1) := by decide +kernel
theorem dX11_count_142 : decode cX11_count 142 = .ok (.iconst (-1), 1) := by decide +kernel
theorem dX11_count_143 : decode cX11_count 143 = .ok (.ireturn, 1) := by decide +kernel
theorem dX11_image_0 : decode cX11_image 0 = .ok (.iload_n 1, 1) := by decide +kernel
theorem dX11_image_1 : decode cX11_image 1 = .ok (.ifCond .lt 8, 3) := by decide +kernel
theorem dX11_image_4 : decode cX11_image 4 = .ok (.iload_n 1, 1) := by decide +kernel
theorem dX11_image_5 : decode cX11_image 5 = .ok (.iconst 3, 1) := by decide +kernel
theorem dX11_image_6 : decode cX11_image 6 = .ok (.if_icmp .lt 6, 3) := by decide +kernel
theorem dX11_image_9 : decode cX11_image 9 = .ok (.bipush (-2), 2) := by decide +kernel
theorem dX11_image_11 : decode cX11_image 11 = .ok (.ireturn, 1) := by decide +kernel
theorem dX11_image_12 : decode cX11_image 12 = .ok (.aload_n 0, 1) := by decide +kernel
theorem dX11_image_13 : decode cX11_image 13 = .ok (.getfield 59, 3) := by decide +kernel
theorem dX11_image_16 : decode cX11_image 16 = .ok (.iload_n 1, 1) := by decide +kernel
theorem dX11_image_17 : decode cX11_image 17 = .ok (.aaload, 1) := by decide +kernel
theorem dX11_image_18 : decode cX11_image 18 = .ok (.aload_n 0, 1) := by decide +kernel
theorem dX11_image_19 : decode cX11_image 19 = .ok (.getfield 23, 3) := by decide +kernel
theorem dX11_image_22 : decode cX11_image 22 = .ok (.invokevirtual 86, 3) := by decide +kernel
theorem dX11_image_25 : decode cX11_image 25 = .ok (.aload_n 0, 1) := by decide +kernel
theorem dX11_image_26 : decode cX11_image 26 = .ok (.getfield 63, 3) := by decide +kernel
theorem dX11_image_29 : decode cX11_image 29 = .ok (.iload_n 1, 1) := by decide +kernel
theorem dX11_image_30 : decode cX11_image 30 = .ok (.aaload, 1) := by decide +kernel
theorem dX11_image_31 : decode cX11_image 31 = .ok (.aload_n 0, 1) := by decide +kernel
theorem dX11_image_32 : decode cX11_image 32 = .ok (.getfield 29, 3) := by decide +kernel
theorem dX11_image_35 : decode cX11_image 35 = .ok (.invokevirtual 395, 3) := by decide +kernel
theorem dX11_image_38 : decode cX11_image 38 = .ok (.aload_n 0, 1) := by decide +kernel
theorem dX11_image_39 : decode cX11_image 39 = .ok (.getfield 67, 3) := by decide +kernel
theorem dX11_image_42 : decode cX11_image 42 = .ok (.iload_n 1, 1) := by decide +kernel
theorem dX11_image_43 : decode cX11_image 43 = .ok (.iconst 1, 1) := by decide +kernel
theorem dX11_image_44 : decode cX11_image 44 = .ok (.bastore, 1) := by decide +kernel
theorem dX11_image_45 : decode cX11_image 45 = .ok (.iconst 0, 1) := by decide +kernel
theorem dX11_image_46 : decode cX11_image 46 = .ok (.ireturn, 1) := by decide +kernel
theorem dX11_back_0 : decode cX11_back 0 = .ok (.iload_n 1, 1) := by decide +kernel
theorem dX11_back_1 : decode cX11_back 1 = .ok (.ifCond .lt 8, 3) := by decide +kernel
theorem dX11_back_4 : decode cX11_back 4 = .ok (.iload_n 1, 1) := by decide +kernel
theorem dX11_back_5 : decode cX11_back 5 = .ok (.iconst 3, 1) := by decide +kernel
theorem dX11_back_6 : decode cX11_back 6 = .ok (.if_icmp .lt 6, 3) := by decide +kernel
theorem dX11_back_9 : decode cX11_back 9 = .ok (.bipush (-2), 2) := by decide +kernel
theorem dX11_back_11 : decode cX11_back 11 = .ok (.ireturn, 1) := by decide +kernel
theorem dX11_back_12 : decode cX11_back 12 = .ok (.aload_n 0, 1) := by decide +kernel
theorem dX11_back_13 : decode cX11_back 13 = .ok (.getfield 67, 3) := by decide +kernel
theorem dX11_back_16 : decode cX11_back 16 = .ok (.iload_n 1, 1) := by decide +kernel
theorem dX11_back_17 : decode cX11_back 17 = .ok (.baload, 1) := by decide +kernel
theorem dX11_back_18 : decode cX11_back 18 = .ok (.ifCond .ne 6, 3) := by decide +kernel
theorem dX11_back_21 : decode cX11_back 21 = .ok (.bipush (-6), 2) := by decide +kernel
theorem dX11_back_23 : decode cX11_back 23 = .ok (.ireturn, 1) := by decide +kernel
theorem dX11_back_24 : decode cX11_back 24 = .ok (.aload_n 0, 1) := by decide +kernel
theorem dX11_back_25 : decode cX11_back 25 = .ok (.getfield 23, 3) := by decide +kernel
theorem dX11_back_28 : decode cX11_back 28 = .ok (.aload_n 0, 1) := by decide +kernel
theorem dX11_back_29 : decode cX11_back 29 = .ok (.getfield 59, 3) := by decide +kernel
theorem dX11_back_32 : decode cX11_back 32 = .ok (.iload_n 1, 1) := by decide +kernel
theorem dX11_back_33 : decode cX11_back 33 = .ok (.aaload, 1) := by decide +kernel
theorem dX11_back_34 : decode cX11_back 34 = .ok (.invokevirtual 86, 3) := by decide +kernel
theorem dX11_back_37 : decode cX11_back 37 = .ok (.aload_n 0, 1) := by decide +kernel
theorem dX11_back_38 : decode cX11_back 38 = .ok (.getfield 29, 3) := by decide +kernel
theorem dX11_back_41 : decode cX11_back 41 = .ok (.aload_n 0, 1) := by decide +kernel
theorem dX11_back_42 : decode cX11_back 42 = .ok (.getfield 63, 3) := by decide +kernel
theorem dX11_back_45 : decode cX11_back 45 = .ok (.iload_n 1, 1) := by decide +kernel
theorem dX11_back_46 : decode cX11_back 46 = .ok (.aaload, 1) := by decide +kernel
theorem dX11_back_47 : decode cX11_back 47 = .ok (.invokevirtual 395, 3) := by decide +kernel
theorem dX11_back_50 : decode cX11_back 50 = .ok (.aload_n 0, 1) := by decide +kernel
theorem dX11_back_51 : decode cX11_back 51 = .ok (.getfield 41, 3) := by decide +kernel
theorem dX11_back_54 : decode cX11_back 54 = .ok (.invokevirtual 92, 3) := by decide +kernel
theorem dX11_back_57 : decode cX11_back 57 = .ok (.iconst 0, 1) := by decide +kernel
theorem dX11_back_58 : decode cX11_back 58 = .ok (.ireturn, 1) := by decide +kernel
theorem dX11_row_0 : decode cX11_row 0 = .ok (.aload_n 0, 1) := by decide +kernel
theorem dX11_row_1 : decode cX11_row 1 = .ok (.getfield 55, 3) := by decide +kernel
theorem dX11_row_4 : decode cX11_row 4 = .ok (.iload_n 1, 1) := by decide +kernel
theorem dX11_row_5 : decode cX11_row 5 = .ok (.invokevirtual 308, 3) := by decide +kernel
theorem dX11_row_8 : decode cX11_row 8 = .ok (.ifCond .eq 18, 3) := by decide +kernel
theorem dX11_row_11 : decode cX11_row 11 = .ok (.iload_n 2, 1) := by decide +kernel
theorem dX11_row_12 : decode cX11_row 12 = .ok (.ifCond .lt 14, 3) := by decide +kernel
theorem dX11_row_15 : decode cX11_row 15 = .ok (.iload_n 2, 1) := by decide +kernel
theorem dX11_row_16 : decode cX11_row 16 = .ok (.iconst 3, 1) := by decide +kernel
theorem dX11_row_17 : decode cX11_row 17 = .ok (.if_icmp .gt 9, 3) := by decide +kernel
theorem dX11_row_20 : decode cX11_row 20 = .ok (.iload_n 3, 1) := by decide +kernel
theorem dX11_row_21 : decode cX11_row 21 = .ok (.bipush 60, 2) := by decide +kernel
theorem dX11_row_23 : decode cX11_row 23 = .ok (.if_icmp .le 6, 3) := by decide +kernel
theorem dX11_row_26 : decode cX11_row 26 = .ok (.bipush (-2), 2) := by decide +kernel
theorem dX11_row_28 : decode cX11_row 28 = .ok (.ireturn, 1) := by decide +kernel
theorem dX11_row_29 : decode cX11_row 29 = .ok (.iload_n 3, 1) := by decide +kernel
theorem dX11_row_30 : decode cX11_row 30 = .ok (.ifCond .ge 6, 3) := by decide +kernel
theorem dX11_row_33 : decode cX11_row 33 = .ok (.bipush (-3), 2) := by decide +kernel
theorem dX11_row_35 : decode cX11_row 35 = .ok (.ireturn, 1) := by decide +kernel
theorem dX11_row_36 : decode cX11_row 36 = .ok (.aload_n 0, 1) := by decide +kernel
theorem dX11_row_37 : decode cX11_row 37 = .ok (.getfield 55, 3) := by decide +kernel
theorem dX11_row_40 : decode cX11_row 40 = .ok (.iload_n 1, 1) := by decide +kernel
theorem dX11_row_41 : decode cX11_row 41 = .ok (.iload_n 2, 1) := by decide +kernel
theorem dX11_row_42 : decode cX11_row 42 = .ok (.iload_n 3, 1) := by decide +kernel
theorem dX11_row_43 : decode cX11_row 43 = .ok (.invokevirtual 398, 3) := by decide +kernel
theorem dX11_row_46 : decode cX11_row 46 = .ok (.iconst 0, 1) := by decide +kernel
theorem dX11_row_47 : decode cX11_row 47 = .ok (.ireturn, 1) := by decide +kernel
theorem dX11_write_0 : decode cX11_write 0 = .ok (.aload_n 0, 1) := by decide +kernel
theorem dX11_write_1 : decode cX11_write 1 = .ok (.getfield 55, 3) := by decide +kernel
theorem dX11_write_4 : decode cX11_write 4 = .ok (.iload_n 1, 1) := by decide +kernel
theorem dX11_write_5 : decode cX11_write 5 = .ok (.invokevirtual 308, 3) := by decide +kernel
theorem dX11_write_8 : decode cX11_write 8 = .ok (.ifCond .ne 6, 3) := by decide +kernel
theorem dX11_write_11 : decode cX11_write 11 = .ok (.bipush (-2), 2) := by decide +kernel
theorem dX11_write_13 : decode cX11_write 13 = .ok (.ireturn, 1) := by decide +kernel
theorem dX11_write_14 : decode cX11_write 14 = .ok (.aload_n 0, 1) := by decide +kernel
theorem dX11_write_15 : decode cX11_write 15 = .ok (.getfield 55, 3) := by decide +kernel
theorem dX11_write_18 : decode cX11_write 18 = .ok (.iload_n 1, 1) := by decide +kernel
theorem dX11_write_19 : decode cX11_write 19 = .ok (.invokevirtual 311, 3) := by decide +kernel
theorem dX11_write_22 : decode cX11_write 22 = .ok (.ifCond .ne 6, 3) := by decide +kernel
theorem dX11_write_25 : decode cX11_write 25 = .ok (.bipush (-6), 2) := by decide +kernel
theorem dX11_write_27 : decode cX11_write 27 = .ok (.ireturn, 1) := by decide +kernel
theorem dX11_write_28 : decode cX11_write 28 = .ok (.iload_n 2, 1) := by decide +kernel
theorem dX11_write_29 : decode cX11_write 29 = .ok (.ifCond .lt 16, 3) := by decide +kernel
theorem dX11_write_32 : decode cX11_write 32 = .ok (.iload_n 2, 1) := by decide +kernel
theorem dX11_write_33 : decode cX11_write 33 = .ok (.aload_n 0, 1) := by decide +kernel
theorem dX11_write_34 : decode cX11_write 34 = .ok (.getfield 55, 3) := by decide +kernel
theorem dX11_write_37 : decode cX11_write 37 = .ok (.getfield 293, 3) := by decide +kernel
theorem dX11_write_40 : decode cX11_write 40 = .ok (.iload_n 1, 1) := by decide +kernel
theorem dX11_write_41 : decode cX11_write 41 = .ok (.iaload, 1) := by decide +kernel
theorem dX11_write_42 : decode cX11_write 42 = .ok (.if_icmp .lt 6, 3) := by decide +kernel
theorem dX11_write_45 : decode cX11_write 45 = .ok (.bipush (-7), 2) := by decide +kernel
theorem dX11_write_47 : decode cX11_write 47 = .ok (.ireturn, 1) := by decide +kernel
theorem dX11_write_48 : decode cX11_write 48 = .ok (.aload_n 0, 1) := by decide +kernel
theorem dX11_write_49 : decode cX11_write 49 = .ok (.getfield 55, 3) := by decide +kernel
theorem dX11_write_52 : decode cX11_write 52 = .ok (.getfield 296, 3) := by decide +kernel
theorem dX11_write_55 : decode cX11_write 55 = .ok (.iload_n 1, 1) := by decide +kernel
theorem dX11_write_56 : decode cX11_write 56 = .ok (.aaload, 1) := by decide +kernel
theorem dX11_write_57 : decode cX11_write 57 = .ok (.iload_n 2, 1) := by decide +kernel
theorem dX11_write_58 : decode cX11_write 58 = .ok (.lload_n 3, 1) := by decide +kernel
theorem dX11_write_59 : decode cX11_write 59 = .ok (.aload_n 0, 1) := by decide +kernel
theorem dX11_write_60 : decode cX11_write 60 = .ok (.getfield 55, 3) := by decide +kernel
theorem dX11_write_63 : decode cX11_write 63 = .ok (.getfield 401, 3) := by decide +kernel
theorem dX11_write_66 : decode cX11_write 66 = .ok (.iload_n 1, 1) := by decide +kernel
theorem dX11_write_67 : decode cX11_write 67 = .ok (.iaload, 1) := by decide +kernel
theorem dX11_write_68 : decode cX11_write 68 = .ok (.invokestatic 404, 3) := by decide +kernel
theorem dX11_write_71 : decode cX11_write 71 = .ok (.lastore, 1) := by decide +kernel
theorem dX11_write_72 : decode cX11_write 72 = .ok (.iconst 0, 1) := by decide +kernel
theorem dX11_write_73 : decode cX11_write 73 = .ok (.ireturn, 1) := by decide +kernel
theorem dX11_paste_0 : decode cX11_paste 0 = .ok (.aload_n 0, 1) := by decide +kernel
theorem dX11_paste_1 : decode cX11_paste 1 = .ok (.getfield 55, 3) := by decide +kernel
theorem dX11_paste_4 : decode cX11_paste 4 = .ok (.iload_n 1, 1) := by decide +kernel
theorem dX11_paste_5 : decode cX11_paste 5 = .ok (.invokevirtual 308, 3) := by decide +kernel
theorem dX11_paste_8 : decode cX11_paste 8 = .ok (.ifCond .eq 14, 3) := by decide +kernel
theorem dX11_paste_11 : decode cX11_paste 11 = .ok (.aload_n 0, 1) := by decide +kernel
theorem dX11_paste_12 : decode cX11_paste 12 = .ok (.getfield 55, 3) := by decide +kernel
theorem dX11_paste_15 : decode cX11_paste 15 = .ok (.iload_n 3, 1) := by decide +kernel
theorem dX11_paste_16 : decode cX11_paste 16 = .ok (.invokevirtual 308, 3) := by decide +kernel
theorem dX11_paste_19 : decode cX11_paste 19 = .ok (.ifCond .ne 6, 3) := by decide +kernel
theorem dX11_paste_22 : decode cX11_paste 22 = .ok (.bipush (-2), 2) := by decide +kernel
theorem dX11_paste_24 : decode cX11_paste 24 = .ok (.ireturn, 1) := by decide +kernel
theorem dX11_paste_25 : decode cX11_paste 25 = .ok (.aload_n 0, 1) := by decide +kernel
theorem dX11_paste_26 : decode cX11_paste 26 = .ok (.getfield 55, 3) := by decide +kernel
theorem dX11_paste_29 : decode cX11_paste 29 = .ok (.iload_n 1, 1) := by decide +kernel
theorem dX11_paste_30 : decode cX11_paste 30 = .ok (.invokevirtual 311, 3) := by decide +kernel
theorem dX11_paste_33 : decode cX11_paste 33 = .ok (.ifCond .eq 14, 3) := by decide +kernel
theorem dX11_paste_36 : decode cX11_paste 36 = .ok (.aload_n 0, 1) := by decide +kernel
theorem dX11_paste_37 : decode cX11_paste 37 = .ok (.getfield 55, 3) := by decide +kernel
theorem dX11_paste_40 : decode cX11_paste 40 = .ok (.iload_n 3, 1) := by decide +kernel
theorem dX11_paste_41 : decode cX11_paste 41 = .ok (.invokevirtual 311, 3) := by decide +kernel
theorem dX11_paste_44 : decode cX11_paste 44 = .ok (.ifCond .ne 6, 3) := by decide +kernel
theorem dX11_paste_47 : decode cX11_paste 47 = .ok (.bipush (-6), 2) := by decide +kernel
theorem dX11_paste_49 : decode cX11_paste 49 = .ok (.ireturn, 1) := by decide +kernel
theorem dX11_paste_50 : decode cX11_paste 50 = .ok (.aload_n 0, 1) := by decide +kernel
theorem dX11_paste_51 : decode cX11_paste 51 = .ok (.getfield 55, 3) := by decide +kernel
theorem dX11_paste_54 : decode cX11_paste 54 = .ok (.getfield 401, 3) := by decide +kernel
theorem dX11_paste_57 : decode cX11_paste 57 = .ok (.iload_n 1, 1) := by decide +kernel
theorem dX11_paste_58 : decode cX11_paste 58 = .ok (.iaload, 1) := by decide +kernel
theorem dX11_paste_59 : decode cX11_paste 59 = .ok (.aload_n 0, 1) := by decide +kernel
theorem dX11_paste_60 : decode cX11_paste 60 = .ok (.getfield 55, 3) := by decide +kernel
theorem dX11_paste_63 : decode cX11_paste 63 = .ok (.getfield 401, 3) := by decide +kernel
theorem dX11_paste_66 : decode cX11_paste 66 = .ok (.iload_n 3, 1) := by decide +kernel
theorem dX11_paste_67 : decode cX11_paste 67 = .ok (.iaload, 1) := by decide +kernel
theorem dX11_paste_68 : decode cX11_paste 68 = .ok (.if_icmp .eq 6, 3) := by decide +kernel
theorem dX11_paste_71 : decode cX11_paste 71 = .ok (.bipush (-8), 2) := by decide +kernel
theorem dX11_paste_73 : decode cX11_paste 73 = .ok (.ireturn, 1) := by decide +kernel
theorem dX11_paste_74 : decode cX11_paste 74 = .ok (.aload_n 0, 1) := by decide +kernel
theorem dX11_paste_75 : decode cX11_paste 75 = .ok (.getfield 55, 3) := by decide +kernel
theorem dX11_paste_78 : decode cX11_paste 78 = .ok (.iload_n 1, 1) := by decide +kernel
theorem dX11_paste_79 : decode cX11_paste 79 = .ok (.iload_n 2, 1) := by decide +kernel
theorem dX11_paste_80 : decode cX11_paste 80 = .ok (.iload 5, 2) := by decide +kernel
theorem dX11_paste_82 : decode cX11_paste 82 = .ok (.invokevirtual 408, 3) := by decide +kernel
theorem dX11_paste_85 : decode cX11_paste 85 = .ok (.ifCond .eq 18, 3) := by decide +kernel
theorem dX11_paste_88 : decode cX11_paste 88 = .ok (.aload_n 0, 1) := by decide +kernel
theorem dX11_paste_89 : decode cX11_paste 89 = .ok (.getfield 55, 3) := by decide +kernel
theorem dX11_paste_92 : decode cX11_paste 92 = .ok (.iload_n 3, 1) := by decide +kernel
theorem dX11_paste_93 : decode cX11_paste 93 = .ok (.iload 4, 2) := by decide +kernel
theorem dX11_paste_95 : decode cX11_paste 95 = .ok (.iload 5, 2) := by decide +kernel
theorem dX11_paste_97 : decode cX11_paste 97 = .ok (.invokevirtual 408, 3) := by decide +kernel
theorem dX11_paste_100 : decode cX11_paste 100 = .ok (.ifCond .ne 6, 3) := by decide +kernel
theorem dX11_paste_103 : decode cX11_paste 103 = .ok (.bipush (-7), 2) := by decide +kernel
theorem dX11_paste_105 : decode cX11_paste 105 = .ok (.ireturn, 1) := by decide +kernel
theorem dX11_paste_106 : decode cX11_paste 106 = .ok (.aload_n 0, 1) := by decide +kernel
theorem dX11_paste_107 : decode cX11_paste 107 = .ok (.getfield 55, 3) := by decide +kernel
theorem dX11_paste_110 : decode cX11_paste 110 = .ok (.getfield 296, 3) := by decide +kernel
theorem dX11_paste_113 : decode cX11_paste 113 = .ok (.iload_n 1, 1) := by decide +kernel
theorem dX11_paste_114 : decode cX11_paste 114 = .ok (.aaload, 1) := by decide +kernel
theorem dX11_paste_115 : decode cX11_paste 115 = .ok (.iload_n 2, 1) := by decide +kernel
theorem dX11_paste_116 : decode cX11_paste 116 = .ok (.aload_n 0, 1) := by decide +kernel
theorem dX11_paste_117 : decode cX11_paste 117 = .ok (.getfield 55, 3) := by decide +kernel
theorem dX11_paste_120 : decode cX11_paste 120 = .ok (.getfield 296, 3) := by decide +kernel
theorem dX11_paste_123 : decode cX11_paste 123 = .ok (.iload_n 3, 1) := by decide +kernel
theorem dX11_paste_124 : decode cX11_paste 124 = .ok (.aaload, 1) := by decide +kernel
theorem dX11_paste_125 : decode cX11_paste 125 = .ok (.iload 4, 2) := by decide +kernel
theorem dX11_paste_127 : decode cX11_paste 127 = .ok (.iload 5, 2) := by decide +kernel
theorem dX11_paste_129 : decode cX11_paste 129 = .ok (.invokestatic 411, 3) := by decide +kernel
theorem dX11_paste_132 : decode cX11_paste 132 = .ok (.iconst 0, 1) := by decide +kernel
theorem dX11_paste_133 : decode cX11_paste 133 = .ok (.ireturn, 1) := by decide +kernel
