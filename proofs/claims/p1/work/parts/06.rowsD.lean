theorem dX12_isSought_34 : decode cX12_isSought 34 = .ok (.getfield 238, 3) := by decide +kernel
theorem dX12_isSought_37 : decode cX12_isSought 37 = .ok (.aload_n 0, 1) := by decide +kernel
theorem dX12_isSought_38 : decode cX12_isSought 38 = .ok (.getfield 348, 3) := by decide +kernel
theorem dX12_isSought_41 : decode cX12_isSought 41 = .ok (.invokestatic 189, 3) := by decide +kernel
theorem dX12_isSought_44 : decode cX12_isSought 44 = .ok (.ireturn, 1) := by decide +kernel
theorem dX12_isSought_45 : decode cX12_isSought 45 = .ok (.aload_n 0, 1) := by decide +kernel
theorem dX12_isSought_46 : decode cX12_isSought 46 = .ok (.getfield 238, 3) := by decide +kernel
theorem dX12_isSought_49 : decode cX12_isSought 49 = .ok (.iconst 1, 1) := by decide +kernel
theorem dX12_isSought_50 : decode cX12_isSought 50 = .ok (.aload_n 0, 1) := by decide +kernel
theorem dX12_isSought_51 : decode cX12_isSought 51 = .ok (.getfield 34, 3) := by decide +kernel
theorem dX12_isSought_54 : decode cX12_isSought 54 = .ok (.iconst 2, 1) := by decide +kernel
theorem dX12_isSought_55 : decode cX12_isSought 55 = .ok (.iaload, 1) := by decide +kernel
theorem dX12_isSought_56 : decode cX12_isSought 56 = .ok (.ishl, 1) := by decide +kernel
theorem dX12_isSought_57 : decode cX12_isSought 57 = .ok (.iconst 1, 1) := by decide +kernel
theorem dX12_isSought_58 : decode cX12_isSought 58 = .ok (.isub, 1) := by decide +kernel
theorem dX12_isSought_59 : decode cX12_isSought 59 = .ok (.aload_n 0, 1) := by decide +kernel
theorem dX12_isSought_60 : decode cX12_isSought 60 = .ok (.getfield 34, 3) := by decide +kernel
theorem dX12_isSought_63 : decode cX12_isSought 63 = .ok (.iconst 5, 1) := by decide +kernel
theorem dX12_isSought_64 : decode cX12_isSought 64 = .ok (.iaload, 1) := by decide +kernel
theorem dX12_isSought_65 : decode cX12_isSought 65 = .ok (.iconst (-1), 1) := by decide +kernel
theorem dX12_isSought_66 : decode cX12_isSought 66 = .ok (.ixor, 1) := by decide +kernel
theorem dX12_isSought_67 : decode cX12_isSought 67 = .ok (.iand, 1) := by decide +kernel
theorem dX12_isSought_68 : decode cX12_isSought 68 = .ok (.if_icmp .ne 7, 3) := by decide +kernel
theorem dX12_isSought_71 : decode cX12_isSought 71 = .ok (.iconst 1, 1) := by decide +kernel
theorem dX12_isSought_72 : decode cX12_isSought 72 = .ok (.goto 4, 3) := by decide +kernel
theorem dX12_isSought_75 : decode cX12_isSought 75 = .ok (.iconst 0, 1) := by decide +kernel
theorem dX12_isSought_76 : decode cX12_isSought 76 = .ok (.ireturn, 1) := by decide +kernel
theorem dX12_costOf_0 : decode cX12_costOf 0 = .ok (.iload_n 1, 1) := by decide +kernel
theorem dX12_costOf_1 : decode cX12_costOf 1 = .ok (.sipush 200, 3) := by decide +kernel
theorem dX12_costOf_4 : decode cX12_costOf 4 = .ok (.if_icmp .ne 12, 3) := by decide +kernel
theorem dX12_costOf_7 : decode cX12_costOf 7 = .ok (.aload_n 0, 1) := by decide +kernel
theorem dX12_costOf_8 : decode cX12_costOf 8 = .ok (.getfield 34, 3) := by decide +kernel
theorem dX12_costOf_11 : decode cX12_costOf 11 = .ok (.iconst 0, 1) := by decide +kernel
theorem dX12_costOf_12 : decode cX12_costOf 12 = .ok (.iaload, 1) := by decide +kernel
theorem dX12_costOf_13 : decode cX12_costOf 13 = .ok (.goto 4, 3) := by decide +kernel
theorem dX12_costOf_16 : decode cX12_costOf 16 = .ok (.iconst 1, 1) := by decide +kernel
theorem dX12_costOf_17 : decode cX12_costOf 17 = .ok (.istore_n 2, 1) := by decide +kernel
theorem dX12_costOf_18 : decode cX12_costOf 18 = .ok (.aload_n 0, 1) := by decide +kernel
theorem dX12_costOf_19 : decode cX12_costOf 19 = .ok (.getfield 351, 3) := by decide +kernel
theorem dX12_costOf_22 : decode cX12_costOf 22 = .ok (.ifCond .ne 5, 3) := by decide +kernel
theorem dX12_costOf_25 : decode cX12_costOf 25 = .ok (.iload_n 2, 1) := by decide +kernel
theorem dX12_costOf_26 : decode cX12_costOf 26 = .ok (.ireturn, 1) := by decide +kernel
theorem dX12_costOf_27 : decode cX12_costOf 27 = .ok (.aload_n 0, 1) := by decide +kernel
theorem dX12_costOf_28 : decode cX12_costOf 28 = .ok (.getfield 351, 3) := by decide +kernel
theorem dX12_costOf_31 : decode cX12_costOf 31 = .ok (.iconst 1, 1) := by decide +kernel
theorem dX12_costOf_32 : decode cX12_costOf 32 = .ok (.if_icmp .ne 33, 3) := by decide +kernel
theorem dX12_costOf_35 : decode cX12_costOf 35 = .ok (.iload_n 2, 1) := by decide +kernel
theorem dX12_costOf_36 : decode cX12_costOf 36 = .ok (.iload_n 1, 1) := by decide +kernel
theorem dX12_costOf_37 : decode cX12_costOf 37 = .ok (.sipush 200, 3) := by decide +kernel
theorem dX12_costOf_40 : decode cX12_costOf 40 = .ok (.if_icmp .ne 7, 3) := by decide +kernel
theorem dX12_costOf_43 : decode cX12_costOf 43 = .ok (.iconst 0, 1) := by decide +kernel
theorem dX12_costOf_44 : decode cX12_costOf 44 = .ok (.goto 19, 3) := by decide +kernel
theorem dX12_costOf_47 : decode cX12_costOf 47 = .ok (.sipush 10000, 3) := by decide +kernel
theorem dX12_costOf_50 : decode cX12_costOf 50 = .ok (.aload_n 0, 1) := by decide +kernel
theorem dX12_costOf_51 : decode cX12_costOf 51 = .ok (.iload_n 1, 1) := by decide +kernel
theorem dX12_costOf_52 : decode cX12_costOf 52 = .ok (.bipush 10, 2) := by decide +kernel
theorem dX12_costOf_54 : decode cX12_costOf 54 = .ok (.irem, 1) := by decide +kernel
theorem dX12_costOf_55 : decode cX12_costOf 55 = .ok (.iload_n 1, 1) := by decide +kernel
theorem dX12_costOf_56 : decode cX12_costOf 56 = .ok (.bipush 100, 2) := by decide +kernel
theorem dX12_costOf_58 : decode cX12_costOf 58 = .ok (.idiv, 1) := by decide +kernel
theorem dX12_costOf_59 : decode cX12_costOf 59 = .ok (.invokevirtual 300, 3) := by decide +kernel
theorem dX12_costOf_62 : decode cX12_costOf 62 = .ok (.imul, 1) := by decide +kernel
theorem dX12_costOf_63 : decode cX12_costOf 63 = .ok (.iadd, 1) := by decide +kernel
theorem dX12_costOf_64 : decode cX12_costOf 64 = .ok (.ireturn, 1) := by decide +kernel
theorem dX12_costOf_65 : decode cX12_costOf 65 = .ok (.iconst 1, 1) := by decide +kernel
theorem dX12_costOf_66 : decode cX12_costOf 66 = .ok (.iload_n 1, 1) := by decide +kernel
theorem dX12_costOf_67 : decode cX12_costOf 67 = .ok (.sipush 200, 3) := by decide +kernel
theorem dX12_costOf_70 : decode cX12_costOf 70 = .ok (.if_icmp .ne 7, 3) := by decide +kernel
theorem dX12_costOf_73 : decode cX12_costOf 73 = .ok (.iconst 0, 1) := by decide +kernel
theorem dX12_costOf_74 : decode cX12_costOf 74 = .ok (.goto 6, 3) := by decide +kernel
theorem dX12_costOf_77 : decode cX12_costOf 77 = .ok (.sipush 10000, 3) := by decide +kernel
theorem dX12_costOf_80 : decode cX12_costOf 80 = .ok (.iadd, 1) := by decide +kernel
theorem dX12_costOf_81 : decode cX12_costOf 81 = .ok (.ireturn, 1) := by decide +kernel
theorem dX12_seeks_0 : decode cX12_seeks 0 = .ok (.aload_n 0, 1) := by decide +kernel
theorem dX12_seeks_1 : decode cX12_seeks 1 = .ok (.iload_n 1, 1) := by decide +kernel
theorem dX12_seeks_2 : decode cX12_seeks 2 = .ok (.putfield 345, 3) := by decide +kernel
theorem dX12_seeks_5 : decode cX12_seeks 5 = .ok (.aload_n 0, 1) := by decide +kernel
theorem dX12_seeks_6 : decode cX12_seeks 6 = .ok (.iload_n 2, 1) := by decide +kernel
theorem dX12_seeks_7 : decode cX12_seeks 7 = .ok (.putfield 348, 3) := by decide +kernel
theorem dX12_seeks_10 : decode cX12_seeks 10 = .ok (.aload_n 0, 1) := by decide +kernel
theorem dX12_seeks_11 : decode cX12_seeks 11 = .ok (.iload_n 3, 1) := by decide +kernel
theorem dX12_seeks_12 : decode cX12_seeks 12 = .ok (.putfield 351, 3) := by decide +kernel
theorem dX12_seeks_15 : decode cX12_seeks 15 = .ok (.iconst 0, 1) := by decide +kernel
theorem dX12_seeks_16 : decode cX12_seeks 16 = .ok (.istore 4, 2) := by decide +kernel
theorem dX12_seeks_18 : decode cX12_seeks 18 = .ok (.iload 4, 2) := by decide +kernel
theorem dX12_seeks_20 : decode cX12_seeks 20 = .ok (.aload_n 0, 1) := by decide +kernel
theorem dX12_seeks_21 : decode cX12_seeks 21 = .ok (.getfield 339, 3) := by decide +kernel
theorem dX12_seeks_24 : decode cX12_seeks 24 = .ok (.if_icmp .ge 46, 3) := by decide +kernel
theorem dX12_seeks_27 : decode cX12_seeks 27 = .ok (.aload_n 0, 1) := by decide +kernel
theorem dX12_seeks_28 : decode cX12_seeks 28 = .ok (.aload_n 0, 1) := by decide +kernel
theorem dX12_seeks_29 : decode cX12_seeks 29 = .ok (.getfield 60, 3) := by decide +kernel
theorem dX12_seeks_32 : decode cX12_seeks 32 = .ok (.iload 4, 2) := by decide +kernel
theorem dX12_seeks_34 : decode cX12_seeks 34 = .ok (.iaload, 1) := by decide +kernel
theorem dX12_seeks_35 : decode cX12_seeks 35 = .ok (.invokevirtual 288, 3) := by decide +kernel
theorem dX12_seeks_38 : decode cX12_seeks 38 = .ok (.aload_n 0, 1) := by decide +kernel
theorem dX12_seeks_39 : decode cX12_seeks 39 = .ok (.getfield 63, 3) := by decide +kernel
theorem dX12_seeks_42 : decode cX12_seeks 42 = .ok (.aload_n 0, 1) := by decide +kernel
theorem dX12_seeks_43 : decode cX12_seeks 43 = .ok (.getfield 60, 3) := by decide +kernel
theorem dX12_seeks_46 : decode cX12_seeks 46 = .ok (.iload 4, 2) := by decide +kernel
theorem dX12_seeks_48 : decode cX12_seeks 48 = .ok (.iaload, 1) := by decide +kernel
theorem dX12_seeks_49 : decode cX12_seeks 49 = .ok (.aload_n 0, 1) := by decide +kernel
theorem dX12_seeks_50 : decode cX12_seeks 50 = .ok (.invokevirtual 354, 3) := by decide +kernel
theorem dX12_seeks_53 : decode cX12_seeks 53 = .ok (.ifCond .eq 7, 3) := by decide +kernel
theorem dX12_seeks_56 : decode cX12_seeks 56 = .ok (.iconst 0, 1) := by decide +kernel
theorem dX12_seeks_57 : decode cX12_seeks 57 = .ok (.goto 6, 3) := by decide +kernel
theorem dX12_seeks_60 : decode cX12_seeks 60 = .ok (.ldc_w 357, 3) := by decide +kernel
theorem dX12_seeks_63 : decode cX12_seeks 63 = .ok (.iastore, 1) := by decide +kernel
theorem dX12_seeks_64 : decode cX12_seeks 64 = .ok (.iinc 4 1, 3) := by decide +kernel
theorem dX12_seeks_67 : decode cX12_seeks 67 = .ok (.goto (-49), 3) := by decide +kernel
theorem dX12_seeks_70 : decode cX12_seeks 70 = .ok (.iconst 1, 1) := by decide +kernel
theorem dX12_seeks_71 : decode cX12_seeks 71 = .ok (.istore 4, 2) := by decide +kernel
theorem dX12_seeks_73 : decode cX12_seeks 73 = .ok (.iload 4, 2) := by decide +kernel
theorem dX12_seeks_75 : decode cX12_seeks 75 = .ok (.ifCond .eq 59, 3) := by decide +kernel
theorem dX12_seeks_78 : decode cX12_seeks 78 = .ok (.iconst 0, 1) := by decide +kernel
theorem dX12_seeks_79 : decode cX12_seeks 79 = .ok (.istore 4, 2) := by decide +kernel
theorem dX12_seeks_81 : decode cX12_seeks 81 = .ok (.aload_n 0, 1) := by decide +kernel
theorem dX12_seeks_82 : decode cX12_seeks 82 = .ok (.getfield 339, 3) := by decide +kernel
theorem dX12_seeks_85 : decode cX12_seeks 85 = .ok (.iconst 1, 1) := by decide +kernel
theorem dX12_seeks_86 : decode cX12_seeks 86 = .ok (.isub, 1) := by decide +kernel
theorem dX12_seeks_87 : decode cX12_seeks 87 = .ok (.istore 5, 2) := by decide +kernel
theorem dX12_seeks_89 : decode cX12_seeks 89 = .ok (.iload 5, 2) := by decide +kernel
theorem dX12_seeks_91 : decode cX12_seeks 91 = .ok (.ifCond .lt 40, 3) := by decide +kernel
theorem dX12_seeks_94 : decode cX12_seeks 94 = .ok (.aload_n 0, 1) := by decide +kernel
theorem dX12_seeks_95 : decode cX12_seeks 95 = .ok (.getfield 63, 3) := by decide +kernel
theorem dX12_seeks_98 : decode cX12_seeks 98 = .ok (.aload_n 0, 1) := by decide +kernel
theorem dX12_seeks_99 : decode cX12_seeks 99 = .ok (.getfield 60, 3) := by decide +kernel
theorem dX12_seeks_102 : decode cX12_seeks 102 = .ok (.iload 5, 2) := by decide +kernel
theorem dX12_seeks_104 : decode cX12_seeks 104 = .ok (.iaload, 1) := by decide +kernel
theorem dX12_seeks_105 : decode cX12_seeks 105 = .ok (.iaload, 1) := by decide +kernel
theorem dX12_seeks_106 : decode cX12_seeks 106 = .ok (.ifCond .eq 19, 3) := by decide +kernel
theorem dX12_seeks_109 : decode cX12_seeks 109 = .ok (.iload 4, 2) := by decide +kernel
theorem dX12_seeks_111 : decode cX12_seeks 111 = .ok (.aload_n 0, 1) := by decide +kernel
theorem dX12_seeks_112 : decode cX12_seeks 112 = .ok (.aload_n 0, 1) := by decide +kernel
theorem dX12_seeks_113 : decode cX12_seeks 113 = .ok (.getfield 60, 3) := by decide +kernel
theorem dX12_seeks_116 : decode cX12_seeks 116 = .ok (.iload 5, 2) := by decide +kernel
theorem dX12_seeks_118 : decode cX12_seeks 118 = .ok (.iaload, 1) := by decide +kernel
theorem dX12_seeks_119 : decode cX12_seeks 119 = .ok (.invokevirtual 358, 3) := by decide +kernel
theorem dX12_seeks_122 : decode cX12_seeks 122 = .ok (.ior, 1) := by decide +kernel
theorem dX12_seeks_123 : decode cX12_seeks 123 = .ok (.istore 4, 2) := by decide +kernel
theorem dX12_seeks_125 : decode cX12_seeks 125 = .ok (.iinc 5 (-1), 3) := by decide +kernel
theorem dX12_seeks_128 : decode cX12_seeks 128 = .ok (.goto (-39), 3) := by decide +kernel
theorem dX12_seeks_131 : decode cX12_seeks 131 = .ok (.goto (-58), 3) := by decide +kernel
theorem dX12_seeks_134 : decode cX12_seeks 134 = .ok (.return_, 1) := by decide +kernel
theorem dX12_betters_0 : decode cX12_betters 0 = .ok (.iconst 0, 1) := by decide +kernel
theorem dX12_betters_1 : decode cX12_betters 1 = .ok (.istore_n 2, 1) := by decide +kernel
theorem dX12_betters_2 : decode cX12_betters 2 = .ok (.aload_n 0, 1) := by decide +kernel
theorem dX12_betters_3 : decode cX12_betters 3 = .ok (.iload_n 1, 1) := by decide +kernel
theorem dX12_betters_4 : decode cX12_betters 4 = .ok (.invokevirtual 288, 3) := by decide +kernel
theorem dX12_betters_7 : decode cX12_betters 7 = .ok (.aload_n 0, 1) := by decide +kernel
theorem dX12_betters_8 : decode cX12_betters 8 = .ok (.iconst 0, 1) := by decide +kernel
theorem dX12_betters_9 : decode cX12_betters 9 = .ok (.invokevirtual 336, 3) := by decide +kernel
theorem dX12_betters_12 : decode cX12_betters 12 = .ok (.istore_n 3, 1) := by decide +kernel
theorem dX12_betters_13 : decode cX12_betters 13 = .ok (.iload_n 3, 1) := by decide +kernel
theorem dX12_betters_14 : decode cX12_betters 14 = .ok (.iconst (-1), 1) := by decide +kernel
theorem dX12_betters_15 : decode cX12_betters 15 = .ok (.if_icmp .eq 47, 3) := by decide +kernel
theorem dX12_betters_18 : decode cX12_betters 18 = .ok (.aload_n 0, 1) := by decide +kernel
theorem dX12_betters_19 : decode cX12_betters 19 = .ok (.iload_n 3, 1) := by decide +kernel
theorem dX12_betters_20 : decode cX12_betters 20 = .ok (.invokevirtual 361, 3) := by decide +kernel
theorem dX12_betters_23 : decode cX12_betters 23 = .ok (.istore 4, 2) := by decide +kernel
theorem dX12_betters_25 : decode cX12_betters 25 = .ok (.iload 4, 2) := by decide +kernel
theorem dX12_betters_27 : decode cX12_betters 27 = .ok (.aload_n 0, 1) := by decide +kernel
theorem dX12_betters_28 : decode cX12_betters 28 = .ok (.getfield 63, 3) := by decide +kernel
theorem dX12_betters_31 : decode cX12_betters 31 = .ok (.iload_n 1, 1) := by decide +kernel
theorem dX12_betters_32 : decode cX12_betters 32 = .ok (.iaload, 1) := by decide +kernel
theorem dX12_betters_33 : decode cX12_betters 33 = .ok (.if_icmp .ge 13, 3) := by decide +kernel
theorem dX12_betters_36 : decode cX12_betters 36 = .ok (.aload_n 0, 1) := by decide +kernel
theorem dX12_betters_37 : decode cX12_betters 37 = .ok (.getfield 63, 3) := by decide +kernel
theorem dX12_betters_40 : decode cX12_betters 40 = .ok (.iload_n 1, 1) := by decide +kernel
theorem dX12_betters_41 : decode cX12_betters 41 = .ok (.iload 4, 2) := by decide +kernel
theorem dX12_betters_43 : decode cX12_betters 43 = .ok (.iastore, 1) := by decide +kernel
theorem dX12_betters_44 : decode cX12_betters 44 = .ok (.iconst 1, 1) := by decide +kernel
theorem dX12_betters_45 : decode cX12_betters 45 = .ok (.istore_n 2, 1) := by decide +kernel
theorem dX12_betters_46 : decode cX12_betters 46 = .ok (.aload_n 0, 1) := by decide +kernel
theorem dX12_betters_47 : decode cX12_betters 47 = .ok (.iload_n 1, 1) := by decide +kernel
theorem dX12_betters_48 : decode cX12_betters 48 = .ok (.invokevirtual 288, 3) := by decide +kernel
theorem dX12_betters_51 : decode cX12_betters 51 = .ok (.aload_n 0, 1) := by decide +kernel
theorem dX12_betters_52 : decode cX12_betters 52 = .ok (.iload_n 3, 1) := by decide +kernel
theorem dX12_betters_53 : decode cX12_betters 53 = .ok (.iconst 1, 1) := by decide +kernel
theorem dX12_betters_54 : decode cX12_betters 54 = .ok (.iadd, 1) := by decide +kernel
theorem dX12_betters_55 : decode cX12_betters 55 = .ok (.invokevirtual 336, 3) := by decide +kernel
theorem dX12_betters_58 : decode cX12_betters 58 = .ok (.istore_n 3, 1) := by decide +kernel
theorem dX12_betters_59 : decode cX12_betters 59 = .ok (.goto (-46), 3) := by decide +kernel
theorem dX12_betters_62 : decode cX12_betters 62 = .ok (.iload_n 2, 1) := by decide +kernel
theorem dX12_betters_63 : decode cX12_betters 63 = .ok (.ireturn, 1) := by decide +kernel
theorem dX12_costBy_0 : decode cX12_costBy 0 = .ok (.aload_n 0, 1) := by decide +kernel
theorem dX12_costBy_1 : decode cX12_costBy 1 = .ok (.iload_n 1, 1) := by decide +kernel
theorem dX12_costBy_2 : decode cX12_costBy 2 = .ok (.invokevirtual 303, 3) := by decide +kernel
theorem dX12_costBy_5 : decode cX12_costBy 5 = .ok (.aload_n 0, 1) := by decide +kernel
theorem dX12_costBy_6 : decode cX12_costBy 6 = .ok (.getfield 63, 3) := by decide +kernel
theorem dX12_costBy_9 : decode cX12_costBy 9 = .ok (.aload_n 0, 1) := by decide +kernel
theorem dX12_costBy_10 : decode cX12_costBy 10 = .ok (.invokevirtual 342, 3) := by decide +kernel
theorem dX12_costBy_13 : decode cX12_costBy 13 = .ok (.iaload, 1) := by decide +kernel
theorem dX12_costBy_14 : decode cX12_costBy 14 = .ok (.istore_n 2, 1) := by decide +kernel
theorem dX12_costBy_15 : decode cX12_costBy 15 = .ok (.iload_n 2, 1) := by decide +kernel
theorem dX12_costBy_16 : decode cX12_costBy 16 = .ok (.ldc_w 357, 3) := by decide +kernel
theorem dX12_costBy_19 : decode cX12_costBy 19 = .ok (.if_icmp .ne 9, 3) := by decide +kernel
theorem dX12_costBy_22 : decode cX12_costBy 22 = .ok (.ldc_w 357, 3) := by decide +kernel
theorem dX12_costBy_25 : decode cX12_costBy 25 = .ok (.goto 10, 3) := by decide +kernel
theorem dX12_costBy_28 : decode cX12_costBy 28 = .ok (.iload_n 2, 1) := by decide +kernel
theorem dX12_costBy_29 : decode cX12_costBy 29 = .ok (.aload_n 0, 1) := by decide +kernel
theorem dX12_costBy_30 : decode cX12_costBy 30 = .ok (.iload_n 1, 1) := by decide +kernel
theorem dX12_costBy_31 : decode cX12_costBy 31 = .ok (.invokevirtual 364, 3) := by decide +kernel
theorem dX12_costBy_34 : decode cX12_costBy 34 = .ok (.iadd, 1) := by decide +kernel
theorem dX12_costBy_35 : decode cX12_costBy 35 = .ok (.ireturn, 1) := by decide +kernel
theorem dX12_seeksNow_0 : decode cX12_seeksNow 0 = .ok (.aload_n 0, 1) := by decide +kernel
theorem dX12_seeksNow_1 : decode cX12_seeksNow 1 = .ok (.invokevirtual 317, 3) := by decide +kernel
theorem dX12_seeksNow_4 : decode cX12_seeksNow 4 = .ok (.aload_n 0, 1) := by decide +kernel
theorem dX12_seeksNow_5 : decode cX12_seeksNow 5 = .ok (.invokevirtual 342, 3) := by decide +kernel
theorem dX12_seeksNow_8 : decode cX12_seeksNow 8 = .ok (.istore 4, 2) := by decide +kernel
theorem dX12_seeksNow_10 : decode cX12_seeksNow 10 = .ok (.aload_n 0, 1) := by decide +kernel
theorem dX12_seeksNow_11 : decode cX12_seeksNow 11 = .ok (.iload 4, 2) := by decide +kernel
theorem dX12_seeksNow_13 : decode cX12_seeksNow 13 = .ok (.invokevirtual 367, 3) := by decide +kernel
theorem dX12_seeksNow_16 : decode cX12_seeksNow 16 = .ok (.aload_n 0, 1) := by decide +kernel
theorem dX12_seeksNow_17 : decode cX12_seeksNow 17 = .ok (.iload_n 1, 1) := by decide +kernel
theorem dX12_seeksNow_18 : decode cX12_seeksNow 18 = .ok (.iload_n 2, 1) := by decide +kernel
theorem dX12_seeksNow_19 : decode cX12_seeksNow 19 = .ok (.iload_n 3, 1) := by decide +kernel
theorem dX12_seeksNow_20 : decode cX12_seeksNow 20 = .ok (.invokevirtual 370, 3) := by decide +kernel
theorem dX12_seeksNow_23 : decode cX12_seeksNow 23 = .ok (.aload_n 0, 1) := by decide +kernel
theorem dX12_seeksNow_24 : decode cX12_seeksNow 24 = .ok (.iload 4, 2) := by decide +kernel
theorem dX12_seeksNow_26 : decode cX12_seeksNow 26 = .ok (.invokevirtual 288, 3) := by decide +kernel
theorem dX12_seeksNow_29 : decode cX12_seeksNow 29 = .ok (.aload_n 0, 1) := by decide +kernel
theorem dX12_seeksNow_30 : decode cX12_seeksNow 30 = .ok (.getfield 63, 3) := by decide +kernel
theorem dX12_seeksNow_33 : decode cX12_seeksNow 33 = .ok (.iload 4, 2) := by decide +kernel
theorem dX12_seeksNow_35 : decode cX12_seeksNow 35 = .ok (.iaload, 1) := by decide +kernel
theorem dX12_seeksNow_36 : decode cX12_seeksNow 36 = .ok (.ireturn, 1) := by decide +kernel
theorem dX12_laysRow_0 : decode cX12_laysRow 0 = .ok (.aload_n 0, 1) := by decide +kernel
theorem dX12_laysRow_1 : decode cX12_laysRow 1 = .ok (.invokevirtual 342, 3) := by decide +kernel
theorem dX12_laysRow_4 : decode cX12_laysRow 4 = .ok (.istore_n 1, 1) := by decide +kernel
theorem dX12_laysRow_5 : decode cX12_laysRow 5 = .ok (.aload_n 0, 1) := by decide +kernel
theorem dX12_laysRow_6 : decode cX12_laysRow 6 = .ok (.iconst 0, 1) := by decide +kernel
theorem dX12_laysRow_7 : decode cX12_laysRow 7 = .ok (.putfield 373, 3) := by decide +kernel
theorem dX12_laysRow_10 : decode cX12_laysRow 10 = .ok (.aload_n 0, 1) := by decide +kernel
theorem dX12_laysRow_11 : decode cX12_laysRow 11 = .ok (.getfield 63, 3) := by decide +kernel
theorem dX12_laysRow_14 : decode cX12_laysRow 14 = .ok (.iload_n 1, 1) := by decide +kernel
theorem dX12_laysRow_15 : decode cX12_laysRow 15 = .ok (.iaload, 1) := by decide +kernel
theorem dX12_laysRow_16 : decode cX12_laysRow 16 = .ok (.ifCond .eq 72, 3) := by decide +kernel
theorem dX12_laysRow_19 : decode cX12_laysRow 19 = .ok (.aload_n 0, 1) := by decide +kernel
theorem dX12_laysRow_20 : decode cX12_laysRow 20 = .ok (.iload_n 1, 1) := by decide +kernel
theorem dX12_laysRow_21 : decode cX12_laysRow 21 = .ok (.invokevirtual 288, 3) := by decide +kernel
theorem dX12_laysRow_24 : decode cX12_laysRow 24 = .ok (.aload_n 0, 1) := by decide +kernel
theorem dX12_laysRow_25 : decode cX12_laysRow 25 = .ok (.iconst 0, 1) := by decide +kernel
theorem dX12_laysRow_26 : decode cX12_laysRow 26 = .ok (.invokevirtual 336, 3) := by decide +kernel
theorem dX12_laysRow_29 : decode cX12_laysRow 29 = .ok (.istore_n 2, 1) := by decide +kernel
theorem dX12_laysRow_30 : decode cX12_laysRow 30 = .ok (.aload_n 0, 1) := by decide +kernel
theorem dX12_laysRow_31 : decode cX12_laysRow 31 = .ok (.iload_n 2, 1) := by decide +kernel
theorem dX12_laysRow_32 : decode cX12_laysRow 32 = .ok (.invokevirtual 361, 3) := by decide +kernel
theorem dX12_laysRow_35 : decode cX12_laysRow 35 = .ok (.aload_n 0, 1) := by decide +kernel
theorem dX12_laysRow_36 : decode cX12_laysRow 36 = .ok (.getfield 63, 3) := by decide +kernel
theorem dX12_laysRow_39 : decode cX12_laysRow 39 = .ok (.iload_n 1, 1) := by decide +kernel
theorem dX12_laysRow_40 : decode cX12_laysRow 40 = .ok (.iaload, 1) := by decide +kernel
theorem dX12_laysRow_41 : decode cX12_laysRow 41 = .ok (.if_icmp .eq 19, 3) := by decide +kernel
theorem dX12_laysRow_44 : decode cX12_laysRow 44 = .ok (.aload_n 0, 1) := by decide +kernel
theorem dX12_laysRow_45 : decode cX12_laysRow 45 = .ok (.iload_n 1, 1) := by decide +kernel
theorem dX12_laysRow_46 : decode cX12_laysRow 46 = .ok (.invokevirtual 288, 3) := by decide +kernel
theorem dX12_laysRow_49 : decode cX12_laysRow 49 = .ok (.aload_n 0, 1) := by decide +kernel
theorem dX12_laysRow_50 : decode cX12_laysRow 50 = .ok (.iload_n 2, 1) := by decide +kernel
theorem dX12_laysRow_51 : decode cX12_laysRow 51 = .ok (.iconst 1, 1) := by decide +kernel
theorem dX12_laysRow_52 : decode cX12_laysRow 52 = .ok (.iadd, 1) := by decide +kernel
theorem dX12_laysRow_53 : decode cX12_laysRow 53 = .ok (.invokevirtual 336, 3) := by decide +kernel
theorem dX12_laysRow_56 : decode cX12_laysRow 56 = .ok (.istore_n 2, 1) := by decide +kernel
theorem dX12_laysRow_57 : decode cX12_laysRow 57 = .ok (.goto (-27), 3) := by decide +kernel
theorem dX12_laysRow_60 : decode cX12_laysRow 60 = .ok (.aload_n 0, 1) := by decide +kernel
theorem dX12_laysRow_61 : decode cX12_laysRow 61 = .ok (.getfield 66, 3) := by decide +kernel
theorem dX12_laysRow_64 : decode cX12_laysRow 64 = .ok (.aload_n 0, 1) := by decide +kernel
theorem dX12_laysRow_65 : decode cX12_laysRow 65 = .ok (.getfield 373, 3) := by decide +kernel
theorem dX12_laysRow_68 : decode cX12_laysRow 68 = .ok (.iload_n 2, 1) := by decide +kernel
theorem dX12_laysRow_69 : decode cX12_laysRow 69 = .ok (.iastore, 1) := by decide +kernel
theorem dX12_laysRow_70 : decode cX12_laysRow 70 = .ok (.aload_n 0, 1) := by decide +kernel
theorem dX12_laysRow_71 : decode cX12_laysRow 71 = .ok (.dup, 1) := by decide +kernel
theorem dX12_laysRow_72 : decode cX12_laysRow 72 = .ok (.getfield 373, 3) := by decide +kernel
theorem dX12_laysRow_75 : decode cX12_laysRow 75 = .ok (.iconst 1, 1) := by decide +kernel
theorem dX12_laysRow_76 : decode cX12_laysRow 76 = .ok (.iadd, 1) := by decide +kernel
theorem dX12_laysRow_77 : decode cX12_laysRow 77 = .ok (.putfield 373, 3) := by decide +kernel
theorem dX12_laysRow_80 : decode cX12_laysRow 80 = .ok (.aload_n 0, 1) := by decide +kernel
theorem dX12_laysRow_81 : decode cX12_laysRow 81 = .ok (.invokevirtual 342, 3) := by decide +kernel
theorem dX12_laysRow_84 : decode cX12_laysRow 84 = .ok (.istore_n 1, 1) := by decide +kernel
theorem dX12_laysRow_85 : decode cX12_laysRow 85 = .ok (.goto (-75), 3) := by decide +kernel
theorem dX12_laysRow_88 : decode cX12_laysRow 88 = .ok (.return_, 1) := by decide +kernel
theorem dX12_days_0 : decode cX12_days 0 = .ok (.aload_n 0, 1) := by decide +kernel
theorem dX12_days_1 : decode cX12_days 1 = .ok (.iconst 0, 1) := by decide +kernel
theorem dX12_days_2 : decode cX12_days 2 = .ok (.putfield 88, 3) := by decide +kernel
theorem dX12_days_5 : decode cX12_days 5 = .ok (.aload_n 0, 1) := by decide +kernel
theorem dX12_days_6 : decode cX12_days 6 = .ok (.invokevirtual 323, 3) := by decide +kernel
theorem dX12_days_9 : decode cX12_days 9 = .ok (.ifCond .ne 6, 3) := by decide +kernel
theorem dX12_days_12 : decode cX12_days 12 = .ok (.bipush (-2), 2) := by decide +kernel
theorem dX12_days_14 : decode cX12_days 14 = .ok (.ireturn, 1) := by decide +kernel
theorem dX12_days_15 : decode cX12_days 15 = .ok (.aload_n 0, 1) := by decide +kernel
theorem dX12_days_16 : decode cX12_days 16 = .ok (.iconst 0, 1) := by decide +kernel
theorem dX12_days_17 : decode cX12_days 17 = .ok (.iconst 0, 1) := by decide +kernel
theorem dX12_days_18 : decode cX12_days 18 = .ok (.iconst 0, 1) := by decide +kernel
theorem dX12_days_19 : decode cX12_days 19 = .ok (.invokevirtual 376, 3) := by decide +kernel
theorem dX12_days_22 : decode cX12_days 22 = .ok (.istore_n 1, 1) := by decide +kernel
theorem dX12_days_23 : decode cX12_days 23 = .ok (.iload_n 1, 1) := by decide +kernel
theorem dX12_days_24 : decode cX12_days 24 = .ok (.ldc_w 357, 3) := by decide +kernel
theorem dX12_days_27 : decode cX12_days 27 = .ok (.if_icmp .ne 7, 3) := by decide +kernel
theorem dX12_days_30 : decode cX12_days 30 = .ok (.iconst (-1), 1) := by decide +kernel
theorem dX12_days_31 : decode cX12_days 31 = .ok (.goto 4, 3) := by decide +kernel
theorem dX12_days_34 : decode cX12_days 34 = .ok (.iload_n 1, 1) := by decide +kernel
theorem dX12_days_35 : decode cX12_days 35 = .ok (.ireturn, 1) := by decide +kernel
theorem dX12_isRow_0 : decode cX12_isRow 0 = .ok (.aload_n 0, 1) := by decide +kernel
theorem dX12_isRow_1 : decode cX12_isRow 1 = .ok (.iconst 0, 1) := by decide +kernel
theorem dX12_isRow_2 : decode cX12_isRow 2 = .ok (.iconst 0, 1) := by decide +kernel
theorem dX12_isRow_3 : decode cX12_isRow 3 = .ok (.iload_n 1, 1) := by decide +kernel
theorem dX12_isRow_4 : decode cX12_isRow 4 = .ok (.invokevirtual 376, 3) := by decide +kernel
theorem dX12_isRow_7 : decode cX12_isRow 7 = .ok (.ldc_w 357, 3) := by decide +kernel
theorem dX12_isRow_10 : decode cX12_isRow 10 = .ok (.if_icmp .ne 5, 3) := by decide +kernel
theorem dX12_isRow_13 : decode cX12_isRow 13 = .ok (.iconst 0, 1) := by decide +kernel
theorem dX12_isRow_14 : decode cX12_isRow 14 = .ok (.ireturn, 1) := by decide +kernel
theorem dX12_isRow_15 : decode cX12_isRow 15 = .ok (.aload_n 0, 1) := by decide +kernel
theorem dX12_isRow_16 : decode cX12_isRow 16 = .ok (.invokevirtual 379, 3) := by decide +kernel
theorem dX12_isRow_19 : decode cX12_isRow 19 = .ok (.iconst 1, 1) := by decide +kernel
theorem dX12_isRow_20 : decode cX12_isRow 20 = .ok (.ireturn, 1) := by decide +kernel
theorem dX12_plan_0 : decode cX12_plan 0 = .ok (.aload_n 0, 1) := by decide +kernel
theorem dX12_plan_1 : decode cX12_plan 1 = .ok (.iconst 0, 1) := by decide +kernel
theorem dX12_plan_2 : decode cX12_plan 2 = .ok (.putfield 88, 3) := by decide +kernel
theorem dX12_plan_5 : decode cX12_plan 5 = .ok (.aload_n 0, 1) := by decide +kernel
theorem dX12_plan_6 : decode cX12_plan 6 = .ok (.invokevirtual 323, 3) := by decide +kernel
theorem dX12_plan_9 : decode cX12_plan 9 = .ok (.ifCond .ne 6, 3) := by decide +kernel
theorem dX12_plan_12 : decode cX12_plan 12 = .ok (.bipush (-2), 2) := by decide +kernel
theorem dX12_plan_14 : decode cX12_plan 14 = .ok (.ireturn, 1) := by decide +kernel
theorem dX12_plan_15 : decode cX12_plan 15 = .ok (.aload_n 0, 1) := by decide +kernel
theorem dX12_plan_16 : decode cX12_plan 16 = .ok (.iconst 0, 1) := by decide +kernel
theorem dX12_plan_17 : decode cX12_plan 17 = .ok (.invokevirtual 382, 3) := by decide +kernel
theorem dX12_plan_20 : decode cX12_plan 20 = .ok (.ifCond .eq 28, 3) := by decide +kernel
theorem dX12_plan_23 : decode cX12_plan 23 = .ok (.iload_n 1, 1) := by decide +kernel
theorem dX12_plan_24 : decode cX12_plan 24 = .ok (.i2l, 1) := by decide +kernel
theorem dX12_plan_25 : decode cX12_plan 25 = .ok (.lconst 0, 1) := by decide +kernel
theorem dX12_plan_26 : decode cX12_plan 26 = .ok (.aload_n 0, 1) := by decide +kernel
theorem dX12_plan_27 : decode cX12_plan 27 = .ok (.getfield 373, 3) := by decide +kernel
theorem dX12_plan_30 : decode cX12_plan 30 = .ok (.iconst 1, 1) := by decide +kernel
theorem dX12_plan_31 : decode cX12_plan 31 = .ok (.isub, 1) := by decide +kernel
theorem dX12_plan_32 : decode cX12_plan 32 = .ok (.i2l, 1) := by decide +kernel
theorem dX12_plan_33 : decode cX12_plan 33 = .ok (.invokestatic 93, 3) := by decide +kernel
theorem dX12_plan_36 : decode cX12_plan 36 = .ok (.ifCond .eq 12, 3) := by decide +kernel
theorem dX12_plan_39 : decode cX12_plan 39 = .ok (.aload_n 0, 1) := by decide +kernel
theorem dX12_plan_40 : decode cX12_plan 40 = .ok (.getfield 66, 3) := by decide +kernel
theorem dX12_plan_43 : decode cX12_plan 43 = .ok (.iload_n 1, 1) := by decide +kernel
theorem dX12_plan_44 : decode cX12_plan 44 = .ok (.iaload, 1) := by decide +kernel
theorem dX12_plan_45 : decode cX12_plan 45 = .ok (.goto 4, 3) := by decide +kernel
theorem dX12_plan_48 : decode cX12_plan 48 = .ok (.iconst (-1), 1) := by decide +kernel
theorem dX12_plan_49 : decode cX12_plan 49 = .ok (.ireturn, 1) := by decide +kernel
theorem dX12_surest_0 : decode cX12_surest 0 = .ok (.aload_n 0, 1) := by decide +kernel
theorem dX12_surest_1 : decode cX12_surest 1 = .ok (.iconst 0, 1) := by decide +kernel
theorem dX12_surest_2 : decode cX12_surest 2 = .ok (.putfield 88, 3) := by decide +kernel
theorem dX12_surest_5 : decode cX12_surest 5 = .ok (.aload_n 0, 1) := by decide +kernel
theorem dX12_surest_6 : decode cX12_surest 6 = .ok (.invokevirtual 323, 3) := by decide +kernel
theorem dX12_surest_9 : decode cX12_surest 9 = .ok (.ifCond .ne 6, 3) := by decide +kernel
theorem dX12_surest_12 : decode cX12_surest 12 = .ok (.bipush (-2), 2) := by decide +kernel
theorem dX12_surest_14 : decode cX12_surest 14 = .ok (.ireturn, 1) := by decide +kernel
theorem dX12_surest_15 : decode cX12_surest 15 = .ok (.aload_n 0, 1) := by decide +kernel
theorem dX12_surest_16 : decode cX12_surest 16 = .ok (.iconst 0, 1) := by decide +kernel
theorem dX12_surest_17 : decode cX12_surest 17 = .ok (.iconst 0, 1) := by decide +kernel
theorem dX12_surest_18 : decode cX12_surest 18 = .ok (.iconst 1, 1) := by decide +kernel
theorem dX12_surest_19 : decode cX12_surest 19 = .ok (.invokevirtual 376, 3) := by decide +kernel
theorem dX12_surest_22 : decode cX12_surest 22 = .ok (.istore_n 1, 1) := by decide +kernel
theorem dX12_surest_23 : decode cX12_surest 23 = .ok (.iload_n 1, 1) := by decide +kernel
theorem dX12_surest_24 : decode cX12_surest 24 = .ok (.ldc_w 357, 3) := by decide +kernel
theorem dX12_surest_27 : decode cX12_surest 27 = .ok (.if_icmp .ne 7, 3) := by decide +kernel
theorem dX12_surest_30 : decode cX12_surest 30 = .ok (.iconst (-1), 1) := by decide +kernel
theorem dX12_surest_31 : decode cX12_surest 31 = .ok (.goto 8, 3) := by decide +kernel
theorem dX12_surest_34 : decode cX12_surest 34 = .ok (.iload_n 1, 1) := by decide +kernel
theorem dX12_surest_35 : decode cX12_surest 35 = .ok (.sipush 10000, 3) := by decide +kernel
theorem dX12_surest_38 : decode cX12_surest 38 = .ok (.idiv, 1) := by decide +kernel
theorem dX12_surest_39 : decode cX12_surest 39 = .ok (.ireturn, 1) := by decide +kernel
theorem dX12_surely_0 : decode cX12_surely 0 = .ok (.aload_n 0, 1) := by decide +kernel
theorem dX12_surely_1 : decode cX12_surely 1 = .ok (.iconst 0, 1) := by decide +kernel
theorem dX12_surely_2 : decode cX12_surely 2 = .ok (.putfield 88, 3) := by decide +kernel
theorem dX12_surely_5 : decode cX12_surely 5 = .ok (.aload_n 0, 1) := by decide +kernel
theorem dX12_surely_6 : decode cX12_surely 6 = .ok (.invokevirtual 323, 3) := by decide +kernel
theorem dX12_surely_9 : decode cX12_surely 9 = .ok (.ifCond .ne 6, 3) := by decide +kernel
theorem dX12_surely_12 : decode cX12_surely 12 = .ok (.bipush (-2), 2) := by decide +kernel
theorem dX12_surely_14 : decode cX12_surely 14 = .ok (.ireturn, 1) := by decide +kernel
theorem dX12_surely_15 : decode cX12_surely 15 = .ok (.aload_n 0, 1) := by decide +kernel
theorem dX12_surely_16 : decode cX12_surely 16 = .ok (.iconst 1, 1) := by decide +kernel
theorem dX12_surely_17 : decode cX12_surely 17 = .ok (.invokevirtual 382, 3) := by decide +kernel
theorem dX12_surely_20 : decode cX12_surely 20 = .ok (.ifCond .eq 28, 3) := by decide +kernel
theorem dX12_surely_23 : decode cX12_surely 23 = .ok (.iload_n 1, 1) := by decide +kernel
theorem dX12_surely_24 : decode cX12_surely 24 = .ok (.i2l, 1) := by decide +kernel
theorem dX12_surely_25 : decode cX12_surely 25 = .ok (.lconst 0, 1) := by decide +kernel
theorem dX12_surely_26 : decode cX12_surely 26 = .ok (.aload_n 0, 1) := by decide +kernel
theorem dX12_surely_27 : decode cX12_surely 27 = .ok (.getfield 373, 3) := by decide +kernel
theorem dX12_surely_30 : decode cX12_surely 30 = .ok (.iconst 1, 1) := by decide +kernel
theorem dX12_surely_31 : decode cX12_surely 31 = .ok (.isub, 1) := by decide +kernel
theorem dX12_surely_32 : decode cX12_surely 32 = .ok (.i2l, 1) := by decide +kernel
theorem dX12_surely_33 : decode cX12_surely 33 = .ok (.invokestatic 93, 3) := by decide +kernel
theorem dX12_surely_36 : decode cX12_surely 36 = .ok (.ifCond .eq 12, 3) := by decide +kernel
theorem dX12_surely_39 : decode cX12_surely 39 = .ok (.aload_n 0, 1) := by decide +kernel
theorem dX12_surely_40 : decode cX12_surely 40 = .ok (.getfield 66, 3) := by decide +kernel
theorem dX12_surely_43 : decode cX12_surely 43 = .ok (.iload_n 1, 1) := by decide +kernel
theorem dX12_surely_44 : decode cX12_surely 44 = .ok (.iaload, 1) := by decide +kernel
theorem dX12_surely_45 : decode cX12_surely 45 = .ok (.goto 4, 3) := by decide +kernel
theorem dX12_surely_48 : decode cX12_surely 48 = .ok (.iconst (-1), 1) := by decide +kernel
theorem dX12_surely_49 : decode cX12_surely 49 = .ok (.ireturn, 1) := by decide +kernel
theorem dX12_slowly_0 : decode cX12_slowly 0 = .ok (.aload_n 0, 1) := by decide +kernel
theorem dX12_slowly_1 : decode cX12_slowly 1 = .ok (.iconst 0, 1) := by decide +kernel
theorem dX12_slowly_2 : decode cX12_slowly 2 = .ok (.putfield 88, 3) := by decide +kernel
theorem dX12_slowly_5 : decode cX12_slowly 5 = .ok (.aload_n 0, 1) := by decide +kernel
theorem dX12_slowly_6 : decode cX12_slowly 6 = .ok (.invokevirtual 323, 3) := by decide +kernel
theorem dX12_slowly_9 : decode cX12_slowly 9 = .ok (.ifCond .ne 6, 3) := by decide +kernel
theorem dX12_slowly_12 : decode cX12_slowly 12 = .ok (.bipush (-2), 2) := by decide +kernel
theorem dX12_slowly_14 : decode cX12_slowly 14 = .ok (.ireturn, 1) := by decide +kernel
theorem dX12_slowly_15 : decode cX12_slowly 15 = .ok (.aload_n 0, 1) := by decide +kernel
theorem dX12_slowly_16 : decode cX12_slowly 16 = .ok (.iconst 0, 1) := by decide +kernel
theorem dX12_slowly_17 : decode cX12_slowly 17 = .ok (.iconst 0, 1) := by decide +kernel
theorem dX12_slowly_18 : decode cX12_slowly 18 = .ok (.iconst 1, 1) := by decide +kernel
theorem dX12_slowly_19 : decode cX12_slowly 19 = .ok (.invokevirtual 376, 3) := by decide +kernel
theorem dX12_slowly_22 : decode cX12_slowly 22 = .ok (.istore_n 1, 1) := by decide +kernel
theorem dX12_slowly_23 : decode cX12_slowly 23 = .ok (.iload_n 1, 1) := by decide +kernel
theorem dX12_slowly_24 : decode cX12_slowly 24 = .ok (.ldc_w 357, 3) := by decide +kernel
theorem dX12_slowly_27 : decode cX12_slowly 27 = .ok (.if_icmp .ne 7, 3) := by decide +kernel
theorem dX12_slowly_30 : decode cX12_slowly 30 = .ok (.iconst (-1), 1) := by decide +kernel
theorem dX12_slowly_31 : decode cX12_slowly 31 = .ok (.goto 8, 3) := by decide +kernel
theorem dX12_slowly_34 : decode cX12_slowly 34 = .ok (.iload_n 1, 1) := by decide +kernel
theorem dX12_slowly_35 : decode cX12_slowly 35 = .ok (.sipush 10000, 3) := by decide +kernel
theorem dX12_slowly_38 : decode cX12_slowly 38 = .ok (.irem, 1) := by decide +kernel
theorem dX12_slowly_39 : decode cX12_slowly 39 = .ok (.ireturn, 1) := by decide +kernel
theorem dX12_crossings_0 : decode cX12_crossings 0 = .ok (.aload_n 0, 1) := by decide +kernel
theorem dX12_crossings_1 : decode cX12_crossings 1 = .ok (.iconst 0, 1) := by decide +kernel
theorem dX12_crossings_2 : decode cX12_crossings 2 = .ok (.putfield 88, 3) := by decide +kernel
theorem dX12_crossings_5 : decode cX12_crossings 5 = .ok (.aload_n 0, 1) := by decide +kernel
theorem dX12_crossings_6 : decode cX12_crossings 6 = .ok (.invokevirtual 323, 3) := by decide +kernel
theorem dX12_crossings_9 : decode cX12_crossings 9 = .ok (.ifCond .ne 6, 3) := by decide +kernel
theorem dX12_crossings_12 : decode cX12_crossings 12 = .ok (.bipush (-2), 2) := by decide +kernel
theorem dX12_crossings_14 : decode cX12_crossings 14 = .ok (.ireturn, 1) := by decide +kernel
theorem dX12_crossings_15 : decode cX12_crossings 15 = .ok (.aload_n 0, 1) := by decide +kernel
theorem dX12_crossings_16 : decode cX12_crossings 16 = .ok (.iconst 0, 1) := by decide +kernel
theorem dX12_crossings_17 : decode cX12_crossings 17 = .ok (.iconst 0, 1) := by decide +kernel
theorem dX12_crossings_18 : decode cX12_crossings 18 = .ok (.iconst 2, 1) := by decide +kernel
theorem dX12_crossings_19 : decode cX12_crossings 19 = .ok (.invokevirtual 376, 3) := by decide +kernel
theorem dX12_crossings_22 : decode cX12_crossings 22 = .ok (.istore_n 1, 1) := by decide +kernel
theorem dX12_crossings_23 : decode cX12_crossings 23 = .ok (.iload_n 1, 1) := by decide +kernel
theorem dX12_crossings_24 : decode cX12_crossings 24 = .ok (.ldc_w 357, 3) := by decide +kernel
theorem dX12_crossings_27 : decode cX12_crossings 27 = .ok (.if_icmp .ne 7, 3) := by decide +kernel
theorem dX12_crossings_30 : decode cX12_crossings 30 = .ok (.iconst (-1), 1) := by decide +kernel
theorem dX12_crossings_31 : decode cX12_crossings 31 = .ok (.goto 8, 3) := by decide +kernel
theorem dX12_crossings_34 : decode cX12_crossings 34 = .ok (.iload_n 1, 1) := by decide +kernel
theorem dX12_crossings_35 : decode cX12_crossings 35 = .ok (.sipush 10000, 3) := by decide +kernel
theorem dX12_crossings_38 : decode cX12_crossings 38 = .ok (.idiv, 1) := by decide +kernel
theorem dX12_crossings_39 : decode cX12_crossings 39 = .ok (.ireturn, 1) := by decide +kernel
theorem dX12_moves_0 : decode cX12_moves 0 = .ok (.aload_n 0, 1) := by decide +kernel
theorem dX12_moves_1 : decode cX12_moves 1 = .ok (.iconst 0, 1) := by decide +kernel
theorem dX12_moves_2 : decode cX12_moves 2 = .ok (.putfield 88, 3) := by decide +kernel
theorem dX12_moves_5 : decode cX12_moves 5 = .ok (.aload_n 0, 1) := by decide +kernel
theorem dX12_moves_6 : decode cX12_moves 6 = .ok (.invokevirtual 323, 3) := by decide +kernel
theorem dX12_moves_9 : decode cX12_moves 9 = .ok (.ifCond .ne 6, 3) := by decide +kernel
theorem dX12_moves_12 : decode cX12_moves 12 = .ok (.bipush (-2), 2) := by decide +kernel
theorem dX12_moves_14 : decode cX12_moves 14 = .ok (.ireturn, 1) := by decide +kernel
theorem dX12_moves_15 : decode cX12_moves 15 = .ok (.aload_n 0, 1) := by decide +kernel
theorem dX12_moves_16 : decode cX12_moves 16 = .ok (.iconst 0, 1) := by decide +kernel
theorem dX12_moves_17 : decode cX12_moves 17 = .ok (.iconst 0, 1) := by decide +kernel
theorem dX12_moves_18 : decode cX12_moves 18 = .ok (.iconst 2, 1) := by decide +kernel
theorem dX12_moves_19 : decode cX12_moves 19 = .ok (.invokevirtual 376, 3) := by decide +kernel
theorem dX12_moves_22 : decode cX12_moves 22 = .ok (.istore_n 1, 1) := by decide +kernel
theorem dX12_moves_23 : decode cX12_moves 23 = .ok (.iload_n 1, 1) := by decide +kernel
theorem dX12_moves_24 : decode cX12_moves 24 = .ok (.ldc_w 357, 3) := by decide +kernel
theorem dX12_moves_27 : decode cX12_moves 27 = .ok (.if_icmp .ne 7, 3) := by decide +kernel
theorem dX12_moves_30 : decode cX12_moves 30 = .ok (.iconst (-1), 1) := by decide +kernel
theorem dX12_moves_31 : decode cX12_moves 31 = .ok (.goto 8, 3) := by decide +kernel
theorem dX12_moves_34 : decode cX12_moves 34 = .ok (.iload_n 1, 1) := by decide +kernel
theorem dX12_moves_35 : decode cX12_moves 35 = .ok (.sipush 10000, 3) := by decide +kernel
theorem dX12_moves_38 : decode cX12_moves 38 = .ok (.irem, 1) := by decide +kernel
theorem dX12_moves_39 : decode cX12_moves 39 = .ok (.ireturn, 1) := by decide +kernel
theorem dX12_common_0 : decode cX12_common 0 = .ok (.lload_n 2, 1) := by decide +kernel
theorem dX12_common_1 : decode cX12_common 1 = .ok (.lconst 0, 1) := by decide +kernel
theorem dX12_common_2 : decode cX12_common 2 = .ok (.lcmp, 1) := by decide +kernel
theorem dX12_common_3 : decode cX12_common 3 = .ok (.ifCond .ne 7, 3) := by decide +kernel
theorem dX12_common_6 : decode cX12_common 6 = .ok (.lload_n 0, 1) := by decide +kernel
theorem dX12_common_7 : decode cX12_common 7 = .ok (.goto 10, 3) := by decide +kernel
theorem dX12_common_10 : decode cX12_common 10 = .ok (.lload_n 2, 1) := by decide +kernel
theorem dX12_common_11 : decode cX12_common 11 = .ok (.lload_n 0, 1) := by decide +kernel
theorem dX12_common_12 : decode cX12_common 12 = .ok (.lload_n 2, 1) := by decide +kernel
theorem dX12_common_13 : decode cX12_common 13 = .ok (.lrem, 1) := by decide +kernel
theorem dX12_common_14 : decode cX12_common 14 = .ok (.invokestatic 385, 3) := by decide +kernel
theorem dX12_common_17 : decode cX12_common 17 = .ok (.lreturn, 1) := by decide +kernel
theorem dX12_chance_0 : decode cX12_chance 0 = .ok (.aload_n 0, 1) := by decide +kernel
theorem dX12_chance_1 : decode cX12_chance 1 = .ok (.iconst 0, 1) := by decide +kernel
theorem dX12_chance_2 : decode cX12_chance 2 = .ok (.putfield 88, 3) := by decide +kernel
theorem dX12_chance_5 : decode cX12_chance 5 = .ok (.aload_n 0, 1) := by decide +kernel
theorem dX12_chance_6 : decode cX12_chance 6 = .ok (.invokevirtual 323, 3) := by decide +kernel
theorem dX12_chance_9 : decode cX12_chance 9 = .ok (.ifCond .eq 13, 3) := by decide +kernel
theorem dX12_chance_12 : decode cX12_chance 12 = .ok (.iload_n 1, 1) := by decide +kernel
theorem dX12_chance_13 : decode cX12_chance 13 = .ok (.i2l, 1) := by decide +kernel
theorem dX12_chance_14 : decode cX12_chance 14 = .ok (.lconst 0, 1) := by decide +kernel
theorem dX12_chance_15 : decode cX12_chance 15 = .ok (.lconst 1, 1) := by decide +kernel
theorem dX12_chance_16 : decode cX12_chance 16 = .ok (.invokestatic 93, 3) := by decide +kernel
theorem dX12_chance_19 : decode cX12_chance 19 = .ok (.ifCond .ne 7, 3) := by decide +kernel
theorem dX12_chance_22 : decode cX12_chance 22 = .ok (.ldc2_w 389, 3) := by decide +kernel
theorem dX12_chance_25 : decode cX12_chance 25 = .ok (.lreturn, 1) := by decide +kernel
theorem dX12_chance_26 : decode cX12_chance 26 = .ok (.aload_n 0, 1) := by decide +kernel
theorem dX12_chance_27 : decode cX12_chance 27 = .ok (.iconst 1, 1) := by decide +kernel
theorem dX12_chance_28 : decode cX12_chance 28 = .ok (.invokevirtual 382, 3) := by decide +kernel
theorem dX12_chance_31 : decode cX12_chance 31 = .ok (.ifCond .ne 7, 3) := by decide +kernel
theorem dX12_chance_34 : decode cX12_chance 34 = .ok (.ldc2_w 132, 3) := by decide +kernel
theorem dX12_chance_37 : decode cX12_chance 37 = .ok (.lreturn, 1) := by decide +kernel
theorem dX12_chance_38 : decode cX12_chance 38 = .ok (.lconst 1, 1) := by decide +kernel
theorem dX12_chance_39 : decode cX12_chance 39 = .ok (.lstore_n 2, 1) := by decide +kernel
theorem dX12_chance_40 : decode cX12_chance 40 = .ok (.lconst 1, 1) := by decide +kernel
theorem dX12_chance_41 : decode cX12_chance 41 = .ok (.lstore 4, 2) := by decide +kernel
theorem dX12_chance_43 : decode cX12_chance 43 = .ok (.iconst 0, 1) := by decide +kernel
theorem dX12_chance_44 : decode cX12_chance 44 = .ok (.istore 6, 2) := by decide +kernel
theorem dX12_chance_46 : decode cX12_chance 46 = .ok (.iconst 0, 1) := by decide +kernel
theorem dX12_chance_47 : decode cX12_chance 47 = .ok (.istore 7, 2) := by decide +kernel
theorem dX12_chance_49 : decode cX12_chance 49 = .ok (.iload 7, 2) := by decide +kernel
theorem dX12_chance_51 : decode cX12_chance 51 = .ok (.aload_n 0, 1) := by decide +kernel
theorem dX12_chance_52 : decode cX12_chance 52 = .ok (.getfield 373, 3) := by decide +kernel
theorem dX12_chance_55 : decode cX12_chance 55 = .ok (.if_icmp .ge 32, 3) := by decide +kernel
theorem dX12_chance_58 : decode cX12_chance 58 = .ok (.iload 6, 2) := by decide +kernel
theorem dX12_chance_60 : decode cX12_chance 60 = .ok (.aload_n 0, 1) := by decide +kernel
theorem dX12_chance_61 : decode cX12_chance 61 = .ok (.getfield 66, 3) := by decide +kernel
theorem dX12_chance_64 : decode cX12_chance 64 = .ok (.iload 7, 2) := by decide +kernel
theorem dX12_chance_66 : decode cX12_chance 66 = .ok (.iaload, 1) := by decide +kernel
theorem dX12_chance_67 : decode cX12_chance 67 = .ok (.sipush 200, 3) := by decide +kernel
theorem dX12_chance_70 : decode cX12_chance 70 = .ok (.if_icmp .ne 7, 3) := by decide +kernel
theorem dX12_chance_73 : decode cX12_chance 73 = .ok (.iconst 0, 1) := by decide +kernel
theorem dX12_chance_74 : decode cX12_chance 74 = .ok (.goto 4, 3) := by decide +kernel
theorem dX12_chance_77 : decode cX12_chance 77 = .ok (.iconst 1, 1) := by decide +kernel
theorem dX12_chance_78 : decode cX12_chance 78 = .ok (.iadd, 1) := by decide +kernel
theorem dX12_chance_79 : decode cX12_chance 79 = .ok (.istore 6, 2) := by decide +kernel
theorem dX12_chance_81 : decode cX12_chance 81 = .ok (.iinc 7 1, 3) := by decide +kernel
theorem dX12_chance_84 : decode cX12_chance 84 = .ok (.goto (-35), 3) := by decide +kernel
theorem dX12_chance_87 : decode cX12_chance 87 = .ok (.iload 6, 2) := by decide +kernel
theorem dX12_chance_89 : decode cX12_chance 89 = .ok (.bipush 9, 2) := by decide +kernel
theorem dX12_chance_91 : decode cX12_chance 91 = .ok (.if_icmp .le 7, 3) := by decide +kernel
theorem dX12_chance_94 : decode cX12_chance 94 = .ok (.ldc2_w 132, 3) := by decide +kernel
theorem dX12_chance_97 : decode cX12_chance 97 = .ok (.lreturn, 1) := by decide +kernel
theorem dX12_chance_98 : decode cX12_chance 98 = .ok (.iconst 0, 1) := by decide +kernel
theorem dX12_chance_99 : decode cX12_chance 99 = .ok (.istore 7, 2) := by decide +kernel
theorem dX12_chance_101 : decode cX12_chance 101 = .ok (.iload 7, 2) := by decide +kernel
theorem dX12_chance_103 : decode cX12_chance 103 = .ok (.aload_n 0, 1) := by decide +kernel
theorem dX12_chance_104 : decode cX12_chance 104 = .ok (.getfield 373, 3) := by decide +kernel
theorem dX12_chance_107 : decode cX12_chance 107 = .ok (.if_icmp .ge 64, 3) := by decide +kernel
theorem dX12_chance_110 : decode cX12_chance 110 = .ok (.aload_n 0, 1) := by decide +kernel
theorem dX12_chance_111 : decode cX12_chance 111 = .ok (.getfield 66, 3) := by decide +kernel
theorem dX12_chance_114 : decode cX12_chance 114 = .ok (.iload 7, 2) := by decide +kernel
theorem dX12_chance_116 : decode cX12_chance 116 = .ok (.iaload, 1) := by decide +kernel
theorem dX12_chance_117 : decode cX12_chance 117 = .ok (.sipush 200, 3) := by decide +kernel
theorem dX12_chance_120 : decode cX12_chance 120 = .ok (.if_icmp .ne 6, 3) := by decide +kernel
theorem dX12_chance_123 : decode cX12_chance 123 = .ok (.goto 42, 3) := by decide +kernel
theorem dX12_chance_126 : decode cX12_chance 126 = .ok (.lload_n 2, 1) := by decide +kernel
theorem dX12_chance_127 : decode cX12_chance 127 = .ok (.bipush 100, 2) := by decide +kernel
theorem dX12_chance_129 : decode cX12_chance 129 = .ok (.aload_n 0, 1) := by decide +kernel
theorem dX12_chance_130 : decode cX12_chance 130 = .ok (.aload_n 0, 1) := by decide +kernel
theorem dX12_chance_131 : decode cX12_chance 131 = .ok (.getfield 66, 3) := by decide +kernel
theorem dX12_chance_134 : decode cX12_chance 134 = .ok (.iload 7, 2) := by decide +kernel
theorem dX12_chance_136 : decode cX12_chance 136 = .ok (.iaload, 1) := by decide +kernel
theorem dX12_chance_137 : decode cX12_chance 137 = .ok (.bipush 10, 2) := by decide +kernel
theorem dX12_chance_139 : decode cX12_chance 139 = .ok (.irem, 1) := by decide +kernel
theorem dX12_chance_140 : decode cX12_chance 140 = .ok (.aload_n 0, 1) := by decide +kernel
theorem dX12_chance_141 : decode cX12_chance 141 = .ok (.getfield 66, 3) := by decide +kernel
theorem dX12_chance_144 : decode cX12_chance 144 = .ok (.iload 7, 2) := by decide +kernel
theorem dX12_chance_146 : decode cX12_chance 146 = .ok (.iaload, 1) := by decide +kernel
theorem dX12_chance_147 : decode cX12_chance 147 = .ok (.bipush 100, 2) := by decide +kernel
theorem dX12_chance_149 : decode cX12_chance 149 = .ok (.idiv, 1) := by decide +kernel
theorem dX12_chance_150 : decode cX12_chance 150 = .ok (.invokevirtual 300, 3) := by decide +kernel
theorem dX12_chance_153 : decode cX12_chance 153 = .ok (.isub, 1) := by decide +kernel
theorem dX12_chance_154 : decode cX12_chance 154 = .ok (.i2l, 1) := by decide +kernel
theorem dX12_chance_155 : decode cX12_chance 155 = .ok (.lmul, 1) := by decide +kernel
theorem dX12_chance_156 : decode cX12_chance 156 = .ok (.lstore_n 2, 1) := by decide +kernel
theorem dX12_chance_157 : decode cX12_chance 157 = .ok (.lload 4, 2) := by decide +kernel
theorem dX12_chance_159 : decode cX12_chance 159 = .ok (.ldc2_w 270, 3) := by decide +kernel
theorem dX12_chance_162 : decode cX12_chance 162 = .ok (.lmul, 1) := by decide +kernel
theorem dX12_chance_163 : decode cX12_chance 163 = .ok (.lstore 4, 2) := by decide +kernel
theorem dX12_chance_165 : decode cX12_chance 165 = .ok (.iinc 7 1, 3) := by decide +kernel
theorem dX12_chance_168 : decode cX12_chance 168 = .ok (.goto (-67), 3) := by decide +kernel
theorem dX12_chance_171 : decode cX12_chance 171 = .ok (.iload_n 1, 1) := by decide +kernel
theorem dX12_chance_172 : decode cX12_chance 172 = .ok (.ifCond .ne 7, 3) := by decide +kernel
theorem dX12_chance_175 : decode cX12_chance 175 = .ok (.lload_n 2, 1) := by decide +kernel
theorem dX12_chance_176 : decode cX12_chance 176 = .ok (.goto 5, 3) := by decide +kernel
theorem dX12_chance_179 : decode cX12_chance 179 = .ok (.lload 4, 2) := by decide +kernel
theorem dX12_chance_181 : decode cX12_chance 181 = .ok (.lload_n 2, 1) := by decide +kernel
theorem dX12_chance_182 : decode cX12_chance 182 = .ok (.lload 4, 2) := by decide +kernel
theorem dX12_chance_184 : decode cX12_chance 184 = .ok (.invokestatic 385, 3) := by decide +kernel
theorem dX12_chance_187 : decode cX12_chance 187 = .ok (.ldiv, 1) := by decide +kernel
theorem dX12_chance_188 : decode cX12_chance 188 = .ok (.lreturn, 1) := by decide +kernel
theorem dX12_states_0 : decode cX12_states 0 = .ok (.aload_n 0, 1) := by decide +kernel
theorem dX12_states_1 : decode cX12_states 1 = .ok (.iconst 0, 1) := by decide +kernel
theorem dX12_states_2 : decode cX12_states 2 = .ok (.putfield 88, 3) := by decide +kernel
theorem dX12_states_5 : decode cX12_states 5 = .ok (.aload_n 0, 1) := by decide +kernel
theorem dX12_states_6 : decode cX12_states 6 = .ok (.invokevirtual 323, 3) := by decide +kernel
theorem dX12_states_9 : decode cX12_states 9 = .ok (.ifCond .ne 6, 3) := by decide +kernel
theorem dX12_states_12 : decode cX12_states 12 = .ok (.bipush (-2), 2) := by decide +kernel
theorem dX12_states_14 : decode cX12_states 14 = .ok (.ireturn, 1) := by decide +kernel
theorem dX12_states_15 : decode cX12_states 15 = .ok (.aload_n 0, 1) := by decide +kernel
theorem dX12_states_16 : decode cX12_states 16 = .ok (.iconst 0, 1) := by decide +kernel
theorem dX12_states_17 : decode cX12_states 17 = .ok (.invokevirtual 367, 3) := by decide +kernel
theorem dX12_states_20 : decode cX12_states 20 = .ok (.aload_n 0, 1) := by decide +kernel
theorem dX12_states_21 : decode cX12_states 21 = .ok (.getfield 339, 3) := by decide +kernel
theorem dX12_states_24 : decode cX12_states 24 = .ok (.ireturn, 1) := by decide +kernel
theorem dX12_hopeful_0 : decode cX12_hopeful 0 = .ok (.aload_n 0, 1) := by decide +kernel
theorem dX12_hopeful_1 : decode cX12_hopeful 1 = .ok (.iconst 0, 1) := by decide +kernel
theorem dX12_hopeful_2 : decode cX12_hopeful 2 = .ok (.putfield 88, 3) := by decide +kernel
theorem dX12_hopeful_5 : decode cX12_hopeful 5 = .ok (.aload_n 0, 1) := by decide +kernel
theorem dX12_hopeful_6 : decode cX12_hopeful 6 = .ok (.invokevirtual 323, 3) := by decide +kernel
theorem dX12_hopeful_9 : decode cX12_hopeful 9 = .ok (.ifCond .ne 6, 3) := by decide +kernel
theorem dX12_hopeful_12 : decode cX12_hopeful 12 = .ok (.bipush (-2), 2) := by decide +kernel
theorem dX12_hopeful_14 : decode cX12_hopeful 14 = .ok (.ireturn, 1) := by decide +kernel
theorem dX12_hopeful_15 : decode cX12_hopeful 15 = .ok (.aload_n 0, 1) := by decide +kernel
theorem dX12_hopeful_16 : decode cX12_hopeful 16 = .ok (.iconst 0, 1) := by decide +kernel
theorem dX12_hopeful_17 : decode cX12_hopeful 17 = .ok (.invokevirtual 367, 3) := by decide +kernel
theorem dX12_hopeful_20 : decode cX12_hopeful 20 = .ok (.aload_n 0, 1) := by decide +kernel
theorem dX12_hopeful_21 : decode cX12_hopeful 21 = .ok (.iconst 0, 1) := by decide +kernel
theorem dX12_hopeful_22 : decode cX12_hopeful 22 = .ok (.iconst 0, 1) := by decide +kernel
theorem dX12_hopeful_23 : decode cX12_hopeful 23 = .ok (.iconst 0, 1) := by decide +kernel
theorem dX12_hopeful_24 : decode cX12_hopeful 24 = .ok (.invokevirtual 370, 3) := by decide +kernel
theorem dX12_hopeful_27 : decode cX12_hopeful 27 = .ok (.iconst 0, 1) := by decide +kernel
theorem dX12_hopeful_28 : decode cX12_hopeful 28 = .ok (.istore_n 1, 1) := by decide +kernel
theorem dX12_hopeful_29 : decode cX12_hopeful 29 = .ok (.iconst 0, 1) := by decide +kernel
theorem dX12_hopeful_30 : decode cX12_hopeful 30 = .ok (.istore_n 2, 1) := by decide +kernel
theorem dX12_hopeful_31 : decode cX12_hopeful 31 = .ok (.iload_n 2, 1) := by decide +kernel
theorem dX12_hopeful_32 : decode cX12_hopeful 32 = .ok (.aload_n 0, 1) := by decide +kernel
theorem dX12_hopeful_33 : decode cX12_hopeful 33 = .ok (.getfield 339, 3) := by decide +kernel
theorem dX12_hopeful_36 : decode cX12_hopeful 36 = .ok (.if_icmp .ge 34, 3) := by decide +kernel
theorem dX12_hopeful_39 : decode cX12_hopeful 39 = .ok (.iload_n 1, 1) := by decide +kernel
theorem dX12_hopeful_40 : decode cX12_hopeful 40 = .ok (.aload_n 0, 1) := by decide +kernel
theorem dX12_hopeful_41 : decode cX12_hopeful 41 = .ok (.getfield 63, 3) := by decide +kernel
theorem dX12_hopeful_44 : decode cX12_hopeful 44 = .ok (.aload_n 0, 1) := by decide +kernel
theorem dX12_hopeful_45 : decode cX12_hopeful 45 = .ok (.getfield 60, 3) := by decide +kernel
theorem dX12_hopeful_48 : decode cX12_hopeful 48 = .ok (.iload_n 2, 1) := by decide +kernel
theorem dX12_hopeful_49 : decode cX12_hopeful 49 = .ok (.iaload, 1) := by decide +kernel
theorem dX12_hopeful_50 : decode cX12_hopeful 50 = .ok (.iaload, 1) := by decide +kernel
theorem dX12_hopeful_51 : decode cX12_hopeful 51 = .ok (.ldc_w 357, 3) := by decide +kernel
theorem dX12_hopeful_54 : decode cX12_hopeful 54 = .ok (.if_icmp .eq 7, 3) := by decide +kernel
theorem dX12_hopeful_57 : decode cX12_hopeful 57 = .ok (.iconst 1, 1) := by decide +kernel
theorem dX12_hopeful_58 : decode cX12_hopeful 58 = .ok (.goto 4, 3) := by decide +kernel
theorem dX12_hopeful_61 : decode cX12_hopeful 61 = .ok (.iconst 0, 1) := by decide +kernel
theorem dX12_hopeful_62 : decode cX12_hopeful 62 = .ok (.iadd, 1) := by decide +kernel
theorem dX12_hopeful_63 : decode cX12_hopeful 63 = .ok (.istore_n 1, 1) := by decide +kernel
theorem dX12_hopeful_64 : decode cX12_hopeful 64 = .ok (.iinc 2 1, 3) := by decide +kernel
theorem dX12_hopeful_67 : decode cX12_hopeful 67 = .ok (.goto (-36), 3) := by decide +kernel
theorem dX12_hopeful_70 : decode cX12_hopeful 70 = .ok (.iload_n 1, 1) := by decide +kernel
theorem dX12_hopeful_71 : decode cX12_hopeful 71 = .ok (.ireturn, 1) := by decide +kernel
theorem dX12_isSet_0 : decode cX12_isSet 0 = .ok (.aload_n 0, 1) := by decide +kernel
theorem dX12_isSet_1 : decode cX12_isSet 1 = .ok (.invokevirtual 323, 3) := by decide +kernel
theorem dX12_isSet_4 : decode cX12_isSet 4 = .ok (.ifCond .eq 27, 3) := by decide +kernel
theorem dX12_isSet_7 : decode cX12_isSet 7 = .ok (.iload_n 1, 1) := by decide +kernel
theorem dX12_isSet_8 : decode cX12_isSet 8 = .ok (.i2l, 1) := by decide +kernel
theorem dX12_isSet_9 : decode cX12_isSet 9 = .ok (.lconst 0, 1) := by decide +kernel
theorem dX12_isSet_10 : decode cX12_isSet 10 = .ok (.iconst 1, 1) := by decide +kernel
theorem dX12_isSet_11 : decode cX12_isSet 11 = .ok (.aload_n 0, 1) := by decide +kernel
theorem dX12_isSet_12 : decode cX12_isSet 12 = .ok (.getfield 34, 3) := by decide +kernel
theorem dX12_isSet_15 : decode cX12_isSet 15 = .ok (.iconst 2, 1) := by decide +kernel
theorem dX12_isSet_16 : decode cX12_isSet 16 = .ok (.iaload, 1) := by decide +kernel
theorem dX12_isSet_17 : decode cX12_isSet 17 = .ok (.ishl, 1) := by decide +kernel
theorem dX12_isSet_18 : decode cX12_isSet 18 = .ok (.iconst 1, 1) := by decide +kernel
theorem dX12_isSet_19 : decode cX12_isSet 19 = .ok (.isub, 1) := by decide +kernel
theorem dX12_isSet_20 : decode cX12_isSet 20 = .ok (.i2l, 1) := by decide +kernel
theorem dX12_isSet_21 : decode cX12_isSet 21 = .ok (.invokestatic 93, 3) := by decide +kernel
theorem dX12_isSet_24 : decode cX12_isSet 24 = .ok (.ifCond .eq 7, 3) := by decide +kernel
theorem dX12_isSet_27 : decode cX12_isSet 27 = .ok (.iconst 1, 1) := by decide +kernel
theorem dX12_isSet_28 : decode cX12_isSet 28 = .ok (.goto 4, 3) := by decide +kernel
theorem dX12_isSet_31 : decode cX12_isSet 31 = .ok (.iconst 0, 1) := by decide +kernel
theorem dX12_isSet_32 : decode cX12_isSet 32 = .ok (.ireturn, 1) := by decide +kernel
theorem dX12_till_0 : decode cX12_till 0 = .ok (.aload_n 0, 1) := by decide +kernel
theorem dX12_till_1 : decode cX12_till 1 = .ok (.iconst 0, 1) := by decide +kernel
theorem dX12_till_2 : decode cX12_till 2 = .ok (.putfield 88, 3) := by decide +kernel
theorem dX12_till_5 : decode cX12_till 5 = .ok (.aload_n 0, 1) := by decide +kernel
theorem dX12_till_6 : decode cX12_till 6 = .ok (.iload_n 1, 1) := by decide +kernel
theorem dX12_till_7 : decode cX12_till 7 = .ok (.invokevirtual 391, 3) := by decide +kernel
theorem dX12_till_10 : decode cX12_till 10 = .ok (.ifCond .ne 6, 3) := by decide +kernel
theorem dX12_till_13 : decode cX12_till 13 = .ok (.bipush (-2), 2) := by decide +kernel
theorem dX12_till_15 : decode cX12_till 15 = .ok (.ireturn, 1) := by decide +kernel
theorem dX12_till_16 : decode cX12_till 16 = .ok (.aload_n 0, 1) := by decide +kernel
theorem dX12_till_17 : decode cX12_till 17 = .ok (.iconst 1, 1) := by decide +kernel
theorem dX12_till_18 : decode cX12_till 18 = .ok (.iload_n 1, 1) := by decide +kernel
theorem dX12_till_19 : decode cX12_till 19 = .ok (.iconst 0, 1) := by decide +kernel
theorem dX12_till_20 : decode cX12_till 20 = .ok (.invokevirtual 376, 3) := by decide +kernel
theorem dX12_till_23 : decode cX12_till 23 = .ok (.istore_n 2, 1) := by decide +kernel
theorem dX12_till_24 : decode cX12_till 24 = .ok (.iload_n 2, 1) := by decide +kernel
theorem dX12_till_25 : decode cX12_till 25 = .ok (.ldc_w 357, 3) := by decide +kernel
theorem dX12_till_28 : decode cX12_till 28 = .ok (.if_icmp .ne 7, 3) := by decide +kernel
theorem dX12_till_31 : decode cX12_till 31 = .ok (.iconst (-1), 1) := by decide +kernel
theorem dX12_till_32 : decode cX12_till 32 = .ok (.goto 4, 3) := by decide +kernel
theorem dX12_till_35 : decode cX12_till 35 = .ok (.iload_n 2, 1) := by decide +kernel
theorem dX12_till_36 : decode cX12_till 36 = .ok (.ireturn, 1) := by decide +kernel
theorem dX12_over_0 : decode cX12_over 0 = .ok (.aload_n 0, 1) := by decide +kernel
theorem dX12_over_1 : decode cX12_over 1 = .ok (.iconst 0, 1) := by decide +kernel
theorem dX12_over_2 : decode cX12_over 2 = .ok (.putfield 88, 3) := by decide +kernel
theorem dX12_over_5 : decode cX12_over 5 = .ok (.aload_n 0, 1) := by decide +kernel
theorem dX12_over_6 : decode cX12_over 6 = .ok (.iload_n 1, 1) := by decide +kernel
theorem dX12_over_7 : decode cX12_over 7 = .ok (.invokevirtual 312, 3) := by decide +kernel
theorem dX12_over_10 : decode cX12_over 10 = .ok (.ifCond .ne 6, 3) := by decide +kernel
theorem dX12_over_13 : decode cX12_over 13 = .ok (.bipush (-2), 2) := by decide +kernel
theorem dX12_over_15 : decode cX12_over 15 = .ok (.ireturn, 1) := by decide +kernel
theorem dX12_over_16 : decode cX12_over 16 = .ok (.aload_n 0, 1) := by decide +kernel
theorem dX12_over_17 : decode cX12_over 17 = .ok (.iconst 2, 1) := by decide +kernel
theorem dX12_over_18 : decode cX12_over 18 = .ok (.iload_n 1, 1) := by decide +kernel
theorem dX12_over_19 : decode cX12_over 19 = .ok (.iconst 0, 1) := by decide +kernel
theorem dX12_over_20 : decode cX12_over 20 = .ok (.invokevirtual 376, 3) := by decide +kernel
theorem dX12_over_23 : decode cX12_over 23 = .ok (.istore_n 2, 1) := by decide +kernel
theorem dX12_over_24 : decode cX12_over 24 = .ok (.iload_n 2, 1) := by decide +kernel
theorem dX12_over_25 : decode cX12_over 25 = .ok (.ldc_w 357, 3) := by decide +kernel
theorem dX12_over_28 : decode cX12_over 28 = .ok (.if_icmp .ne 7, 3) := by decide +kernel
theorem dX12_over_31 : decode cX12_over 31 = .ok (.iconst (-1), 1) := by decide +kernel
theorem dX12_over_32 : decode cX12_over 32 = .ok (.goto 4, 3) := by decide +kernel
theorem dX12_over_35 : decode cX12_over 35 = .ok (.iload_n 2, 1) := by decide +kernel
theorem dX12_over_36 : decode cX12_over 36 = .ok (.ireturn, 1) := by decide +kernel
theorem dX12_never_0 : decode cX12_never 0 = .ok (.aload_n 0, 1) := by decide +kernel
theorem dX12_never_1 : decode cX12_never 1 = .ok (.iconst 0, 1) := by decide +kernel
theorem dX12_never_2 : decode cX12_never 2 = .ok (.putfield 88, 3) := by decide +kernel
theorem dX12_never_5 : decode cX12_never 5 = .ok (.aload_n 0, 1) := by decide +kernel
theorem dX12_never_6 : decode cX12_never 6 = .ok (.invokevirtual 323, 3) := by decide +kernel
theorem dX12_never_9 : decode cX12_never 9 = .ok (.ifCond .ne 6, 3) := by decide +kernel
theorem dX12_never_12 : decode cX12_never 12 = .ok (.bipush (-2), 2) := by decide +kernel
theorem dX12_never_14 : decode cX12_never 14 = .ok (.ireturn, 1) := by decide +kernel
theorem dX12_never_15 : decode cX12_never 15 = .ok (.aload_n 0, 1) := by decide +kernel
theorem dX12_never_16 : decode cX12_never 16 = .ok (.invokevirtual 317, 3) := by decide +kernel
theorem dX12_never_19 : decode cX12_never 19 = .ok (.aload_n 0, 1) := by decide +kernel
theorem dX12_never_20 : decode cX12_never 20 = .ok (.aload_n 0, 1) := by decide +kernel
theorem dX12_never_21 : decode cX12_never 21 = .ok (.invokevirtual 342, 3) := by decide +kernel
theorem dX12_never_24 : decode cX12_never 24 = .ok (.invokevirtual 367, 3) := by decide +kernel
theorem dX12_never_27 : decode cX12_never 27 = .ok (.iconst 1, 1) := by decide +kernel
theorem dX12_never_28 : decode cX12_never 28 = .ok (.aload_n 0, 1) := by decide +kernel
theorem dX12_never_29 : decode cX12_never 29 = .ok (.getfield 34, 3) := by decide +kernel
theorem dX12_never_32 : decode cX12_never 32 = .ok (.iconst 2, 1) := by decide +kernel
theorem dX12_never_33 : decode cX12_never 33 = .ok (.iaload, 1) := by decide +kernel
theorem dX12_never_34 : decode cX12_never 34 = .ok (.ishl, 1) := by decide +kernel
theorem dX12_never_35 : decode cX12_never 35 = .ok (.iconst 1, 1) := by decide +kernel
theorem dX12_never_36 : decode cX12_never 36 = .ok (.isub, 1) := by decide +kernel
theorem dX12_never_37 : decode cX12_never 37 = .ok (.istore_n 1, 1) := by decide +kernel
theorem dX12_never_38 : decode cX12_never 38 = .ok (.iconst 0, 1) := by decide +kernel
theorem dX12_never_39 : decode cX12_never 39 = .ok (.istore_n 2, 1) := by decide +kernel
theorem dX12_never_40 : decode cX12_never 40 = .ok (.iload_n 2, 1) := by decide +kernel
theorem dX12_never_41 : decode cX12_never 41 = .ok (.aload_n 0, 1) := by decide +kernel
theorem dX12_never_42 : decode cX12_never 42 = .ok (.getfield 339, 3) := by decide +kernel
theorem dX12_never_45 : decode cX12_never 45 = .ok (.if_icmp .ge 24, 3) := by decide +kernel
theorem dX12_never_48 : decode cX12_never 48 = .ok (.iload_n 1, 1) := by decide +kernel
theorem dX12_never_49 : decode cX12_never 49 = .ok (.aload_n 0, 1) := by decide +kernel
theorem dX12_never_50 : decode cX12_never 50 = .ok (.getfield 60, 3) := by decide +kernel
theorem dX12_never_53 : decode cX12_never 53 = .ok (.iload_n 2, 1) := by decide +kernel
theorem dX12_never_54 : decode cX12_never 54 = .ok (.iaload, 1) := by decide +kernel
theorem dX12_never_55 : decode cX12_never 55 = .ok (.sipush 1470, 3) := by decide +kernel
theorem dX12_never_58 : decode cX12_never 58 = .ok (.idiv, 1) := by decide +kernel
theorem dX12_never_59 : decode cX12_never 59 = .ok (.iconst (-1), 1) := by decide +kernel
theorem dX12_never_60 : decode cX12_never 60 = .ok (.ixor, 1) := by decide +kernel
theorem dX12_never_61 : decode cX12_never 61 = .ok (.iand, 1) := by decide +kernel
theorem dX12_never_62 : decode cX12_never 62 = .ok (.istore_n 1, 1) := by decide +kernel
theorem dX12_never_63 : decode cX12_never 63 = .ok (.iinc 2 1, 3) := by decide +kernel
theorem dX12_never_66 : decode cX12_never 66 = .ok (.goto (-26), 3) := by decide +kernel
theorem dX12_never_69 : decode cX12_never 69 = .ok (.iload_n 1, 1) := by decide +kernel
theorem dX12_never_70 : decode cX12_never 70 = .ok (.ireturn, 1) := by decide +kernel
theorem dX12_overBehind_0 : decode cX12_overBehind 0 = .ok (.aload_n 0, 1) := by decide +kernel
theorem dX12_overBehind_1 : decode cX12_overBehind 1 = .ok (.invokevirtual 317, 3) := by decide +kernel
theorem dX12_overBehind_4 : decode cX12_overBehind 4 = .ok (.iconst 0, 1) := by decide +kernel
theorem dX12_overBehind_5 : decode cX12_overBehind 5 = .ok (.istore_n 2, 1) := by decide +kernel
theorem dX12_overBehind_6 : decode cX12_overBehind 6 = .ok (.iload_n 2, 1) := by decide +kernel
theorem dX12_overBehind_7 : decode cX12_overBehind 7 = .ok (.iload_n 1, 1) := by decide +kernel
theorem dX12_overBehind_8 : decode cX12_overBehind 8 = .ok (.if_icmp .ge 19, 3) := by decide +kernel
theorem dX12_overBehind_11 : decode cX12_overBehind 11 = .ok (.aload_n 0, 1) := by decide +kernel
theorem dX12_overBehind_12 : decode cX12_overBehind 12 = .ok (.aload_n 0, 1) := by decide +kernel
theorem dX12_overBehind_13 : decode cX12_overBehind 13 = .ok (.getfield 66, 3) := by decide +kernel
theorem dX12_overBehind_16 : decode cX12_overBehind 16 = .ok (.iload_n 2, 1) := by decide +kernel
theorem dX12_overBehind_17 : decode cX12_overBehind 17 = .ok (.iaload, 1) := by decide +kernel
theorem dX12_overBehind_18 : decode cX12_overBehind 18 = .ok (.invokevirtual 303, 3) := by decide +kernel
theorem dX12_overBehind_21 : decode cX12_overBehind 21 = .ok (.iinc 2 1, 3) := by decide +kernel
theorem dX12_overBehind_24 : decode cX12_overBehind 24 = .ok (.goto (-18), 3) := by decide +kernel
theorem dX12_overBehind_27 : decode cX12_overBehind 27 = .ok (.aload_n 0, 1) := by decide +kernel
theorem dX12_overBehind_28 : decode cX12_overBehind 28 = .ok (.getfield 238, 3) := by decide +kernel
theorem dX12_overBehind_31 : decode cX12_overBehind 31 = .ok (.ireturn, 1) := by decide +kernel
theorem dX12_lost_0 : decode cX12_lost 0 = .ok (.aload_n 0, 1) := by decide +kernel
theorem dX12_lost_1 : decode cX12_lost 1 = .ok (.iconst 0, 1) := by decide +kernel
theorem dX12_lost_2 : decode cX12_lost 2 = .ok (.putfield 88, 3) := by decide +kernel
theorem dX12_lost_5 : decode cX12_lost 5 = .ok (.aload_n 0, 1) := by decide +kernel
theorem dX12_lost_6 : decode cX12_lost 6 = .ok (.invokevirtual 323, 3) := by decide +kernel
theorem dX12_lost_9 : decode cX12_lost 9 = .ok (.ifCond .eq 7, 3) := by decide +kernel
theorem dX12_lost_12 : decode cX12_lost 12 = .ok (.iload_n 1, 1) := by decide +kernel
theorem dX12_lost_13 : decode cX12_lost 13 = .ok (.ifCond .ge 6, 3) := by decide +kernel
theorem dX12_lost_16 : decode cX12_lost 16 = .ok (.bipush (-2), 2) := by decide +kernel
theorem dX12_lost_18 : decode cX12_lost 18 = .ok (.ireturn, 1) := by decide +kernel
theorem dX12_lost_19 : decode cX12_lost 19 = .ok (.aload_n 0, 1) := by decide +kernel
theorem dX12_lost_20 : decode cX12_lost 20 = .ok (.iconst 0, 1) := by decide +kernel
theorem dX12_lost_21 : decode cX12_lost 21 = .ok (.invokevirtual 382, 3) := by decide +kernel
theorem dX12_lost_24 : decode cX12_lost 24 = .ok (.ifCond .eq 19, 3) := by decide +kernel
theorem dX12_lost_27 : decode cX12_lost 27 = .ok (.iload_n 1, 1) := by decide +kernel
theorem dX12_lost_28 : decode cX12_lost 28 = .ok (.aload_n 0, 1) := by decide +kernel
theorem dX12_lost_29 : decode cX12_lost 29 = .ok (.getfield 373, 3) := by decide +kernel
theorem dX12_lost_32 : decode cX12_lost 32 = .ok (.if_icmp .gt 11, 3) := by decide +kernel
theorem dX12_lost_35 : decode cX12_lost 35 = .ok (.aload_n 0, 1) := by decide +kernel
theorem dX12_lost_36 : decode cX12_lost 36 = .ok (.iload_n 1, 1) := by decide +kernel
theorem dX12_lost_37 : decode cX12_lost 37 = .ok (.invokevirtual 394, 3) := by decide +kernel
theorem dX12_lost_40 : decode cX12_lost 40 = .ok (.goto 4, 3) := by decide +kernel
theorem dX12_lost_43 : decode cX12_lost 43 = .ok (.iconst (-1), 1) := by decide +kernel
theorem dX12_lost_44 : decode cX12_lost 44 = .ok (.ireturn, 1) := by decide +kernel
theorem dX12_worst_0 : decode cX12_worst 0 = .ok (.aload_n 0, 1) := by decide +kernel
theorem dX12_worst_1 : decode cX12_worst 1 = .ok (.iconst 0, 1) := by decide +kernel
theorem dX12_worst_2 : decode cX12_worst 2 = .ok (.putfield 88, 3) := by decide +kernel
theorem dX12_worst_5 : decode cX12_worst 5 = .ok (.aload_n 0, 1) := by decide +kernel
theorem dX12_worst_6 : decode cX12_worst 6 = .ok (.invokevirtual 323, 3) := by decide +kernel
theorem dX12_worst_9 : decode cX12_worst 9 = .ok (.ifCond .ne 6, 3) := by decide +kernel
theorem dX12_worst_12 : decode cX12_worst 12 = .ok (.bipush (-2), 2) := by decide +kernel
theorem dX12_worst_14 : decode cX12_worst 14 = .ok (.ireturn, 1) := by decide +kernel
theorem dX12_worst_15 : decode cX12_worst 15 = .ok (.aload_n 0, 1) := by decide +kernel
theorem dX12_worst_16 : decode cX12_worst 16 = .ok (.iconst 0, 1) := by decide +kernel
theorem dX12_worst_17 : decode cX12_worst 17 = .ok (.invokevirtual 382, 3) := by decide +kernel
theorem dX12_worst_20 : decode cX12_worst 20 = .ok (.ifCond .ne 5, 3) := by decide +kernel
theorem dX12_worst_23 : decode cX12_worst 23 = .ok (.iconst (-1), 1) := by decide +kernel
theorem dX12_worst_24 : decode cX12_worst 24 = .ok (.ireturn, 1) := by decide +kernel
theorem dX12_worst_25 : decode cX12_worst 25 = .ok (.iconst 1, 1) := by decide +kernel
theorem dX12_worst_26 : decode cX12_worst 26 = .ok (.aload_n 0, 1) := by decide +kernel
theorem dX12_worst_27 : decode cX12_worst 27 = .ok (.getfield 34, 3) := by decide +kernel
theorem dX12_worst_30 : decode cX12_worst 30 = .ok (.iconst 2, 1) := by decide +kernel
theorem dX12_worst_31 : decode cX12_worst 31 = .ok (.iaload, 1) := by decide +kernel
theorem dX12_worst_32 : decode cX12_worst 32 = .ok (.ishl, 1) := by decide +kernel
theorem dX12_worst_33 : decode cX12_worst 33 = .ok (.iconst 1, 1) := by decide +kernel
theorem dX12_worst_34 : decode cX12_worst 34 = .ok (.isub, 1) := by decide +kernel
theorem dX12_worst_35 : decode cX12_worst 35 = .ok (.aload_n 0, 1) := by decide +kernel
theorem dX12_worst_36 : decode cX12_worst 36 = .ok (.getfield 34, 3) := by decide +kernel
theorem dX12_worst_39 : decode cX12_worst 39 = .ok (.iconst 5, 1) := by decide +kernel
theorem dX12_worst_40 : decode cX12_worst 40 = .ok (.iaload, 1) := by decide +kernel
theorem dX12_worst_41 : decode cX12_worst 41 = .ok (.iconst (-1), 1) := by decide +kernel
theorem dX12_worst_42 : decode cX12_worst 42 = .ok (.ixor, 1) := by decide +kernel
theorem dX12_worst_43 : decode cX12_worst 43 = .ok (.iand, 1) := by decide +kernel
theorem dX12_worst_44 : decode cX12_worst 44 = .ok (.istore_n 1, 1) := by decide +kernel
theorem dX12_worst_45 : decode cX12_worst 45 = .ok (.iconst 0, 1) := by decide +kernel
theorem dX12_worst_46 : decode cX12_worst 46 = .ok (.istore_n 2, 1) := by decide +kernel
theorem dX12_worst_47 : decode cX12_worst 47 = .ok (.aload_n 0, 1) := by decide +kernel
theorem dX12_worst_48 : decode cX12_worst 48 = .ok (.iconst 0, 1) := by decide +kernel
theorem dX12_worst_49 : decode cX12_worst 49 = .ok (.invokevirtual 394, 3) := by decide +kernel
theorem dX12_worst_52 : decode cX12_worst 52 = .ok (.iload_n 1, 1) := by decide +kernel
theorem dX12_worst_53 : decode cX12_worst 53 = .ok (.ixor, 1) := by decide +kernel
theorem dX12_worst_54 : decode cX12_worst 54 = .ok (.invokestatic 397, 3) := by decide +kernel
theorem dX12_worst_57 : decode cX12_worst 57 = .ok (.istore_n 3, 1) := by decide +kernel
theorem dX12_worst_58 : decode cX12_worst 58 = .ok (.iconst 1, 1) := by decide +kernel
theorem dX12_worst_59 : decode cX12_worst 59 = .ok (.istore 4, 2) := by decide +kernel
theorem dX12_worst_61 : decode cX12_worst 61 = .ok (.iload 4, 2) := by decide +kernel
theorem dX12_worst_63 : decode cX12_worst 63 = .ok (.aload_n 0, 1) := by decide +kernel
theorem dX12_worst_64 : decode cX12_worst 64 = .ok (.getfield 373, 3) := by decide +kernel
theorem dX12_worst_67 : decode cX12_worst 67 = .ok (.if_icmp .gt 37, 3) := by decide +kernel
theorem dX12_worst_70 : decode cX12_worst 70 = .ok (.aload_n 0, 1) := by decide +kernel
theorem dX12_worst_71 : decode cX12_worst 71 = .ok (.iload 4, 2) := by decide +kernel
theorem dX12_worst_73 : decode cX12_worst 73 = .ok (.invokevirtual 394, 3) := by decide +kernel
theorem dX12_worst_76 : decode cX12_worst 76 = .ok (.iload_n 1, 1) := by decide +kernel
theorem dX12_worst_77 : decode cX12_worst 77 = .ok (.ixor, 1) := by decide +kernel
theorem dX12_worst_78 : decode cX12_worst 78 = .ok (.invokestatic 397, 3) := by decide +kernel
theorem dX12_worst_81 : decode cX12_worst 81 = .ok (.istore 5, 2) := by decide +kernel
theorem dX12_worst_83 : decode cX12_worst 83 = .ok (.iload 5, 2) := by decide +kernel
theorem dX12_worst_85 : decode cX12_worst 85 = .ok (.iload_n 3, 1) := by decide +kernel
theorem dX12_worst_86 : decode cX12_worst 86 = .ok (.if_icmp .gt 6, 3) := by decide +kernel
theorem dX12_worst_89 : decode cX12_worst 89 = .ok (.goto 9, 3) := by decide +kernel
theorem dX12_worst_92 : decode cX12_worst 92 = .ok (.iload 4, 2) := by decide +kernel
theorem dX12_worst_94 : decode cX12_worst 94 = .ok (.istore_n 2, 1) := by decide +kernel
theorem dX12_worst_95 : decode cX12_worst 95 = .ok (.iload 5, 2) := by decide +kernel
theorem dX12_worst_97 : decode cX12_worst 97 = .ok (.istore_n 3, 1) := by decide +kernel
theorem dX12_worst_98 : decode cX12_worst 98 = .ok (.iinc 4 1, 3) := by decide +kernel
theorem dX12_worst_101 : decode cX12_worst 101 = .ok (.goto (-40), 3) := by decide +kernel
theorem dX12_worst_104 : decode cX12_worst 104 = .ok (.iload_n 2, 1) := by decide +kernel
theorem dX12_worst_105 : decode cX12_worst 105 = .ok (.ireturn, 1) := by decide +kernel
theorem dX12_cellOf_0 : decode cX12_cellOf 0 = .ok (.aload_n 0, 1) := by decide +kernel
theorem dX12_cellOf_1 : decode cX12_cellOf 1 = .ok (.getfield 16, 3) := by decide +kernel
theorem dX12_cellOf_4 : decode cX12_cellOf 4 = .ok (.bipush 60, 2) := by decide +kernel
theorem dX12_cellOf_6 : decode cX12_cellOf 6 = .ok (.iload_n 1, 1) := by decide +kernel
theorem dX12_cellOf_7 : decode cX12_cellOf 7 = .ok (.imul, 1) := by decide +kernel
theorem dX12_cellOf_8 : decode cX12_cellOf 8 = .ok (.iload_n 2, 1) := by decide +kernel
theorem dX12_cellOf_9 : decode cX12_cellOf 9 = .ok (.iadd, 1) := by decide +kernel
theorem dX12_cellOf_10 : decode cX12_cellOf 10 = .ok (.laload, 1) := by decide +kernel
theorem dX12_cellOf_11 : decode cX12_cellOf 11 = .ok (.lreturn, 1) := by decide +kernel
theorem dX12_whyNot_0 : decode cX12_whyNot 0 = .ok (.iload_n 1, 1) := by decide +kernel
theorem dX12_whyNot_1 : decode cX12_whyNot 1 = .ok (.invokestatic 97, 3) := by decide +kernel
theorem dX12_whyNot_4 : decode cX12_whyNot 4 = .ok (.ifCond .eq 10, 3) := by decide +kernel
theorem dX12_whyNot_7 : decode cX12_whyNot 7 = .ok (.aload_n 0, 1) := by decide +kernel
theorem dX12_whyNot_8 : decode cX12_whyNot 8 = .ok (.invokevirtual 323, 3) := by decide +kernel
theorem dX12_whyNot_11 : decode cX12_whyNot 11 = .ok (.ifCond .ne 6, 3) := by decide +kernel
theorem dX12_whyNot_14 : decode cX12_whyNot 14 = .ok (.bipush (-2), 2) := by decide +kernel
theorem dX12_whyNot_16 : decode cX12_whyNot 16 = .ok (.ireturn, 1) := by decide +kernel
theorem dX12_whyNot_17 : decode cX12_whyNot 17 = .ok (.aload_n 0, 1) := by decide +kernel
theorem dX12_whyNot_18 : decode cX12_whyNot 18 = .ok (.getfield 7, 3) := by decide +kernel
theorem dX12_whyNot_21 : decode cX12_whyNot 21 = .ok (.iload_n 1, 1) := by decide +kernel
theorem dX12_whyNot_22 : decode cX12_whyNot 22 = .ok (.iaload, 1) := by decide +kernel
theorem dX12_whyNot_23 : decode cX12_whyNot 23 = .ok (.iconst (-1), 1) := by decide +kernel
theorem dX12_whyNot_24 : decode cX12_whyNot 24 = .ok (.if_icmp .ne 6, 3) := by decide +kernel
theorem dX12_whyNot_27 : decode cX12_whyNot 27 = .ok (.bipush (-6), 2) := by decide +kernel
theorem dX12_whyNot_29 : decode cX12_whyNot 29 = .ok (.ireturn, 1) := by decide +kernel
theorem dX12_whyNot_30 : decode cX12_whyNot 30 = .ok (.iconst 0, 1) := by decide +kernel
theorem dX12_whyNot_31 : decode cX12_whyNot 31 = .ok (.istore_n 2, 1) := by decide +kernel
theorem dX12_whyNot_32 : decode cX12_whyNot 32 = .ok (.iload_n 2, 1) := by decide +kernel
theorem dX12_whyNot_33 : decode cX12_whyNot 33 = .ok (.aload_n 0, 1) := by decide +kernel
theorem dX12_whyNot_34 : decode cX12_whyNot 34 = .ok (.getfield 13, 3) := by decide +kernel
theorem dX12_whyNot_37 : decode cX12_whyNot 37 = .ok (.iload_n 1, 1) := by decide +kernel
theorem dX12_whyNot_38 : decode cX12_whyNot 38 = .ok (.iaload, 1) := by decide +kernel
theorem dX12_whyNot_39 : decode cX12_whyNot 39 = .ok (.if_icmp .ge 25, 3) := by decide +kernel
theorem dX12_whyNot_42 : decode cX12_whyNot 42 = .ok (.aload_n 0, 1) := by decide +kernel
theorem dX12_whyNot_43 : decode cX12_whyNot 43 = .ok (.aload_n 0, 1) := by decide +kernel
theorem dX12_whyNot_44 : decode cX12_whyNot 44 = .ok (.iload_n 1, 1) := by decide +kernel
theorem dX12_whyNot_45 : decode cX12_whyNot 45 = .ok (.iload_n 2, 1) := by decide +kernel
theorem dX12_whyNot_46 : decode cX12_whyNot 46 = .ok (.invokevirtual 400, 3) := by decide +kernel
theorem dX12_whyNot_49 : decode cX12_whyNot 49 = .ok (.invokevirtual 282, 3) := by decide +kernel
theorem dX12_whyNot_52 : decode cX12_whyNot 52 = .ok (.ifCond .ne 6, 3) := by decide +kernel
theorem dX12_whyNot_55 : decode cX12_whyNot 55 = .ok (.bipush (-2), 2) := by decide +kernel
theorem dX12_whyNot_57 : decode cX12_whyNot 57 = .ok (.ireturn, 1) := by decide +kernel
theorem dX12_whyNot_58 : decode cX12_whyNot 58 = .ok (.iinc 2 1, 3) := by decide +kernel
theorem dX12_whyNot_61 : decode cX12_whyNot 61 = .ok (.goto (-29), 3) := by decide +kernel
theorem dX12_whyNot_64 : decode cX12_whyNot 64 = .ok (.iconst 0, 1) := by decide +kernel
theorem dX12_whyNot_65 : decode cX12_whyNot 65 = .ok (.ireturn, 1) := by decide +kernel
theorem dX12_judges_0 : decode cX12_judges 0 = .ok (.aload_n 0, 1) := by decide +kernel
theorem dX12_judges_1 : decode cX12_judges 1 = .ok (.invokevirtual 306, 3) := by decide +kernel
theorem dX12_judges_4 : decode cX12_judges 4 = .ok (.iconst 0, 1) := by decide +kernel
theorem dX12_judges_5 : decode cX12_judges 5 = .ok (.istore_n 2, 1) := by decide +kernel
theorem dX12_judges_6 : decode cX12_judges 6 = .ok (.iload_n 2, 1) := by decide +kernel
theorem dX12_judges_7 : decode cX12_judges 7 = .ok (.aload_n 0, 1) := by decide +kernel
theorem dX12_judges_8 : decode cX12_judges 8 = .ok (.getfield 13, 3) := by decide +kernel
theorem dX12_judges_11 : decode cX12_judges 11 = .ok (.iload_n 1, 1) := by decide +kernel
theorem dX12_judges_12 : decode cX12_judges 12 = .ok (.iaload, 1) := by decide +kernel
theorem dX12_judges_13 : decode cX12_judges 13 = .ok (.if_icmp .ge 34, 3) := by decide +kernel
theorem dX12_judges_16 : decode cX12_judges 16 = .ok (.aload_n 0, 1) := by decide +kernel
theorem dX12_judges_17 : decode cX12_judges 17 = .ok (.aload_n 0, 1) := by decide +kernel
theorem dX12_judges_18 : decode cX12_judges 18 = .ok (.iload_n 1, 1) := by decide +kernel
theorem dX12_judges_19 : decode cX12_judges 19 = .ok (.iload_n 2, 1) := by decide +kernel
theorem dX12_judges_20 : decode cX12_judges 20 = .ok (.invokevirtual 400, 3) := by decide +kernel
theorem dX12_judges_23 : decode cX12_judges 23 = .ok (.l2i, 1) := by decide +kernel
theorem dX12_judges_24 : decode cX12_judges 24 = .ok (.invokevirtual 285, 3) := by decide +kernel
theorem dX12_judges_27 : decode cX12_judges 27 = .ok (.ifCond .eq 20, 3) := by decide +kernel
theorem dX12_judges_30 : decode cX12_judges 30 = .ok (.aload_n 0, 1) := by decide +kernel
theorem dX12_judges_31 : decode cX12_judges 31 = .ok (.aload_n 0, 1) := by decide +kernel
theorem dX12_judges_32 : decode cX12_judges 32 = .ok (.iload_n 1, 1) := by decide +kernel
theorem dX12_judges_33 : decode cX12_judges 33 = .ok (.iload_n 2, 1) := by decide +kernel
theorem dX12_judges_34 : decode cX12_judges 34 = .ok (.invokevirtual 400, 3) := by decide +kernel
theorem dX12_judges_37 : decode cX12_judges 37 = .ok (.l2i, 1) := by decide +kernel
theorem dX12_judges_38 : decode cX12_judges 38 = .ok (.invokevirtual 309, 3) := by decide +kernel
theorem dX12_judges_41 : decode cX12_judges 41 = .ok (.iinc 2 1, 3) := by decide +kernel
theorem dX12_judges_44 : decode cX12_judges 44 = .ok (.goto (-38), 3) := by decide +kernel
theorem dX12_judges_47 : decode cX12_judges 47 = .ok (.iload_n 2, 1) := by decide +kernel
theorem dX12_judges_48 : decode cX12_judges 48 = .ok (.ireturn, 1) := by decide +kernel
theorem dX12_judge_0 : decode cX12_judge 0 = .ok (.aload_n 0, 1) := by decide +kernel
theorem dX12_judge_1 : decode cX12_judge 1 = .ok (.iconst 0, 1) := by decide +kernel
theorem dX12_judge_2 : decode cX12_judge 2 = .ok (.putfield 88, 3) := by decide +kernel
theorem dX12_judge_5 : decode cX12_judge 5 = .ok (.aload_n 0, 1) := by decide +kernel
theorem dX12_judge_6 : decode cX12_judge 6 = .ok (.iload_n 1, 1) := by decide +kernel
theorem dX12_judge_7 : decode cX12_judge 7 = .ok (.invokevirtual 404, 3) := by decide +kernel
theorem dX12_judge_10 : decode cX12_judge 10 = .ok (.istore_n 2, 1) := by decide +kernel
theorem dX12_judge_11 : decode cX12_judge 11 = .ok (.iload_n 2, 1) := by decide +kernel
theorem dX12_judge_12 : decode cX12_judge 12 = .ok (.ifCond .eq 7, 3) := by decide +kernel
theorem dX12_judge_15 : decode cX12_judge 15 = .ok (.iload_n 2, 1) := by decide +kernel
theorem dX12_judge_16 : decode cX12_judge 16 = .ok (.goto 8, 3) := by decide +kernel
theorem dX12_judge_19 : decode cX12_judge 19 = .ok (.aload_n 0, 1) := by decide +kernel
theorem dX12_judge_20 : decode cX12_judge 20 = .ok (.iload_n 1, 1) := by decide +kernel
theorem dX12_judge_21 : decode cX12_judge 21 = .ok (.invokevirtual 407, 3) := by decide +kernel
theorem dX12_judge_24 : decode cX12_judge 24 = .ok (.ireturn, 1) := by decide +kernel
theorem dX12_judged_0 : decode cX12_judged 0 = .ok (.aload_n 0, 1) := by decide +kernel
theorem dX12_judged_1 : decode cX12_judged 1 = .ok (.iconst 0, 1) := by decide +kernel
theorem dX12_judged_2 : decode cX12_judged 2 = .ok (.putfield 88, 3) := by decide +kernel
theorem dX12_judged_5 : decode cX12_judged 5 = .ok (.aload_n 0, 1) := by decide +kernel
theorem dX12_judged_6 : decode cX12_judged 6 = .ok (.iload_n 1, 1) := by decide +kernel
theorem dX12_judged_7 : decode cX12_judged 7 = .ok (.invokevirtual 404, 3) := by decide +kernel
theorem dX12_judged_10 : decode cX12_judged 10 = .ok (.istore_n 3, 1) := by decide +kernel
theorem dX12_judged_11 : decode cX12_judged 11 = .ok (.iload_n 3, 1) := by decide +kernel
theorem dX12_judged_12 : decode cX12_judged 12 = .ok (.ifCond .eq 5, 3) := by decide +kernel
theorem dX12_judged_15 : decode cX12_judged 15 = .ok (.iload_n 3, 1) := by decide +kernel
theorem dX12_judged_16 : decode cX12_judged 16 = .ok (.ireturn, 1) := by decide +kernel
theorem dX12_judged_17 : decode cX12_judged 17 = .ok (.aload_n 0, 1) := by decide +kernel
theorem dX12_judged_18 : decode cX12_judged 18 = .ok (.iload_n 1, 1) := by decide +kernel
theorem dX12_judged_19 : decode cX12_judged 19 = .ok (.invokevirtual 407, 3) := by decide +kernel
theorem dX12_judged_22 : decode cX12_judged 22 = .ok (.pop, 1) := by decide +kernel
theorem dX12_judged_23 : decode cX12_judged 23 = .ok (.iload_n 2, 1) := by decide +kernel
theorem dX12_judged_24 : decode cX12_judged 24 = .ok (.ifCond .ne 10, 3) := by decide +kernel
theorem dX12_judged_27 : decode cX12_judged 27 = .ok (.aload_n 0, 1) := by decide +kernel
theorem dX12_judged_28 : decode cX12_judged 28 = .ok (.getfield 238, 3) := by decide +kernel
theorem dX12_judged_31 : decode cX12_judged 31 = .ok (.goto 31, 3) := by decide +kernel
theorem dX12_judged_34 : decode cX12_judged 34 = .ok (.iload_n 2, 1) := by decide +kernel
theorem dX12_judged_35 : decode cX12_judged 35 = .ok (.iconst 1, 1) := by decide +kernel
theorem dX12_judged_36 : decode cX12_judged 36 = .ok (.if_icmp .ne 10, 3) := by decide +kernel
theorem dX12_judged_39 : decode cX12_judged 39 = .ok (.aload_n 0, 1) := by decide +kernel
theorem dX12_judged_40 : decode cX12_judged 40 = .ok (.getfield 291, 3) := by decide +kernel
theorem dX12_judged_43 : decode cX12_judged 43 = .ok (.goto 19, 3) := by decide +kernel
theorem dX12_judged_46 : decode cX12_judged 46 = .ok (.iload_n 2, 1) := by decide +kernel
theorem dX12_judged_47 : decode cX12_judged 47 = .ok (.iconst 2, 1) := by decide +kernel
theorem dX12_judged_48 : decode cX12_judged 48 = .ok (.if_icmp .ne 10, 3) := by decide +kernel
theorem dX12_judged_51 : decode cX12_judged 51 = .ok (.aload_n 0, 1) := by decide +kernel
theorem dX12_judged_52 : decode cX12_judged 52 = .ok (.getfield 294, 3) := by decide +kernel
theorem dX12_judged_55 : decode cX12_judged 55 = .ok (.goto 7, 3) := by decide +kernel
theorem dX12_judged_58 : decode cX12_judged 58 = .ok (.aload_n 0, 1) := by decide +kernel
theorem dX12_judged_59 : decode cX12_judged 59 = .ok (.invokevirtual 326, 3) := by decide +kernel
theorem dX12_judged_62 : decode cX12_judged 62 = .ok (.ireturn, 1) := by decide +kernel
theorem dX12_there_0 : decode cX12_there 0 = .ok (.aload_n 0, 1) := by decide +kernel
theorem dX12_there_1 : decode cX12_there 1 = .ok (.iload_n 1, 1) := by decide +kernel
theorem dX12_there_2 : decode cX12_there 2 = .ok (.iconst 0, 1) := by decide +kernel
theorem dX12_there_3 : decode cX12_there 3 = .ok (.invokevirtual 410, 3) := by decide +kernel
theorem dX12_there_6 : decode cX12_there 6 = .ok (.ireturn, 1) := by decide +kernel
theorem dX12_takes__0 : decode cX12_takes_ 0 = .ok (.aload_n 0, 1) := by decide +kernel
theorem dX12_takes__1 : decode cX12_takes_ 1 = .ok (.iload_n 1, 1) := by decide +kernel
theorem dX12_takes__2 : decode cX12_takes_ 2 = .ok (.iconst 1, 1) := by decide +kernel
theorem dX12_takes__3 : decode cX12_takes_ 3 = .ok (.invokevirtual 410, 3) := by decide +kernel
theorem dX12_takes__6 : decode cX12_takes_ 6 = .ok (.ireturn, 1) := by decide +kernel
theorem dX12_dares_0 : decode cX12_dares 0 = .ok (.aload_n 0, 1) := by decide +kernel
theorem dX12_dares_1 : decode cX12_dares 1 = .ok (.iload_n 1, 1) := by decide +kernel
theorem dX12_dares_2 : decode cX12_dares 2 = .ok (.iconst 2, 1) := by decide +kernel
theorem dX12_dares_3 : decode cX12_dares 3 = .ok (.invokevirtual 410, 3) := by decide +kernel
theorem dX12_dares_6 : decode cX12_dares 6 = .ok (.ireturn, 1) := by decide +kernel
theorem dX12_lied_0 : decode cX12_lied 0 = .ok (.aload_n 0, 1) := by decide +kernel
theorem dX12_lied_1 : decode cX12_lied 1 = .ok (.iload_n 1, 1) := by decide +kernel
theorem dX12_lied_2 : decode cX12_lied 2 = .ok (.iconst 3, 1) := by decide +kernel
theorem dX12_lied_3 : decode cX12_lied 3 = .ok (.invokevirtual 410, 3) := by decide +kernel
theorem dX12_lied_6 : decode cX12_lied 6 = .ok (.ireturn, 1) := by decide +kernel
theorem dX12_whyNoStamps_0 : decode cX12_whyNoStamps 0 = .ok (.iload_n 1, 1) := by decide +kernel
theorem dX12_whyNoStamps_1 : decode cX12_whyNoStamps 1 = .ok (.invokestatic 97, 3) := by decide +kernel
theorem dX12_whyNoStamps_4 : decode cX12_whyNoStamps 4 = .ok (.ifCond .eq 10, 3) := by decide +kernel
theorem dX12_whyNoStamps_7 : decode cX12_whyNoStamps 7 = .ok (.aload_n 0, 1) := by decide +kernel
theorem dX12_whyNoStamps_8 : decode cX12_whyNoStamps 8 = .ok (.invokevirtual 323, 3) := by decide +kernel
theorem dX12_whyNoStamps_11 : decode cX12_whyNoStamps 11 = .ok (.ifCond .ne 6, 3) := by decide +kernel
theorem dX12_whyNoStamps_14 : decode cX12_whyNoStamps 14 = .ok (.bipush (-2), 2) := by decide +kernel
theorem dX12_whyNoStamps_16 : decode cX12_whyNoStamps 16 = .ok (.ireturn, 1) := by decide +kernel
theorem dX12_whyNoStamps_17 : decode cX12_whyNoStamps 17 = .ok (.aload_n 0, 1) := by decide +kernel
theorem dX12_whyNoStamps_18 : decode cX12_whyNoStamps 18 = .ok (.getfield 7, 3) := by decide +kernel
theorem dX12_whyNoStamps_21 : decode cX12_whyNoStamps 21 = .ok (.iload_n 1, 1) := by decide +kernel
theorem dX12_whyNoStamps_22 : decode cX12_whyNoStamps 22 = .ok (.iaload, 1) := by decide +kernel
theorem dX12_whyNoStamps_23 : decode cX12_whyNoStamps 23 = .ok (.iconst (-1), 1) := by decide +kernel
theorem dX12_whyNoStamps_24 : decode cX12_whyNoStamps 24 = .ok (.if_icmp .ne 6, 3) := by decide +kernel
theorem dX12_whyNoStamps_27 : decode cX12_whyNoStamps 27 = .ok (.bipush (-6), 2) := by decide +kernel
theorem dX12_whyNoStamps_29 : decode cX12_whyNoStamps 29 = .ok (.ireturn, 1) := by decide +kernel
theorem dX12_whyNoStamps_30 : decode cX12_whyNoStamps 30 = .ok (.aload_n 0, 1) := by decide +kernel
theorem dX12_whyNoStamps_31 : decode cX12_whyNoStamps 31 = .ok (.getfield 13, 3) := by decide +kernel
theorem dX12_whyNoStamps_34 : decode cX12_whyNoStamps 34 = .ok (.iload_n 1, 1) := by decide +kernel
theorem dX12_whyNoStamps_35 : decode cX12_whyNoStamps 35 = .ok (.iaload, 1) := by decide +kernel
theorem dX12_whyNoStamps_36 : decode cX12_whyNoStamps 36 = .ok (.bipush 12, 2) := by decide +kernel
theorem dX12_whyNoStamps_38 : decode cX12_whyNoStamps 38 = .ok (.if_icmp .le 6, 3) := by decide +kernel
theorem dX12_whyNoStamps_41 : decode cX12_whyNoStamps 41 = .ok (.bipush (-2), 2) := by decide +kernel
theorem dX12_whyNoStamps_43 : decode cX12_whyNoStamps 43 = .ok (.ireturn, 1) := by decide +kernel
theorem dX12_whyNoStamps_44 : decode cX12_whyNoStamps 44 = .ok (.iconst 0, 1) := by decide +kernel
theorem dX12_whyNoStamps_45 : decode cX12_whyNoStamps 45 = .ok (.istore_n 2, 1) := by decide +kernel
theorem dX12_whyNoStamps_46 : decode cX12_whyNoStamps 46 = .ok (.iload_n 2, 1) := by decide +kernel
theorem dX12_whyNoStamps_47 : decode cX12_whyNoStamps 47 = .ok (.aload_n 0, 1) := by decide +kernel
theorem dX12_whyNoStamps_48 : decode cX12_whyNoStamps 48 = .ok (.getfield 13, 3) := by decide +kernel
theorem dX12_whyNoStamps_51 : decode cX12_whyNoStamps 51 = .ok (.iload_n 1, 1) := by decide +kernel
theorem dX12_whyNoStamps_52 : decode cX12_whyNoStamps 52 = .ok (.iaload, 1) := by decide +kernel
theorem dX12_whyNoStamps_53 : decode cX12_whyNoStamps 53 = .ok (.if_icmp .ge 56, 3) := by decide +kernel
theorem dX12_whyNoStamps_56 : decode cX12_whyNoStamps 56 = .ok (.aload_n 0, 1) := by decide +kernel
theorem dX12_whyNoStamps_57 : decode cX12_whyNoStamps 57 = .ok (.iload_n 1, 1) := by decide +kernel
theorem dX12_whyNoStamps_58 : decode cX12_whyNoStamps 58 = .ok (.iload_n 2, 1) := by decide +kernel
theorem dX12_whyNoStamps_59 : decode cX12_whyNoStamps 59 = .ok (.invokevirtual 400, 3) := by decide +kernel
theorem dX12_whyNoStamps_62 : decode cX12_whyNoStamps 62 = .ok (.lstore_n 3, 1) := by decide +kernel
theorem dX12_whyNoStamps_63 : decode cX12_whyNoStamps 63 = .ok (.lload_n 3, 1) := by decide +kernel
theorem dX12_whyNoStamps_64 : decode cX12_whyNoStamps 64 = .ok (.lconst 0, 1) := by decide +kernel
theorem dX12_whyNoStamps_65 : decode cX12_whyNoStamps 65 = .ok (.ldc2_w 413, 3) := by decide +kernel
theorem dX12_whyNoStamps_68 : decode cX12_whyNoStamps 68 = .ok (.invokestatic 93, 3) := by decide +kernel
theorem dX12_whyNoStamps_71 : decode cX12_whyNoStamps 71 = .ok (.ifCond .eq 29, 3) := by decide +kernel
theorem dX12_whyNoStamps_74 : decode cX12_whyNoStamps 74 = .ok (.lload_n 3, 1) := by decide +kernel
theorem dX12_whyNoStamps_75 : decode cX12_whyNoStamps 75 = .ok (.ldc2_w 272, 3) := by decide +kernel
theorem dX12_whyNoStamps_78 : decode cX12_whyNoStamps 78 = .ok (.lrem, 1) := by decide +kernel
theorem dX12_whyNoStamps_79 : decode cX12_whyNoStamps 79 = .ok (.lconst 1, 1) := by decide +kernel
theorem dX12_whyNoStamps_80 : decode cX12_whyNoStamps 80 = .ok (.lcmp, 1) := by decide +kernel
theorem dX12_whyNoStamps_81 : decode cX12_whyNoStamps 81 = .ok (.ifCond .gt 19, 3) := by decide +kernel
theorem dX12_whyNoStamps_84 : decode cX12_whyNoStamps 84 = .ok (.lload_n 3, 1) := by decide +kernel
theorem dX12_whyNoStamps_85 : decode cX12_whyNoStamps 85 = .ok (.ldc2_w 272, 3) := by decide +kernel
theorem dX12_whyNoStamps_88 : decode cX12_whyNoStamps 88 = .ok (.ldiv, 1) := by decide +kernel
theorem dX12_whyNoStamps_89 : decode cX12_whyNoStamps 89 = .ok (.aload_n 0, 1) := by decide +kernel
theorem dX12_whyNoStamps_90 : decode cX12_whyNoStamps 90 = .ok (.getfield 34, 3) := by decide +kernel
theorem dX12_whyNoStamps_93 : decode cX12_whyNoStamps 93 = .ok (.iconst 3, 1) := by decide +kernel
theorem dX12_whyNoStamps_94 : decode cX12_whyNoStamps 94 = .ok (.iaload, 1) := by decide +kernel
theorem dX12_whyNoStamps_95 : decode cX12_whyNoStamps 95 = .ok (.i2l, 1) := by decide +kernel
theorem dX12_whyNoStamps_96 : decode cX12_whyNoStamps 96 = .ok (.lcmp, 1) := by decide +kernel
theorem dX12_whyNoStamps_97 : decode cX12_whyNoStamps 97 = .ok (.ifCond .lt 6, 3) := by decide +kernel
theorem dX12_whyNoStamps_100 : decode cX12_whyNoStamps 100 = .ok (.bipush (-2), 2) := by decide +kernel
theorem dX12_whyNoStamps_102 : decode cX12_whyNoStamps 102 = .ok (.ireturn, 1) := by decide +kernel
theorem dX12_whyNoStamps_103 : decode cX12_whyNoStamps 103 = .ok (.iinc 2 1, 3) := by decide +kernel
theorem dX12_whyNoStamps_106 : decode cX12_whyNoStamps 106 = .ok (.goto (-60), 3) := by decide +kernel
theorem dX12_whyNoStamps_109 : decode cX12_whyNoStamps 109 = .ok (.iconst 0, 1) := by decide +kernel
theorem dX12_whyNoStamps_110 : decode cX12_whyNoStamps 110 = .ok (.ireturn, 1) := by decide +kernel
theorem dX12_looksAt_0 : decode cX12_looksAt 0 = .ok (.aload_n 0, 1) := by decide +kernel
theorem dX12_looksAt_1 : decode cX12_looksAt 1 = .ok (.iload_n 1, 1) := by decide +kernel
theorem dX12_looksAt_2 : decode cX12_looksAt 2 = .ok (.iload_n 2, 1) := by decide +kernel
theorem dX12_looksAt_3 : decode cX12_looksAt 3 = .ok (.invokevirtual 400, 3) := by decide +kernel
theorem dX12_looksAt_6 : decode cX12_looksAt 6 = .ok (.ldc2_w 272, 3) := by decide +kernel
theorem dX12_looksAt_9 : decode cX12_looksAt 9 = .ok (.ldiv, 1) := by decide +kernel
theorem dX12_looksAt_10 : decode cX12_looksAt 10 = .ok (.l2i, 1) := by decide +kernel
theorem dX12_looksAt_11 : decode cX12_looksAt 11 = .ok (.istore_n 3, 1) := by decide +kernel
theorem dX12_looksAt_12 : decode cX12_looksAt 12 = .ok (.iload_n 2, 1) := by decide +kernel
theorem dX12_looksAt_13 : decode cX12_looksAt 13 = .ok (.istore 4, 2) := by decide +kernel
theorem dX12_looksAt_15 : decode cX12_looksAt 15 = .ok (.iload 4, 2) := by decide +kernel
theorem dX12_looksAt_17 : decode cX12_looksAt 17 = .ok (.ifCond .le 56, 3) := by decide +kernel
theorem dX12_looksAt_20 : decode cX12_looksAt 20 = .ok (.iload_n 2, 1) := by decide +kernel
theorem dX12_looksAt_21 : decode cX12_looksAt 21 = .ok (.iload 4, 2) := by decide +kernel
theorem dX12_looksAt_23 : decode cX12_looksAt 23 = .ok (.isub, 1) := by decide +kernel
theorem dX12_looksAt_24 : decode cX12_looksAt 24 = .ok (.aload_n 0, 1) := by decide +kernel
theorem dX12_looksAt_25 : decode cX12_looksAt 25 = .ok (.getfield 43, 3) := by decide +kernel
theorem dX12_looksAt_28 : decode cX12_looksAt 28 = .ok (.iconst 3, 1) := by decide +kernel
theorem dX12_looksAt_29 : decode cX12_looksAt 29 = .ok (.iload_n 3, 1) := by decide +kernel
theorem dX12_looksAt_30 : decode cX12_looksAt 30 = .ok (.imul, 1) := by decide +kernel
theorem dX12_looksAt_31 : decode cX12_looksAt 31 = .ok (.iconst 2, 1) := by decide +kernel
theorem dX12_looksAt_32 : decode cX12_looksAt 32 = .ok (.iadd, 1) := by decide +kernel
theorem dX12_looksAt_33 : decode cX12_looksAt 33 = .ok (.iaload, 1) := by decide +kernel
theorem dX12_looksAt_34 : decode cX12_looksAt 34 = .ok (.if_icmp .ge 39, 3) := by decide +kernel
theorem dX12_looksAt_37 : decode cX12_looksAt 37 = .ok (.aload_n 0, 1) := by decide +kernel
theorem dX12_looksAt_38 : decode cX12_looksAt 38 = .ok (.iload_n 1, 1) := by decide +kernel
theorem dX12_looksAt_39 : decode cX12_looksAt 39 = .ok (.iload 4, 2) := by decide +kernel
theorem dX12_looksAt_41 : decode cX12_looksAt 41 = .ok (.invokevirtual 400, 3) := by decide +kernel
theorem dX12_looksAt_44 : decode cX12_looksAt 44 = .ok (.ldc2_w 272, 3) := by decide +kernel
theorem dX12_looksAt_47 : decode cX12_looksAt 47 = .ok (.lrem, 1) := by decide +kernel
theorem dX12_looksAt_48 : decode cX12_looksAt 48 = .ok (.aload_n 0, 1) := by decide +kernel
theorem dX12_looksAt_49 : decode cX12_looksAt 49 = .ok (.iload_n 1, 1) := by decide +kernel
theorem dX12_looksAt_50 : decode cX12_looksAt 50 = .ok (.iload 4, 2) := by decide +kernel
theorem dX12_looksAt_52 : decode cX12_looksAt 52 = .ok (.iconst 1, 1) := by decide +kernel
theorem dX12_looksAt_53 : decode cX12_looksAt 53 = .ok (.isub, 1) := by decide +kernel
theorem dX12_looksAt_54 : decode cX12_looksAt 54 = .ok (.invokevirtual 400, 3) := by decide +kernel
theorem dX12_looksAt_57 : decode cX12_looksAt 57 = .ok (.ldc2_w 272, 3) := by decide +kernel
theorem dX12_looksAt_60 : decode cX12_looksAt 60 = .ok (.lrem, 1) := by decide +kernel
theorem dX12_looksAt_61 : decode cX12_looksAt 61 = .ok (.lcmp, 1) := by decide +kernel
theorem dX12_looksAt_62 : decode cX12_looksAt 62 = .ok (.ifCond .ne 5, 3) := by decide +kernel
theorem dX12_looksAt_65 : decode cX12_looksAt 65 = .ok (.iconst 0, 1) := by decide +kernel
theorem dX12_looksAt_66 : decode cX12_looksAt 66 = .ok (.ireturn, 1) := by decide +kernel
theorem dX12_looksAt_67 : decode cX12_looksAt 67 = .ok (.iinc 4 (-1), 3) := by decide +kernel
theorem dX12_looksAt_70 : decode cX12_looksAt 70 = .ok (.goto (-55), 3) := by decide +kernel
theorem dX12_looksAt_73 : decode cX12_looksAt 73 = .ok (.iconst 1, 1) := by decide +kernel
theorem dX12_looksAt_74 : decode cX12_looksAt 74 = .ok (.ireturn, 1) := by decide +kernel
theorem dX12_kindOf_0 : decode cX12_kindOf 0 = .ok (.aload_n 0, 1) := by decide +kernel
theorem dX12_kindOf_1 : decode cX12_kindOf 1 = .ok (.getfield 238, 3) := by decide +kernel
theorem dX12_kindOf_4 : decode cX12_kindOf 4 = .ok (.bipush 49, 2) := by decide +kernel
theorem dX12_kindOf_6 : decode cX12_kindOf 6 = .ok (.imul, 1) := by decide +kernel
theorem dX12_kindOf_7 : decode cX12_kindOf 7 = .ok (.aload_n 0, 1) := by decide +kernel
theorem dX12_kindOf_8 : decode cX12_kindOf 8 = .ok (.getfield 244, 3) := by decide +kernel
theorem dX12_kindOf_11 : decode cX12_kindOf 11 = .ok (.bipush 7, 2) := by decide +kernel
theorem dX12_kindOf_13 : decode cX12_kindOf 13 = .ok (.imul, 1) := by decide +kernel
theorem dX12_kindOf_14 : decode cX12_kindOf 14 = .ok (.iadd, 1) := by decide +kernel
theorem dX12_kindOf_15 : decode cX12_kindOf 15 = .ok (.aload_n 0, 1) := by decide +kernel
theorem dX12_kindOf_16 : decode cX12_kindOf 16 = .ok (.getfield 247, 3) := by decide +kernel
theorem dX12_kindOf_19 : decode cX12_kindOf 19 = .ok (.iadd, 1) := by decide +kernel
theorem dX12_kindOf_20 : decode cX12_kindOf 20 = .ok (.ireturn, 1) := by decide +kernel
theorem dX12_completes_0 : decode cX12_completes 0 = .ok (.sipush 3136, 3) := by decide +kernel
theorem dX12_completes_3 : decode cX12_completes 3 = .ok (.iload_n 2, 1) := by decide +kernel
theorem dX12_completes_4 : decode cX12_completes 4 = .ok (.imul, 1) := by decide +kernel
theorem dX12_completes_5 : decode cX12_completes 5 = .ok (.aload_n 0, 1) := by decide +kernel
theorem dX12_completes_6 : decode cX12_completes 6 = .ok (.invokevirtual 415, 3) := by decide +kernel
theorem dX12_completes_9 : decode cX12_completes 9 = .ok (.iadd, 1) := by decide +kernel
theorem dX12_completes_10 : decode cX12_completes 10 = .ok (.istore_n 3, 1) := by decide +kernel
theorem dX12_completes_11 : decode cX12_completes 11 = .ok (.aload_n 0, 1) := by decide +kernel
theorem dX12_completes_12 : decode cX12_completes 12 = .ok (.getfield 70, 3) := by decide +kernel
theorem dX12_completes_15 : decode cX12_completes 15 = .ok (.iload_n 3, 1) := by decide +kernel
theorem dX12_completes_16 : decode cX12_completes 16 = .ok (.laload, 1) := by decide +kernel
theorem dX12_completes_17 : decode cX12_completes 17 = .ok (.lconst 0, 1) := by decide +kernel
theorem dX12_completes_18 : decode cX12_completes 18 = .ok (.lcmp, 1) := by decide +kernel
theorem dX12_completes_19 : decode cX12_completes 19 = .ok (.ifCond .lt 5, 3) := by decide +kernel
theorem dX12_completes_22 : decode cX12_completes 22 = .ok (.iload_n 3, 1) := by decide +kernel
theorem dX12_completes_23 : decode cX12_completes 23 = .ok (.ireturn, 1) := by decide +kernel
theorem dX12_completes_24 : decode cX12_completes 24 = .ok (.aload_n 0, 1) := by decide +kernel
theorem dX12_completes_25 : decode cX12_completes 25 = .ok (.getfield 70, 3) := by decide +kernel
theorem dX12_completes_28 : decode cX12_completes 28 = .ok (.iload_n 3, 1) := by decide +kernel
theorem dX12_completes_29 : decode cX12_completes 29 = .ok (.lconst 0, 1) := by decide +kernel
theorem dX12_completes_30 : decode cX12_completes 30 = .ok (.lastore, 1) := by decide +kernel
theorem dX12_completes_31 : decode cX12_completes 31 = .ok (.aload_n 0, 1) := by decide +kernel
theorem dX12_completes_32 : decode cX12_completes 32 = .ok (.getfield 73, 3) := by decide +kernel
theorem dX12_completes_35 : decode cX12_completes 35 = .ok (.iload_n 3, 1) := by decide +kernel
theorem dX12_completes_36 : decode cX12_completes 36 = .ok (.ldc_w 357, 3) := by decide +kernel
theorem dX12_completes_39 : decode cX12_completes 39 = .ok (.iastore, 1) := by decide +kernel
theorem dX12_completes_40 : decode cX12_completes 40 = .ok (.aload_n 0, 1) := by decide +kernel
theorem dX12_completes_41 : decode cX12_completes 41 = .ok (.getfield 76, 3) := by decide +kernel
theorem dX12_completes_44 : decode cX12_completes 44 = .ok (.iload_n 3, 1) := by decide +kernel
theorem dX12_completes_45 : decode cX12_completes 45 = .ok (.bipush 63, 2) := by decide +kernel
theorem dX12_completes_47 : decode cX12_completes 47 = .ok (.iastore, 1) := by decide +kernel
theorem dX12_completes_48 : decode cX12_completes 48 = .ok (.aload_n 0, 1) := by decide +kernel
theorem dX12_completes_49 : decode cX12_completes 49 = .ok (.getfield 79, 3) := by decide +kernel
theorem dX12_completes_52 : decode cX12_completes 52 = .ok (.iload_n 3, 1) := by decide +kernel
theorem dX12_completes_53 : decode cX12_completes 53 = .ok (.iconst 0, 1) := by decide +kernel
theorem dX12_completes_54 : decode cX12_completes 54 = .ok (.iastore, 1) := by decide +kernel
theorem dX12_completes_55 : decode cX12_completes 55 = .ok (.iload_n 2, 1) := by decide +kernel
theorem dX12_completes_56 : decode cX12_completes 56 = .ok (.aload_n 0, 1) := by decide +kernel
theorem dX12_completes_57 : decode cX12_completes 57 = .ok (.getfield 13, 3) := by decide +kernel
theorem dX12_completes_60 : decode cX12_completes 60 = .ok (.iload_n 1, 1) := by decide +kernel
theorem dX12_completes_61 : decode cX12_completes 61 = .ok (.iaload, 1) := by decide +kernel
theorem dX12_completes_62 : decode cX12_completes 62 = .ok (.if_icmp .ne 39, 3) := by decide +kernel
theorem dX12_completes_65 : decode cX12_completes 65 = .ok (.aload_n 0, 1) := by decide +kernel
theorem dX12_completes_66 : decode cX12_completes 66 = .ok (.getfield 70, 3) := by decide +kernel
theorem dX12_completes_69 : decode cX12_completes 69 = .ok (.iload_n 3, 1) := by decide +kernel
theorem dX12_completes_70 : decode cX12_completes 70 = .ok (.lconst 1, 1) := by decide +kernel
theorem dX12_completes_71 : decode cX12_completes 71 = .ok (.lastore, 1) := by decide +kernel
theorem dX12_completes_72 : decode cX12_completes 72 = .ok (.aload_n 0, 1) := by decide +kernel
theorem dX12_completes_73 : decode cX12_completes 73 = .ok (.getfield 73, 3) := by decide +kernel
theorem dX12_completes_76 : decode cX12_completes 76 = .ok (.iload_n 3, 1) := by decide +kernel
theorem dX12_completes_77 : decode cX12_completes 77 = .ok (.iconst 0, 1) := by decide +kernel
theorem dX12_completes_78 : decode cX12_completes 78 = .ok (.iastore, 1) := by decide +kernel
theorem dX12_completes_79 : decode cX12_completes 79 = .ok (.aload_n 0, 1) := by decide +kernel
theorem dX12_completes_80 : decode cX12_completes 80 = .ok (.getfield 76, 3) := by decide +kernel
theorem dX12_completes_83 : decode cX12_completes 83 = .ok (.iload_n 3, 1) := by decide +kernel
theorem dX12_completes_84 : decode cX12_completes 84 = .ok (.aload_n 0, 1) := by decide +kernel
theorem dX12_completes_85 : decode cX12_completes 85 = .ok (.getfield 238, 3) := by decide +kernel
theorem dX12_completes_88 : decode cX12_completes 88 = .ok (.iastore, 1) := by decide +kernel
theorem dX12_completes_89 : decode cX12_completes 89 = .ok (.aload_n 0, 1) := by decide +kernel
theorem dX12_completes_90 : decode cX12_completes 90 = .ok (.getfield 79, 3) := by decide +kernel
theorem dX12_completes_93 : decode cX12_completes 93 = .ok (.iload_n 3, 1) := by decide +kernel
theorem dX12_completes_94 : decode cX12_completes 94 = .ok (.aload_n 0, 1) := by decide +kernel
theorem dX12_completes_95 : decode cX12_completes 95 = .ok (.getfield 238, 3) := by decide +kernel
theorem dX12_completes_98 : decode cX12_completes 98 = .ok (.iastore, 1) := by decide +kernel
theorem dX12_completes_99 : decode cX12_completes 99 = .ok (.iload_n 3, 1) := by decide +kernel
theorem dX12_completes_100 : decode cX12_completes 100 = .ok (.ireturn, 1) := by decide +kernel
theorem dX12_completes_101 : decode cX12_completes 101 = .ok (.aload_n 0, 1) := by decide +kernel
theorem dX12_completes_102 : decode cX12_completes 102 = .ok (.iload_n 1, 1) := by decide +kernel
theorem dX12_completes_103 : decode cX12_completes 103 = .ok (.iload_n 2, 1) := by decide +kernel
theorem dX12_completes_104 : decode cX12_completes 104 = .ok (.invokevirtual 418, 3) := by decide +kernel
theorem dX12_completes_107 : decode cX12_completes 107 = .ok (.ifCond .ne 5, 3) := by decide +kernel
theorem dX12_completes_110 : decode cX12_completes 110 = .ok (.iload_n 3, 1) := by decide +kernel
theorem dX12_completes_111 : decode cX12_completes 111 = .ok (.ireturn, 1) := by decide +kernel
theorem dX12_completes_112 : decode cX12_completes 112 = .ok (.aload_n 0, 1) := by decide +kernel
theorem dX12_completes_113 : decode cX12_completes 113 = .ok (.iload_n 1, 1) := by decide +kernel
theorem dX12_completes_114 : decode cX12_completes 114 = .ok (.iload_n 2, 1) := by decide +kernel
theorem dX12_completes_115 : decode cX12_completes 115 = .ok (.invokevirtual 400, 3) := by decide +kernel
theorem dX12_completes_118 : decode cX12_completes 118 = .ok (.ldc2_w 272, 3) := by decide +kernel
theorem dX12_completes_121 : decode cX12_completes 121 = .ok (.ldiv, 1) := by decide +kernel
theorem dX12_completes_122 : decode cX12_completes 122 = .ok (.l2i, 1) := by decide +kernel
theorem dX12_completes_123 : decode cX12_completes 123 = .ok (.istore 4, 2) := by decide +kernel
theorem dX12_completes_125 : decode cX12_completes 125 = .ok (.aload_n 0, 1) := by decide +kernel
theorem dX12_completes_126 : decode cX12_completes 126 = .ok (.iload_n 1, 1) := by decide +kernel
theorem dX12_completes_127 : decode cX12_completes 127 = .ok (.iload_n 2, 1) := by decide +kernel
theorem dX12_completes_128 : decode cX12_completes 128 = .ok (.invokevirtual 400, 3) := by decide +kernel
theorem dX12_completes_131 : decode cX12_completes 131 = .ok (.ldc2_w 272, 3) := by decide +kernel
theorem dX12_completes_134 : decode cX12_completes 134 = .ok (.lrem, 1) := by decide +kernel
theorem dX12_completes_135 : decode cX12_completes 135 = .ok (.l2i, 1) := by decide +kernel
theorem dX12_completes_136 : decode cX12_completes 136 = .ok (.istore 5, 2) := by decide +kernel
theorem dX12_completes_138 : decode cX12_completes 138 = .ok (.aload_n 0, 1) := by decide +kernel
theorem dX12_completes_139 : decode cX12_completes 139 = .ok (.getfield 238, 3) := by decide +kernel
theorem dX12_completes_142 : decode cX12_completes 142 = .ok (.istore 6, 2) := by decide +kernel
theorem dX12_completes_144 : decode cX12_completes 144 = .ok (.aload_n 0, 1) := by decide +kernel
theorem dX12_completes_145 : decode cX12_completes 145 = .ok (.getfield 244, 3) := by decide +kernel
theorem dX12_completes_148 : decode cX12_completes 148 = .ok (.istore 7, 2) := by decide +kernel
theorem dX12_completes_150 : decode cX12_completes 150 = .ok (.aload_n 0, 1) := by decide +kernel
theorem dX12_completes_151 : decode cX12_completes 151 = .ok (.getfield 247, 3) := by decide +kernel
theorem dX12_completes_154 : decode cX12_completes 154 = .ok (.istore 8, 2) := by decide +kernel
theorem dX12_completes_156 : decode cX12_completes 156 = .ok (.iconst 0, 1) := by decide +kernel
theorem dX12_completes_157 : decode cX12_completes 157 = .ok (.istore 9, 2) := by decide +kernel
theorem dX12_completes_159 : decode cX12_completes 159 = .ok (.iload 9, 2) := by decide +kernel
theorem dX12_completes_161 : decode cX12_completes 161 = .ok (.aload_n 0, 1) := by decide +kernel
theorem dX12_completes_162 : decode cX12_completes 162 = .ok (.getfield 34, 3) := by decide +kernel
theorem dX12_completes_165 : decode cX12_completes 165 = .ok (.iconst 2, 1) := by decide +kernel
theorem dX12_completes_166 : decode cX12_completes 166 = .ok (.iaload, 1) := by decide +kernel
theorem dX12_completes_167 : decode cX12_completes 167 = .ok (.if_icmp .ge 262, 3) := by decide +kernel
theorem dX12_completes_170 : decode cX12_completes 170 = .ok (.iconst (-1), 1) := by decide +kernel
theorem dX12_completes_171 : decode cX12_completes 171 = .ok (.istore 10, 2) := by decide +kernel
theorem dX12_completes_173 : decode cX12_completes 173 = .ok (.iload 10, 2) := by decide +kernel
theorem dX12_completes_175 : decode cX12_completes 175 = .ok (.aload_n 0, 1) := by decide +kernel
theorem dX12_completes_176 : decode cX12_completes 176 = .ok (.getfield 34, 3) := by decide +kernel
theorem dX12_completes_179 : decode cX12_completes 179 = .ok (.iconst 2, 1) := by decide +kernel
theorem dX12_completes_180 : decode cX12_completes 180 = .ok (.iaload, 1) := by decide +kernel
theorem dX12_completes_181 : decode cX12_completes 181 = .ok (.if_icmp .ge 242, 3) := by decide +kernel
theorem dX12_completes_184 : decode cX12_completes 184 = .ok (.aload_n 0, 1) := by decide +kernel
theorem dX12_completes_185 : decode cX12_completes 185 = .ok (.iload 9, 2) := by decide +kernel
theorem dX12_completes_187 : decode cX12_completes 187 = .ok (.invokevirtual 253, 3) := by decide +kernel
theorem dX12_completes_190 : decode cX12_completes 190 = .ok (.iload 5, 2) := by decide +kernel
theorem dX12_completes_192 : decode cX12_completes 192 = .ok (.if_icmp .ne 225, 3) := by decide +kernel
theorem dX12_completes_195 : decode cX12_completes 195 = .ok (.aload_n 0, 1) := by decide +kernel
theorem dX12_completes_196 : decode cX12_completes 196 = .ok (.getfield 34, 3) := by decide +kernel
theorem dX12_completes_199 : decode cX12_completes 199 = .ok (.iconst 4, 1) := by decide +kernel
theorem dX12_completes_200 : decode cX12_completes 200 = .ok (.iaload, 1) := by decide +kernel
theorem dX12_completes_201 : decode cX12_completes 201 = .ok (.iload 9, 2) := by decide +kernel
theorem dX12_completes_203 : decode cX12_completes 203 = .ok (.invokestatic 189, 3) := by decide +kernel
theorem dX12_completes_206 : decode cX12_completes 206 = .ok (.ifCond .ne 211, 3) := by decide +kernel
theorem dX12_completes_209 : decode cX12_completes 209 = .ok (.aload_n 0, 1) := by decide +kernel
theorem dX12_completes_210 : decode cX12_completes 210 = .ok (.iload 9, 2) := by decide +kernel
theorem dX12_completes_212 : decode cX12_completes 212 = .ok (.iload 4, 2) := by decide +kernel
theorem dX12_completes_214 : decode cX12_completes 214 = .ok (.ifCond .ne 10, 3) := by decide +kernel
theorem dX12_completes_217 : decode cX12_completes 217 = .ok (.aload_n 0, 1) := by decide +kernel
theorem dX12_completes_218 : decode cX12_completes 218 = .ok (.getfield 244, 3) := by decide +kernel
theorem dX12_completes_221 : decode cX12_completes 221 = .ok (.goto 7, 3) := by decide +kernel
theorem dX12_completes_224 : decode cX12_completes 224 = .ok (.aload_n 0, 1) := by decide +kernel
theorem dX12_completes_225 : decode cX12_completes 225 = .ok (.getfield 247, 3) := by decide +kernel
theorem dX12_completes_228 : decode cX12_completes 228 = .ok (.iload 4, 2) := by decide +kernel
theorem dX12_completes_230 : decode cX12_completes 230 = .ok (.invokevirtual 256, 3) := by decide +kernel
theorem dX12_completes_233 : decode cX12_completes 233 = .ok (.ifCond .ne 6, 3) := by decide +kernel
theorem dX12_completes_236 : decode cX12_completes 236 = .ok (.goto 181, 3) := by decide +kernel
theorem dX12_completes_239 : decode cX12_completes 239 = .ok (.iload 10, 2) := by decide +kernel
theorem dX12_completes_241 : decode cX12_completes 241 = .ok (.iconst (-1), 1) := by decide +kernel
theorem dX12_completes_242 : decode cX12_completes 242 = .ok (.if_icmp .eq 31, 3) := by decide +kernel
theorem dX12_completes_245 : decode cX12_completes 245 = .ok (.aload_n 0, 1) := by decide +kernel
theorem dX12_completes_246 : decode cX12_completes 246 = .ok (.getfield 34, 3) := by decide +kernel
theorem dX12_completes_249 : decode cX12_completes 249 = .ok (.iconst 4, 1) := by decide +kernel
theorem dX12_completes_250 : decode cX12_completes 250 = .ok (.iaload, 1) := by decide +kernel
theorem dX12_completes_251 : decode cX12_completes 251 = .ok (.iload 10, 2) := by decide +kernel
theorem dX12_completes_253 : decode cX12_completes 253 = .ok (.invokestatic 189, 3) := by decide +kernel
theorem dX12_completes_256 : decode cX12_completes 256 = .ok (.ifCond .eq 161, 3) := by decide +kernel
theorem dX12_completes_259 : decode cX12_completes 259 = .ok (.aload_n 0, 1) := by decide +kernel
theorem dX12_completes_260 : decode cX12_completes 260 = .ok (.iload 10, 2) := by decide +kernel
theorem dX12_completes_262 : decode cX12_completes 262 = .ok (.invokevirtual 253, 3) := by decide +kernel
theorem dX12_completes_265 : decode cX12_completes 265 = .ok (.iload 5, 2) := by decide +kernel
theorem dX12_completes_267 : decode cX12_completes 267 = .ok (.if_icmp .eq 6, 3) := by decide +kernel
theorem dX12_completes_270 : decode cX12_completes 270 = .ok (.goto 147, 3) := by decide +kernel
theorem dX12_completes_273 : decode cX12_completes 273 = .ok (.aload_n 0, 1) := by decide +kernel
theorem dX12_completes_274 : decode cX12_completes 274 = .ok (.iload 9, 2) := by decide +kernel
theorem dX12_completes_276 : decode cX12_completes 276 = .ok (.iload 10, 2) := by decide +kernel
theorem dX12_completes_278 : decode cX12_completes 278 = .ok (.iload 4, 2) := by decide +kernel
theorem dX12_completes_280 : decode cX12_completes 280 = .ok (.invokevirtual 278, 3) := by decide +kernel
theorem dX12_completes_283 : decode cX12_completes 283 = .ok (.aload_n 0, 1) := by decide +kernel
theorem dX12_completes_284 : decode cX12_completes 284 = .ok (.iload_n 1, 1) := by decide +kernel
theorem dX12_completes_285 : decode cX12_completes 285 = .ok (.iload_n 2, 1) := by decide +kernel
theorem dX12_completes_286 : decode cX12_completes 286 = .ok (.iconst 1, 1) := by decide +kernel
theorem dX12_completes_287 : decode cX12_completes 287 = .ok (.iadd, 1) := by decide +kernel
theorem dX12_completes_288 : decode cX12_completes 288 = .ok (.invokevirtual 421, 3) := by decide +kernel
theorem dX12_completes_291 : decode cX12_completes 291 = .ok (.istore 11, 2) := by decide +kernel
theorem dX12_completes_293 : decode cX12_completes 293 = .ok (.aload_n 0, 1) := by decide +kernel
theorem dX12_completes_294 : decode cX12_completes 294 = .ok (.getfield 70, 3) := by decide +kernel
theorem dX12_completes_297 : decode cX12_completes 297 = .ok (.iload 11, 2) := by decide +kernel
theorem dX12_completes_299 : decode cX12_completes 299 = .ok (.laload, 1) := by decide +kernel
theorem dX12_completes_300 : decode cX12_completes 300 = .ok (.lconst 0, 1) := by decide +kernel
theorem dX12_completes_301 : decode cX12_completes 301 = .ok (.lcmp, 1) := by decide +kernel
theorem dX12_completes_302 : decode cX12_completes 302 = .ok (.ifCond .le 97, 3) := by decide +kernel
theorem dX12_completes_305 : decode cX12_completes 305 = .ok (.aload_n 0, 1) := by decide +kernel
theorem dX12_completes_306 : decode cX12_completes 306 = .ok (.getfield 70, 3) := by decide +kernel
theorem dX12_completes_309 : decode cX12_completes 309 = .ok (.iload_n 3, 1) := by decide +kernel
theorem dX12_completes_310 : decode cX12_completes 310 = .ok (.dup2, 1) := by decide +kernel
theorem dX12_completes_311 : decode cX12_completes 311 = .ok (.laload, 1) := by decide +kernel
theorem dX12_completes_312 : decode cX12_completes 312 = .ok (.aload_n 0, 1) := by decide +kernel
theorem dX12_completes_313 : decode cX12_completes 313 = .ok (.getfield 70, 3) := by decide +kernel
theorem dX12_completes_316 : decode cX12_completes 316 = .ok (.iload 11, 2) := by decide +kernel
theorem dX12_completes_318 : decode cX12_completes 318 = .ok (.laload, 1) := by decide +kernel
theorem dX12_completes_319 : decode cX12_completes 319 = .ok (.ladd, 1) := by decide +kernel
theorem dX12_completes_320 : decode cX12_completes 320 = .ok (.lastore, 1) := by decide +kernel
theorem dX12_completes_321 : decode cX12_completes 321 = .ok (.aload_n 0, 1) := by decide +kernel
theorem dX12_completes_322 : decode cX12_completes 322 = .ok (.getfield 73, 3) := by decide +kernel
theorem dX12_completes_325 : decode cX12_completes 325 = .ok (.iload 11, 2) := by decide +kernel
theorem dX12_completes_327 : decode cX12_completes 327 = .ok (.iaload, 1) := by decide +kernel
theorem dX12_completes_328 : decode cX12_completes 328 = .ok (.aload_n 0, 1) := by decide +kernel
theorem dX12_completes_329 : decode cX12_completes 329 = .ok (.iload 9, 2) := by decide +kernel
theorem dX12_completes_331 : decode cX12_completes 331 = .ok (.iload 4, 2) := by decide +kernel
theorem dX12_completes_333 : decode cX12_completes 333 = .ok (.invokevirtual 300, 3) := by decide +kernel
theorem dX12_completes_336 : decode cX12_completes 336 = .ok (.iadd, 1) := by decide +kernel
theorem dX12_completes_337 : decode cX12_completes 337 = .ok (.istore 12, 2) := by decide +kernel
theorem dX12_completes_339 : decode cX12_completes 339 = .ok (.aload_n 0, 1) := by decide +kernel
theorem dX12_completes_340 : decode cX12_completes 340 = .ok (.getfield 73, 3) := by decide +kernel
theorem dX12_completes_343 : decode cX12_completes 343 = .ok (.iload_n 3, 1) := by decide +kernel
theorem dX12_completes_344 : decode cX12_completes 344 = .ok (.iload 12, 2) := by decide +kernel
theorem dX12_completes_346 : decode cX12_completes 346 = .ok (.aload_n 0, 1) := by decide +kernel
theorem dX12_completes_347 : decode cX12_completes 347 = .ok (.getfield 73, 3) := by decide +kernel
theorem dX12_completes_350 : decode cX12_completes 350 = .ok (.iload_n 3, 1) := by decide +kernel
theorem dX12_completes_351 : decode cX12_completes 351 = .ok (.iaload, 1) := by decide +kernel
theorem dX12_completes_352 : decode cX12_completes 352 = .ok (.if_icmp .ge 8, 3) := by decide +kernel
theorem dX12_completes_355 : decode cX12_completes 355 = .ok (.iload 12, 2) := by decide +kernel
theorem dX12_completes_357 : decode cX12_completes 357 = .ok (.goto 9, 3) := by decide +kernel
theorem dX12_completes_360 : decode cX12_completes 360 = .ok (.aload_n 0, 1) := by decide +kernel
theorem dX12_completes_361 : decode cX12_completes 361 = .ok (.getfield 73, 3) := by decide +kernel
theorem dX12_completes_364 : decode cX12_completes 364 = .ok (.iload_n 3, 1) := by decide +kernel
theorem dX12_completes_365 : decode cX12_completes 365 = .ok (.iaload, 1) := by decide +kernel
theorem dX12_completes_366 : decode cX12_completes 366 = .ok (.iastore, 1) := by decide +kernel
theorem dX12_completes_367 : decode cX12_completes 367 = .ok (.aload_n 0, 1) := by decide +kernel
theorem dX12_completes_368 : decode cX12_completes 368 = .ok (.getfield 76, 3) := by decide +kernel
theorem dX12_completes_371 : decode cX12_completes 371 = .ok (.iload_n 3, 1) := by decide +kernel
theorem dX12_completes_372 : decode cX12_completes 372 = .ok (.dup2, 1) := by decide +kernel
theorem dX12_completes_373 : decode cX12_completes 373 = .ok (.iaload, 1) := by decide +kernel
theorem dX12_completes_374 : decode cX12_completes 374 = .ok (.aload_n 0, 1) := by decide +kernel
theorem dX12_completes_375 : decode cX12_completes 375 = .ok (.getfield 76, 3) := by decide +kernel
theorem dX12_completes_378 : decode cX12_completes 378 = .ok (.iload 11, 2) := by decide +kernel
theorem dX12_completes_380 : decode cX12_completes 380 = .ok (.iaload, 1) := by decide +kernel
theorem dX12_completes_381 : decode cX12_completes 381 = .ok (.iand, 1) := by decide +kernel
theorem dX12_completes_382 : decode cX12_completes 382 = .ok (.iastore, 1) := by decide +kernel
theorem dX12_completes_383 : decode cX12_completes 383 = .ok (.aload_n 0, 1) := by decide +kernel
theorem dX12_completes_384 : decode cX12_completes 384 = .ok (.getfield 79, 3) := by decide +kernel
theorem dX12_completes_387 : decode cX12_completes 387 = .ok (.iload_n 3, 1) := by decide +kernel
theorem dX12_completes_388 : decode cX12_completes 388 = .ok (.dup2, 1) := by decide +kernel
theorem dX12_completes_389 : decode cX12_completes 389 = .ok (.iaload, 1) := by decide +kernel
theorem dX12_completes_390 : decode cX12_completes 390 = .ok (.aload_n 0, 1) := by decide +kernel
theorem dX12_completes_391 : decode cX12_completes 391 = .ok (.getfield 79, 3) := by decide +kernel
theorem dX12_completes_394 : decode cX12_completes 394 = .ok (.iload 11, 2) := by decide +kernel
theorem dX12_completes_396 : decode cX12_completes 396 = .ok (.iaload, 1) := by decide +kernel
theorem dX12_completes_397 : decode cX12_completes 397 = .ok (.ior, 1) := by decide +kernel
theorem dX12_completes_398 : decode cX12_completes 398 = .ok (.iastore, 1) := by decide +kernel
theorem dX12_completes_399 : decode cX12_completes 399 = .ok (.aload_n 0, 1) := by decide +kernel
theorem dX12_completes_400 : decode cX12_completes 400 = .ok (.iload 6, 2) := by decide +kernel
theorem dX12_completes_402 : decode cX12_completes 402 = .ok (.putfield 238, 3) := by decide +kernel
theorem dX12_completes_405 : decode cX12_completes 405 = .ok (.aload_n 0, 1) := by decide +kernel
theorem dX12_completes_406 : decode cX12_completes 406 = .ok (.iload 7, 2) := by decide +kernel
theorem dX12_completes_408 : decode cX12_completes 408 = .ok (.putfield 244, 3) := by decide +kernel
theorem dX12_completes_411 : decode cX12_completes 411 = .ok (.aload_n 0, 1) := by decide +kernel
theorem dX12_completes_412 : decode cX12_completes 412 = .ok (.iload 8, 2) := by decide +kernel
theorem dX12_completes_414 : decode cX12_completes 414 = .ok (.putfield 247, 3) := by decide +kernel
theorem dX12_completes_417 : decode cX12_completes 417 = .ok (.iinc 10 1, 3) := by decide +kernel
theorem dX12_completes_420 : decode cX12_completes 420 = .ok (.goto (-247), 3) := by decide +kernel
theorem dX12_completes_423 : decode cX12_completes 423 = .ok (.iinc 9 1, 3) := by decide +kernel
theorem dX12_completes_426 : decode cX12_completes 426 = .ok (.goto (-267), 3) := by decide +kernel
theorem dX12_completes_429 : decode cX12_completes 429 = .ok (.iload_n 3, 1) := by decide +kernel
theorem dX12_completes_430 : decode cX12_completes 430 = .ok (.ireturn, 1) := by decide +kernel
theorem dX12_laysStamps_0 : decode cX12_laysStamps 0 = .ok (.iconst 0, 1) := by decide +kernel
theorem dX12_laysStamps_1 : decode cX12_laysStamps 1 = .ok (.istore_n 2, 1) := by decide +kernel
theorem dX12_laysStamps_2 : decode cX12_laysStamps 2 = .ok (.iload_n 2, 1) := by decide +kernel
theorem dX12_laysStamps_3 : decode cX12_laysStamps 3 = .ok (.ldc 69, 2) := by decide +kernel
theorem dX12_laysStamps_5 : decode cX12_laysStamps 5 = .ok (.if_icmp .ge 18, 3) := by decide +kernel
theorem dX12_laysStamps_8 : decode cX12_laysStamps 8 = .ok (.aload_n 0, 1) := by decide +kernel
theorem dX12_laysStamps_9 : decode cX12_laysStamps 9 = .ok (.getfield 70, 3) := by decide +kernel
theorem dX12_laysStamps_12 : decode cX12_laysStamps 12 = .ok (.iload_n 2, 1) := by decide +kernel
theorem dX12_laysStamps_13 : decode cX12_laysStamps 13 = .ok (.ldc2_w 132, 3) := by decide +kernel
theorem dX12_laysStamps_16 : decode cX12_laysStamps 16 = .ok (.lastore, 1) := by decide +kernel
theorem dX12_laysStamps_17 : decode cX12_laysStamps 17 = .ok (.iinc 2 1, 3) := by decide +kernel
theorem dX12_laysStamps_20 : decode cX12_laysStamps 20 = .ok (.goto (-18), 3) := by decide +kernel
theorem dX12_laysStamps_23 : decode cX12_laysStamps 23 = .ok (.aload_n 0, 1) := by decide +kernel
theorem dX12_laysStamps_24 : decode cX12_laysStamps 24 = .ok (.iconst 0, 1) := by decide +kernel
theorem dX12_laysStamps_25 : decode cX12_laysStamps 25 = .ok (.invokevirtual 288, 3) := by decide +kernel
theorem dX12_laysStamps_28 : decode cX12_laysStamps 28 = .ok (.aload_n 0, 1) := by decide +kernel
theorem dX12_laysStamps_29 : decode cX12_laysStamps 29 = .ok (.iload_n 1, 1) := by decide +kernel
theorem dX12_laysStamps_30 : decode cX12_laysStamps 30 = .ok (.iconst 0, 1) := by decide +kernel
theorem dX12_laysStamps_31 : decode cX12_laysStamps 31 = .ok (.invokevirtual 421, 3) := by decide +kernel
theorem dX12_laysStamps_34 : decode cX12_laysStamps 34 = .ok (.pop, 1) := by decide +kernel
theorem dX12_laysStamps_35 : decode cX12_laysStamps 35 = .ok (.return_, 1) := by decide +kernel
theorem dX12_stamped_0 : decode cX12_stamped 0 = .ok (.aload_n 0, 1) := by decide +kernel
theorem dX12_stamped_1 : decode cX12_stamped 1 = .ok (.iconst 0, 1) := by decide +kernel
theorem dX12_stamped_2 : decode cX12_stamped 2 = .ok (.putfield 88, 3) := by decide +kernel
theorem dX12_stamped_5 : decode cX12_stamped 5 = .ok (.aload_n 0, 1) := by decide +kernel
theorem dX12_stamped_6 : decode cX12_stamped 6 = .ok (.iload_n 1, 1) := by decide +kernel
theorem dX12_stamped_7 : decode cX12_stamped 7 = .ok (.invokevirtual 424, 3) := by decide +kernel
theorem dX12_stamped_10 : decode cX12_stamped 10 = .ok (.istore_n 2, 1) := by decide +kernel
theorem dX12_stamped_11 : decode cX12_stamped 11 = .ok (.iload_n 2, 1) := by decide +kernel
theorem dX12_stamped_12 : decode cX12_stamped 12 = .ok (.ifCond .eq 6, 3) := by decide +kernel
theorem dX12_stamped_15 : decode cX12_stamped 15 = .ok (.iload_n 2, 1) := by decide +kernel
theorem dX12_stamped_16 : decode cX12_stamped 16 = .ok (.i2l, 1) := by decide +kernel
theorem dX12_stamped_17 : decode cX12_stamped 17 = .ok (.lreturn, 1) := by decide +kernel
theorem dX12_stamped_18 : decode cX12_stamped 18 = .ok (.aload_n 0, 1) := by decide +kernel
theorem dX12_stamped_19 : decode cX12_stamped 19 = .ok (.iload_n 1, 1) := by decide +kernel
theorem dX12_stamped_20 : decode cX12_stamped 20 = .ok (.invokevirtual 427, 3) := by decide +kernel
theorem dX12_stamped_23 : decode cX12_stamped 23 = .ok (.aload_n 0, 1) := by decide +kernel
theorem dX12_stamped_24 : decode cX12_stamped 24 = .ok (.getfield 70, 3) := by decide +kernel
theorem dX12_stamped_27 : decode cX12_stamped 27 = .ok (.iconst 0, 1) := by decide +kernel
theorem dX12_stamped_28 : decode cX12_stamped 28 = .ok (.laload, 1) := by decide +kernel
theorem dX12_stamped_29 : decode cX12_stamped 29 = .ok (.lreturn, 1) := by decide +kernel
theorem dX12_laysHad_0 : decode cX12_laysHad 0 = .ok (.aload_n 0, 1) := by decide +kernel
theorem dX12_laysHad_1 : decode cX12_laysHad 1 = .ok (.iload_n 1, 1) := by decide +kernel
theorem dX12_laysHad_2 : decode cX12_laysHad 2 = .ok (.invokevirtual 427, 3) := by decide +kernel
theorem dX12_laysHad_5 : decode cX12_laysHad 5 = .ok (.iconst 0, 1) := by decide +kernel
theorem dX12_laysHad_6 : decode cX12_laysHad 6 = .ok (.istore_n 2, 1) := by decide +kernel
theorem dX12_laysHad_7 : decode cX12_laysHad 7 = .ok (.iload_n 2, 1) := by decide +kernel
theorem dX12_laysHad_8 : decode cX12_laysHad 8 = .ok (.bipush 12, 2) := by decide +kernel
theorem dX12_laysHad_10 : decode cX12_laysHad 10 = .ok (.if_icmp .ge 16, 3) := by decide +kernel
theorem dX12_laysHad_13 : decode cX12_laysHad 13 = .ok (.aload_n 0, 1) := by decide +kernel
theorem dX12_laysHad_14 : decode cX12_laysHad 14 = .ok (.getfield 82, 3) := by decide +kernel
theorem dX12_laysHad_17 : decode cX12_laysHad 17 = .ok (.iload_n 2, 1) := by decide +kernel
theorem dX12_laysHad_18 : decode cX12_laysHad 18 = .ok (.iconst 0, 1) := by decide +kernel
theorem dX12_laysHad_19 : decode cX12_laysHad 19 = .ok (.iastore, 1) := by decide +kernel
theorem dX12_laysHad_20 : decode cX12_laysHad 20 = .ok (.iinc 2 1, 3) := by decide +kernel
theorem dX12_laysHad_23 : decode cX12_laysHad 23 = .ok (.goto (-16), 3) := by decide +kernel
theorem dX12_laysHad_26 : decode cX12_laysHad 26 = .ok (.iconst 0, 1) := by decide +kernel
theorem dX12_laysHad_27 : decode cX12_laysHad 27 = .ok (.istore_n 2, 1) := by decide +kernel
theorem dX12_laysHad_28 : decode cX12_laysHad 28 = .ok (.iload_n 2, 1) := by decide +kernel
theorem dX12_laysHad_29 : decode cX12_laysHad 29 = .ok (.ldc 69, 2) := by decide +kernel
theorem dX12_laysHad_31 : decode cX12_laysHad 31 = .ok (.if_icmp .ge 24, 3) := by decide +kernel
theorem dX12_laysHad_34 : decode cX12_laysHad 34 = .ok (.aload_n 0, 1) := by decide +kernel
theorem dX12_laysHad_35 : decode cX12_laysHad 35 = .ok (.getfield 85, 3) := by decide +kernel
theorem dX12_laysHad_38 : decode cX12_laysHad 38 = .ok (.iload_n 2, 1) := by decide +kernel
theorem dX12_laysHad_39 : decode cX12_laysHad 39 = .ok (.iload_n 2, 1) := by decide +kernel
theorem dX12_laysHad_40 : decode cX12_laysHad 40 = .ok (.ifCond .ne 7, 3) := by decide +kernel
theorem dX12_laysHad_43 : decode cX12_laysHad 43 = .ok (.iconst 1, 1) := by decide +kernel
theorem dX12_laysHad_44 : decode cX12_laysHad 44 = .ok (.goto 4, 3) := by decide +kernel
theorem dX12_laysHad_47 : decode cX12_laysHad 47 = .ok (.iconst 0, 1) := by decide +kernel
theorem dX12_laysHad_48 : decode cX12_laysHad 48 = .ok (.bastore, 1) := by decide +kernel
theorem dX12_laysHad_49 : decode cX12_laysHad 49 = .ok (.iinc 2 1, 3) := by decide +kernel
theorem dX12_laysHad_52 : decode cX12_laysHad 52 = .ok (.goto (-24), 3) := by decide +kernel
theorem dX12_laysHad_55 : decode cX12_laysHad 55 = .ok (.iconst 0, 1) := by decide +kernel
theorem dX12_laysHad_56 : decode cX12_laysHad 56 = .ok (.istore_n 2, 1) := by decide +kernel
theorem dX12_laysHad_57 : decode cX12_laysHad 57 = .ok (.iload_n 2, 1) := by decide +kernel
theorem dX12_laysHad_58 : decode cX12_laysHad 58 = .ok (.aload_n 0, 1) := by decide +kernel
theorem dX12_laysHad_59 : decode cX12_laysHad 59 = .ok (.getfield 13, 3) := by decide +kernel
theorem dX12_laysHad_62 : decode cX12_laysHad 62 = .ok (.iload_n 1, 1) := by decide +kernel
theorem dX12_laysHad_63 : decode cX12_laysHad 63 = .ok (.iaload, 1) := by decide +kernel
theorem dX12_laysHad_64 : decode cX12_laysHad 64 = .ok (.if_icmp .ge 95, 3) := by decide +kernel
theorem dX12_laysHad_67 : decode cX12_laysHad 67 = .ok (.aload_n 0, 1) := by decide +kernel
theorem dX12_laysHad_68 : decode cX12_laysHad 68 = .ok (.iload_n 1, 1) := by decide +kernel
theorem dX12_laysHad_69 : decode cX12_laysHad 69 = .ok (.iload_n 2, 1) := by decide +kernel
theorem dX12_laysHad_70 : decode cX12_laysHad 70 = .ok (.invokevirtual 400, 3) := by decide +kernel
theorem dX12_laysHad_73 : decode cX12_laysHad 73 = .ok (.ldc2_w 272, 3) := by decide +kernel
theorem dX12_laysHad_76 : decode cX12_laysHad 76 = .ok (.ldiv, 1) := by decide +kernel
theorem dX12_laysHad_77 : decode cX12_laysHad 77 = .ok (.l2i, 1) := by decide +kernel
theorem dX12_laysHad_78 : decode cX12_laysHad 78 = .ok (.istore_n 3, 1) := by decide +kernel
theorem dX12_laysHad_79 : decode cX12_laysHad 79 = .ok (.aload_n 0, 1) := by decide +kernel
theorem dX12_laysHad_80 : decode cX12_laysHad 80 = .ok (.iload_n 1, 1) := by decide +kernel
theorem dX12_laysHad_81 : decode cX12_laysHad 81 = .ok (.iload_n 2, 1) := by decide +kernel
theorem dX12_laysHad_82 : decode cX12_laysHad 82 = .ok (.invokevirtual 400, 3) := by decide +kernel
theorem dX12_laysHad_85 : decode cX12_laysHad 85 = .ok (.ldc2_w 272, 3) := by decide +kernel
theorem dX12_laysHad_88 : decode cX12_laysHad 88 = .ok (.lrem, 1) := by decide +kernel
theorem dX12_laysHad_89 : decode cX12_laysHad 89 = .ok (.l2i, 1) := by decide +kernel
theorem dX12_laysHad_90 : decode cX12_laysHad 90 = .ok (.istore 4, 2) := by decide +kernel
theorem dX12_laysHad_92 : decode cX12_laysHad 92 = .ok (.iconst 0, 1) := by decide +kernel
theorem dX12_laysHad_93 : decode cX12_laysHad 93 = .ok (.istore 5, 2) := by decide +kernel
theorem dX12_laysHad_95 : decode cX12_laysHad 95 = .ok (.iload 5, 2) := by decide +kernel
theorem dX12_laysHad_97 : decode cX12_laysHad 97 = .ok (.sipush 3136, 3) := by decide +kernel
theorem dX12_laysHad_100 : decode cX12_laysHad 100 = .ok (.if_icmp .ge 53, 3) := by decide +kernel
theorem dX12_laysHad_103 : decode cX12_laysHad 103 = .ok (.aload_n 0, 1) := by decide +kernel
theorem dX12_laysHad_104 : decode cX12_laysHad 104 = .ok (.getfield 85, 3) := by decide +kernel
theorem dX12_laysHad_107 : decode cX12_laysHad 107 = .ok (.sipush 3136, 3) := by decide +kernel
theorem dX12_laysHad_110 : decode cX12_laysHad 110 = .ok (.iload_n 2, 1) := by decide +kernel
theorem dX12_laysHad_111 : decode cX12_laysHad 111 = .ok (.imul, 1) := by decide +kernel
theorem dX12_laysHad_112 : decode cX12_laysHad 112 = .ok (.iload 5, 2) := by decide +kernel
theorem dX12_laysHad_114 : decode cX12_laysHad 114 = .ok (.iadd, 1) := by decide +kernel
theorem dX12_laysHad_115 : decode cX12_laysHad 115 = .ok (.baload, 1) := by decide +kernel
theorem dX12_laysHad_116 : decode cX12_laysHad 116 = .ok (.ifCond .eq 31, 3) := by decide +kernel
theorem dX12_laysHad_119 : decode cX12_laysHad 119 = .ok (.aload_n 0, 1) := by decide +kernel
theorem dX12_laysHad_120 : decode cX12_laysHad 120 = .ok (.getfield 70, 3) := by decide +kernel
theorem dX12_laysHad_123 : decode cX12_laysHad 123 = .ok (.sipush 3136, 3) := by decide +kernel
theorem dX12_laysHad_126 : decode cX12_laysHad 126 = .ok (.iload_n 2, 1) := by decide +kernel
theorem dX12_laysHad_127 : decode cX12_laysHad 127 = .ok (.imul, 1) := by decide +kernel
theorem dX12_laysHad_128 : decode cX12_laysHad 128 = .ok (.iload 5, 2) := by decide +kernel
theorem dX12_laysHad_130 : decode cX12_laysHad 130 = .ok (.iadd, 1) := by decide +kernel
theorem dX12_laysHad_131 : decode cX12_laysHad 131 = .ok (.laload, 1) := by decide +kernel
theorem dX12_laysHad_132 : decode cX12_laysHad 132 = .ok (.lconst 0, 1) := by decide +kernel
theorem dX12_laysHad_133 : decode cX12_laysHad 133 = .ok (.lcmp, 1) := by decide +kernel
theorem dX12_laysHad_134 : decode cX12_laysHad 134 = .ok (.ifCond .le 13, 3) := by decide +kernel
theorem dX12_laysHad_137 : decode cX12_laysHad 137 = .ok (.aload_n 0, 1) := by decide +kernel
theorem dX12_laysHad_138 : decode cX12_laysHad 138 = .ok (.iload_n 2, 1) := by decide +kernel
theorem dX12_laysHad_139 : decode cX12_laysHad 139 = .ok (.iload 5, 2) := by decide +kernel
theorem dX12_laysHad_141 : decode cX12_laysHad 141 = .ok (.iload_n 3, 1) := by decide +kernel
theorem dX12_laysHad_142 : decode cX12_laysHad 142 = .ok (.iload 4, 2) := by decide +kernel
theorem dX12_laysHad_144 : decode cX12_laysHad 144 = .ok (.invokevirtual 430, 3) := by decide +kernel
theorem dX12_laysHad_147 : decode cX12_laysHad 147 = .ok (.iinc 5 1, 3) := by decide +kernel
theorem dX12_laysHad_150 : decode cX12_laysHad 150 = .ok (.goto (-55), 3) := by decide +kernel
theorem dX12_laysHad_153 : decode cX12_laysHad 153 = .ok (.iinc 2 1, 3) := by decide +kernel
theorem dX12_laysHad_156 : decode cX12_laysHad 156 = .ok (.goto (-99), 3) := by decide +kernel
theorem dX12_laysHad_159 : decode cX12_laysHad 159 = .ok (.return_, 1) := by decide +kernel
theorem dX12_goesOn_0 : decode cX12_goesOn 0 = .ok (.iconst 0, 1) := by decide +kernel
theorem dX12_goesOn_1 : decode cX12_goesOn 1 = .ok (.istore 5, 2) := by decide +kernel
theorem dX12_goesOn_3 : decode cX12_goesOn 3 = .ok (.iload 5, 2) := by decide +kernel
theorem dX12_goesOn_5 : decode cX12_goesOn 5 = .ok (.aload_n 0, 1) := by decide +kernel
theorem dX12_goesOn_6 : decode cX12_goesOn 6 = .ok (.getfield 34, 3) := by decide +kernel
theorem dX12_goesOn_9 : decode cX12_goesOn 9 = .ok (.iconst 2, 1) := by decide +kernel
theorem dX12_goesOn_10 : decode cX12_goesOn 10 = .ok (.iaload, 1) := by decide +kernel
theorem dX12_goesOn_11 : decode cX12_goesOn 11 = .ok (.if_icmp .ge 202, 3) := by decide +kernel
theorem dX12_goesOn_14 : decode cX12_goesOn 14 = .ok (.iconst (-1), 1) := by decide +kernel
theorem dX12_goesOn_15 : decode cX12_goesOn 15 = .ok (.istore 6, 2) := by decide +kernel
theorem dX12_goesOn_17 : decode cX12_goesOn 17 = .ok (.iload 6, 2) := by decide +kernel
theorem dX12_goesOn_19 : decode cX12_goesOn 19 = .ok (.aload_n 0, 1) := by decide +kernel
theorem dX12_goesOn_20 : decode cX12_goesOn 20 = .ok (.getfield 34, 3) := by decide +kernel
theorem dX12_goesOn_23 : decode cX12_goesOn 23 = .ok (.iconst 2, 1) := by decide +kernel
theorem dX12_goesOn_24 : decode cX12_goesOn 24 = .ok (.iaload, 1) := by decide +kernel
theorem dX12_goesOn_25 : decode cX12_goesOn 25 = .ok (.if_icmp .ge 182, 3) := by decide +kernel
theorem dX12_goesOn_28 : decode cX12_goesOn 28 = .ok (.aload_n 0, 1) := by decide +kernel
theorem dX12_goesOn_29 : decode cX12_goesOn 29 = .ok (.iload_n 2, 1) := by decide +kernel
theorem dX12_goesOn_30 : decode cX12_goesOn 30 = .ok (.bipush 49, 2) := by decide +kernel
theorem dX12_goesOn_32 : decode cX12_goesOn 32 = .ok (.idiv, 1) := by decide +kernel
theorem dX12_goesOn_33 : decode cX12_goesOn 33 = .ok (.putfield 238, 3) := by decide +kernel
theorem dX12_goesOn_36 : decode cX12_goesOn 36 = .ok (.aload_n 0, 1) := by decide +kernel
theorem dX12_goesOn_37 : decode cX12_goesOn 37 = .ok (.iload_n 2, 1) := by decide +kernel
theorem dX12_goesOn_38 : decode cX12_goesOn 38 = .ok (.bipush 7, 2) := by decide +kernel
theorem dX12_goesOn_40 : decode cX12_goesOn 40 = .ok (.idiv, 1) := by decide +kernel
theorem dX12_goesOn_41 : decode cX12_goesOn 41 = .ok (.bipush 7, 2) := by decide +kernel
theorem dX12_goesOn_43 : decode cX12_goesOn 43 = .ok (.irem, 1) := by decide +kernel
theorem dX12_goesOn_44 : decode cX12_goesOn 44 = .ok (.putfield 244, 3) := by decide +kernel
theorem dX12_goesOn_47 : decode cX12_goesOn 47 = .ok (.aload_n 0, 1) := by decide +kernel
theorem dX12_goesOn_48 : decode cX12_goesOn 48 = .ok (.iload_n 2, 1) := by decide +kernel
theorem dX12_goesOn_49 : decode cX12_goesOn 49 = .ok (.bipush 7, 2) := by decide +kernel
theorem dX12_goesOn_51 : decode cX12_goesOn 51 = .ok (.irem, 1) := by decide +kernel
theorem dX12_goesOn_52 : decode cX12_goesOn 52 = .ok (.putfield 247, 3) := by decide +kernel
theorem dX12_goesOn_55 : decode cX12_goesOn 55 = .ok (.aload_n 0, 1) := by decide +kernel
theorem dX12_goesOn_56 : decode cX12_goesOn 56 = .ok (.iload 5, 2) := by decide +kernel
theorem dX12_goesOn_58 : decode cX12_goesOn 58 = .ok (.invokevirtual 253, 3) := by decide +kernel
theorem dX12_goesOn_61 : decode cX12_goesOn 61 = .ok (.iload 4, 2) := by decide +kernel
theorem dX12_goesOn_63 : decode cX12_goesOn 63 = .ok (.if_icmp .ne 138, 3) := by decide +kernel
theorem dX12_goesOn_66 : decode cX12_goesOn 66 = .ok (.aload_n 0, 1) := by decide +kernel
theorem dX12_goesOn_67 : decode cX12_goesOn 67 = .ok (.getfield 34, 3) := by decide +kernel
theorem dX12_goesOn_70 : decode cX12_goesOn 70 = .ok (.iconst 4, 1) := by decide +kernel
theorem dX12_goesOn_71 : decode cX12_goesOn 71 = .ok (.iaload, 1) := by decide +kernel
theorem dX12_goesOn_72 : decode cX12_goesOn 72 = .ok (.iload 5, 2) := by decide +kernel
theorem dX12_goesOn_74 : decode cX12_goesOn 74 = .ok (.invokestatic 189, 3) := by decide +kernel
theorem dX12_goesOn_77 : decode cX12_goesOn 77 = .ok (.ifCond .ne 124, 3) := by decide +kernel
theorem dX12_goesOn_80 : decode cX12_goesOn 80 = .ok (.aload_n 0, 1) := by decide +kernel
theorem dX12_goesOn_81 : decode cX12_goesOn 81 = .ok (.iload 5, 2) := by decide +kernel
theorem dX12_goesOn_83 : decode cX12_goesOn 83 = .ok (.iload_n 3, 1) := by decide +kernel
theorem dX12_goesOn_84 : decode cX12_goesOn 84 = .ok (.ifCond .ne 10, 3) := by decide +kernel
theorem dX12_goesOn_87 : decode cX12_goesOn 87 = .ok (.aload_n 0, 1) := by decide +kernel
theorem dX12_goesOn_88 : decode cX12_goesOn 88 = .ok (.getfield 244, 3) := by decide +kernel
theorem dX12_goesOn_91 : decode cX12_goesOn 91 = .ok (.goto 7, 3) := by decide +kernel
theorem dX12_goesOn_94 : decode cX12_goesOn 94 = .ok (.aload_n 0, 1) := by decide +kernel
theorem dX12_goesOn_95 : decode cX12_goesOn 95 = .ok (.getfield 247, 3) := by decide +kernel
theorem dX12_goesOn_98 : decode cX12_goesOn 98 = .ok (.iload_n 3, 1) := by decide +kernel
theorem dX12_goesOn_99 : decode cX12_goesOn 99 = .ok (.invokevirtual 256, 3) := by decide +kernel
theorem dX12_goesOn_102 : decode cX12_goesOn 102 = .ok (.ifCond .ne 6, 3) := by decide +kernel
theorem dX12_goesOn_105 : decode cX12_goesOn 105 = .ok (.goto 96, 3) := by decide +kernel
theorem dX12_goesOn_108 : decode cX12_goesOn 108 = .ok (.iload 6, 2) := by decide +kernel
theorem dX12_goesOn_110 : decode cX12_goesOn 110 = .ok (.iconst (-1), 1) := by decide +kernel
theorem dX12_goesOn_111 : decode cX12_goesOn 111 = .ok (.if_icmp .eq 31, 3) := by decide +kernel
theorem dX12_goesOn_114 : decode cX12_goesOn 114 = .ok (.aload_n 0, 1) := by decide +kernel
theorem dX12_goesOn_115 : decode cX12_goesOn 115 = .ok (.getfield 34, 3) := by decide +kernel
theorem dX12_goesOn_118 : decode cX12_goesOn 118 = .ok (.iconst 4, 1) := by decide +kernel
theorem dX12_goesOn_119 : decode cX12_goesOn 119 = .ok (.iaload, 1) := by decide +kernel
theorem dX12_goesOn_120 : decode cX12_goesOn 120 = .ok (.iload 6, 2) := by decide +kernel
theorem dX12_goesOn_122 : decode cX12_goesOn 122 = .ok (.invokestatic 189, 3) := by decide +kernel
theorem dX12_goesOn_125 : decode cX12_goesOn 125 = .ok (.ifCond .eq 76, 3) := by decide +kernel
theorem dX12_goesOn_128 : decode cX12_goesOn 128 = .ok (.aload_n 0, 1) := by decide +kernel
theorem dX12_goesOn_129 : decode cX12_goesOn 129 = .ok (.iload 6, 2) := by decide +kernel
theorem dX12_goesOn_131 : decode cX12_goesOn 131 = .ok (.invokevirtual 253, 3) := by decide +kernel
theorem dX12_goesOn_134 : decode cX12_goesOn 134 = .ok (.iload 4, 2) := by decide +kernel
theorem dX12_goesOn_136 : decode cX12_goesOn 136 = .ok (.if_icmp .eq 6, 3) := by decide +kernel
theorem dX12_goesOn_139 : decode cX12_goesOn 139 = .ok (.goto 62, 3) := by decide +kernel
theorem dX12_goesOn_142 : decode cX12_goesOn 142 = .ok (.aload_n 0, 1) := by decide +kernel
theorem dX12_goesOn_143 : decode cX12_goesOn 143 = .ok (.iload 5, 2) := by decide +kernel
theorem dX12_goesOn_145 : decode cX12_goesOn 145 = .ok (.iload 6, 2) := by decide +kernel
theorem dX12_goesOn_147 : decode cX12_goesOn 147 = .ok (.iload_n 3, 1) := by decide +kernel
theorem dX12_goesOn_148 : decode cX12_goesOn 148 = .ok (.invokevirtual 278, 3) := by decide +kernel
theorem dX12_goesOn_151 : decode cX12_goesOn 151 = .ok (.sipush 3136, 3) := by decide +kernel
theorem dX12_goesOn_154 : decode cX12_goesOn 154 = .ok (.iload_n 1, 1) := by decide +kernel
theorem dX12_goesOn_155 : decode cX12_goesOn 155 = .ok (.iconst 1, 1) := by decide +kernel
theorem dX12_goesOn_156 : decode cX12_goesOn 156 = .ok (.iadd, 1) := by decide +kernel
theorem dX12_goesOn_157 : decode cX12_goesOn 157 = .ok (.imul, 1) := by decide +kernel
theorem dX12_goesOn_158 : decode cX12_goesOn 158 = .ok (.aload_n 0, 1) := by decide +kernel
theorem dX12_goesOn_159 : decode cX12_goesOn 159 = .ok (.invokevirtual 415, 3) := by decide +kernel
theorem dX12_goesOn_162 : decode cX12_goesOn 162 = .ok (.iadd, 1) := by decide +kernel
theorem dX12_goesOn_163 : decode cX12_goesOn 163 = .ok (.istore 7, 2) := by decide +kernel
theorem dX12_goesOn_165 : decode cX12_goesOn 165 = .ok (.aload_n 0, 1) := by decide +kernel
theorem dX12_goesOn_166 : decode cX12_goesOn 166 = .ok (.getfield 70, 3) := by decide +kernel
theorem dX12_goesOn_169 : decode cX12_goesOn 169 = .ok (.iload 7, 2) := by decide +kernel
theorem dX12_goesOn_171 : decode cX12_goesOn 171 = .ok (.laload, 1) := by decide +kernel
theorem dX12_goesOn_172 : decode cX12_goesOn 172 = .ok (.lconst 0, 1) := by decide +kernel
theorem dX12_goesOn_173 : decode cX12_goesOn 173 = .ok (.lcmp, 1) := by decide +kernel
theorem dX12_goesOn_174 : decode cX12_goesOn 174 = .ok (.ifCond .gt 6, 3) := by decide +kernel
theorem dX12_goesOn_177 : decode cX12_goesOn 177 = .ok (.goto 24, 3) := by decide +kernel
theorem dX12_goesOn_180 : decode cX12_goesOn 180 = .ok (.aload_n 0, 1) := by decide +kernel
theorem dX12_goesOn_181 : decode cX12_goesOn 181 = .ok (.getfield 85, 3) := by decide +kernel
theorem dX12_goesOn_184 : decode cX12_goesOn 184 = .ok (.iload 7, 2) := by decide +kernel
theorem dX12_goesOn_186 : decode cX12_goesOn 186 = .ok (.iconst 1, 1) := by decide +kernel
theorem dX12_goesOn_187 : decode cX12_goesOn 187 = .ok (.bastore, 1) := by decide +kernel
theorem dX12_goesOn_188 : decode cX12_goesOn 188 = .ok (.aload_n 0, 1) := by decide +kernel
theorem dX12_goesOn_189 : decode cX12_goesOn 189 = .ok (.getfield 82, 3) := by decide +kernel
theorem dX12_goesOn_192 : decode cX12_goesOn 192 = .ok (.iload_n 1, 1) := by decide +kernel
theorem dX12_goesOn_193 : decode cX12_goesOn 193 = .ok (.dup2, 1) := by decide +kernel
theorem dX12_goesOn_194 : decode cX12_goesOn 194 = .ok (.iaload, 1) := by decide +kernel
theorem dX12_goesOn_195 : decode cX12_goesOn 195 = .ok (.iconst 1, 1) := by decide +kernel
theorem dX12_goesOn_196 : decode cX12_goesOn 196 = .ok (.iload 5, 2) := by decide +kernel
theorem dX12_goesOn_198 : decode cX12_goesOn 198 = .ok (.ishl, 1) := by decide +kernel
theorem dX12_goesOn_199 : decode cX12_goesOn 199 = .ok (.ior, 1) := by decide +kernel
theorem dX12_goesOn_200 : decode cX12_goesOn 200 = .ok (.iastore, 1) := by decide +kernel
theorem dX12_goesOn_201 : decode cX12_goesOn 201 = .ok (.iinc 6 1, 3) := by decide +kernel
theorem dX12_goesOn_204 : decode cX12_goesOn 204 = .ok (.goto (-187), 3) := by decide +kernel
theorem dX12_goesOn_207 : decode cX12_goesOn 207 = .ok (.iinc 5 1, 3) := by decide +kernel
theorem dX12_goesOn_210 : decode cX12_goesOn 210 = .ok (.goto (-207), 3) := by decide +kernel
theorem dX12_goesOn_213 : decode cX12_goesOn 213 = .ok (.return_, 1) := by decide +kernel
theorem dX12_had_0 : decode cX12_had 0 = .ok (.aload_n 0, 1) := by decide +kernel
theorem dX12_had_1 : decode cX12_had 1 = .ok (.iconst 0, 1) := by decide +kernel
theorem dX12_had_2 : decode cX12_had 2 = .ok (.putfield 88, 3) := by decide +kernel
theorem dX12_had_5 : decode cX12_had 5 = .ok (.iload_n 2, 1) := by decide +kernel
theorem dX12_had_6 : decode cX12_had 6 = .ok (.ifCond .lt 11, 3) := by decide +kernel
theorem dX12_had_9 : decode cX12_had 9 = .ok (.aload_n 0, 1) := by decide +kernel
theorem dX12_had_10 : decode cX12_had 10 = .ok (.iload_n 1, 1) := by decide +kernel
theorem dX12_had_11 : decode cX12_had 11 = .ok (.invokevirtual 424, 3) := by decide +kernel
theorem dX12_had_14 : decode cX12_had 14 = .ok (.goto 5, 3) := by decide +kernel
theorem dX12_had_17 : decode cX12_had 17 = .ok (.bipush (-2), 2) := by decide +kernel
theorem dX12_had_19 : decode cX12_had 19 = .ok (.istore_n 3, 1) := by decide +kernel
theorem dX12_had_20 : decode cX12_had 20 = .ok (.iload_n 3, 1) := by decide +kernel
theorem dX12_had_21 : decode cX12_had 21 = .ok (.ifCond .eq 5, 3) := by decide +kernel
theorem dX12_had_24 : decode cX12_had 24 = .ok (.iload_n 3, 1) := by decide +kernel
theorem dX12_had_25 : decode cX12_had 25 = .ok (.ireturn, 1) := by decide +kernel
theorem dX12_had_26 : decode cX12_had 26 = .ok (.iload_n 2, 1) := by decide +kernel
theorem dX12_had_27 : decode cX12_had 27 = .ok (.aload_n 0, 1) := by decide +kernel
theorem dX12_had_28 : decode cX12_had 28 = .ok (.getfield 13, 3) := by decide +kernel
theorem dX12_had_31 : decode cX12_had 31 = .ok (.iload_n 1, 1) := by decide +kernel
theorem dX12_had_32 : decode cX12_had 32 = .ok (.iaload, 1) := by decide +kernel
theorem dX12_had_33 : decode cX12_had 33 = .ok (.if_icmp .lt 5, 3) := by decide +kernel
theorem dX12_had_36 : decode cX12_had 36 = .ok (.iconst 0, 1) := by decide +kernel
theorem dX12_had_37 : decode cX12_had 37 = .ok (.ireturn, 1) := by decide +kernel
theorem dX12_had_38 : decode cX12_had 38 = .ok (.aload_n 0, 1) := by decide +kernel
theorem dX12_had_39 : decode cX12_had 39 = .ok (.iload_n 1, 1) := by decide +kernel
theorem dX12_had_40 : decode cX12_had 40 = .ok (.invokevirtual 434, 3) := by decide +kernel
theorem dX12_had_43 : decode cX12_had 43 = .ok (.aload_n 0, 1) := by decide +kernel
theorem dX12_had_44 : decode cX12_had 44 = .ok (.getfield 82, 3) := by decide +kernel
theorem dX12_had_47 : decode cX12_had 47 = .ok (.iload_n 2, 1) := by decide +kernel
theorem dX12_had_48 : decode cX12_had 48 = .ok (.iaload, 1) := by decide +kernel
theorem dX12_had_49 : decode cX12_had 49 = .ok (.ireturn, 1) := by decide +kernel
theorem dX12_sure_0 : decode cX12_sure 0 = .ok (.aload_n 0, 1) := by decide +kernel
theorem dX12_sure_1 : decode cX12_sure 1 = .ok (.iconst 0, 1) := by decide +kernel
theorem dX12_sure_2 : decode cX12_sure 2 = .ok (.putfield 88, 3) := by decide +kernel
theorem dX12_sure_5 : decode cX12_sure 5 = .ok (.iload_n 2, 1) := by decide +kernel
theorem dX12_sure_6 : decode cX12_sure 6 = .ok (.i2l, 1) := by decide +kernel
theorem dX12_sure_7 : decode cX12_sure 7 = .ok (.lconst 0, 1) := by decide +kernel
theorem dX12_sure_8 : decode cX12_sure 8 = .ok (.lconst 1, 1) := by decide +kernel
theorem dX12_sure_9 : decode cX12_sure 9 = .ok (.invokestatic 93, 3) := by decide +kernel
theorem dX12_sure_12 : decode cX12_sure 12 = .ok (.ifCond .eq 11, 3) := by decide +kernel
theorem dX12_sure_15 : decode cX12_sure 15 = .ok (.aload_n 0, 1) := by decide +kernel
theorem dX12_sure_16 : decode cX12_sure 16 = .ok (.iload_n 1, 1) := by decide +kernel
theorem dX12_sure_17 : decode cX12_sure 17 = .ok (.invokevirtual 424, 3) := by decide +kernel
theorem dX12_sure_20 : decode cX12_sure 20 = .ok (.goto 5, 3) := by decide +kernel
theorem dX12_sure_23 : decode cX12_sure 23 = .ok (.bipush (-2), 2) := by decide +kernel
theorem dX12_sure_25 : decode cX12_sure 25 = .ok (.istore_n 3, 1) := by decide +kernel
theorem dX12_sure_26 : decode cX12_sure 26 = .ok (.iload_n 3, 1) := by decide +kernel
theorem dX12_sure_27 : decode cX12_sure 27 = .ok (.ifCond .eq 5, 3) := by decide +kernel
theorem dX12_sure_30 : decode cX12_sure 30 = .ok (.iload_n 3, 1) := by decide +kernel
theorem dX12_sure_31 : decode cX12_sure 31 = .ok (.ireturn, 1) := by decide +kernel
theorem dX12_sure_32 : decode cX12_sure 32 = .ok (.aload_n 0, 1) := by decide +kernel
theorem dX12_sure_33 : decode cX12_sure 33 = .ok (.iload_n 1, 1) := by decide +kernel
theorem dX12_sure_34 : decode cX12_sure 34 = .ok (.invokevirtual 427, 3) := by decide +kernel
theorem dX12_sure_37 : decode cX12_sure 37 = .ok (.aload_n 0, 1) := by decide +kernel
theorem dX12_sure_38 : decode cX12_sure 38 = .ok (.getfield 70, 3) := by decide +kernel
theorem dX12_sure_41 : decode cX12_sure 41 = .ok (.iconst 0, 1) := by decide +kernel
theorem dX12_sure_42 : decode cX12_sure 42 = .ok (.laload, 1) := by decide +kernel
theorem dX12_sure_43 : decode cX12_sure 43 = .ok (.lconst 0, 1) := by decide +kernel
theorem dX12_sure_44 : decode cX12_sure 44 = .ok (.lcmp, 1) := by decide +kernel
theorem dX12_sure_45 : decode cX12_sure 45 = .ok (.ifCond .ne 7, 3) := by decide +kernel
theorem dX12_sure_48 : decode cX12_sure 48 = .ok (.iconst 0, 1) := by decide +kernel
theorem dX12_sure_49 : decode cX12_sure 49 = .ok (.goto 22, 3) := by decide +kernel
theorem dX12_sure_52 : decode cX12_sure 52 = .ok (.iload_n 2, 1) := by decide +kernel
theorem dX12_sure_53 : decode cX12_sure 53 = .ok (.ifCond .ne 12, 3) := by decide +kernel
theorem dX12_sure_56 : decode cX12_sure 56 = .ok (.aload_n 0, 1) := by decide +kernel
theorem dX12_sure_57 : decode cX12_sure 57 = .ok (.getfield 76, 3) := by decide +kernel
theorem dX12_sure_60 : decode cX12_sure 60 = .ok (.iconst 0, 1) := by decide +kernel
theorem dX12_sure_61 : decode cX12_sure 61 = .ok (.iaload, 1) := by decide +kernel
theorem dX12_sure_62 : decode cX12_sure 62 = .ok (.goto 9, 3) := by decide +kernel
theorem dX12_sure_65 : decode cX12_sure 65 = .ok (.aload_n 0, 1) := by decide +kernel
theorem dX12_sure_66 : decode cX12_sure 66 = .ok (.getfield 79, 3) := by decide +kernel
theorem dX12_sure_69 : decode cX12_sure 69 = .ok (.iconst 0, 1) := by decide +kernel
theorem dX12_sure_70 : decode cX12_sure 70 = .ok (.iaload, 1) := by decide +kernel
theorem dX12_sure_71 : decode cX12_sure 71 = .ok (.ireturn, 1) := by decide +kernel
theorem dX12_dared_0 : decode cX12_dared 0 = .ok (.aload_n 0, 1) := by decide +kernel
theorem dX12_dared_1 : decode cX12_dared 1 = .ok (.iconst 0, 1) := by decide +kernel
theorem dX12_dared_2 : decode cX12_dared 2 = .ok (.putfield 88, 3) := by decide +kernel
theorem dX12_dared_5 : decode cX12_dared 5 = .ok (.aload_n 0, 1) := by decide +kernel
theorem dX12_dared_6 : decode cX12_dared 6 = .ok (.iload_n 1, 1) := by decide +kernel
theorem dX12_dared_7 : decode cX12_dared 7 = .ok (.invokevirtual 424, 3) := by decide +kernel
theorem dX12_dared_10 : decode cX12_dared 10 = .ok (.istore_n 2, 1) := by decide +kernel
theorem dX12_dared_11 : decode cX12_dared 11 = .ok (.iload_n 2, 1) := by decide +kernel
theorem dX12_dared_12 : decode cX12_dared 12 = .ok (.ifCond .eq 5, 3) := by decide +kernel
theorem dX12_dared_15 : decode cX12_dared 15 = .ok (.iload_n 2, 1) := by decide +kernel
theorem dX12_dared_16 : decode cX12_dared 16 = .ok (.ireturn, 1) := by decide +kernel
theorem dX12_dared_17 : decode cX12_dared 17 = .ok (.aload_n 0, 1) := by decide +kernel
theorem dX12_dared_18 : decode cX12_dared 18 = .ok (.iload_n 1, 1) := by decide +kernel
theorem dX12_dared_19 : decode cX12_dared 19 = .ok (.invokevirtual 427, 3) := by decide +kernel
theorem dX12_dared_22 : decode cX12_dared 22 = .ok (.aload_n 0, 1) := by decide +kernel
theorem dX12_dared_23 : decode cX12_dared 23 = .ok (.getfield 70, 3) := by decide +kernel
theorem dX12_dared_26 : decode cX12_dared 26 = .ok (.iconst 0, 1) := by decide +kernel
theorem dX12_dared_27 : decode cX12_dared 27 = .ok (.laload, 1) := by decide +kernel
theorem dX12_dared_28 : decode cX12_dared 28 = .ok (.lconst 0, 1) := by decide +kernel
theorem dX12_dared_29 : decode cX12_dared 29 = .ok (.lcmp, 1) := by decide +kernel
theorem dX12_dared_30 : decode cX12_dared 30 = .ok (.ifCond .ne 7, 3) := by decide +kernel
theorem dX12_dared_33 : decode cX12_dared 33 = .ok (.iconst (-1), 1) := by decide +kernel
theorem dX12_dared_34 : decode cX12_dared 34 = .ok (.goto 9, 3) := by decide +kernel
theorem dX12_dared_37 : decode cX12_dared 37 = .ok (.aload_n 0, 1) := by decide +kernel
theorem dX12_dared_38 : decode cX12_dared 38 = .ok (.getfield 73, 3) := by decide +kernel
theorem dX12_dared_41 : decode cX12_dared 41 = .ok (.iconst 0, 1) := by decide +kernel
theorem dX12_dared_42 : decode cX12_dared 42 = .ok (.iaload, 1) := by decide +kernel
theorem dX12_dared_43 : decode cX12_dared 43 = .ok (.ireturn, 1) := by decide +kernel
theorem dX12_alone_0 : decode cX12_alone 0 = .ok (.aload_n 0, 1) := by decide +kernel
theorem dX12_alone_1 : decode cX12_alone 1 = .ok (.iconst 0, 1) := by decide +kernel
theorem dX12_alone_2 : decode cX12_alone 2 = .ok (.putfield 88, 3) := by decide +kernel
theorem dX12_alone_5 : decode cX12_alone 5 = .ok (.aload_n 0, 1) := by decide +kernel
theorem dX12_alone_6 : decode cX12_alone 6 = .ok (.iload_n 1, 1) := by decide +kernel
theorem dX12_alone_7 : decode cX12_alone 7 = .ok (.invokevirtual 320, 3) := by decide +kernel
theorem dX12_alone_10 : decode cX12_alone 10 = .ok (.ifCond .eq 15, 3) := by decide +kernel
theorem dX12_alone_13 : decode cX12_alone 13 = .ok (.iload_n 2, 1) := by decide +kernel
theorem dX12_alone_14 : decode cX12_alone 14 = .ok (.i2l, 1) := by decide +kernel
theorem dX12_alone_15 : decode cX12_alone 15 = .ok (.lconst 0, 1) := by decide +kernel
theorem dX12_alone_16 : decode cX12_alone 16 = .ok (.ldc2_w 437, 3) := by decide +kernel
theorem dX12_alone_19 : decode cX12_alone 19 = .ok (.invokestatic 93, 3) := by decide +kernel
theorem dX12_alone_22 : decode cX12_alone 22 = .ok (.ifCond .ne 6, 3) := by decide +kernel
theorem dX12_alone_25 : decode cX12_alone 25 = .ok (.bipush (-2), 2) := by decide +kernel
theorem dX12_alone_27 : decode cX12_alone 27 = .ok (.ireturn, 1) := by decide +kernel
theorem dX12_alone_28 : decode cX12_alone 28 = .ok (.iload_n 2, 1) := by decide +kernel
theorem dX12_alone_29 : decode cX12_alone 29 = .ok (.iconst 2, 1) := by decide +kernel
theorem dX12_alone_30 : decode cX12_alone 30 = .ok (.if_icmp .ge 7, 3) := by decide +kernel
theorem dX12_alone_33 : decode cX12_alone 33 = .ok (.iconst 0, 1) := by decide +kernel
theorem dX12_alone_34 : decode cX12_alone 34 = .ok (.goto 23, 3) := by decide +kernel
theorem dX12_alone_37 : decode cX12_alone 37 = .ok (.aload_n 0, 1) := by decide +kernel
theorem dX12_alone_38 : decode cX12_alone 38 = .ok (.getfield 43, 3) := by decide +kernel
theorem dX12_alone_41 : decode cX12_alone 41 = .ok (.iconst 3, 1) := by decide +kernel
theorem dX12_alone_42 : decode cX12_alone 42 = .ok (.iload_n 1, 1) := by decide +kernel
theorem dX12_alone_43 : decode cX12_alone 43 = .ok (.imul, 1) := by decide +kernel
theorem dX12_alone_44 : decode cX12_alone 44 = .ok (.iconst 2, 1) := by decide +kernel
theorem dX12_alone_45 : decode cX12_alone 45 = .ok (.iadd, 1) := by decide +kernel
theorem dX12_alone_46 : decode cX12_alone 46 = .ok (.iaload, 1) := by decide +kernel
theorem dX12_alone_47 : decode cX12_alone 47 = .ok (.ifCond .le 7, 3) := by decide +kernel
theorem dX12_alone_50 : decode cX12_alone 50 = .ok (.iconst (-1), 1) := by decide +kernel
theorem dX12_alone_51 : decode cX12_alone 51 = .ok (.goto 6, 3) := by decide +kernel
theorem dX12_alone_54 : decode cX12_alone 54 = .ok (.iload_n 2, 1) := by decide +kernel
theorem dX12_alone_55 : decode cX12_alone 55 = .ok (.iconst 1, 1) := by decide +kernel
theorem dX12_alone_56 : decode cX12_alone 56 = .ok (.isub, 1) := by decide +kernel
theorem dX12_alone_57 : decode cX12_alone 57 = .ok (.ireturn, 1) := by decide +kernel
theorem dX12_surestBy_0 : decode cX12_surestBy 0 = .ok (.aload_n 0, 1) := by decide +kernel
theorem dX12_surestBy_1 : decode cX12_surestBy 1 = .ok (.getfield 37, 3) := by decide +kernel
theorem dX12_surestBy_4 : decode cX12_surestBy 4 = .ok (.iload_n 1, 1) := by decide +kernel
theorem dX12_surestBy_5 : decode cX12_surestBy 5 = .ok (.iaload, 1) := by decide +kernel
theorem dX12_surestBy_6 : decode cX12_surestBy 6 = .ok (.istore_n 3, 1) := by decide +kernel
theorem dX12_surestBy_7 : decode cX12_surestBy 7 = .ok (.aload_n 0, 1) := by decide +kernel
theorem dX12_surestBy_8 : decode cX12_surestBy 8 = .ok (.getfield 37, 3) := by decide +kernel
theorem dX12_surestBy_11 : decode cX12_surestBy 11 = .ok (.iload_n 1, 1) := by decide +kernel
theorem dX12_surestBy_12 : decode cX12_surestBy 12 = .ok (.iload_n 3, 1) := by decide +kernel
theorem dX12_surestBy_13 : decode cX12_surestBy 13 = .ok (.iload_n 2, 1) := by decide +kernel
theorem dX12_surestBy_14 : decode cX12_surestBy 14 = .ok (.iadd, 1) := by decide +kernel
theorem dX12_surestBy_15 : decode cX12_surestBy 15 = .ok (.bipush 100, 2) := by decide +kernel
theorem dX12_surestBy_17 : decode cX12_surestBy 17 = .ok (.if_icmp .le 8, 3) := by decide +kernel
theorem dX12_surestBy_20 : decode cX12_surestBy 20 = .ok (.bipush 100, 2) := by decide +kernel
theorem dX12_surestBy_22 : decode cX12_surestBy 22 = .ok (.goto 6, 3) := by decide +kernel
theorem dX12_surestBy_25 : decode cX12_surestBy 25 = .ok (.iload_n 3, 1) := by decide +kernel
theorem dX12_surestBy_26 : decode cX12_surestBy 26 = .ok (.iload_n 2, 1) := by decide +kernel
theorem dX12_surestBy_27 : decode cX12_surestBy 27 = .ok (.iadd, 1) := by decide +kernel
theorem dX12_surestBy_28 : decode cX12_surestBy 28 = .ok (.iastore, 1) := by decide +kernel
theorem dX12_surestBy_29 : decode cX12_surestBy 29 = .ok (.aload_n 0, 1) := by decide +kernel
theorem dX12_surestBy_30 : decode cX12_surestBy 30 = .ok (.iconst 0, 1) := by decide +kernel
theorem dX12_surestBy_31 : decode cX12_surestBy 31 = .ok (.iconst 0, 1) := by decide +kernel
theorem dX12_surestBy_32 : decode cX12_surestBy 32 = .ok (.iconst 1, 1) := by decide +kernel
theorem dX12_surestBy_33 : decode cX12_surestBy 33 = .ok (.invokevirtual 376, 3) := by decide +kernel
theorem dX12_surestBy_36 : decode cX12_surestBy 36 = .ok (.istore 4, 2) := by decide +kernel
theorem dX12_surestBy_38 : decode cX12_surestBy 38 = .ok (.aload_n 0, 1) := by decide +kernel
theorem dX12_surestBy_39 : decode cX12_surestBy 39 = .ok (.getfield 37, 3) := by decide +kernel
theorem dX12_surestBy_42 : decode cX12_surestBy 42 = .ok (.iload_n 1, 1) := by decide +kernel
theorem dX12_surestBy_43 : decode cX12_surestBy 43 = .ok (.iload_n 3, 1) := by decide +kernel
theorem dX12_surestBy_44 : decode cX12_surestBy 44 = .ok (.iastore, 1) := by decide +kernel
theorem dX12_surestBy_45 : decode cX12_surestBy 45 = .ok (.iload 4, 2) := by decide +kernel
theorem dX12_surestBy_47 : decode cX12_surestBy 47 = .ok (.ldc_w 357, 3) := by decide +kernel
theorem dX12_surestBy_50 : decode cX12_surestBy 50 = .ok (.if_icmp .ne 7, 3) := by decide +kernel
theorem dX12_surestBy_53 : decode cX12_surestBy 53 = .ok (.iconst (-1), 1) := by decide +kernel
theorem dX12_surestBy_54 : decode cX12_surestBy 54 = .ok (.goto 9, 3) := by decide +kernel
theorem dX12_surestBy_57 : decode cX12_surestBy 57 = .ok (.iload 4, 2) := by decide +kernel
theorem dX12_surestBy_59 : decode cX12_surestBy 59 = .ok (.sipush 10000, 3) := by decide +kernel
theorem dX12_surestBy_62 : decode cX12_surestBy 62 = .ok (.idiv, 1) := by decide +kernel
theorem dX12_surestBy_63 : decode cX12_surestBy 63 = .ok (.ireturn, 1) := by decide +kernel
theorem dX12_worth_0 : decode cX12_worth 0 = .ok (.aload_n 0, 1) := by decide +kernel
theorem dX12_worth_1 : decode cX12_worth 1 = .ok (.iconst 0, 1) := by decide +kernel
theorem dX12_worth_2 : decode cX12_worth 2 = .ok (.putfield 88, 3) := by decide +kernel
theorem dX12_worth_5 : decode cX12_worth 5 = .ok (.aload_n 0, 1) := by decide +kernel
theorem dX12_worth_6 : decode cX12_worth 6 = .ok (.iload_n 1, 1) := by decide +kernel
theorem dX12_worth_7 : decode cX12_worth 7 = .ok (.invokevirtual 312, 3) := by decide +kernel
theorem dX12_worth_10 : decode cX12_worth 10 = .ok (.ifCond .eq 15, 3) := by decide +kernel
theorem dX12_worth_13 : decode cX12_worth 13 = .ok (.iload_n 2, 1) := by decide +kernel
theorem dX12_worth_14 : decode cX12_worth 14 = .ok (.i2l, 1) := by decide +kernel
theorem dX12_worth_15 : decode cX12_worth 15 = .ok (.lconst 0, 1) := by decide +kernel
theorem dX12_worth_16 : decode cX12_worth 16 = .ok (.ldc2_w 270, 3) := by decide +kernel
theorem dX12_worth_19 : decode cX12_worth 19 = .ok (.invokestatic 93, 3) := by decide +kernel
theorem dX12_worth_22 : decode cX12_worth 22 = .ok (.ifCond .ne 6, 3) := by decide +kernel
theorem dX12_worth_25 : decode cX12_worth 25 = .ok (.bipush (-2), 2) := by decide +kernel
theorem dX12_worth_27 : decode cX12_worth 27 = .ok (.ireturn, 1) := by decide +kernel
theorem dX12_worth_28 : decode cX12_worth 28 = .ok (.aload_n 0, 1) := by decide +kernel
theorem dX12_worth_29 : decode cX12_worth 29 = .ok (.iload_n 1, 1) := by decide +kernel
theorem dX12_worth_30 : decode cX12_worth 30 = .ok (.iconst 0, 1) := by decide +kernel
theorem dX12_worth_31 : decode cX12_worth 31 = .ok (.invokevirtual 439, 3) := by decide +kernel
theorem dX12_worth_34 : decode cX12_worth 34 = .ok (.istore_n 3, 1) := by decide +kernel
theorem dX12_worth_35 : decode cX12_worth 35 = .ok (.iload_n 3, 1) := by decide +kernel
theorem dX12_worth_36 : decode cX12_worth 36 = .ok (.iconst (-1), 1) := by decide +kernel
theorem dX12_worth_37 : decode cX12_worth 37 = .ok (.if_icmp .ne 7, 3) := by decide +kernel
theorem dX12_worth_40 : decode cX12_worth 40 = .ok (.iconst (-1), 1) := by decide +kernel
theorem dX12_worth_41 : decode cX12_worth 41 = .ok (.goto 11, 3) := by decide +kernel
theorem dX12_worth_44 : decode cX12_worth 44 = .ok (.iload_n 3, 1) := by decide +kernel
theorem dX12_worth_45 : decode cX12_worth 45 = .ok (.aload_n 0, 1) := by decide +kernel
theorem dX12_worth_46 : decode cX12_worth 46 = .ok (.iload_n 1, 1) := by decide +kernel
theorem dX12_worth_47 : decode cX12_worth 47 = .ok (.iload_n 2, 1) := by decide +kernel
theorem dX12_worth_48 : decode cX12_worth 48 = .ok (.invokevirtual 439, 3) := by decide +kernel
theorem dX12_worth_51 : decode cX12_worth 51 = .ok (.isub, 1) := by decide +kernel
theorem dX12_worth_52 : decode cX12_worth 52 = .ok (.ireturn, 1) := by decide +kernel
theorem dX12_whom_0 : decode cX12_whom 0 = .ok (.aload_n 0, 1) := by decide +kernel
theorem dX12_whom_1 : decode cX12_whom 1 = .ok (.iconst 0, 1) := by decide +kernel
theorem dX12_whom_2 : decode cX12_whom 2 = .ok (.putfield 88, 3) := by decide +kernel
theorem dX12_whom_5 : decode cX12_whom 5 = .ok (.aload_n 0, 1) := by decide +kernel
theorem dX12_whom_6 : decode cX12_whom 6 = .ok (.invokevirtual 323, 3) := by decide +kernel
theorem dX12_whom_9 : decode cX12_whom 9 = .ok (.ifCond .eq 15, 3) := by decide +kernel
theorem dX12_whom_12 : decode cX12_whom 12 = .ok (.iload_n 1, 1) := by decide +kernel
theorem dX12_whom_13 : decode cX12_whom 13 = .ok (.i2l, 1) := by decide +kernel
theorem dX12_whom_14 : decode cX12_whom 14 = .ok (.lconst 0, 1) := by decide +kernel
theorem dX12_whom_15 : decode cX12_whom 15 = .ok (.ldc2_w 270, 3) := by decide +kernel
theorem dX12_whom_18 : decode cX12_whom 18 = .ok (.invokestatic 93, 3) := by decide +kernel
theorem dX12_whom_21 : decode cX12_whom 21 = .ok (.ifCond .ne 6, 3) := by decide +kernel
theorem dX12_whom_24 : decode cX12_whom 24 = .ok (.bipush (-2), 2) := by decide +kernel
theorem dX12_whom_26 : decode cX12_whom 26 = .ok (.ireturn, 1) := by decide +kernel
theorem dX12_whom_27 : decode cX12_whom 27 = .ok (.iconst (-1), 1) := by decide +kernel
theorem dX12_whom_28 : decode cX12_whom 28 = .ok (.istore_n 2, 1) := by decide +kernel
theorem dX12_whom_29 : decode cX12_whom 29 = .ok (.iconst 0, 1) := by decide +kernel
theorem dX12_whom_30 : decode cX12_whom 30 = .ok (.istore_n 3, 1) := by decide +kernel
theorem dX12_whom_31 : decode cX12_whom 31 = .ok (.iconst 0, 1) := by decide +kernel
theorem dX12_whom_32 : decode cX12_whom 32 = .ok (.istore 4, 2) := by decide +kernel
theorem dX12_whom_34 : decode cX12_whom 34 = .ok (.iload 4, 2) := by decide +kernel
theorem dX12_whom_36 : decode cX12_whom 36 = .ok (.aload_n 0, 1) := by decide +kernel
theorem dX12_whom_37 : decode cX12_whom 37 = .ok (.getfield 34, 3) := by decide +kernel
theorem dX12_whom_40 : decode cX12_whom 40 = .ok (.iconst 2, 1) := by decide +kernel
theorem dX12_whom_41 : decode cX12_whom 41 = .ok (.iaload, 1) := by decide +kernel
theorem dX12_whom_42 : decode cX12_whom 42 = .ok (.if_icmp .ge 53, 3) := by decide +kernel
theorem dX12_whom_45 : decode cX12_whom 45 = .ok (.aload_n 0, 1) := by decide +kernel
theorem dX12_whom_46 : decode cX12_whom 46 = .ok (.iload 4, 2) := by decide +kernel
theorem dX12_whom_48 : decode cX12_whom 48 = .ok (.iconst 0, 1) := by decide +kernel
theorem dX12_whom_49 : decode cX12_whom 49 = .ok (.invokevirtual 439, 3) := by decide +kernel
theorem dX12_whom_52 : decode cX12_whom 52 = .ok (.istore 5, 2) := by decide +kernel
theorem dX12_whom_54 : decode cX12_whom 54 = .ok (.iload 5, 2) := by decide +kernel
theorem dX12_whom_56 : decode cX12_whom 56 = .ok (.iconst (-1), 1) := by decide +kernel
theorem dX12_whom_57 : decode cX12_whom 57 = .ok (.if_icmp .ne 5, 3) := by decide +kernel
theorem dX12_whom_60 : decode cX12_whom 60 = .ok (.iconst (-1), 1) := by decide +kernel
theorem dX12_whom_61 : decode cX12_whom 61 = .ok (.ireturn, 1) := by decide +kernel
theorem dX12_whom_62 : decode cX12_whom 62 = .ok (.iload 5, 2) := by decide +kernel
theorem dX12_whom_64 : decode cX12_whom 64 = .ok (.aload_n 0, 1) := by decide +kernel
theorem dX12_whom_65 : decode cX12_whom 65 = .ok (.iload 4, 2) := by decide +kernel
theorem dX12_whom_67 : decode cX12_whom 67 = .ok (.iload_n 1, 1) := by decide +kernel
theorem dX12_whom_68 : decode cX12_whom 68 = .ok (.invokevirtual 439, 3) := by decide +kernel
theorem dX12_whom_71 : decode cX12_whom 71 = .ok (.isub, 1) := by decide +kernel
theorem dX12_whom_72 : decode cX12_whom 72 = .ok (.istore 6, 2) := by decide +kernel
theorem dX12_whom_74 : decode cX12_whom 74 = .ok (.iload 6, 2) := by decide +kernel
theorem dX12_whom_76 : decode cX12_whom 76 = .ok (.iload_n 3, 1) := by decide +kernel
theorem dX12_whom_77 : decode cX12_whom 77 = .ok (.if_icmp .gt 6, 3) := by decide +kernel
theorem dX12_whom_80 : decode cX12_whom 80 = .ok (.goto 9, 3) := by decide +kernel
theorem dX12_whom_83 : decode cX12_whom 83 = .ok (.iload 4, 2) := by decide +kernel
theorem dX12_whom_85 : decode cX12_whom 85 = .ok (.istore_n 2, 1) := by decide +kernel
theorem dX12_whom_86 : decode cX12_whom 86 = .ok (.iload 6, 2) := by decide +kernel
theorem dX12_whom_88 : decode cX12_whom 88 = .ok (.istore_n 3, 1) := by decide +kernel
theorem dX12_whom_89 : decode cX12_whom 89 = .ok (.iinc 4 1, 3) := by decide +kernel
theorem dX12_whom_92 : decode cX12_whom 92 = .ok (.goto (-58), 3) := by decide +kernel
theorem dX12_whom_95 : decode cX12_whom 95 = .ok (.iload_n 2, 1) := by decide +kernel
theorem dX12_whom_96 : decode cX12_whom 96 = .ok (.ireturn, 1) := by decide +kernel
theorem dX12_isHope_0 : decode cX12_isHope 0 = .ok (.aload_n 0, 1) := by decide +kernel
theorem dX12_isHope_1 : decode cX12_isHope 1 = .ok (.iconst 0, 1) := by decide +kernel
theorem dX12_isHope_2 : decode cX12_isHope 2 = .ok (.iconst 0, 1) := by decide +kernel
theorem dX12_isHope_3 : decode cX12_isHope 3 = .ok (.iconst 0, 1) := by decide +kernel
theorem dX12_isHope_4 : decode cX12_isHope 4 = .ok (.invokevirtual 376, 3) := by decide +kernel
theorem dX12_isHope_7 : decode cX12_isHope 7 = .ok (.ldc_w 357, 3) := by decide +kernel
theorem dX12_isHope_10 : decode cX12_isHope 10 = .ok (.if_icmp .eq 7, 3) := by decide +kernel
theorem dX12_isHope_13 : decode cX12_isHope 13 = .ok (.iconst 1, 1) := by decide +kernel
theorem dX12_isHope_14 : decode cX12_isHope 14 = .ok (.goto 4, 3) := by decide +kernel
theorem dX12_isHope_17 : decode cX12_isHope 17 = .ok (.iconst 0, 1) := by decide +kernel
theorem dX12_isHope_18 : decode cX12_isHope 18 = .ok (.ireturn, 1) := by decide +kernel
theorem dX12_blur_0 : decode cX12_blur 0 = .ok (.aload_n 0, 1) := by decide +kernel
theorem dX12_blur_1 : decode cX12_blur 1 = .ok (.iconst 0, 1) := by decide +kernel
theorem dX12_blur_2 : decode cX12_blur 2 = .ok (.putfield 88, 3) := by decide +kernel
theorem dX12_blur_5 : decode cX12_blur 5 = .ok (.aload_n 0, 1) := by decide +kernel
theorem dX12_blur_6 : decode cX12_blur 6 = .ok (.iload_n 1, 1) := by decide +kernel
theorem dX12_blur_7 : decode cX12_blur 7 = .ok (.invokevirtual 320, 3) := by decide +kernel
theorem dX12_blur_10 : decode cX12_blur 10 = .ok (.ifCond .ne 6, 3) := by decide +kernel
theorem dX12_blur_13 : decode cX12_blur 13 = .ok (.bipush (-2), 2) := by decide +kernel
theorem dX12_blur_15 : decode cX12_blur 15 = .ok (.ireturn, 1) := by decide +kernel
theorem dX12_blur_16 : decode cX12_blur 16 = .ok (.aload_n 0, 1) := by decide +kernel
theorem dX12_blur_17 : decode cX12_blur 17 = .ok (.getfield 43, 3) := by decide +kernel
theorem dX12_blur_20 : decode cX12_blur 20 = .ok (.iconst 3, 1) := by decide +kernel
theorem dX12_blur_21 : decode cX12_blur 21 = .ok (.iload_n 1, 1) := by decide +kernel
theorem dX12_blur_22 : decode cX12_blur 22 = .ok (.imul, 1) := by decide +kernel
theorem dX12_blur_23 : decode cX12_blur 23 = .ok (.iconst 1, 1) := by decide +kernel
theorem dX12_blur_24 : decode cX12_blur 24 = .ok (.iadd, 1) := by decide +kernel
theorem dX12_blur_25 : decode cX12_blur 25 = .ok (.iaload, 1) := by decide +kernel
theorem dX12_blur_26 : decode cX12_blur 26 = .ok (.istore_n 2, 1) := by decide +kernel
theorem dX12_blur_27 : decode cX12_blur 27 = .ok (.iconst (-1), 1) := by decide +kernel
theorem dX12_blur_28 : decode cX12_blur 28 = .ok (.istore_n 3, 1) := by decide +kernel
theorem dX12_blur_29 : decode cX12_blur 29 = .ok (.iconst 0, 1) := by decide +kernel
theorem dX12_blur_30 : decode cX12_blur 30 = .ok (.istore 4, 2) := by decide +kernel
theorem dX12_blur_32 : decode cX12_blur 32 = .ok (.iload 4, 2) := by decide +kernel
theorem dX12_blur_34 : decode cX12_blur 34 = .ok (.bipush 9, 2) := by decide +kernel
theorem dX12_blur_36 : decode cX12_blur 36 = .ok (.if_icmp .gt 36, 3) := by decide +kernel
theorem dX12_blur_39 : decode cX12_blur 39 = .ok (.iload_n 3, 1) := by decide +kernel
theorem dX12_blur_40 : decode cX12_blur 40 = .ok (.iconst (-1), 1) := by decide +kernel
theorem dX12_blur_41 : decode cX12_blur 41 = .ok (.if_icmp .ne 31, 3) := by decide +kernel
theorem dX12_blur_44 : decode cX12_blur 44 = .ok (.aload_n 0, 1) := by decide +kernel
theorem dX12_blur_45 : decode cX12_blur 45 = .ok (.getfield 43, 3) := by decide +kernel
theorem dX12_blur_48 : decode cX12_blur 48 = .ok (.iconst 3, 1) := by decide +kernel
theorem dX12_blur_49 : decode cX12_blur 49 = .ok (.iload_n 1, 1) := by decide +kernel
theorem dX12_blur_50 : decode cX12_blur 50 = .ok (.imul, 1) := by decide +kernel
theorem dX12_blur_51 : decode cX12_blur 51 = .ok (.iconst 1, 1) := by decide +kernel
theorem dX12_blur_52 : decode cX12_blur 52 = .ok (.iadd, 1) := by decide +kernel
theorem dX12_blur_53 : decode cX12_blur 53 = .ok (.iload 4, 2) := by decide +kernel
theorem dX12_blur_55 : decode cX12_blur 55 = .ok (.iastore, 1) := by decide +kernel
theorem dX12_blur_56 : decode cX12_blur 56 = .ok (.aload_n 0, 1) := by decide +kernel
theorem dX12_blur_57 : decode cX12_blur 57 = .ok (.invokevirtual 442, 3) := by decide +kernel
theorem dX12_blur_60 : decode cX12_blur 60 = .ok (.ifCond .eq 6, 3) := by decide +kernel
theorem dX12_blur_63 : decode cX12_blur 63 = .ok (.iload 4, 2) := by decide +kernel
theorem dX12_blur_65 : decode cX12_blur 65 = .ok (.istore_n 3, 1) := by decide +kernel
theorem dX12_blur_66 : decode cX12_blur 66 = .ok (.iinc 4 1, 3) := by decide +kernel
theorem dX12_blur_69 : decode cX12_blur 69 = .ok (.goto (-37), 3) := by decide +kernel
theorem dX12_blur_72 : decode cX12_blur 72 = .ok (.aload_n 0, 1) := by decide +kernel
theorem dX12_blur_73 : decode cX12_blur 73 = .ok (.getfield 43, 3) := by decide +kernel
theorem dX12_blur_76 : decode cX12_blur 76 = .ok (.iconst 3, 1) := by decide +kernel
theorem dX12_blur_77 : decode cX12_blur 77 = .ok (.iload_n 1, 1) := by decide +kernel
theorem dX12_blur_78 : decode cX12_blur 78 = .ok (.imul, 1) := by decide +kernel
theorem dX12_blur_79 : decode cX12_blur 79 = .ok (.iconst 1, 1) := by decide +kernel
theorem dX12_blur_80 : decode cX12_blur 80 = .ok (.iadd, 1) := by decide +kernel
theorem dX12_blur_81 : decode cX12_blur 81 = .ok (.iload_n 2, 1) := by decide +kernel
theorem dX12_blur_82 : decode cX12_blur 82 = .ok (.iastore, 1) := by decide +kernel
theorem dX12_blur_83 : decode cX12_blur 83 = .ok (.iload_n 3, 1) := by decide +kernel
theorem dX12_blur_84 : decode cX12_blur 84 = .ok (.ireturn, 1) := by decide +kernel
theorem dX12_looks_0 : decode cX12_looks 0 = .ok (.aload_n 0, 1) := by decide +kernel
theorem dX12_looks_1 : decode cX12_looks 1 = .ok (.iconst 0, 1) := by decide +kernel
theorem dX12_looks_2 : decode cX12_looks 2 = .ok (.putfield 88, 3) := by decide +kernel
theorem dX12_looks_5 : decode cX12_looks 5 = .ok (.aload_n 0, 1) := by decide +kernel
theorem dX12_looks_6 : decode cX12_looks 6 = .ok (.iload_n 1, 1) := by decide +kernel
theorem dX12_looks_7 : decode cX12_looks 7 = .ok (.invokevirtual 320, 3) := by decide +kernel
theorem dX12_looks_10 : decode cX12_looks 10 = .ok (.ifCond .ne 6, 3) := by decide +kernel
theorem dX12_looks_13 : decode cX12_looks 13 = .ok (.bipush (-2), 2) := by decide +kernel
theorem dX12_looks_15 : decode cX12_looks 15 = .ok (.ireturn, 1) := by decide +kernel
theorem dX12_looks_16 : decode cX12_looks 16 = .ok (.aload_n 0, 1) := by decide +kernel
theorem dX12_looks_17 : decode cX12_looks 17 = .ok (.getfield 43, 3) := by decide +kernel
theorem dX12_looks_20 : decode cX12_looks 20 = .ok (.iconst 3, 1) := by decide +kernel
theorem dX12_looks_21 : decode cX12_looks 21 = .ok (.iload_n 1, 1) := by decide +kernel
theorem dX12_looks_22 : decode cX12_looks 22 = .ok (.imul, 1) := by decide +kernel
theorem dX12_looks_23 : decode cX12_looks 23 = .ok (.iconst 2, 1) := by decide +kernel
theorem dX12_looks_24 : decode cX12_looks 24 = .ok (.iadd, 1) := by decide +kernel
theorem dX12_looks_25 : decode cX12_looks 25 = .ok (.iaload, 1) := by decide +kernel
theorem dX12_looks_26 : decode cX12_looks 26 = .ok (.istore_n 2, 1) := by decide +kernel
theorem dX12_looks_27 : decode cX12_looks 27 = .ok (.iconst (-1), 1) := by decide +kernel
theorem dX12_looks_28 : decode cX12_looks 28 = .ok (.istore_n 3, 1) := by decide +kernel
theorem dX12_looks_29 : decode cX12_looks 29 = .ok (.iconst 3, 1) := by decide +kernel
theorem dX12_looks_30 : decode cX12_looks 30 = .ok (.istore 4, 2) := by decide +kernel
theorem dX12_looks_32 : decode cX12_looks 32 = .ok (.iload 4, 2) := by decide +kernel
theorem dX12_looks_34 : decode cX12_looks 34 = .ok (.ifCond .lt 36, 3) := by decide +kernel
theorem dX12_looks_37 : decode cX12_looks 37 = .ok (.iload_n 3, 1) := by decide +kernel
theorem dX12_looks_38 : decode cX12_looks 38 = .ok (.iconst (-1), 1) := by decide +kernel
theorem dX12_looks_39 : decode cX12_looks 39 = .ok (.if_icmp .ne 31, 3) := by decide +kernel
theorem dX12_looks_42 : decode cX12_looks 42 = .ok (.aload_n 0, 1) := by decide +kernel
theorem dX12_looks_43 : decode cX12_looks 43 = .ok (.getfield 43, 3) := by decide +kernel
theorem dX12_looks_46 : decode cX12_looks 46 = .ok (.iconst 3, 1) := by decide +kernel
theorem dX12_looks_47 : decode cX12_looks 47 = .ok (.iload_n 1, 1) := by decide +kernel
theorem dX12_looks_48 : decode cX12_looks 48 = .ok (.imul, 1) := by decide +kernel
theorem dX12_looks_49 : decode cX12_looks 49 = .ok (.iconst 2, 1) := by decide +kernel
theorem dX12_looks_50 : decode cX12_looks 50 = .ok (.iadd, 1) := by decide +kernel
theorem dX12_looks_51 : decode cX12_looks 51 = .ok (.iload 4, 2) := by decide +kernel
theorem dX12_looks_53 : decode cX12_looks 53 = .ok (.iastore, 1) := by decide +kernel
theorem dX12_looks_54 : decode cX12_looks 54 = .ok (.aload_n 0, 1) := by decide +kernel
theorem dX12_looks_55 : decode cX12_looks 55 = .ok (.invokevirtual 442, 3) := by decide +kernel
theorem dX12_looks_58 : decode cX12_looks 58 = .ok (.ifCond .eq 6, 3) := by decide +kernel
theorem dX12_looks_61 : decode cX12_looks 61 = .ok (.iload 4, 2) := by decide +kernel
theorem dX12_looks_63 : decode cX12_looks 63 = .ok (.istore_n 3, 1) := by decide +kernel
theorem dX12_looks_64 : decode cX12_looks 64 = .ok (.iinc 4 (-1), 3) := by decide +kernel
theorem dX12_looks_67 : decode cX12_looks 67 = .ok (.goto (-35), 3) := by decide +kernel
theorem dX12_looks_70 : decode cX12_looks 70 = .ok (.aload_n 0, 1) := by decide +kernel
theorem dX12_looks_71 : decode cX12_looks 71 = .ok (.getfield 43, 3) := by decide +kernel
theorem dX12_looks_74 : decode cX12_looks 74 = .ok (.iconst 3, 1) := by decide +kernel
theorem dX12_looks_75 : decode cX12_looks 75 = .ok (.iload_n 1, 1) := by decide +kernel
theorem dX12_looks_76 : decode cX12_looks 76 = .ok (.imul, 1) := by decide +kernel
theorem dX12_looks_77 : decode cX12_looks 77 = .ok (.iconst 2, 1) := by decide +kernel
theorem dX12_looks_78 : decode cX12_looks 78 = .ok (.iadd, 1) := by decide +kernel
theorem dX12_looks_79 : decode cX12_looks 79 = .ok (.iload_n 2, 1) := by decide +kernel
theorem dX12_looks_80 : decode cX12_looks 80 = .ok (.iastore, 1) := by decide +kernel
theorem dX12_looks_81 : decode cX12_looks 81 = .ok (.iload_n 3, 1) := by decide +kernel
theorem dX12_looks_82 : decode cX12_looks 82 = .ok (.ireturn, 1) := by decide +kernel
theorem dX12_draws_0 : decode cX12_draws 0 = .ok (.aload_n 0, 1) := by decide +kernel
theorem dX12_draws_1 : decode cX12_draws 1 = .ok (.invokevirtual 317, 3) := by decide +kernel
theorem dX12_draws_4 : decode cX12_draws 4 = .ok (.lload_n 1, 1) := by decide +kernel
theorem dX12_draws_5 : decode cX12_draws 5 = .ok (.lstore_n 3, 1) := by decide +kernel
theorem dX12_draws_6 : decode cX12_draws 6 = .ok (.iconst 0, 1) := by decide +kernel
theorem dX12_draws_7 : decode cX12_draws 7 = .ok (.istore 5, 2) := by decide +kernel
theorem dX12_draws_9 : decode cX12_draws 9 = .ok (.iload 5, 2) := by decide +kernel
theorem dX12_draws_11 : decode cX12_draws 11 = .ok (.aload_n 0, 1) := by decide +kernel
theorem dX12_draws_12 : decode cX12_draws 12 = .ok (.getfield 373, 3) := by decide +kernel
theorem dX12_draws_15 : decode cX12_draws 15 = .ok (.if_icmp .ge 96, 3) := by decide +kernel
theorem dX12_draws_18 : decode cX12_draws 18 = .ok (.aload_n 0, 1) := by decide +kernel
theorem dX12_draws_19 : decode cX12_draws 19 = .ok (.aload_n 0, 1) := by decide +kernel
theorem dX12_draws_20 : decode cX12_draws 20 = .ok (.getfield 238, 3) := by decide +kernel
theorem dX12_draws_23 : decode cX12_draws 23 = .ok (.putfield 445, 3) := by decide +kernel
theorem dX12_draws_26 : decode cX12_draws 26 = .ok (.aload_n 0, 1) := by decide +kernel
theorem dX12_draws_27 : decode cX12_draws 27 = .ok (.getfield 66, 3) := by decide +kernel
theorem dX12_draws_30 : decode cX12_draws 30 = .ok (.iload 5, 2) := by decide +kernel
theorem dX12_draws_32 : decode cX12_draws 32 = .ok (.iaload, 1) := by decide +kernel
theorem dX12_draws_33 : decode cX12_draws 33 = .ok (.sipush 200, 3) := by decide +kernel
theorem dX12_draws_36 : decode cX12_draws 36 = .ok (.if_icmp .eq 58, 3) := by decide +kernel
theorem dX12_draws_39 : decode cX12_draws 39 = .ok (.ldc2_w 448, 3) := by decide +kernel
theorem dX12_draws_42 : decode cX12_draws 42 = .ok (.lload_n 3, 1) := by decide +kernel
theorem dX12_draws_43 : decode cX12_draws 43 = .ok (.lmul, 1) := by decide +kernel
theorem dX12_draws_44 : decode cX12_draws 44 = .ok (.ldc2_w 450, 3) := by decide +kernel
theorem dX12_draws_47 : decode cX12_draws 47 = .ok (.ladd, 1) := by decide +kernel
theorem dX12_draws_48 : decode cX12_draws 48 = .ok (.ldc2_w 452, 3) := by decide +kernel
theorem dX12_draws_51 : decode cX12_draws 51 = .ok (.lrem, 1) := by decide +kernel
theorem dX12_draws_52 : decode cX12_draws 52 = .ok (.lstore_n 3, 1) := by decide +kernel
theorem dX12_draws_53 : decode cX12_draws 53 = .ok (.lload_n 3, 1) := by decide +kernel
theorem dX12_draws_54 : decode cX12_draws 54 = .ok (.ldc2_w 454, 3) := by decide +kernel
theorem dX12_draws_57 : decode cX12_draws 57 = .ok (.ldiv, 1) := by decide +kernel
theorem dX12_draws_58 : decode cX12_draws 58 = .ok (.ldc2_w 270, 3) := by decide +kernel
theorem dX12_draws_61 : decode cX12_draws 61 = .ok (.lrem, 1) := by decide +kernel
theorem dX12_draws_62 : decode cX12_draws 62 = .ok (.aload_n 0, 1) := by decide +kernel
theorem dX12_draws_63 : decode cX12_draws 63 = .ok (.aload_n 0, 1) := by decide +kernel
theorem dX12_draws_64 : decode cX12_draws 64 = .ok (.getfield 66, 3) := by decide +kernel
theorem dX12_draws_67 : decode cX12_draws 67 = .ok (.iload 5, 2) := by decide +kernel
theorem dX12_draws_69 : decode cX12_draws 69 = .ok (.iaload, 1) := by decide +kernel
theorem dX12_draws_70 : decode cX12_draws 70 = .ok (.bipush 10, 2) := by decide +kernel
theorem dX12_draws_72 : decode cX12_draws 72 = .ok (.irem, 1) := by decide +kernel
theorem dX12_draws_73 : decode cX12_draws 73 = .ok (.aload_n 0, 1) := by decide +kernel
theorem dX12_draws_74 : decode cX12_draws 74 = .ok (.getfield 66, 3) := by decide +kernel
theorem dX12_draws_77 : decode cX12_draws 77 = .ok (.iload 5, 2) := by decide +kernel
theorem dX12_draws_79 : decode cX12_draws 79 = .ok (.iaload, 1) := by decide +kernel
theorem dX12_draws_80 : decode cX12_draws 80 = .ok (.bipush 100, 2) := by decide +kernel
theorem dX12_draws_82 : decode cX12_draws 82 = .ok (.idiv, 1) := by decide +kernel
theorem dX12_draws_83 : decode cX12_draws 83 = .ok (.invokevirtual 300, 3) := by decide +kernel
theorem dX12_draws_86 : decode cX12_draws 86 = .ok (.i2l, 1) := by decide +kernel
theorem dX12_draws_87 : decode cX12_draws 87 = .ok (.lcmp, 1) := by decide +kernel
theorem dX12_draws_88 : decode cX12_draws 88 = .ok (.ifCond .ge 6, 3) := by decide +kernel
theorem dX12_draws_91 : decode cX12_draws 91 = .ok (.iload 5, 2) := by decide +kernel
theorem dX12_draws_93 : decode cX12_draws 93 = .ok (.ireturn, 1) := by decide +kernel
theorem dX12_draws_94 : decode cX12_draws 94 = .ok (.aload_n 0, 1) := by decide +kernel
theorem dX12_draws_95 : decode cX12_draws 95 = .ok (.aload_n 0, 1) := by decide +kernel
theorem dX12_draws_96 : decode cX12_draws 96 = .ok (.getfield 66, 3) := by decide +kernel
theorem dX12_draws_99 : decode cX12_draws 99 = .ok (.iload 5, 2) := by decide +kernel
theorem dX12_draws_101 : decode cX12_draws 101 = .ok (.iaload, 1) := by decide +kernel
theorem dX12_draws_102 : decode cX12_draws 102 = .ok (.invokevirtual 303, 3) := by decide +kernel
theorem dX12_draws_105 : decode cX12_draws 105 = .ok (.iinc 5 1, 3) := by decide +kernel
theorem dX12_draws_108 : decode cX12_draws 108 = .ok (.goto (-99), 3) := by decide +kernel
theorem dX12_draws_111 : decode cX12_draws 111 = .ok (.aload_n 0, 1) := by decide +kernel
theorem dX12_draws_112 : decode cX12_draws 112 = .ok (.aload_n 0, 1) := by decide +kernel
theorem dX12_draws_113 : decode cX12_draws 113 = .ok (.getfield 238, 3) := by decide +kernel
theorem dX12_draws_116 : decode cX12_draws 116 = .ok (.putfield 445, 3) := by decide +kernel
theorem dX12_draws_119 : decode cX12_draws 119 = .ok (.iconst (-1), 1) := by decide +kernel
theorem dX12_draws_120 : decode cX12_draws 120 = .ok (.ireturn, 1) := by decide +kernel
theorem dX12_drawn_0 : decode cX12_drawn 0 = .ok (.aload_n 0, 1) := by decide +kernel
theorem dX12_drawn_1 : decode cX12_drawn 1 = .ok (.iconst 0, 1) := by decide +kernel
theorem dX12_drawn_2 : decode cX12_drawn 2 = .ok (.putfield 88, 3) := by decide +kernel
theorem dX12_drawn_5 : decode cX12_drawn 5 = .ok (.aload_n 0, 1) := by decide +kernel
theorem dX12_drawn_6 : decode cX12_drawn 6 = .ok (.invokevirtual 323, 3) := by decide +kernel
theorem dX12_drawn_9 : decode cX12_drawn 9 = .ok (.ifCond .eq 33, 3) := by decide +kernel
theorem dX12_drawn_12 : decode cX12_drawn 12 = .ok (.iload_n 1, 1) := by decide +kernel
theorem dX12_drawn_13 : decode cX12_drawn 13 = .ok (.i2l, 1) := by decide +kernel
theorem dX12_drawn_14 : decode cX12_drawn 14 = .ok (.lconst 0, 1) := by decide +kernel
theorem dX12_drawn_15 : decode cX12_drawn 15 = .ok (.ldc2_w 456, 3) := by decide +kernel
theorem dX12_drawn_18 : decode cX12_drawn 18 = .ok (.invokestatic 93, 3) := by decide +kernel
theorem dX12_drawn_21 : decode cX12_drawn 21 = .ok (.ifCond .eq 21, 3) := by decide +kernel
theorem dX12_drawn_24 : decode cX12_drawn 24 = .ok (.iload_n 2, 1) := by decide +kernel
theorem dX12_drawn_25 : decode cX12_drawn 25 = .ok (.i2l, 1) := by decide +kernel
theorem dX12_drawn_26 : decode cX12_drawn 26 = .ok (.lconst 0, 1) := by decide +kernel
theorem dX12_drawn_27 : decode cX12_drawn 27 = .ok (.lconst 1, 1) := by decide +kernel
theorem dX12_drawn_28 : decode cX12_drawn 28 = .ok (.invokestatic 93, 3) := by decide +kernel
theorem dX12_drawn_31 : decode cX12_drawn 31 = .ok (.ifCond .eq 11, 3) := by decide +kernel
theorem dX12_drawn_34 : decode cX12_drawn 34 = .ok (.aload_n 0, 1) := by decide +kernel
theorem dX12_drawn_35 : decode cX12_drawn 35 = .ok (.iconst 1, 1) := by decide +kernel
theorem dX12_drawn_36 : decode cX12_drawn 36 = .ok (.invokevirtual 382, 3) := by decide +kernel
theorem dX12_drawn_39 : decode cX12_drawn 39 = .ok (.ifCond .ne 6, 3) := by decide +kernel
theorem dX12_drawn_42 : decode cX12_drawn 42 = .ok (.bipush (-2), 2) := by decide +kernel
theorem dX12_drawn_44 : decode cX12_drawn 44 = .ok (.ireturn, 1) := by decide +kernel
theorem dX12_drawn_45 : decode cX12_drawn 45 = .ok (.aload_n 0, 1) := by decide +kernel
theorem dX12_drawn_46 : decode cX12_drawn 46 = .ok (.iload_n 1, 1) := by decide +kernel
theorem dX12_drawn_47 : decode cX12_drawn 47 = .ok (.i2l, 1) := by decide +kernel
theorem dX12_drawn_48 : decode cX12_drawn 48 = .ok (.invokevirtual 458, 3) := by decide +kernel
theorem dX12_drawn_51 : decode cX12_drawn 51 = .ok (.istore_n 3, 1) := by decide +kernel
theorem dX12_drawn_52 : decode cX12_drawn 52 = .ok (.iload_n 2, 1) := by decide +kernel
theorem dX12_drawn_53 : decode cX12_drawn 53 = .ok (.ifCond .ne 7, 3) := by decide +kernel
theorem dX12_drawn_56 : decode cX12_drawn 56 = .ok (.iload_n 3, 1) := by decide +kernel
theorem dX12_drawn_57 : decode cX12_drawn 57 = .ok (.goto 7, 3) := by decide +kernel
theorem dX12_drawn_60 : decode cX12_drawn 60 = .ok (.aload_n 0, 1) := by decide +kernel
theorem dX12_drawn_61 : decode cX12_drawn 61 = .ok (.getfield 445, 3) := by decide +kernel
theorem dX12_drawn_64 : decode cX12_drawn 64 = .ok (.ireturn, 1) := by decide +kernel
theorem dX12_luck_0 : decode cX12_luck 0 = .ok (.aload_n 0, 1) := by decide +kernel
theorem dX12_luck_1 : decode cX12_luck 1 = .ok (.iconst 0, 1) := by decide +kernel
theorem dX12_luck_2 : decode cX12_luck 2 = .ok (.putfield 88, 3) := by decide +kernel
theorem dX12_luck_5 : decode cX12_luck 5 = .ok (.aload_n 0, 1) := by decide +kernel
theorem dX12_luck_6 : decode cX12_luck 6 = .ok (.invokevirtual 323, 3) := by decide +kernel
theorem dX12_luck_9 : decode cX12_luck 9 = .ok (.ifCond .eq 35, 3) := by decide +kernel
theorem dX12_luck_12 : decode cX12_luck 12 = .ok (.iload_n 1, 1) := by decide +kernel
theorem dX12_luck_13 : decode cX12_luck 13 = .ok (.i2l, 1) := by decide +kernel
theorem dX12_luck_14 : decode cX12_luck 14 = .ok (.lconst 0, 1) := by decide +kernel
theorem dX12_luck_15 : decode cX12_luck 15 = .ok (.ldc2_w 456, 3) := by decide +kernel
theorem dX12_luck_18 : decode cX12_luck 18 = .ok (.invokestatic 93, 3) := by decide +kernel
theorem dX12_luck_21 : decode cX12_luck 21 = .ok (.ifCond .eq 23, 3) := by decide +kernel
theorem dX12_luck_24 : decode cX12_luck 24 = .ok (.iload_n 2, 1) := by decide +kernel
theorem dX12_luck_25 : decode cX12_luck 25 = .ok (.i2l, 1) := by decide +kernel
theorem dX12_luck_26 : decode cX12_luck 26 = .ok (.lconst 1, 1) := by decide +kernel
theorem dX12_luck_27 : decode cX12_luck 27 = .ok (.ldc2_w 462, 3) := by decide +kernel
theorem dX12_luck_30 : decode cX12_luck 30 = .ok (.invokestatic 93, 3) := by decide +kernel
theorem dX12_luck_33 : decode cX12_luck 33 = .ok (.ifCond .eq 11, 3) := by decide +kernel
theorem dX12_luck_36 : decode cX12_luck 36 = .ok (.aload_n 0, 1) := by decide +kernel
theorem dX12_luck_37 : decode cX12_luck 37 = .ok (.iconst 1, 1) := by decide +kernel
theorem dX12_luck_38 : decode cX12_luck 38 = .ok (.invokevirtual 382, 3) := by decide +kernel
theorem dX12_luck_41 : decode cX12_luck 41 = .ok (.ifCond .ne 6, 3) := by decide +kernel
theorem dX12_luck_44 : decode cX12_luck 44 = .ok (.bipush (-2), 2) := by decide +kernel
theorem dX12_luck_46 : decode cX12_luck 46 = .ok (.ireturn, 1) := by decide +kernel
theorem dX12_luck_47 : decode cX12_luck 47 = .ok (.iconst 0, 1) := by decide +kernel
theorem dX12_luck_48 : decode cX12_luck 48 = .ok (.istore_n 3, 1) := by decide +kernel
theorem dX12_luck_49 : decode cX12_luck 49 = .ok (.iconst 0, 1) := by decide +kernel
theorem dX12_luck_50 : decode cX12_luck 50 = .ok (.istore 4, 2) := by decide +kernel
theorem dX12_luck_52 : decode cX12_luck 52 = .ok (.iload 4, 2) := by decide +kernel
theorem dX12_luck_54 : decode cX12_luck 54 = .ok (.iload_n 2, 1) := by decide +kernel
theorem dX12_luck_55 : decode cX12_luck 55 = .ok (.if_icmp .ge 31, 3) := by decide +kernel
theorem dX12_luck_58 : decode cX12_luck 58 = .ok (.iload_n 3, 1) := by decide +kernel
theorem dX12_luck_59 : decode cX12_luck 59 = .ok (.aload_n 0, 1) := by decide +kernel
theorem dX12_luck_60 : decode cX12_luck 60 = .ok (.iload_n 1, 1) := by decide +kernel
theorem dX12_luck_61 : decode cX12_luck 61 = .ok (.i2l, 1) := by decide +kernel
theorem dX12_luck_62 : decode cX12_luck 62 = .ok (.iload 4, 2) := by decide +kernel
theorem dX12_luck_64 : decode cX12_luck 64 = .ok (.i2l, 1) := by decide +kernel
theorem dX12_luck_65 : decode cX12_luck 65 = .ok (.ladd, 1) := by decide +kernel
theorem dX12_luck_66 : decode cX12_luck 66 = .ok (.invokevirtual 458, 3) := by decide +kernel
theorem dX12_luck_69 : decode cX12_luck 69 = .ok (.iconst (-1), 1) := by decide +kernel
theorem dX12_luck_70 : decode cX12_luck 70 = .ok (.if_icmp .ne 7, 3) := by decide +kernel
theorem dX12_luck_73 : decode cX12_luck 73 = .ok (.iconst 1, 1) := by decide +kernel
theorem dX12_luck_74 : decode cX12_luck 74 = .ok (.goto 4, 3) := by decide +kernel
theorem dX12_luck_77 : decode cX12_luck 77 = .ok (.iconst 0, 1) := by decide +kernel
theorem dX12_luck_78 : decode cX12_luck 78 = .ok (.iadd, 1) := by decide +kernel
theorem dX12_luck_79 : decode cX12_luck 79 = .ok (.istore_n 3, 1) := by decide +kernel
theorem dX12_luck_80 : decode cX12_luck 80 = .ok (.iinc 4 1, 3) := by decide +kernel
theorem dX12_luck_83 : decode cX12_luck 83 = .ok (.goto (-31), 3) := by decide +kernel
theorem dX12_luck_86 : decode cX12_luck 86 = .ok (.iload_n 3, 1) := by decide +kernel
theorem dX12_luck_87 : decode cX12_luck 87 = .ok (.ireturn, 1) := by decide +kernel
theorem dX12_grow_0 : decode cX12_grow 0 = .ok (.aload_n 0, 1) := by decide +kernel
theorem dX12_grow_1 : decode cX12_grow 1 = .ok (.iconst 0, 1) := by decide +kernel
theorem dX12_grow_2 : decode cX12_grow 2 = .ok (.putfield 88, 3) := by decide +kernel
theorem dX12_grow_5 : decode cX12_grow 5 = .ok (.aload_n 0, 1) := by decide +kernel
theorem dX12_grow_6 : decode cX12_grow 6 = .ok (.iload_n 1, 1) := by decide +kernel
theorem dX12_grow_7 : decode cX12_grow 7 = .ok (.invokevirtual 312, 3) := by decide +kernel
theorem dX12_grow_10 : decode cX12_grow 10 = .ok (.ifCond .eq 15, 3) := by decide +kernel
theorem dX12_grow_13 : decode cX12_grow 13 = .ok (.iload_n 2, 1) := by decide +kernel
theorem dX12_grow_14 : decode cX12_grow 14 = .ok (.i2l, 1) := by decide +kernel
theorem dX12_grow_15 : decode cX12_grow 15 = .ok (.lconst 0, 1) := by decide +kernel
theorem dX12_grow_16 : decode cX12_grow 16 = .ok (.ldc2_w 270, 3) := by decide +kernel
theorem dX12_grow_19 : decode cX12_grow 19 = .ok (.invokestatic 93, 3) := by decide +kernel
theorem dX12_grow_22 : decode cX12_grow 22 = .ok (.ifCond .ne 6, 3) := by decide +kernel
theorem dX12_grow_25 : decode cX12_grow 25 = .ok (.bipush (-2), 2) := by decide +kernel
theorem dX12_grow_27 : decode cX12_grow 27 = .ok (.ireturn, 1) := by decide +kernel
theorem dX12_grow_28 : decode cX12_grow 28 = .ok (.aload_n 0, 1) := by decide +kernel
theorem dX12_grow_29 : decode cX12_grow 29 = .ok (.getfield 37, 3) := by decide +kernel
theorem dX12_grow_32 : decode cX12_grow 32 = .ok (.iload_n 1, 1) := by decide +kernel
theorem dX12_grow_33 : decode cX12_grow 33 = .ok (.iaload, 1) := by decide +kernel
theorem dX12_grow_34 : decode cX12_grow 34 = .ok (.istore_n 3, 1) := by decide +kernel
theorem dX12_grow_35 : decode cX12_grow 35 = .ok (.aload_n 0, 1) := by decide +kernel
theorem dX12_grow_36 : decode cX12_grow 36 = .ok (.getfield 37, 3) := by decide +kernel
theorem dX12_grow_39 : decode cX12_grow 39 = .ok (.iload_n 1, 1) := by decide +kernel
theorem dX12_grow_40 : decode cX12_grow 40 = .ok (.iload_n 2, 1) := by decide +kernel
theorem dX12_grow_41 : decode cX12_grow 41 = .ok (.iastore, 1) := by decide +kernel
theorem dX12_grow_42 : decode cX12_grow 42 = .ok (.iload_n 3, 1) := by decide +kernel
theorem dX12_grow_43 : decode cX12_grow 43 = .ok (.ireturn, 1) := by decide +kernel
theorem dX12_guard_0 : decode cX12_guard 0 = .ok (.aload_n 0, 1) := by decide +kernel
theorem dX12_guard_1 : decode cX12_guard 1 = .ok (.iconst 0, 1) := by decide +kernel
theorem dX12_guard_2 : decode cX12_guard 2 = .ok (.putfield 88, 3) := by decide +kernel
theorem dX12_guard_5 : decode cX12_guard 5 = .ok (.aload_n 0, 1) := by decide +kernel
theorem dX12_guard_6 : decode cX12_guard 6 = .ok (.iload_n 1, 1) := by decide +kernel
theorem dX12_guard_7 : decode cX12_guard 7 = .ok (.invokevirtual 320, 3) := by decide +kernel
theorem dX12_guard_10 : decode cX12_guard 10 = .ok (.ifCond .eq 15, 3) := by decide +kernel
theorem dX12_guard_13 : decode cX12_guard 13 = .ok (.iload_n 2, 1) := by decide +kernel
theorem dX12_guard_14 : decode cX12_guard 14 = .ok (.i2l, 1) := by decide +kernel
theorem dX12_guard_15 : decode cX12_guard 15 = .ok (.lconst 0, 1) := by decide +kernel
theorem dX12_guard_16 : decode cX12_guard 16 = .ok (.ldc2_w 270, 3) := by decide +kernel
theorem dX12_guard_19 : decode cX12_guard 19 = .ok (.invokestatic 93, 3) := by decide +kernel
theorem dX12_guard_22 : decode cX12_guard 22 = .ok (.ifCond .ne 6, 3) := by decide +kernel
theorem dX12_guard_25 : decode cX12_guard 25 = .ok (.bipush (-2), 2) := by decide +kernel
theorem dX12_guard_27 : decode cX12_guard 27 = .ok (.ireturn, 1) := by decide +kernel
theorem dX12_guard_28 : decode cX12_guard 28 = .ok (.aload_n 0, 1) := by decide +kernel
theorem dX12_guard_29 : decode cX12_guard 29 = .ok (.getfield 43, 3) := by decide +kernel
theorem dX12_guard_32 : decode cX12_guard 32 = .ok (.iconst 3, 1) := by decide +kernel
theorem dX12_guard_33 : decode cX12_guard 33 = .ok (.iload_n 1, 1) := by decide +kernel
theorem dX12_guard_34 : decode cX12_guard 34 = .ok (.imul, 1) := by decide +kernel
theorem dX12_guard_35 : decode cX12_guard 35 = .ok (.iaload, 1) := by decide +kernel
theorem dX12_guard_36 : decode cX12_guard 36 = .ok (.istore_n 3, 1) := by decide +kernel
theorem dX12_guard_37 : decode cX12_guard 37 = .ok (.aload_n 0, 1) := by decide +kernel
theorem dX12_guard_38 : decode cX12_guard 38 = .ok (.getfield 43, 3) := by decide +kernel
theorem dX12_guard_41 : decode cX12_guard 41 = .ok (.iconst 3, 1) := by decide +kernel
theorem dX12_guard_42 : decode cX12_guard 42 = .ok (.iload_n 1, 1) := by decide +kernel
theorem dX12_guard_43 : decode cX12_guard 43 = .ok (.imul, 1) := by decide +kernel
theorem dX12_guard_44 : decode cX12_guard 44 = .ok (.iload_n 2, 1) := by decide +kernel
theorem dX12_guard_45 : decode cX12_guard 45 = .ok (.iastore, 1) := by decide +kernel
theorem dX12_guard_46 : decode cX12_guard 46 = .ok (.iload_n 3, 1) := by decide +kernel
theorem dX12_guard_47 : decode cX12_guard 47 = .ok (.ireturn, 1) := by decide +kernel
theorem dX12_stay_0 : decode cX12_stay 0 = .ok (.aload_n 0, 1) := by decide +kernel
theorem dX12_stay_1 : decode cX12_stay 1 = .ok (.iconst 0, 1) := by decide +kernel
theorem dX12_stay_2 : decode cX12_stay 2 = .ok (.putfield 88, 3) := by decide +kernel
theorem dX12_stay_5 : decode cX12_stay 5 = .ok (.aload_n 0, 1) := by decide +kernel
theorem dX12_stay_6 : decode cX12_stay 6 = .ok (.iload_n 1, 1) := by decide +kernel
theorem dX12_stay_7 : decode cX12_stay 7 = .ok (.invokevirtual 312, 3) := by decide +kernel
theorem dX12_stay_10 : decode cX12_stay 10 = .ok (.ifCond .eq 13, 3) := by decide +kernel
theorem dX12_stay_13 : decode cX12_stay 13 = .ok (.iload_n 2, 1) := by decide +kernel
theorem dX12_stay_14 : decode cX12_stay 14 = .ok (.i2l, 1) := by decide +kernel
theorem dX12_stay_15 : decode cX12_stay 15 = .ok (.lconst 0, 1) := by decide +kernel
theorem dX12_stay_16 : decode cX12_stay 16 = .ok (.lconst 1, 1) := by decide +kernel
theorem dX12_stay_17 : decode cX12_stay 17 = .ok (.invokestatic 93, 3) := by decide +kernel
theorem dX12_stay_20 : decode cX12_stay 20 = .ok (.ifCond .ne 6, 3) := by decide +kernel
theorem dX12_stay_23 : decode cX12_stay 23 = .ok (.bipush (-2), 2) := by decide +kernel
theorem dX12_stay_25 : decode cX12_stay 25 = .ok (.ireturn, 1) := by decide +kernel
theorem dX12_stay_26 : decode cX12_stay 26 = .ok (.aload_n 0, 1) := by decide +kernel
theorem dX12_stay_27 : decode cX12_stay 27 = .ok (.getfield 34, 3) := by decide +kernel
theorem dX12_stay_30 : decode cX12_stay 30 = .ok (.iconst 5, 1) := by decide +kernel
theorem dX12_stay_31 : decode cX12_stay 31 = .ok (.iaload, 1) := by decide +kernel
theorem dX12_stay_32 : decode cX12_stay 32 = .ok (.iload_n 1, 1) := by decide +kernel
theorem dX12_stay_33 : decode cX12_stay 33 = .ok (.ishr, 1) := by decide +kernel
theorem dX12_stay_34 : decode cX12_stay 34 = .ok (.iconst 1, 1) := by decide +kernel
theorem dX12_stay_35 : decode cX12_stay 35 = .ok (.iand, 1) := by decide +kernel
theorem dX12_stay_36 : decode cX12_stay 36 = .ok (.istore_n 3, 1) := by decide +kernel
theorem dX12_stay_37 : decode cX12_stay 37 = .ok (.aload_n 0, 1) := by decide +kernel
theorem dX12_stay_38 : decode cX12_stay 38 = .ok (.getfield 34, 3) := by decide +kernel
theorem dX12_stay_41 : decode cX12_stay 41 = .ok (.iconst 5, 1) := by decide +kernel
theorem dX12_stay_42 : decode cX12_stay 42 = .ok (.aload_n 0, 1) := by decide +kernel
theorem dX12_stay_43 : decode cX12_stay 43 = .ok (.getfield 34, 3) := by decide +kernel
theorem dX12_stay_46 : decode cX12_stay 46 = .ok (.iconst 5, 1) := by decide +kernel
theorem dX12_stay_47 : decode cX12_stay 47 = .ok (.iaload, 1) := by decide +kernel
theorem dX12_stay_48 : decode cX12_stay 48 = .ok (.iconst 1, 1) := by decide +kernel
theorem dX12_stay_49 : decode cX12_stay 49 = .ok (.iload_n 1, 1) := by decide +kernel
theorem dX12_stay_50 : decode cX12_stay 50 = .ok (.ishl, 1) := by decide +kernel
theorem dX12_stay_51 : decode cX12_stay 51 = .ok (.iconst (-1), 1) := by decide +kernel
theorem dX12_stay_52 : decode cX12_stay 52 = .ok (.ixor, 1) := by decide +kernel
theorem dX12_stay_53 : decode cX12_stay 53 = .ok (.iand, 1) := by decide +kernel
theorem dX12_stay_54 : decode cX12_stay 54 = .ok (.iload_n 2, 1) := by decide +kernel
theorem dX12_stay_55 : decode cX12_stay 55 = .ok (.iload_n 1, 1) := by decide +kernel
theorem dX12_stay_56 : decode cX12_stay 56 = .ok (.ishl, 1) := by decide +kernel
theorem dX12_stay_57 : decode cX12_stay 57 = .ok (.ior, 1) := by decide +kernel
theorem dX12_stay_58 : decode cX12_stay 58 = .ok (.iastore, 1) := by decide +kernel
theorem dX12_stay_59 : decode cX12_stay 59 = .ok (.iload_n 3, 1) := by decide +kernel
theorem dX12_stay_60 : decode cX12_stay 60 = .ok (.ireturn, 1) := by decide +kernel
theorem dX12_count_0 : decode cX12_count 0 = .ok (.aload_n 0, 1) := by decide +kernel
theorem dX12_count_1 : decode cX12_count 1 = .ok (.iconst 0, 1) := by decide +kernel
theorem dX12_count_2 : decode cX12_count 2 = .ok (.putfield 88, 3) := by decide +kernel
theorem dX12_count_5 : decode cX12_count 5 = .ok (.iconst 0, 1) := by decide +kernel
theorem dX12_count_6 : decode cX12_count 6 = .ok (.istore_n 2, 1) := by decide +kernel
theorem dX12_count_7 : decode cX12_count 7 = .ok (.iload_n 1, 1) := by decide +kernel
theorem dX12_count_8 : decode cX12_count 8 = .ok (.tableswitch 157 0 9 #[56, 63, 70, 77, 87, 97, 104, 112, 119, 124], 56) := by decide +kernel
theorem dX12_count_64 : decode cX12_count 64 = .ok (.aload_n 0, 1) := by decide +kernel
theorem dX12_count_65 : decode cX12_count 65 = .ok (.getfield 34, 3) := by decide +kernel
theorem dX12_count_68 : decode cX12_count 68 = .ok (.iconst 2, 1) := by decide +kernel
theorem dX12_count_69 : decode cX12_count 69 = .ok (.iaload, 1) := by decide +kernel
theorem dX12_count_70 : decode cX12_count 70 = .ok (.ireturn, 1) := by decide +kernel
theorem dX12_count_71 : decode cX12_count 71 = .ok (.aload_n 0, 1) := by decide +kernel
theorem dX12_count_72 : decode cX12_count 72 = .ok (.getfield 34, 3) := by decide +kernel
theorem dX12_count_75 : decode cX12_count 75 = .ok (.iconst 3, 1) := by decide +kernel
theorem dX12_count_76 : decode cX12_count 76 = .ok (.iaload, 1) := by decide +kernel
theorem dX12_count_77 : decode cX12_count 77 = .ok (.ireturn, 1) := by decide +kernel
theorem dX12_count_78 : decode cX12_count 78 = .ok (.aload_n 0, 1) := by decide +kernel
theorem dX12_count_79 : decode cX12_count 79 = .ok (.getfield 34, 3) := by decide +kernel
theorem dX12_count_82 : decode cX12_count 82 = .ok (.iconst 0, 1) := by decide +kernel
theorem dX12_count_83 : decode cX12_count 83 = .ok (.iaload, 1) := by decide +kernel
theorem dX12_count_84 : decode cX12_count 84 = .ok (.ireturn, 1) := by decide +kernel
theorem dX12_count_85 : decode cX12_count 85 = .ok (.aload_n 0, 1) := by decide +kernel
theorem dX12_count_86 : decode cX12_count 86 = .ok (.getfield 34, 3) := by decide +kernel
theorem dX12_count_89 : decode cX12_count 89 = .ok (.iconst 4, 1) := by decide +kernel
theorem dX12_count_90 : decode cX12_count 90 = .ok (.iaload, 1) := by decide +kernel
theorem dX12_count_91 : decode cX12_count 91 = .ok (.invokestatic 397, 3) := by decide +kernel
theorem dX12_count_94 : decode cX12_count 94 = .ok (.ireturn, 1) := by decide +kernel
theorem dX12_count_95 : decode cX12_count 95 = .ok (.aload_n 0, 1) := by decide +kernel
theorem dX12_count_96 : decode cX12_count 96 = .ok (.getfield 34, 3) := by decide +kernel
theorem dX12_count_99 : decode cX12_count 99 = .ok (.iconst 5, 1) := by decide +kernel
theorem dX12_count_100 : decode cX12_count 100 = .ok (.iaload, 1) := by decide +kernel
theorem dX12_count_101 : decode cX12_count 101 = .ok (.invokestatic 397, 3) := by decide +kernel
theorem dX12_count_104 : decode cX12_count 104 = .ok (.ireturn, 1) := by decide +kernel
theorem dX12_count_105 : decode cX12_count 105 = .ok (.aload_n 0, 1) := by decide +kernel
theorem dX12_count_106 : decode cX12_count 106 = .ok (.getfield 34, 3) := by decide +kernel
theorem dX12_count_109 : decode cX12_count 109 = .ok (.iconst 1, 1) := by decide +kernel
theorem dX12_count_110 : decode cX12_count 110 = .ok (.iaload, 1) := by decide +kernel
theorem dX12_count_111 : decode cX12_count 111 = .ok (.ireturn, 1) := by decide +kernel
theorem dX12_count_112 : decode cX12_count 112 = .ok (.aload_n 0, 1) := by decide +kernel
theorem dX12_count_113 : decode cX12_count 113 = .ok (.getfield 34, 3) := by decide +kernel
theorem dX12_count_116 : decode cX12_count 116 = .ok (.bipush 6, 2) := by decide +kernel
theorem dX12_count_118 : decode cX12_count 118 = .ok (.iaload, 1) := by decide +kernel
theorem dX12_count_119 : decode cX12_count 119 = .ok (.ireturn, 1) := by decide +kernel
theorem dX12_count_120 : decode cX12_count 120 = .ok (.aload_n 0, 1) := by decide +kernel
theorem dX12_count_121 : decode cX12_count 121 = .ok (.getfield 31, 3) := by decide +kernel
theorem dX12_count_124 : decode cX12_count 124 = .ok (.iconst 0, 1) := by decide +kernel
theorem dX12_count_125 : decode cX12_count 125 = .ok (.iaload, 1) := by decide +kernel
theorem dX12_count_126 : decode cX12_count 126 = .ok (.ireturn, 1) := by decide +kernel
theorem dX12_count_127 : decode cX12_count 127 = .ok (.aload_n 0, 1) := by decide +kernel
theorem dX12_count_128 : decode cX12_count 128 = .ok (.getfield 105, 3) := by decide +kernel
theorem dX12_count_131 : decode cX12_count 131 = .ok (.ireturn, 1) := by decide +kernel
theorem dX12_count_132 : decode cX12_count 132 = .ok (.iconst 0, 1) := by decide +kernel
theorem dX12_count_133 : decode cX12_count 133 = .ok (.istore_n 3, 1) := by decide +kernel
theorem dX12_count_134 : decode cX12_count 134 = .ok (.iload_n 3, 1) := by decide +kernel
theorem dX12_count_135 : decode cX12_count 135 = .ok (.iconst 4, 1) := by decide +kernel
theorem dX12_count_136 : decode cX12_count 136 = .ok (.if_icmp .ge 27, 3) := by decide +kernel
theorem dX12_count_139 : decode cX12_count 139 = .ok (.iload_n 2, 1) := by decide +kernel
theorem dX12_count_140 : decode cX12_count 140 = .ok (.aload_n 0, 1) := by decide +kernel
theorem dX12_count_141 : decode cX12_count 141 = .ok (.getfield 7, 3) := by decide +kernel
theorem dX12_count_144 : decode cX12_count 144 = .ok (.iload_n 3, 1) := by decide +kernel
theorem dX12_count_145 : decode cX12_count 145 = .ok (.iaload, 1) := by decide +kernel
theorem dX12_count_146 : decode cX12_count 146 = .ok (.iconst (-1), 1) := by decide +kernel
theorem dX12_count_147 : decode cX12_count 147 = .ok (.if_icmp .ne 7, 3) := by decide +kernel
theorem dX12_count_150 : decode cX12_count 150 = .ok (.iconst 0, 1) := by decide +kernel
theorem dX12_count_151 : decode cX12_count 151 = .ok (.goto 4, 3) := by decide +kernel
theorem dX12_count_154 : decode cX12_count 154 = .ok (.iconst 1, 1) := by decide +kernel
theorem dX12_count_155 : decode cX12_count 155 = .ok (.iadd, 1) := by decide +kernel
theorem dX12_count_156 : decode cX12_count 156 = .ok (.istore_n 2, 1) := by decide +kernel
theorem dX12_count_157 : decode cX12_count 157 = .ok (.iinc 3 1, 3) := by decide +kernel
theorem dX12_count_160 : decode cX12_count 160 = .ok (.goto (-26), 3) := by decide +kernel
theorem dX12_count_163 : decode cX12_count 163 = .ok (.iload_n 2, 1) := by decide +kernel
theorem dX12_count_164 : decode cX12_count 164 = .ok (.ireturn, 1) := by decide +kernel
theorem dX12_count_165 : decode cX12_count 165 = .ok (.iconst (-1), 1) := by decide +kernel
theorem dX12_count_166 : decode cX12_count 166 = .ok (.ireturn, 1) := by decide +kernel
theorem dX12_image_0 : decode cX12_image 0 = .ok (.aload_n 0, 1) := by decide +kernel
theorem dX12_image_1 : decode cX12_image 1 = .ok (.iconst 0, 1) := by decide +kernel
theorem dX12_image_2 : decode cX12_image 2 = .ok (.putfield 88, 3) := by decide +kernel
theorem dX12_image_5 : decode cX12_image 5 = .ok (.iload_n 1, 1) := by decide +kernel
theorem dX12_image_6 : decode cX12_image 6 = .ok (.i2l, 1) := by decide +kernel
theorem dX12_image_7 : decode cX12_image 7 = .ok (.lconst 0, 1) := by decide +kernel
theorem dX12_image_8 : decode cX12_image 8 = .ok (.ldc2_w 464, 3) := by decide +kernel
theorem dX12_image_11 : decode cX12_image 11 = .ok (.invokestatic 93, 3) := by decide +kernel
theorem dX12_image_14 : decode cX12_image 14 = .ok (.ifCond .ne 6, 3) := by decide +kernel
theorem dX12_image_17 : decode cX12_image 17 = .ok (.bipush (-2), 2) := by decide +kernel
theorem dX12_image_19 : decode cX12_image 19 = .ok (.ireturn, 1) := by decide +kernel
theorem dX12_image_20 : decode cX12_image 20 = .ok (.aload_n 0, 1) := by decide +kernel
theorem dX12_image_21 : decode cX12_image 21 = .ok (.iconst 0, 1) := by decide +kernel
theorem dX12_image_22 : decode cX12_image 22 = .ok (.iconst 1, 1) := by decide +kernel
theorem dX12_image_23 : decode cX12_image 23 = .ok (.iload_n 1, 1) := by decide +kernel
theorem dX12_image_24 : decode cX12_image 24 = .ok (.iadd, 1) := by decide +kernel
theorem dX12_image_25 : decode cX12_image 25 = .ok (.invokevirtual 231, 3) := by decide +kernel
theorem dX12_image_28 : decode cX12_image 28 = .ok (.aload_n 0, 1) := by decide +kernel
theorem dX12_image_29 : decode cX12_image 29 = .ok (.getfield 49, 3) := by decide +kernel
theorem dX12_image_32 : decode cX12_image 32 = .ok (.iload_n 1, 1) := by decide +kernel
theorem dX12_image_33 : decode cX12_image 33 = .ok (.iconst 1, 1) := by decide +kernel
theorem dX12_image_34 : decode cX12_image 34 = .ok (.bastore, 1) := by decide +kernel
theorem dX12_image_35 : decode cX12_image 35 = .ok (.iconst 0, 1) := by decide +kernel
theorem dX12_image_36 : decode cX12_image 36 = .ok (.ireturn, 1) := by decide +kernel
theorem dX12_back_0 : decode cX12_back 0 = .ok (.aload_n 0, 1) := by decide +kernel
theorem dX12_back_1 : decode cX12_back 1 = .ok (.iconst 0, 1) := by decide +kernel
theorem dX12_back_2 : decode cX12_back 2 = .ok (.putfield 88, 3) := by decide +kernel
theorem dX12_back_5 : decode cX12_back 5 = .ok (.iload_n 1, 1) := by decide +kernel
theorem dX12_back_6 : decode cX12_back 6 = .ok (.i2l, 1) := by decide +kernel
theorem dX12_back_7 : decode cX12_back 7 = .ok (.lconst 0, 1) := by decide +kernel
theorem dX12_back_8 : decode cX12_back 8 = .ok (.ldc2_w 464, 3) := by decide +kernel
theorem dX12_back_11 : decode cX12_back 11 = .ok (.invokestatic 93, 3) := by decide +kernel
theorem dX12_back_14 : decode cX12_back 14 = .ok (.ifCond .ne 6, 3) := by decide +kernel
theorem dX12_back_17 : decode cX12_back 17 = .ok (.bipush (-2), 2) := by decide +kernel
theorem dX12_back_19 : decode cX12_back 19 = .ok (.ireturn, 1) := by decide +kernel
theorem dX12_back_20 : decode cX12_back 20 = .ok (.aload_n 0, 1) := by decide +kernel
theorem dX12_back_21 : decode cX12_back 21 = .ok (.getfield 49, 3) := by decide +kernel
theorem dX12_back_24 : decode cX12_back 24 = .ok (.iload_n 1, 1) := by decide +kernel
theorem dX12_back_25 : decode cX12_back 25 = .ok (.baload, 1) := by decide +kernel
theorem dX12_back_26 : decode cX12_back 26 = .ok (.ifCond .ne 6, 3) := by decide +kernel
theorem dX12_back_29 : decode cX12_back 29 = .ok (.bipush (-6), 2) := by decide +kernel
theorem dX12_back_31 : decode cX12_back 31 = .ok (.ireturn, 1) := by decide +kernel
theorem dX12_back_32 : decode cX12_back 32 = .ok (.aload_n 0, 1) := by decide +kernel
theorem dX12_back_33 : decode cX12_back 33 = .ok (.iconst 1, 1) := by decide +kernel
theorem dX12_back_34 : decode cX12_back 34 = .ok (.iload_n 1, 1) := by decide +kernel
theorem dX12_back_35 : decode cX12_back 35 = .ok (.iadd, 1) := by decide +kernel
theorem dX12_back_36 : decode cX12_back 36 = .ok (.iconst 0, 1) := by decide +kernel
theorem dX12_back_37 : decode cX12_back 37 = .ok (.invokevirtual 231, 3) := by decide +kernel
theorem dX12_back_40 : decode cX12_back 40 = .ok (.iconst 0, 1) := by decide +kernel
theorem dX12_back_41 : decode cX12_back 41 = .ok (.ireturn, 1) := by decide +kernel
