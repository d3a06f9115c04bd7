theorem dX0_init_0 : decode cX0_init 0 = .ok (.aload_n 0, 1) := by decide +kernel
theorem dX0_init_1 : decode cX0_init 1 = .ok (.aload_n 1, 1) := by decide +kernel
theorem dX0_init_2 : decode cX0_init 2 = .ok (.iload_n 2, 1) := by decide +kernel
theorem dX0_init_3 : decode cX0_init 3 = .ok (.aload_n 3, 1) := by decide +kernel
theorem dX0_init_4 : decode cX0_init 4 = .ok (.aload 4, 2) := by decide +kernel
theorem dX0_init_6 : decode cX0_init 6 = .ok (.aload 5, 2) := by decide +kernel
theorem dX0_init_8 : decode cX0_init 8 = .ok (.invokespecial 3, 3) := by decide +kernel
theorem dX0_init_11 : decode cX0_init 11 = .ok (.aload_n 1, 1) := by decide +kernel
theorem dX0_init_12 : decode cX0_init 12 = .ok (.iconst 5, 1) := by decide +kernel
theorem dX0_init_13 : decode cX0_init 13 = .ok (.invokevirtual 9, 3) := by decide +kernel
theorem dX0_init_16 : decode cX0_init 16 = .ok (.aload_n 1, 1) := by decide +kernel
theorem dX0_init_17 : decode cX0_init 17 = .ok (.bipush 6, 2) := by decide +kernel
theorem dX0_init_19 : decode cX0_init 19 = .ok (.invokevirtual 9, 3) := by decide +kernel
theorem dX0_init_22 : decode cX0_init 22 = .ok (.return_, 1) := by decide +kernel
theorem dX0_kind_0 : decode cX0_kind 0 = .ok (.iconst 2, 1) := by decide +kernel
theorem dX0_kind_1 : decode cX0_kind 1 = .ok (.ireturn, 1) := by decide +kernel
theorem dX0_speak_0 : decode cX0_speak 0 = .ok (.aload_n 0, 1) := by decide +kernel
theorem dX0_speak_1 : decode cX0_speak 1 = .ok (.getfield 15, 3) := by decide +kernel
theorem dX0_speak_4 : decode cX0_speak 4 = .ok (.bipush 13, 2) := by decide +kernel
theorem dX0_speak_6 : decode cX0_speak 6 = .ok (.invokevirtual 9, 3) := by decide +kernel
theorem dX0_speak_9 : decode cX0_speak 9 = .ok (.aload_n 0, 1) := by decide +kernel
theorem dX0_speak_10 : decode cX0_speak 10 = .ok (.invokevirtual 21, 3) := by decide +kernel
theorem dX0_speak_13 : decode cX0_speak 13 = .ok (.sipush 200, 3) := by decide +kernel
theorem dX0_speak_16 : decode cX0_speak 16 = .ok (.iadd, 1) := by decide +kernel
theorem dX0_speak_17 : decode cX0_speak 17 = .ok (.ireturn, 1) := by decide +kernel
theorem dX1_init_0 : decode cX1_init 0 = .ok (.aload_n 0, 1) := by decide +kernel
theorem dX1_init_1 : decode cX1_init 1 = .ok (.aload_n 1, 1) := by decide +kernel
theorem dX1_init_2 : decode cX1_init 2 = .ok (.iload_n 2, 1) := by decide +kernel
theorem dX1_init_3 : decode cX1_init 3 = .ok (.aload_n 3, 1) := by decide +kernel
theorem dX1_init_4 : decode cX1_init 4 = .ok (.aload 4, 2) := by decide +kernel
theorem dX1_init_6 : decode cX1_init 6 = .ok (.aload 5, 2) := by decide +kernel
theorem dX1_init_8 : decode cX1_init 8 = .ok (.invokespecial 3, 3) := by decide +kernel
theorem dX1_init_11 : decode cX1_init 11 = .ok (.aload_n 1, 1) := by decide +kernel
theorem dX1_init_12 : decode cX1_init 12 = .ok (.iconst 3, 1) := by decide +kernel
theorem dX1_init_13 : decode cX1_init 13 = .ok (.invokevirtual 9, 3) := by decide +kernel
theorem dX1_init_16 : decode cX1_init 16 = .ok (.aload_n 1, 1) := by decide +kernel
theorem dX1_init_17 : decode cX1_init 17 = .ok (.iconst 4, 1) := by decide +kernel
theorem dX1_init_18 : decode cX1_init 18 = .ok (.invokevirtual 9, 3) := by decide +kernel
theorem dX1_init_21 : decode cX1_init 21 = .ok (.return_, 1) := by decide +kernel
theorem dX1_kind_0 : decode cX1_kind 0 = .ok (.iconst 1, 1) := by decide +kernel
theorem dX1_kind_1 : decode cX1_kind 1 = .ok (.ireturn, 1) := by decide +kernel
theorem dX1_speak_0 : decode cX1_speak 0 = .ok (.aload_n 0, 1) := by decide +kernel
theorem dX1_speak_1 : decode cX1_speak 1 = .ok (.getfield 15, 3) := by decide +kernel
theorem dX1_speak_4 : decode cX1_speak 4 = .ok (.bipush 12, 2) := by decide +kernel
theorem dX1_speak_6 : decode cX1_speak 6 = .ok (.invokevirtual 9, 3) := by decide +kernel
theorem dX1_speak_9 : decode cX1_speak 9 = .ok (.aload_n 0, 1) := by decide +kernel
theorem dX1_speak_10 : decode cX1_speak 10 = .ok (.invokevirtual 21, 3) := by decide +kernel
theorem dX1_speak_13 : decode cX1_speak 13 = .ok (.bipush 100, 2) := by decide +kernel
theorem dX1_speak_15 : decode cX1_speak 15 = .ok (.iadd, 1) := by decide +kernel
theorem dX1_speak_16 : decode cX1_speak 16 = .ok (.ireturn, 1) := by decide +kernel
theorem dX2_init_0 : decode cX2_init 0 = .ok (.aload_n 0, 1) := by decide +kernel
theorem dX2_init_1 : decode cX2_init 1 = .ok (.invokespecial 3, 3) := by decide +kernel
theorem dX2_init_4 : decode cX2_init 4 = .ok (.aload_n 0, 1) := by decide +kernel
theorem dX2_init_5 : decode cX2_init 5 = .ok (.sipush 289, 3) := by decide +kernel
theorem dX2_init_8 : decode cX2_init 8 = .ok (.newarray .int, 2) := by decide +kernel
theorem dX2_init_10 : decode cX2_init 10 = .ok (.putfield 11, 3) := by decide +kernel
theorem dX2_init_13 : decode cX2_init 13 = .ok (.aload_n 0, 1) := by decide +kernel
theorem dX2_init_14 : decode cX2_init 14 = .ok (.bipush 16, 2) := by decide +kernel
theorem dX2_init_16 : decode cX2_init 16 = .ok (.newarray .int, 2) := by decide +kernel
theorem dX2_init_18 : decode cX2_init 18 = .ok (.putfield 15, 3) := by decide +kernel
theorem dX2_init_21 : decode cX2_init 21 = .ok (.aload_n 0, 1) := by decide +kernel
theorem dX2_init_22 : decode cX2_init 22 = .ok (.bipush 17, 2) := by decide +kernel
theorem dX2_init_24 : decode cX2_init 24 = .ok (.anewarray 18, 3) := by decide +kernel
theorem dX2_init_27 : decode cX2_init 27 = .ok (.putfield 20, 3) := by decide +kernel
theorem dX2_init_30 : decode cX2_init 30 = .ok (.aload_n 0, 1) := by decide +kernel
theorem dX2_init_31 : decode cX2_init 31 = .ok (.bipush 17, 2) := by decide +kernel
theorem dX2_init_33 : decode cX2_init 33 = .ok (.anewarray 18, 3) := by decide +kernel
theorem dX2_init_36 : decode cX2_init 36 = .ok (.putfield 24, 3) := by decide +kernel
theorem dX2_init_39 : decode cX2_init 39 = .ok (.iconst 0, 1) := by decide +kernel
theorem dX2_init_40 : decode cX2_init 40 = .ok (.istore_n 1, 1) := by decide +kernel
theorem dX2_init_41 : decode cX2_init 41 = .ok (.iload_n 1, 1) := by decide +kernel
theorem dX2_init_42 : decode cX2_init 42 = .ok (.bipush 17, 2) := by decide +kernel
theorem dX2_init_44 : decode cX2_init 44 = .ok (.if_icmp .ge 35, 3) := by decide +kernel
theorem dX2_init_47 : decode cX2_init 47 = .ok (.aload_n 0, 1) := by decide +kernel
theorem dX2_init_48 : decode cX2_init 48 = .ok (.getfield 20, 3) := by decide +kernel
theorem dX2_init_51 : decode cX2_init 51 = .ok (.iload_n 1, 1) := by decide +kernel
theorem dX2_init_52 : decode cX2_init 52 = .ok (.new 18, 3) := by decide +kernel
theorem dX2_init_55 : decode cX2_init 55 = .ok (.dup, 1) := by decide +kernel
theorem dX2_init_56 : decode cX2_init 56 = .ok (.invokespecial 27, 3) := by decide +kernel
theorem dX2_init_59 : decode cX2_init 59 = .ok (.aastore, 1) := by decide +kernel
theorem dX2_init_60 : decode cX2_init 60 = .ok (.aload_n 0, 1) := by decide +kernel
theorem dX2_init_61 : decode cX2_init 61 = .ok (.getfield 24, 3) := by decide +kernel
theorem dX2_init_64 : decode cX2_init 64 = .ok (.iload_n 1, 1) := by decide +kernel
theorem dX2_init_65 : decode cX2_init 65 = .ok (.new 18, 3) := by decide +kernel
theorem dX2_init_68 : decode cX2_init 68 = .ok (.dup, 1) := by decide +kernel
theorem dX2_init_69 : decode cX2_init 69 = .ok (.invokespecial 27, 3) := by decide +kernel
theorem dX2_init_72 : decode cX2_init 72 = .ok (.aastore, 1) := by decide +kernel
theorem dX2_init_73 : decode cX2_init 73 = .ok (.iinc 1 1, 3) := by decide +kernel
theorem dX2_init_76 : decode cX2_init 76 = .ok (.goto (-35), 3) := by decide +kernel
theorem dX2_init_79 : decode cX2_init 79 = .ok (.return_, 1) := by decide +kernel
theorem dX2_match_0 : decode cX2_match 0 = .ok (.aload_n 1, 1) := by decide +kernel
theorem dX2_match_1 : decode cX2_match 1 = .ok (.arraylength, 1) := by decide +kernel
theorem dX2_match_2 : decode cX2_match 2 = .ok (.bipush 16, 2) := by decide +kernel
theorem dX2_match_4 : decode cX2_match 4 = .ok (.invokestatic 28, 3) := by decide +kernel
theorem dX2_match_7 : decode cX2_match 7 = .ok (.istore_n 3, 1) := by decide +kernel
theorem dX2_match_8 : decode cX2_match 8 = .ok (.aload_n 2, 1) := by decide +kernel
theorem dX2_match_9 : decode cX2_match 9 = .ok (.arraylength, 1) := by decide +kernel
theorem dX2_match_10 : decode cX2_match 10 = .ok (.bipush 16, 2) := by decide +kernel
theorem dX2_match_12 : decode cX2_match 12 = .ok (.invokestatic 28, 3) := by decide +kernel
theorem dX2_match_15 : decode cX2_match 15 = .ok (.istore 4, 2) := by decide +kernel
theorem dX2_match_17 : decode cX2_match 17 = .ok (.aload_n 0, 1) := by decide +kernel
theorem dX2_match_18 : decode cX2_match 18 = .ok (.aload_n 1, 1) := by decide +kernel
theorem dX2_match_19 : decode cX2_match 19 = .ok (.iload_n 3, 1) := by decide +kernel
theorem dX2_match_20 : decode cX2_match 20 = .ok (.aload_n 2, 1) := by decide +kernel
theorem dX2_match_21 : decode cX2_match 21 = .ok (.iload 4, 2) := by decide +kernel
theorem dX2_match_23 : decode cX2_match 23 = .ok (.invokevirtual 34, 3) := by decide +kernel
theorem dX2_match_26 : decode cX2_match 26 = .ok (.aload_n 0, 1) := by decide +kernel
theorem dX2_match_27 : decode cX2_match 27 = .ok (.getfield 11, 3) := by decide +kernel
theorem dX2_match_30 : decode cX2_match 30 = .ok (.iconst 0, 1) := by decide +kernel
theorem dX2_match_31 : decode cX2_match 31 = .ok (.iaload, 1) := by decide +kernel
theorem dX2_match_32 : decode cX2_match 32 = .ok (.istore 5, 2) := by decide +kernel
theorem dX2_match_34 : decode cX2_match 34 = .ok (.iconst 0, 1) := by decide +kernel
theorem dX2_match_35 : decode cX2_match 35 = .ok (.istore 6, 2) := by decide +kernel
theorem dX2_match_37 : decode cX2_match 37 = .ok (.iconst 0, 1) := by decide +kernel
theorem dX2_match_38 : decode cX2_match 38 = .ok (.istore 7, 2) := by decide +kernel
theorem dX2_match_40 : decode cX2_match 40 = .ok (.iload 7, 2) := by decide +kernel
theorem dX2_match_42 : decode cX2_match 42 = .ok (.iload_n 3, 1) := by decide +kernel
theorem dX2_match_43 : decode cX2_match 43 = .ok (.if_icmp .ge 96, 3) := by decide +kernel
theorem dX2_match_46 : decode cX2_match 46 = .ok (.aload_n 0, 1) := by decide +kernel
theorem dX2_match_47 : decode cX2_match 47 = .ok (.getfield 15, 3) := by decide +kernel
theorem dX2_match_50 : decode cX2_match 50 = .ok (.iload 7, 2) := by decide +kernel
theorem dX2_match_52 : decode cX2_match 52 = .ok (.bipush (-9), 2) := by decide +kernel
theorem dX2_match_54 : decode cX2_match 54 = .ok (.iastore, 1) := by decide +kernel
theorem dX2_match_55 : decode cX2_match 55 = .ok (.iload 6, 2) := by decide +kernel
theorem dX2_match_57 : decode cX2_match 57 = .ok (.istore 8, 2) := by decide +kernel
theorem dX2_match_59 : decode cX2_match 59 = .ok (.iload 8, 2) := by decide +kernel
theorem dX2_match_61 : decode cX2_match 61 = .ok (.iload 4, 2) := by decide +kernel
theorem dX2_match_63 : decode cX2_match 63 = .ok (.if_icmp .ge 70, 3) := by decide +kernel
theorem dX2_match_66 : decode cX2_match 66 = .ok (.iload 5, 2) := by decide +kernel
theorem dX2_match_68 : decode cX2_match 68 = .ok (.ifCond .le 65, 3) := by decide +kernel
theorem dX2_match_71 : decode cX2_match 71 = .ok (.aload_n 1, 1) := by decide +kernel
theorem dX2_match_72 : decode cX2_match 72 = .ok (.iload 7, 2) := by decide +kernel
theorem dX2_match_74 : decode cX2_match 74 = .ok (.iaload, 1) := by decide +kernel
theorem dX2_match_75 : decode cX2_match 75 = .ok (.aload_n 2, 1) := by decide +kernel
theorem dX2_match_76 : decode cX2_match 76 = .ok (.iload 8, 2) := by decide +kernel
theorem dX2_match_78 : decode cX2_match 78 = .ok (.iaload, 1) := by decide +kernel
theorem dX2_match_79 : decode cX2_match 79 = .ok (.if_icmp .ne 48, 3) := by decide +kernel
theorem dX2_match_82 : decode cX2_match 82 = .ok (.aload_n 0, 1) := by decide +kernel
theorem dX2_match_83 : decode cX2_match 83 = .ok (.getfield 11, 3) := by decide +kernel
theorem dX2_match_86 : decode cX2_match 86 = .ok (.iload 7, 2) := by decide +kernel
theorem dX2_match_88 : decode cX2_match 88 = .ok (.iconst 1, 1) := by decide +kernel
theorem dX2_match_89 : decode cX2_match 89 = .ok (.iadd, 1) := by decide +kernel
theorem dX2_match_90 : decode cX2_match 90 = .ok (.bipush 17, 2) := by decide +kernel
theorem dX2_match_92 : decode cX2_match 92 = .ok (.imul, 1) := by decide +kernel
theorem dX2_match_93 : decode cX2_match 93 = .ok (.iload 8, 2) := by decide +kernel
theorem dX2_match_95 : decode cX2_match 95 = .ok (.iadd, 1) := by decide +kernel
theorem dX2_match_96 : decode cX2_match 96 = .ok (.iconst 1, 1) := by decide +kernel
theorem dX2_match_97 : decode cX2_match 97 = .ok (.iadd, 1) := by decide +kernel
theorem dX2_match_98 : decode cX2_match 98 = .ok (.iaload, 1) := by decide +kernel
theorem dX2_match_99 : decode cX2_match 99 = .ok (.iload 5, 2) := by decide +kernel
theorem dX2_match_101 : decode cX2_match 101 = .ok (.iconst 1, 1) := by decide +kernel
theorem dX2_match_102 : decode cX2_match 102 = .ok (.isub, 1) := by decide +kernel
theorem dX2_match_103 : decode cX2_match 103 = .ok (.if_icmp .ne 24, 3) := by decide +kernel
theorem dX2_match_106 : decode cX2_match 106 = .ok (.aload_n 0, 1) := by decide +kernel
theorem dX2_match_107 : decode cX2_match 107 = .ok (.getfield 15, 3) := by decide +kernel
theorem dX2_match_110 : decode cX2_match 110 = .ok (.iload 7, 2) := by decide +kernel
theorem dX2_match_112 : decode cX2_match 112 = .ok (.iload 8, 2) := by decide +kernel
theorem dX2_match_114 : decode cX2_match 114 = .ok (.iastore, 1) := by decide +kernel
theorem dX2_match_115 : decode cX2_match 115 = .ok (.iload 8, 2) := by decide +kernel
theorem dX2_match_117 : decode cX2_match 117 = .ok (.iconst 1, 1) := by decide +kernel
theorem dX2_match_118 : decode cX2_match 118 = .ok (.iadd, 1) := by decide +kernel
theorem dX2_match_119 : decode cX2_match 119 = .ok (.istore 6, 2) := by decide +kernel
theorem dX2_match_121 : decode cX2_match 121 = .ok (.iinc 5 (-1), 3) := by decide +kernel
theorem dX2_match_124 : decode cX2_match 124 = .ok (.goto 9, 3) := by decide +kernel
theorem dX2_match_127 : decode cX2_match 127 = .ok (.iinc 8 1, 3) := by decide +kernel
theorem dX2_match_130 : decode cX2_match 130 = .ok (.goto (-71), 3) := by decide +kernel
theorem dX2_match_133 : decode cX2_match 133 = .ok (.iinc 7 1, 3) := by decide +kernel
theorem dX2_match_136 : decode cX2_match 136 = .ok (.goto (-96), 3) := by decide +kernel
theorem dX2_match_139 : decode cX2_match 139 = .ok (.return_, 1) := by decide +kernel
theorem dX2_fillMost_0 : decode cX2_fillMost 0 = .ok (.iconst 0, 1) := by decide +kernel
theorem dX2_fillMost_1 : decode cX2_fillMost 1 = .ok (.istore 5, 2) := by decide +kernel
theorem dX2_fillMost_3 : decode cX2_fillMost 3 = .ok (.iload 5, 2) := by decide +kernel
theorem dX2_fillMost_5 : decode cX2_fillMost 5 = .ok (.iload 4, 2) := by decide +kernel
theorem dX2_fillMost_7 : decode cX2_fillMost 7 = .ok (.if_icmp .gt 22, 3) := by decide +kernel
theorem dX2_fillMost_10 : decode cX2_fillMost 10 = .ok (.aload_n 0, 1) := by decide +kernel
theorem dX2_fillMost_11 : decode cX2_fillMost 11 = .ok (.getfield 11, 3) := by decide +kernel
theorem dX2_fillMost_14 : decode cX2_fillMost 14 = .ok (.iload_n 2, 1) := by decide +kernel
theorem dX2_fillMost_15 : decode cX2_fillMost 15 = .ok (.bipush 17, 2) := by decide +kernel
theorem dX2_fillMost_17 : decode cX2_fillMost 17 = .ok (.imul, 1) := by decide +kernel
theorem dX2_fillMost_18 : decode cX2_fillMost 18 = .ok (.iload 5, 2) := by decide +kernel
theorem dX2_fillMost_20 : decode cX2_fillMost 20 = .ok (.iadd, 1) := by decide +kernel
theorem dX2_fillMost_21 : decode cX2_fillMost 21 = .ok (.iconst 0, 1) := by decide +kernel
theorem dX2_fillMost_22 : decode cX2_fillMost 22 = .ok (.iastore, 1) := by decide +kernel
theorem dX2_fillMost_23 : decode cX2_fillMost 23 = .ok (.iinc 5 1, 3) := by decide +kernel
theorem dX2_fillMost_26 : decode cX2_fillMost 26 = .ok (.goto (-23), 3) := by decide +kernel
theorem dX2_fillMost_29 : decode cX2_fillMost 29 = .ok (.iload_n 2, 1) := by decide +kernel
theorem dX2_fillMost_30 : decode cX2_fillMost 30 = .ok (.iconst 1, 1) := by decide +kernel
theorem dX2_fillMost_31 : decode cX2_fillMost 31 = .ok (.isub, 1) := by decide +kernel
theorem dX2_fillMost_32 : decode cX2_fillMost 32 = .ok (.istore 5, 2) := by decide +kernel
theorem dX2_fillMost_34 : decode cX2_fillMost 34 = .ok (.iload 5, 2) := by decide +kernel
theorem dX2_fillMost_36 : decode cX2_fillMost 36 = .ok (.ifCond .lt 114, 3) := by decide +kernel
theorem dX2_fillMost_39 : decode cX2_fillMost 39 = .ok (.iload 5, 2) := by decide +kernel
theorem dX2_fillMost_41 : decode cX2_fillMost 41 = .ok (.bipush 17, 2) := by decide +kernel
theorem dX2_fillMost_43 : decode cX2_fillMost 43 = .ok (.imul, 1) := by decide +kernel
theorem dX2_fillMost_44 : decode cX2_fillMost 44 = .ok (.istore 6, 2) := by decide +kernel
theorem dX2_fillMost_46 : decode cX2_fillMost 46 = .ok (.iload 6, 2) := by decide +kernel
theorem dX2_fillMost_48 : decode cX2_fillMost 48 = .ok (.bipush 17, 2) := by decide +kernel
theorem dX2_fillMost_50 : decode cX2_fillMost 50 = .ok (.iadd, 1) := by decide +kernel
theorem dX2_fillMost_51 : decode cX2_fillMost 51 = .ok (.istore 7, 2) := by decide +kernel
theorem dX2_fillMost_53 : decode cX2_fillMost 53 = .ok (.aload_n 0, 1) := by decide +kernel
theorem dX2_fillMost_54 : decode cX2_fillMost 54 = .ok (.getfield 11, 3) := by decide +kernel
theorem dX2_fillMost_57 : decode cX2_fillMost 57 = .ok (.iload 6, 2) := by decide +kernel
theorem dX2_fillMost_59 : decode cX2_fillMost 59 = .ok (.iload 4, 2) := by decide +kernel
theorem dX2_fillMost_61 : decode cX2_fillMost 61 = .ok (.iadd, 1) := by decide +kernel
theorem dX2_fillMost_62 : decode cX2_fillMost 62 = .ok (.iconst 0, 1) := by decide +kernel
theorem dX2_fillMost_63 : decode cX2_fillMost 63 = .ok (.iastore, 1) := by decide +kernel
theorem dX2_fillMost_64 : decode cX2_fillMost 64 = .ok (.iload 4, 2) := by decide +kernel
theorem dX2_fillMost_66 : decode cX2_fillMost 66 = .ok (.iconst 1, 1) := by decide +kernel
theorem dX2_fillMost_67 : decode cX2_fillMost 67 = .ok (.isub, 1) := by decide +kernel
theorem dX2_fillMost_68 : decode cX2_fillMost 68 = .ok (.istore 8, 2) := by decide +kernel
theorem dX2_fillMost_70 : decode cX2_fillMost 70 = .ok (.iload 8, 2) := by decide +kernel
theorem dX2_fillMost_72 : decode cX2_fillMost 72 = .ok (.ifCond .lt 72, 3) := by decide +kernel
theorem dX2_fillMost_75 : decode cX2_fillMost 75 = .ok (.aload_n 0, 1) := by decide +kernel
theorem dX2_fillMost_76 : decode cX2_fillMost 76 = .ok (.getfield 11, 3) := by decide +kernel
theorem dX2_fillMost_79 : decode cX2_fillMost 79 = .ok (.iload 6, 2) := by decide +kernel
theorem dX2_fillMost_81 : decode cX2_fillMost 81 = .ok (.iload 8, 2) := by decide +kernel
theorem dX2_fillMost_83 : decode cX2_fillMost 83 = .ok (.iadd, 1) := by decide +kernel
theorem dX2_fillMost_84 : decode cX2_fillMost 84 = .ok (.aload_n 1, 1) := by decide +kernel
theorem dX2_fillMost_85 : decode cX2_fillMost 85 = .ok (.iload 5, 2) := by decide +kernel
theorem dX2_fillMost_87 : decode cX2_fillMost 87 = .ok (.iaload, 1) := by decide +kernel
theorem dX2_fillMost_88 : decode cX2_fillMost 88 = .ok (.aload_n 3, 1) := by decide +kernel
theorem dX2_fillMost_89 : decode cX2_fillMost 89 = .ok (.iload 8, 2) := by decide +kernel
theorem dX2_fillMost_91 : decode cX2_fillMost 91 = .ok (.iaload, 1) := by decide +kernel
theorem dX2_fillMost_92 : decode cX2_fillMost 92 = .ok (.if_icmp .ne 20, 3) := by decide +kernel
theorem dX2_fillMost_95 : decode cX2_fillMost 95 = .ok (.aload_n 0, 1) := by decide +kernel
theorem dX2_fillMost_96 : decode cX2_fillMost 96 = .ok (.getfield 11, 3) := by decide +kernel
theorem dX2_fillMost_99 : decode cX2_fillMost 99 = .ok (.iload 7, 2) := by decide +kernel
theorem dX2_fillMost_101 : decode cX2_fillMost 101 = .ok (.iload 8, 2) := by decide +kernel
theorem dX2_fillMost_103 : decode cX2_fillMost 103 = .ok (.iadd, 1) := by decide +kernel
theorem dX2_fillMost_104 : decode cX2_fillMost 104 = .ok (.iconst 1, 1) := by decide +kernel
theorem dX2_fillMost_105 : decode cX2_fillMost 105 = .ok (.iadd, 1) := by decide +kernel
theorem dX2_fillMost_106 : decode cX2_fillMost 106 = .ok (.iaload, 1) := by decide +kernel
theorem dX2_fillMost_107 : decode cX2_fillMost 107 = .ok (.iconst 1, 1) := by decide +kernel
theorem dX2_fillMost_108 : decode cX2_fillMost 108 = .ok (.iadd, 1) := by decide +kernel
theorem dX2_fillMost_109 : decode cX2_fillMost 109 = .ok (.goto 28, 3) := by decide +kernel
theorem dX2_fillMost_112 : decode cX2_fillMost 112 = .ok (.aload_n 0, 1) := by decide +kernel
theorem dX2_fillMost_113 : decode cX2_fillMost 113 = .ok (.getfield 11, 3) := by decide +kernel
theorem dX2_fillMost_116 : decode cX2_fillMost 116 = .ok (.iload 7, 2) := by decide +kernel
theorem dX2_fillMost_118 : decode cX2_fillMost 118 = .ok (.iload 8, 2) := by decide +kernel
theorem dX2_fillMost_120 : decode cX2_fillMost 120 = .ok (.iadd, 1) := by decide +kernel
theorem dX2_fillMost_121 : decode cX2_fillMost 121 = .ok (.iaload, 1) := by decide +kernel
theorem dX2_fillMost_122 : decode cX2_fillMost 122 = .ok (.aload_n 0, 1) := by decide +kernel
theorem dX2_fillMost_123 : decode cX2_fillMost 123 = .ok (.getfield 11, 3) := by decide +kernel
theorem dX2_fillMost_126 : decode cX2_fillMost 126 = .ok (.iload 6, 2) := by decide +kernel
theorem dX2_fillMost_128 : decode cX2_fillMost 128 = .ok (.iload 8, 2) := by decide +kernel
theorem dX2_fillMost_130 : decode cX2_fillMost 130 = .ok (.iadd, 1) := by decide +kernel
theorem dX2_fillMost_131 : decode cX2_fillMost 131 = .ok (.iconst 1, 1) := by decide +kernel
theorem dX2_fillMost_132 : decode cX2_fillMost 132 = .ok (.iadd, 1) := by decide +kernel
theorem dX2_fillMost_133 : decode cX2_fillMost 133 = .ok (.iaload, 1) := by decide +kernel
theorem dX2_fillMost_134 : decode cX2_fillMost 134 = .ok (.invokestatic 38, 3) := by decide +kernel
theorem dX2_fillMost_137 : decode cX2_fillMost 137 = .ok (.iastore, 1) := by decide +kernel
theorem dX2_fillMost_138 : decode cX2_fillMost 138 = .ok (.iinc 8 (-1), 3) := by decide +kernel
theorem dX2_fillMost_141 : decode cX2_fillMost 141 = .ok (.goto (-71), 3) := by decide +kernel
theorem dX2_fillMost_144 : decode cX2_fillMost 144 = .ok (.iinc 5 (-1), 3) := by decide +kernel
theorem dX2_fillMost_147 : decode cX2_fillMost 147 = .ok (.goto (-113), 3) := by decide +kernel
theorem dX2_fillMost_150 : decode cX2_fillMost 150 = .ok (.return_, 1) := by decide +kernel
theorem dX2_readChange_0 : decode cX2_readChange 0 = .ok (.aload_n 1, 1) := by decide +kernel
theorem dX2_readChange_1 : decode cX2_readChange 1 = .ok (.invokevirtual 41, 3) := by decide +kernel
theorem dX2_readChange_4 : decode cX2_readChange 4 = .ok (.astore_n 2, 1) := by decide +kernel
theorem dX2_readChange_5 : decode cX2_readChange 5 = .ok (.aload_n 1, 1) := by decide +kernel
theorem dX2_readChange_6 : decode cX2_readChange 6 = .ok (.getfield 47, 3) := by decide +kernel
theorem dX2_readChange_9 : decode cX2_readChange 9 = .ok (.astore_n 3, 1) := by decide +kernel
theorem dX2_readChange_10 : decode cX2_readChange 10 = .ok (.aload_n 0, 1) := by decide +kernel
theorem dX2_readChange_11 : decode cX2_readChange 11 = .ok (.aload_n 2, 1) := by decide +kernel
theorem dX2_readChange_12 : decode cX2_readChange 12 = .ok (.aload_n 3, 1) := by decide +kernel
theorem dX2_readChange_13 : decode cX2_readChange 13 = .ok (.invokevirtual 50, 3) := by decide +kernel
theorem dX2_readChange_16 : decode cX2_readChange 16 = .ok (.aload_n 0, 1) := by decide +kernel
theorem dX2_readChange_17 : decode cX2_readChange 17 = .ok (.iconst 0, 1) := by decide +kernel
theorem dX2_readChange_18 : decode cX2_readChange 18 = .ok (.putfield 54, 3) := by decide +kernel
theorem dX2_readChange_21 : decode cX2_readChange 21 = .ok (.iconst 0, 1) := by decide +kernel
theorem dX2_readChange_22 : decode cX2_readChange 22 = .ok (.istore 4, 2) := by decide +kernel
theorem dX2_readChange_24 : decode cX2_readChange 24 = .ok (.iconst 0, 1) := by decide +kernel
theorem dX2_readChange_25 : decode cX2_readChange 25 = .ok (.istore 5, 2) := by decide +kernel
theorem dX2_readChange_27 : decode cX2_readChange 27 = .ok (.aload_n 2, 1) := by decide +kernel
theorem dX2_readChange_28 : decode cX2_readChange 28 = .ok (.arraylength, 1) := by decide +kernel
theorem dX2_readChange_29 : decode cX2_readChange 29 = .ok (.bipush 16, 2) := by decide +kernel
theorem dX2_readChange_31 : decode cX2_readChange 31 = .ok (.invokestatic 28, 3) := by decide +kernel
theorem dX2_readChange_34 : decode cX2_readChange 34 = .ok (.istore 6, 2) := by decide +kernel
theorem dX2_readChange_36 : decode cX2_readChange 36 = .ok (.iconst 0, 1) := by decide +kernel
theorem dX2_readChange_37 : decode cX2_readChange 37 = .ok (.istore 7, 2) := by decide +kernel
theorem dX2_readChange_39 : decode cX2_readChange 39 = .ok (.iload 7, 2) := by decide +kernel
theorem dX2_readChange_41 : decode cX2_readChange 41 = .ok (.iload 6, 2) := by decide +kernel
theorem dX2_readChange_43 : decode cX2_readChange 43 = .ok (.if_icmp .gt 110, 3) := by decide +kernel
theorem dX2_readChange_46 : decode cX2_readChange 46 = .ok (.iload 7, 2) := by decide +kernel
theorem dX2_readChange_48 : decode cX2_readChange 48 = .ok (.iload 6, 2) := by decide +kernel
theorem dX2_readChange_50 : decode cX2_readChange 50 = .ok (.if_icmp .ge 13, 3) := by decide +kernel
theorem dX2_readChange_53 : decode cX2_readChange 53 = .ok (.aload_n 0, 1) := by decide +kernel
theorem dX2_readChange_54 : decode cX2_readChange 54 = .ok (.getfield 15, 3) := by decide +kernel
theorem dX2_readChange_57 : decode cX2_readChange 57 = .ok (.iload 7, 2) := by decide +kernel
theorem dX2_readChange_59 : decode cX2_readChange 59 = .ok (.iaload, 1) := by decide +kernel
theorem dX2_readChange_60 : decode cX2_readChange 60 = .ok (.goto 5, 3) := by decide +kernel
theorem dX2_readChange_63 : decode cX2_readChange 63 = .ok (.aload_n 3, 1) := by decide +kernel
theorem dX2_readChange_64 : decode cX2_readChange 64 = .ok (.arraylength, 1) := by decide +kernel
theorem dX2_readChange_65 : decode cX2_readChange 65 = .ok (.istore 8, 2) := by decide +kernel
theorem dX2_readChange_67 : decode cX2_readChange 67 = .ok (.iload 8, 2) := by decide +kernel
theorem dX2_readChange_69 : decode cX2_readChange 69 = .ok (.bipush (-9), 2) := by decide +kernel
theorem dX2_readChange_71 : decode cX2_readChange 71 = .ok (.if_icmp .ne 6, 3) := by decide +kernel
theorem dX2_readChange_74 : decode cX2_readChange 74 = .ok (.goto 73, 3) := by decide +kernel
theorem dX2_readChange_77 : decode cX2_readChange 77 = .ok (.iload 7, 2) := by decide +kernel
theorem dX2_readChange_79 : decode cX2_readChange 79 = .ok (.iload 4, 2) := by decide +kernel
theorem dX2_readChange_81 : decode cX2_readChange 81 = .ok (.if_icmp .gt 10, 3) := by decide +kernel
theorem dX2_readChange_84 : decode cX2_readChange 84 = .ok (.iload 8, 2) := by decide +kernel
theorem dX2_readChange_86 : decode cX2_readChange 86 = .ok (.iload 5, 2) := by decide +kernel
theorem dX2_readChange_88 : decode cX2_readChange 88 = .ok (.if_icmp .le 47, 3) := by decide +kernel
theorem dX2_readChange_91 : decode cX2_readChange 91 = .ok (.aload_n 0, 1) := by decide +kernel
theorem dX2_readChange_92 : decode cX2_readChange 92 = .ok (.getfield 20, 3) := by decide +kernel
theorem dX2_readChange_95 : decode cX2_readChange 95 = .ok (.aload_n 0, 1) := by decide +kernel
theorem dX2_readChange_96 : decode cX2_readChange 96 = .ok (.getfield 54, 3) := by decide +kernel
theorem dX2_readChange_99 : decode cX2_readChange 99 = .ok (.aaload, 1) := by decide +kernel
theorem dX2_readChange_100 : decode cX2_readChange 100 = .ok (.aload_n 2, 1) := by decide +kernel
theorem dX2_readChange_101 : decode cX2_readChange 101 = .ok (.iload 4, 2) := by decide +kernel
theorem dX2_readChange_103 : decode cX2_readChange 103 = .ok (.iload 7, 2) := by decide +kernel
theorem dX2_readChange_105 : decode cX2_readChange 105 = .ok (.invokevirtual 58, 3) := by decide +kernel
theorem dX2_readChange_108 : decode cX2_readChange 108 = .ok (.aload_n 0, 1) := by decide +kernel
theorem dX2_readChange_109 : decode cX2_readChange 109 = .ok (.getfield 24, 3) := by decide +kernel
theorem dX2_readChange_112 : decode cX2_readChange 112 = .ok (.aload_n 0, 1) := by decide +kernel
theorem dX2_readChange_113 : decode cX2_readChange 113 = .ok (.getfield 54, 3) := by decide +kernel
theorem dX2_readChange_116 : decode cX2_readChange 116 = .ok (.aaload, 1) := by decide +kernel
theorem dX2_readChange_117 : decode cX2_readChange 117 = .ok (.aload_n 3, 1) := by decide +kernel
theorem dX2_readChange_118 : decode cX2_readChange 118 = .ok (.iload 5, 2) := by decide +kernel
theorem dX2_readChange_120 : decode cX2_readChange 120 = .ok (.iload 8, 2) := by decide +kernel
theorem dX2_readChange_122 : decode cX2_readChange 122 = .ok (.invokevirtual 58, 3) := by decide +kernel
theorem dX2_readChange_125 : decode cX2_readChange 125 = .ok (.aload_n 0, 1) := by decide +kernel
theorem dX2_readChange_126 : decode cX2_readChange 126 = .ok (.dup, 1) := by decide +kernel
theorem dX2_readChange_127 : decode cX2_readChange 127 = .ok (.getfield 54, 3) := by decide +kernel
theorem dX2_readChange_130 : decode cX2_readChange 130 = .ok (.iconst 1, 1) := by decide +kernel
theorem dX2_readChange_131 : decode cX2_readChange 131 = .ok (.iadd, 1) := by decide +kernel
theorem dX2_readChange_132 : decode cX2_readChange 132 = .ok (.putfield 54, 3) := by decide +kernel
theorem dX2_readChange_135 : decode cX2_readChange 135 = .ok (.iload 7, 2) := by decide +kernel
theorem dX2_readChange_137 : decode cX2_readChange 137 = .ok (.iconst 1, 1) := by decide +kernel
theorem dX2_readChange_138 : decode cX2_readChange 138 = .ok (.iadd, 1) := by decide +kernel
theorem dX2_readChange_139 : decode cX2_readChange 139 = .ok (.istore 4, 2) := by decide +kernel
theorem dX2_readChange_141 : decode cX2_readChange 141 = .ok (.iload 8, 2) := by decide +kernel
theorem dX2_readChange_143 : decode cX2_readChange 143 = .ok (.iconst 1, 1) := by decide +kernel
theorem dX2_readChange_144 : decode cX2_readChange 144 = .ok (.iadd, 1) := by decide +kernel
theorem dX2_readChange_145 : decode cX2_readChange 145 = .ok (.istore 5, 2) := by decide +kernel
theorem dX2_readChange_147 : decode cX2_readChange 147 = .ok (.iinc 7 1, 3) := by decide +kernel
theorem dX2_readChange_150 : decode cX2_readChange 150 = .ok (.goto (-111), 3) := by decide +kernel
theorem dX2_readChange_153 : decode cX2_readChange 153 = .ok (.return_, 1) := by decide +kernel
theorem dX2_hasSamePieces_0 : decode cX2_hasSamePieces 0 = .ok (.aload_n 0, 1) := by decide +kernel
theorem dX2_hasSamePieces_1 : decode cX2_hasSamePieces 1 = .ok (.getfield 54, 3) := by decide +kernel
theorem dX2_hasSamePieces_4 : decode cX2_hasSamePieces 4 = .ok (.aload_n 1, 1) := by decide +kernel
theorem dX2_hasSamePieces_5 : decode cX2_hasSamePieces 5 = .ok (.getfield 54, 3) := by decide +kernel
theorem dX2_hasSamePieces_8 : decode cX2_hasSamePieces 8 = .ok (.if_icmp .eq 5, 3) := by decide +kernel
theorem dX2_hasSamePieces_11 : decode cX2_hasSamePieces 11 = .ok (.iconst 0, 1) := by decide +kernel
theorem dX2_hasSamePieces_12 : decode cX2_hasSamePieces 12 = .ok (.ireturn, 1) := by decide +kernel
theorem dX2_hasSamePieces_13 : decode cX2_hasSamePieces 13 = .ok (.iconst 0, 1) := by decide +kernel
theorem dX2_hasSamePieces_14 : decode cX2_hasSamePieces 14 = .ok (.istore_n 2, 1) := by decide +kernel
theorem dX2_hasSamePieces_15 : decode cX2_hasSamePieces 15 = .ok (.iload_n 2, 1) := by decide +kernel
theorem dX2_hasSamePieces_16 : decode cX2_hasSamePieces 16 = .ok (.aload_n 0, 1) := by decide +kernel
theorem dX2_hasSamePieces_17 : decode cX2_hasSamePieces 17 = .ok (.getfield 54, 3) := by decide +kernel
theorem dX2_hasSamePieces_20 : decode cX2_hasSamePieces 20 = .ok (.if_icmp .ge 47, 3) := by decide +kernel
theorem dX2_hasSamePieces_23 : decode cX2_hasSamePieces 23 = .ok (.aload_n 0, 1) := by decide +kernel
theorem dX2_hasSamePieces_24 : decode cX2_hasSamePieces 24 = .ok (.getfield 20, 3) := by decide +kernel
theorem dX2_hasSamePieces_27 : decode cX2_hasSamePieces 27 = .ok (.iload_n 2, 1) := by decide +kernel
theorem dX2_hasSamePieces_28 : decode cX2_hasSamePieces 28 = .ok (.aaload, 1) := by decide +kernel
theorem dX2_hasSamePieces_29 : decode cX2_hasSamePieces 29 = .ok (.aload_n 1, 1) := by decide +kernel
theorem dX2_hasSamePieces_30 : decode cX2_hasSamePieces 30 = .ok (.getfield 20, 3) := by decide +kernel
theorem dX2_hasSamePieces_33 : decode cX2_hasSamePieces 33 = .ok (.iload_n 2, 1) := by decide +kernel
theorem dX2_hasSamePieces_34 : decode cX2_hasSamePieces 34 = .ok (.aaload, 1) := by decide +kernel
theorem dX2_hasSamePieces_35 : decode cX2_hasSamePieces 35 = .ok (.invokevirtual 62, 3) := by decide +kernel
theorem dX2_hasSamePieces_38 : decode cX2_hasSamePieces 38 = .ok (.ifCond .eq 21, 3) := by decide +kernel
theorem dX2_hasSamePieces_41 : decode cX2_hasSamePieces 41 = .ok (.aload_n 0, 1) := by decide +kernel
theorem dX2_hasSamePieces_42 : decode cX2_hasSamePieces 42 = .ok (.getfield 24, 3) := by decide +kernel
theorem dX2_hasSamePieces_45 : decode cX2_hasSamePieces 45 = .ok (.iload_n 2, 1) := by decide +kernel
theorem dX2_hasSamePieces_46 : decode cX2_hasSamePieces 46 = .ok (.aaload, 1) := by decide +kernel
theorem dX2_hasSamePieces_47 : decode cX2_hasSamePieces 47 = .ok (.aload_n 1, 1) := by decide +kernel
theorem dX2_hasSamePieces_48 : decode cX2_hasSamePieces 48 = .ok (.getfield 24, 3) := by decide +kernel
theorem dX2_hasSamePieces_51 : decode cX2_hasSamePieces 51 = .ok (.iload_n 2, 1) := by decide +kernel
theorem dX2_hasSamePieces_52 : decode cX2_hasSamePieces 52 = .ok (.aaload, 1) := by decide +kernel
theorem dX2_hasSamePieces_53 : decode cX2_hasSamePieces 53 = .ok (.invokevirtual 62, 3) := by decide +kernel
theorem dX2_hasSamePieces_56 : decode cX2_hasSamePieces 56 = .ok (.ifCond .ne 5, 3) := by decide +kernel
theorem dX2_hasSamePieces_59 : decode cX2_hasSamePieces 59 = .ok (.iconst 0, 1) := by decide +kernel
theorem dX2_hasSamePieces_60 : decode cX2_hasSamePieces 60 = .ok (.ireturn, 1) := by decide +kernel
theorem dX2_hasSamePieces_61 : decode cX2_hasSamePieces 61 = .ok (.iinc 2 1, 3) := by decide +kernel
theorem dX2_hasSamePieces_64 : decode cX2_hasSamePieces 64 = .ok (.goto (-49), 3) := by decide +kernel
theorem dX2_hasSamePieces_67 : decode cX2_hasSamePieces 67 = .ok (.iconst 1, 1) := by decide +kernel
theorem dX2_hasSamePieces_68 : decode cX2_hasSamePieces 68 = .ok (.ireturn, 1) := by decide +kernel
theorem dX3_init_0 : decode cX3_init 0 = .ok (.aload_n 0, 1) := by decide +kernel
theorem dX3_init_1 : decode cX3_init 1 = .ok (.invokespecial 3, 3) := by decide +kernel
theorem dX3_init_4 : decode cX3_init 4 = .ok (.aload_n 0, 1) := by decide +kernel
theorem dX3_init_5 : decode cX3_init 5 = .ok (.bipush 8, 2) := by decide +kernel
theorem dX3_init_7 : decode cX3_init 7 = .ok (.anewarray 9, 3) := by decide +kernel
theorem dX3_init_10 : decode cX3_init 10 = .ok (.putfield 11, 3) := by decide +kernel
theorem dX3_init_13 : decode cX3_init 13 = .ok (.aload_n 0, 1) := by decide +kernel
theorem dX3_init_14 : decode cX3_init 14 = .ok (.sipush 150, 3) := by decide +kernel
theorem dX3_init_17 : decode cX3_init 17 = .ok (.newarray .int, 2) := by decide +kernel
theorem dX3_init_19 : decode cX3_init 19 = .ok (.putfield 17, 3) := by decide +kernel
theorem dX3_init_22 : decode cX3_init 22 = .ok (.aload_n 0, 1) := by decide +kernel
theorem dX3_init_23 : decode cX3_init 23 = .ok (.new 21, 3) := by decide +kernel
theorem dX3_init_26 : decode cX3_init 26 = .ok (.dup, 1) := by decide +kernel
theorem dX3_init_27 : decode cX3_init 27 = .ok (.invokespecial 23, 3) := by decide +kernel
theorem dX3_init_30 : decode cX3_init 30 = .ok (.putfield 24, 3) := by decide +kernel
theorem dX3_init_33 : decode cX3_init 33 = .ok (.aload_n 0, 1) := by decide +kernel
theorem dX3_init_34 : decode cX3_init 34 = .ok (.new 21, 3) := by decide +kernel
theorem dX3_init_37 : decode cX3_init 37 = .ok (.dup, 1) := by decide +kernel
theorem dX3_init_38 : decode cX3_init 38 = .ok (.invokespecial 23, 3) := by decide +kernel
theorem dX3_init_41 : decode cX3_init 41 = .ok (.putfield 28, 3) := by decide +kernel
theorem dX3_init_44 : decode cX3_init 44 = .ok (.aload_n 0, 1) := by decide +kernel
theorem dX3_init_45 : decode cX3_init 45 = .ok (.new 31, 3) := by decide +kernel
theorem dX3_init_48 : decode cX3_init 48 = .ok (.dup, 1) := by decide +kernel
theorem dX3_init_49 : decode cX3_init 49 = .ok (.invokespecial 33, 3) := by decide +kernel
theorem dX3_init_52 : decode cX3_init 52 = .ok (.putfield 34, 3) := by decide +kernel
theorem dX3_init_55 : decode cX3_init 55 = .ok (.aload_n 0, 1) := by decide +kernel
theorem dX3_init_56 : decode cX3_init 56 = .ok (.new 31, 3) := by decide +kernel
theorem dX3_init_59 : decode cX3_init 59 = .ok (.dup, 1) := by decide +kernel
theorem dX3_init_60 : decode cX3_init 60 = .ok (.invokespecial 33, 3) := by decide +kernel
theorem dX3_init_63 : decode cX3_init 63 = .ok (.putfield 38, 3) := by decide +kernel
theorem dX3_init_66 : decode cX3_init 66 = .ok (.aload_n 0, 1) := by decide +kernel
theorem dX3_init_67 : decode cX3_init 67 = .ok (.new 31, 3) := by decide +kernel
theorem dX3_init_70 : decode cX3_init 70 = .ok (.dup, 1) := by decide +kernel
theorem dX3_init_71 : decode cX3_init 71 = .ok (.invokespecial 33, 3) := by decide +kernel
theorem dX3_init_74 : decode cX3_init 74 = .ok (.putfield 41, 3) := by decide +kernel
theorem dX3_init_77 : decode cX3_init 77 = .ok (.aload_n 0, 1) := by decide +kernel
theorem dX3_init_78 : decode cX3_init 78 = .ok (.new 31, 3) := by decide +kernel
theorem dX3_init_81 : decode cX3_init 81 = .ok (.dup, 1) := by decide +kernel
theorem dX3_init_82 : decode cX3_init 82 = .ok (.invokespecial 33, 3) := by decide +kernel
theorem dX3_init_85 : decode cX3_init 85 = .ok (.putfield 44, 3) := by decide +kernel
theorem dX3_init_88 : decode cX3_init 88 = .ok (.aload_n 0, 1) := by decide +kernel
theorem dX3_init_89 : decode cX3_init 89 = .ok (.new 31, 3) := by decide +kernel
theorem dX3_init_92 : decode cX3_init 92 = .ok (.dup, 1) := by decide +kernel
theorem dX3_init_93 : decode cX3_init 93 = .ok (.invokespecial 33, 3) := by decide +kernel
theorem dX3_init_96 : decode cX3_init 96 = .ok (.putfield 47, 3) := by decide +kernel
theorem dX3_init_99 : decode cX3_init 99 = .ok (.aload_n 0, 1) := by decide +kernel
theorem dX3_init_100 : decode cX3_init 100 = .ok (.new 31, 3) := by decide +kernel
theorem dX3_init_103 : decode cX3_init 103 = .ok (.dup, 1) := by decide +kernel
theorem dX3_init_104 : decode cX3_init 104 = .ok (.invokespecial 33, 3) := by decide +kernel
theorem dX3_init_107 : decode cX3_init 107 = .ok (.putfield 50, 3) := by decide +kernel
theorem dX3_init_110 : decode cX3_init 110 = .ok (.aload_n 0, 1) := by decide +kernel
theorem dX3_init_111 : decode cX3_init 111 = .ok (.new 53, 3) := by decide +kernel
theorem dX3_init_114 : decode cX3_init 114 = .ok (.dup, 1) := by decide +kernel
theorem dX3_init_115 : decode cX3_init 115 = .ok (.invokespecial 55, 3) := by decide +kernel
theorem dX3_init_118 : decode cX3_init 118 = .ok (.putfield 56, 3) := by decide +kernel
theorem dX3_init_121 : decode cX3_init 121 = .ok (.aload_n 0, 1) := by decide +kernel
theorem dX3_init_122 : decode cX3_init 122 = .ok (.new 53, 3) := by decide +kernel
theorem dX3_init_125 : decode cX3_init 125 = .ok (.dup, 1) := by decide +kernel
theorem dX3_init_126 : decode cX3_init 126 = .ok (.invokespecial 55, 3) := by decide +kernel
theorem dX3_init_129 : decode cX3_init 129 = .ok (.putfield 60, 3) := by decide +kernel
theorem dX3_init_132 : decode cX3_init 132 = .ok (.aload_n 0, 1) := by decide +kernel
theorem dX3_init_133 : decode cX3_init 133 = .ok (.aload_n 0, 1) := by decide +kernel
theorem dX3_init_134 : decode cX3_init 134 = .ok (.getfield 56, 3) := by decide +kernel
theorem dX3_init_137 : decode cX3_init 137 = .ok (.putfield 63, 3) := by decide +kernel
theorem dX3_init_140 : decode cX3_init 140 = .ok (.return_, 1) := by decide +kernel
theorem dX3_mergeRows_0 : decode cX3_mergeRows 0 = .ok (.aload_n 0, 1) := by decide +kernel
theorem dX3_mergeRows_1 : decode cX3_mergeRows 1 = .ok (.getfield 24, 3) := by decide +kernel
theorem dX3_mergeRows_4 : decode cX3_mergeRows 4 = .ok (.aload_n 1, 1) := by decide +kernel
theorem dX3_mergeRows_5 : decode cX3_mergeRows 5 = .ok (.aload_n 2, 1) := by decide +kernel
theorem dX3_mergeRows_6 : decode cX3_mergeRows 6 = .ok (.invokevirtual 66, 3) := by decide +kernel
theorem dX3_mergeRows_9 : decode cX3_mergeRows 9 = .ok (.aload_n 0, 1) := by decide +kernel
theorem dX3_mergeRows_10 : decode cX3_mergeRows 10 = .ok (.getfield 28, 3) := by decide +kernel
theorem dX3_mergeRows_13 : decode cX3_mergeRows 13 = .ok (.aload_n 1, 1) := by decide +kernel
theorem dX3_mergeRows_14 : decode cX3_mergeRows 14 = .ok (.aload_n 3, 1) := by decide +kernel
theorem dX3_mergeRows_15 : decode cX3_mergeRows 15 = .ok (.invokevirtual 66, 3) := by decide +kernel
theorem dX3_mergeRows_18 : decode cX3_mergeRows 18 = .ok (.aload_n 0, 1) := by decide +kernel
theorem dX3_mergeRows_19 : decode cX3_mergeRows 19 = .ok (.iconst 0, 1) := by decide +kernel
theorem dX3_mergeRows_20 : decode cX3_mergeRows 20 = .ok (.putfield 70, 3) := by decide +kernel
theorem dX3_mergeRows_23 : decode cX3_mergeRows 23 = .ok (.aload_n 0, 1) := by decide +kernel
theorem dX3_mergeRows_24 : decode cX3_mergeRows 24 = .ok (.iconst 0, 1) := by decide +kernel
theorem dX3_mergeRows_25 : decode cX3_mergeRows 25 = .ok (.putfield 74, 3) := by decide +kernel
theorem dX3_mergeRows_28 : decode cX3_mergeRows 28 = .ok (.aload_n 0, 1) := by decide +kernel
theorem dX3_mergeRows_29 : decode cX3_mergeRows 29 = .ok (.iconst 0, 1) := by decide +kernel
theorem dX3_mergeRows_30 : decode cX3_mergeRows 30 = .ok (.putfield 77, 3) := by decide +kernel
theorem dX3_mergeRows_33 : decode cX3_mergeRows 33 = .ok (.iconst 0, 1) := by decide +kernel
theorem dX3_mergeRows_34 : decode cX3_mergeRows 34 = .ok (.istore 5, 2) := by decide +kernel
theorem dX3_mergeRows_36 : decode cX3_mergeRows 36 = .ok (.iconst 0, 1) := by decide +kernel
theorem dX3_mergeRows_37 : decode cX3_mergeRows 37 = .ok (.istore 6, 2) := by decide +kernel
theorem dX3_mergeRows_39 : decode cX3_mergeRows 39 = .ok (.iconst 0, 1) := by decide +kernel
theorem dX3_mergeRows_40 : decode cX3_mergeRows 40 = .ok (.istore 7, 2) := by decide +kernel
theorem dX3_mergeRows_42 : decode cX3_mergeRows 42 = .ok (.aload_n 1, 1) := by decide +kernel
theorem dX3_mergeRows_43 : decode cX3_mergeRows 43 = .ok (.arraylength, 1) := by decide +kernel
theorem dX3_mergeRows_44 : decode cX3_mergeRows 44 = .ok (.bipush 16, 2) := by decide +kernel
theorem dX3_mergeRows_46 : decode cX3_mergeRows 46 = .ok (.invokestatic 80, 3) := by decide +kernel
theorem dX3_mergeRows_49 : decode cX3_mergeRows 49 = .ok (.istore 8, 2) := by decide +kernel
theorem dX3_mergeRows_51 : decode cX3_mergeRows 51 = .ok (.iconst 0, 1) := by decide +kernel
theorem dX3_mergeRows_52 : decode cX3_mergeRows 52 = .ok (.istore 9, 2) := by decide +kernel
theorem dX3_mergeRows_54 : decode cX3_mergeRows 54 = .ok (.iload 9, 2) := by decide +kernel
theorem dX3_mergeRows_56 : decode cX3_mergeRows 56 = .ok (.iload 8, 2) := by decide +kernel
theorem dX3_mergeRows_58 : decode cX3_mergeRows 58 = .ok (.if_icmp .gt 156, 3) := by decide +kernel
theorem dX3_mergeRows_61 : decode cX3_mergeRows 61 = .ok (.iload 9, 2) := by decide +kernel
theorem dX3_mergeRows_63 : decode cX3_mergeRows 63 = .ok (.iload 8, 2) := by decide +kernel
theorem dX3_mergeRows_65 : decode cX3_mergeRows 65 = .ok (.if_icmp .ge 16, 3) := by decide +kernel
theorem dX3_mergeRows_68 : decode cX3_mergeRows 68 = .ok (.aload_n 0, 1) := by decide +kernel
theorem dX3_mergeRows_69 : decode cX3_mergeRows 69 = .ok (.getfield 24, 3) := by decide +kernel
theorem dX3_mergeRows_72 : decode cX3_mergeRows 72 = .ok (.getfield 86, 3) := by decide +kernel
theorem dX3_mergeRows_75 : decode cX3_mergeRows 75 = .ok (.iload 9, 2) := by decide +kernel
theorem dX3_mergeRows_77 : decode cX3_mergeRows 77 = .ok (.iaload, 1) := by decide +kernel
theorem dX3_mergeRows_78 : decode cX3_mergeRows 78 = .ok (.goto 5, 3) := by decide +kernel
theorem dX3_mergeRows_81 : decode cX3_mergeRows 81 = .ok (.aload_n 2, 1) := by decide +kernel
theorem dX3_mergeRows_82 : decode cX3_mergeRows 82 = .ok (.arraylength, 1) := by decide +kernel
theorem dX3_mergeRows_83 : decode cX3_mergeRows 83 = .ok (.istore 10, 2) := by decide +kernel
theorem dX3_mergeRows_85 : decode cX3_mergeRows 85 = .ok (.iload 9, 2) := by decide +kernel
theorem dX3_mergeRows_87 : decode cX3_mergeRows 87 = .ok (.iload 8, 2) := by decide +kernel
theorem dX3_mergeRows_89 : decode cX3_mergeRows 89 = .ok (.if_icmp .ge 16, 3) := by decide +kernel
theorem dX3_mergeRows_92 : decode cX3_mergeRows 92 = .ok (.aload_n 0, 1) := by decide +kernel
theorem dX3_mergeRows_93 : decode cX3_mergeRows 93 = .ok (.getfield 28, 3) := by decide +kernel
theorem dX3_mergeRows_96 : decode cX3_mergeRows 96 = .ok (.getfield 86, 3) := by decide +kernel
theorem dX3_mergeRows_99 : decode cX3_mergeRows 99 = .ok (.iload 9, 2) := by decide +kernel
theorem dX3_mergeRows_101 : decode cX3_mergeRows 101 = .ok (.iaload, 1) := by decide +kernel
theorem dX3_mergeRows_102 : decode cX3_mergeRows 102 = .ok (.goto 5, 3) := by decide +kernel
theorem dX3_mergeRows_105 : decode cX3_mergeRows 105 = .ok (.aload_n 3, 1) := by decide +kernel
theorem dX3_mergeRows_106 : decode cX3_mergeRows 106 = .ok (.arraylength, 1) := by decide +kernel
theorem dX3_mergeRows_107 : decode cX3_mergeRows 107 = .ok (.istore 11, 2) := by decide +kernel
theorem dX3_mergeRows_109 : decode cX3_mergeRows 109 = .ok (.iload 10, 2) := by decide +kernel
theorem dX3_mergeRows_111 : decode cX3_mergeRows 111 = .ok (.bipush (-9), 2) := by decide +kernel
theorem dX3_mergeRows_113 : decode cX3_mergeRows 113 = .ok (.if_icmp .eq 95, 3) := by decide +kernel
theorem dX3_mergeRows_116 : decode cX3_mergeRows 116 = .ok (.iload 11, 2) := by decide +kernel
theorem dX3_mergeRows_118 : decode cX3_mergeRows 118 = .ok (.bipush (-9), 2) := by decide +kernel
theorem dX3_mergeRows_120 : decode cX3_mergeRows 120 = .ok (.if_icmp .ne 6, 3) := by decide +kernel
theorem dX3_mergeRows_123 : decode cX3_mergeRows 123 = .ok (.goto 85, 3) := by decide +kernel
theorem dX3_mergeRows_126 : decode cX3_mergeRows 126 = .ok (.aload_n 0, 1) := by decide +kernel
theorem dX3_mergeRows_127 : decode cX3_mergeRows 127 = .ok (.getfield 34, 3) := by decide +kernel
theorem dX3_mergeRows_130 : decode cX3_mergeRows 130 = .ok (.aload_n 1, 1) := by decide +kernel
theorem dX3_mergeRows_131 : decode cX3_mergeRows 131 = .ok (.iload 5, 2) := by decide +kernel
theorem dX3_mergeRows_133 : decode cX3_mergeRows 133 = .ok (.iload 9, 2) := by decide +kernel
theorem dX3_mergeRows_135 : decode cX3_mergeRows 135 = .ok (.invokevirtual 89, 3) := by decide +kernel
theorem dX3_mergeRows_138 : decode cX3_mergeRows 138 = .ok (.aload_n 0, 1) := by decide +kernel
theorem dX3_mergeRows_139 : decode cX3_mergeRows 139 = .ok (.getfield 38, 3) := by decide +kernel
theorem dX3_mergeRows_142 : decode cX3_mergeRows 142 = .ok (.aload_n 2, 1) := by decide +kernel
theorem dX3_mergeRows_143 : decode cX3_mergeRows 143 = .ok (.iload 6, 2) := by decide +kernel
theorem dX3_mergeRows_145 : decode cX3_mergeRows 145 = .ok (.iload 10, 2) := by decide +kernel
theorem dX3_mergeRows_147 : decode cX3_mergeRows 147 = .ok (.invokevirtual 89, 3) := by decide +kernel
theorem dX3_mergeRows_150 : decode cX3_mergeRows 150 = .ok (.aload_n 0, 1) := by decide +kernel
theorem dX3_mergeRows_151 : decode cX3_mergeRows 151 = .ok (.getfield 41, 3) := by decide +kernel
theorem dX3_mergeRows_154 : decode cX3_mergeRows 154 = .ok (.aload_n 3, 1) := by decide +kernel
theorem dX3_mergeRows_155 : decode cX3_mergeRows 155 = .ok (.iload 7, 2) := by decide +kernel
theorem dX3_mergeRows_157 : decode cX3_mergeRows 157 = .ok (.iload 11, 2) := by decide +kernel
theorem dX3_mergeRows_159 : decode cX3_mergeRows 159 = .ok (.invokevirtual 89, 3) := by decide +kernel
theorem dX3_mergeRows_162 : decode cX3_mergeRows 162 = .ok (.aload_n 0, 1) := by decide +kernel
theorem dX3_mergeRows_163 : decode cX3_mergeRows 163 = .ok (.invokevirtual 93, 3) := by decide +kernel
theorem dX3_mergeRows_166 : decode cX3_mergeRows 166 = .ok (.ifCond .ne 9, 3) := by decide +kernel
theorem dX3_mergeRows_169 : decode cX3_mergeRows 169 = .ok (.aload_n 0, 1) := by decide +kernel
theorem dX3_mergeRows_170 : decode cX3_mergeRows 170 = .ok (.iload 4, 2) := by decide +kernel
theorem dX3_mergeRows_172 : decode cX3_mergeRows 172 = .ok (.invokevirtual 97, 3) := by decide +kernel
theorem dX3_mergeRows_175 : decode cX3_mergeRows 175 = .ok (.iload 9, 2) := by decide +kernel
theorem dX3_mergeRows_177 : decode cX3_mergeRows 177 = .ok (.iload 8, 2) := by decide +kernel
theorem dX3_mergeRows_179 : decode cX3_mergeRows 179 = .ok (.if_icmp .ge 11, 3) := by decide +kernel
theorem dX3_mergeRows_182 : decode cX3_mergeRows 182 = .ok (.aload_n 0, 1) := by decide +kernel
theorem dX3_mergeRows_183 : decode cX3_mergeRows 183 = .ok (.aload_n 1, 1) := by decide +kernel
theorem dX3_mergeRows_184 : decode cX3_mergeRows 184 = .ok (.iload 9, 2) := by decide +kernel
theorem dX3_mergeRows_186 : decode cX3_mergeRows 186 = .ok (.iaload, 1) := by decide +kernel
theorem dX3_mergeRows_187 : decode cX3_mergeRows 187 = .ok (.invokevirtual 101, 3) := by decide +kernel
theorem dX3_mergeRows_190 : decode cX3_mergeRows 190 = .ok (.iload 9, 2) := by decide +kernel
theorem dX3_mergeRows_192 : decode cX3_mergeRows 192 = .ok (.iconst 1, 1) := by decide +kernel
theorem dX3_mergeRows_193 : decode cX3_mergeRows 193 = .ok (.iadd, 1) := by decide +kernel
theorem dX3_mergeRows_194 : decode cX3_mergeRows 194 = .ok (.istore 5, 2) := by decide +kernel
theorem dX3_mergeRows_196 : decode cX3_mergeRows 196 = .ok (.iload 10, 2) := by decide +kernel
theorem dX3_mergeRows_198 : decode cX3_mergeRows 198 = .ok (.iconst 1, 1) := by decide +kernel
theorem dX3_mergeRows_199 : decode cX3_mergeRows 199 = .ok (.iadd, 1) := by decide +kernel
theorem dX3_mergeRows_200 : decode cX3_mergeRows 200 = .ok (.istore 6, 2) := by decide +kernel
theorem dX3_mergeRows_202 : decode cX3_mergeRows 202 = .ok (.iload 11, 2) := by decide +kernel
theorem dX3_mergeRows_204 : decode cX3_mergeRows 204 = .ok (.iconst 1, 1) := by decide +kernel
theorem dX3_mergeRows_205 : decode cX3_mergeRows 205 = .ok (.iadd, 1) := by decide +kernel
theorem dX3_mergeRows_206 : decode cX3_mergeRows 206 = .ok (.istore 7, 2) := by decide +kernel
theorem dX3_mergeRows_208 : decode cX3_mergeRows 208 = .ok (.iinc 9 1, 3) := by decide +kernel
theorem dX3_mergeRows_211 : decode cX3_mergeRows 211 = .ok (.goto (-157), 3) := by decide +kernel
theorem dX3_mergeRows_214 : decode cX3_mergeRows 214 = .ok (.return_, 1) := by decide +kernel
theorem dX3_takeCleanGap_0 : decode cX3_takeCleanGap 0 = .ok (.aload_n 0, 1) := by decide +kernel
theorem dX3_takeCleanGap_1 : decode cX3_takeCleanGap 1 = .ok (.getfield 38, 3) := by decide +kernel
theorem dX3_takeCleanGap_4 : decode cX3_takeCleanGap 4 = .ok (.aload_n 0, 1) := by decide +kernel
theorem dX3_takeCleanGap_5 : decode cX3_takeCleanGap 5 = .ok (.getfield 34, 3) := by decide +kernel
theorem dX3_takeCleanGap_8 : decode cX3_takeCleanGap 8 = .ok (.invokevirtual 104, 3) := by decide +kernel
theorem dX3_takeCleanGap_11 : decode cX3_takeCleanGap 11 = .ok (.ifCond .eq 13, 3) := by decide +kernel
theorem dX3_takeCleanGap_14 : decode cX3_takeCleanGap 14 = .ok (.aload_n 0, 1) := by decide +kernel
theorem dX3_takeCleanGap_15 : decode cX3_takeCleanGap 15 = .ok (.aload_n 0, 1) := by decide +kernel
theorem dX3_takeCleanGap_16 : decode cX3_takeCleanGap 16 = .ok (.getfield 41, 3) := by decide +kernel
theorem dX3_takeCleanGap_19 : decode cX3_takeCleanGap 19 = .ok (.invokevirtual 108, 3) := by decide +kernel
theorem dX3_takeCleanGap_22 : decode cX3_takeCleanGap 22 = .ok (.iconst 1, 1) := by decide +kernel
theorem dX3_takeCleanGap_23 : decode cX3_takeCleanGap 23 = .ok (.ireturn, 1) := by decide +kernel
theorem dX3_takeCleanGap_24 : decode cX3_takeCleanGap 24 = .ok (.aload_n 0, 1) := by decide +kernel
theorem dX3_takeCleanGap_25 : decode cX3_takeCleanGap 25 = .ok (.getfield 41, 3) := by decide +kernel
theorem dX3_takeCleanGap_28 : decode cX3_takeCleanGap 28 = .ok (.aload_n 0, 1) := by decide +kernel
theorem dX3_takeCleanGap_29 : decode cX3_takeCleanGap 29 = .ok (.getfield 34, 3) := by decide +kernel
theorem dX3_takeCleanGap_32 : decode cX3_takeCleanGap 32 = .ok (.invokevirtual 104, 3) := by decide +kernel
theorem dX3_takeCleanGap_35 : decode cX3_takeCleanGap 35 = .ok (.ifCond .ne 17, 3) := by decide +kernel
theorem dX3_takeCleanGap_38 : decode cX3_takeCleanGap 38 = .ok (.aload_n 0, 1) := by decide +kernel
theorem dX3_takeCleanGap_39 : decode cX3_takeCleanGap 39 = .ok (.getfield 41, 3) := by decide +kernel
theorem dX3_takeCleanGap_42 : decode cX3_takeCleanGap 42 = .ok (.aload_n 0, 1) := by decide +kernel
theorem dX3_takeCleanGap_43 : decode cX3_takeCleanGap 43 = .ok (.getfield 38, 3) := by decide +kernel
theorem dX3_takeCleanGap_46 : decode cX3_takeCleanGap 46 = .ok (.invokevirtual 104, 3) := by decide +kernel
theorem dX3_takeCleanGap_49 : decode cX3_takeCleanGap 49 = .ok (.ifCond .eq 13, 3) := by decide +kernel
theorem dX3_takeCleanGap_52 : decode cX3_takeCleanGap 52 = .ok (.aload_n 0, 1) := by decide +kernel
theorem dX3_takeCleanGap_53 : decode cX3_takeCleanGap 53 = .ok (.aload_n 0, 1) := by decide +kernel
theorem dX3_takeCleanGap_54 : decode cX3_takeCleanGap 54 = .ok (.getfield 38, 3) := by decide +kernel
theorem dX3_takeCleanGap_57 : decode cX3_takeCleanGap 57 = .ok (.invokevirtual 108, 3) := by decide +kernel
theorem dX3_takeCleanGap_60 : decode cX3_takeCleanGap 60 = .ok (.iconst 1, 1) := by decide +kernel
theorem dX3_takeCleanGap_61 : decode cX3_takeCleanGap 61 = .ok (.ireturn, 1) := by decide +kernel
theorem dX3_takeCleanGap_62 : decode cX3_takeCleanGap 62 = .ok (.iconst 0, 1) := by decide +kernel
theorem dX3_takeCleanGap_63 : decode cX3_takeCleanGap 63 = .ok (.ireturn, 1) := by decide +kernel
theorem dX3_meetConflict_0 : decode cX3_meetConflict 0 = .ok (.aload_n 0, 1) := by decide +kernel
theorem dX3_meetConflict_1 : decode cX3_meetConflict 1 = .ok (.dup, 1) := by decide +kernel
theorem dX3_meetConflict_2 : decode cX3_meetConflict 2 = .ok (.getfield 74, 3) := by decide +kernel
theorem dX3_meetConflict_5 : decode cX3_meetConflict 5 = .ok (.iconst 1, 1) := by decide +kernel
theorem dX3_meetConflict_6 : decode cX3_meetConflict 6 = .ok (.iadd, 1) := by decide +kernel
theorem dX3_meetConflict_7 : decode cX3_meetConflict 7 = .ok (.putfield 74, 3) := by decide +kernel
theorem dX3_meetConflict_10 : decode cX3_meetConflict 10 = .ok (.aload_n 0, 1) := by decide +kernel
theorem dX3_meetConflict_11 : decode cX3_meetConflict 11 = .ok (.aload_n 0, 1) := by decide +kernel
theorem dX3_meetConflict_12 : decode cX3_meetConflict 12 = .ok (.getfield 34, 3) := by decide +kernel
theorem dX3_meetConflict_15 : decode cX3_meetConflict 15 = .ok (.aload_n 0, 1) := by decide +kernel
theorem dX3_meetConflict_16 : decode cX3_meetConflict 16 = .ok (.getfield 38, 3) := by decide +kernel
theorem dX3_meetConflict_19 : decode cX3_meetConflict 19 = .ok (.aload_n 0, 1) := by decide +kernel
theorem dX3_meetConflict_20 : decode cX3_meetConflict 20 = .ok (.getfield 41, 3) := by decide +kernel
theorem dX3_meetConflict_23 : decode cX3_meetConflict 23 = .ok (.invokevirtual 112, 3) := by decide +kernel
theorem dX3_meetConflict_26 : decode cX3_meetConflict 26 = .ok (.aload_n 0, 1) := by decide +kernel
theorem dX3_meetConflict_27 : decode cX3_meetConflict 27 = .ok (.invokevirtual 116, 3) := by decide +kernel
theorem dX3_meetConflict_30 : decode cX3_meetConflict 30 = .ok (.astore_n 2, 1) := by decide +kernel
theorem dX3_meetConflict_31 : decode cX3_meetConflict 31 = .ok (.aload_n 2, 1) := by decide +kernel
theorem dX3_meetConflict_32 : decode cX3_meetConflict 32 = .ok (.ifnull 9, 3) := by decide +kernel
theorem dX3_meetConflict_35 : decode cX3_meetConflict 35 = .ok (.aload_n 0, 1) := by decide +kernel
theorem dX3_meetConflict_36 : decode cX3_meetConflict 36 = .ok (.aload_n 2, 1) := by decide +kernel
theorem dX3_meetConflict_37 : decode cX3_meetConflict 37 = .ok (.invokevirtual 120, 3) := by decide +kernel
theorem dX3_meetConflict_40 : decode cX3_meetConflict 40 = .ok (.return_, 1) := by decide +kernel
theorem dX3_meetConflict_41 : decode cX3_meetConflict 41 = .ok (.aload_n 0, 1) := by decide +kernel
theorem dX3_meetConflict_42 : decode cX3_meetConflict 42 = .ok (.getfield 77, 3) := by decide +kernel
theorem dX3_meetConflict_45 : decode cX3_meetConflict 45 = .ok (.iload_n 1, 1) := by decide +kernel
theorem dX3_meetConflict_46 : decode cX3_meetConflict 46 = .ok (.if_icmp .ne 111, 3) := by decide +kernel
theorem dX3_meetConflict_49 : decode cX3_meetConflict 49 = .ok (.aload_n 0, 1) := by decide +kernel
theorem dX3_meetConflict_50 : decode cX3_meetConflict 50 = .ok (.getfield 44, 3) := by decide +kernel
theorem dX3_meetConflict_53 : decode cX3_meetConflict 53 = .ok (.aload_n 0, 1) := by decide +kernel
theorem dX3_meetConflict_54 : decode cX3_meetConflict 54 = .ok (.getfield 34, 3) := by decide +kernel
theorem dX3_meetConflict_57 : decode cX3_meetConflict 57 = .ok (.getfield 124, 3) := by decide +kernel
theorem dX3_meetConflict_60 : decode cX3_meetConflict 60 = .ok (.aload_n 0, 1) := by decide +kernel
theorem dX3_meetConflict_61 : decode cX3_meetConflict 61 = .ok (.getfield 34, 3) := by decide +kernel
theorem dX3_meetConflict_64 : decode cX3_meetConflict 64 = .ok (.getfield 127, 3) := by decide +kernel
theorem dX3_meetConflict_67 : decode cX3_meetConflict 67 = .ok (.aload_n 0, 1) := by decide +kernel
theorem dX3_meetConflict_68 : decode cX3_meetConflict 68 = .ok (.getfield 34, 3) := by decide +kernel
theorem dX3_meetConflict_71 : decode cX3_meetConflict 71 = .ok (.getfield 127, 3) := by decide +kernel
theorem dX3_meetConflict_74 : decode cX3_meetConflict 74 = .ok (.aload_n 0, 1) := by decide +kernel
theorem dX3_meetConflict_75 : decode cX3_meetConflict 75 = .ok (.getfield 34, 3) := by decide +kernel
theorem dX3_meetConflict_78 : decode cX3_meetConflict 78 = .ok (.getfield 130, 3) := by decide +kernel
theorem dX3_meetConflict_81 : decode cX3_meetConflict 81 = .ok (.iadd, 1) := by decide +kernel
theorem dX3_meetConflict_82 : decode cX3_meetConflict 82 = .ok (.invokevirtual 89, 3) := by decide +kernel
theorem dX3_meetConflict_85 : decode cX3_meetConflict 85 = .ok (.aload_n 0, 1) := by decide +kernel
theorem dX3_meetConflict_86 : decode cX3_meetConflict 86 = .ok (.getfield 47, 3) := by decide +kernel
theorem dX3_meetConflict_89 : decode cX3_meetConflict 89 = .ok (.aload_n 0, 1) := by decide +kernel
theorem dX3_meetConflict_90 : decode cX3_meetConflict 90 = .ok (.getfield 38, 3) := by decide +kernel
theorem dX3_meetConflict_93 : decode cX3_meetConflict 93 = .ok (.getfield 124, 3) := by decide +kernel
theorem dX3_meetConflict_96 : decode cX3_meetConflict 96 = .ok (.aload_n 0, 1) := by decide +kernel
theorem dX3_meetConflict_97 : decode cX3_meetConflict 97 = .ok (.getfield 38, 3) := by decide +kernel
theorem dX3_meetConflict_100 : decode cX3_meetConflict 100 = .ok (.getfield 127, 3) := by decide +kernel
theorem dX3_meetConflict_103 : decode cX3_meetConflict 103 = .ok (.aload_n 0, 1) := by decide +kernel
theorem dX3_meetConflict_104 : decode cX3_meetConflict 104 = .ok (.getfield 38, 3) := by decide +kernel
theorem dX3_meetConflict_107 : decode cX3_meetConflict 107 = .ok (.getfield 127, 3) := by decide +kernel
theorem dX3_meetConflict_110 : decode cX3_meetConflict 110 = .ok (.aload_n 0, 1) := by decide +kernel
theorem dX3_meetConflict_111 : decode cX3_meetConflict 111 = .ok (.getfield 38, 3) := by decide +kernel
theorem dX3_meetConflict_114 : decode cX3_meetConflict 114 = .ok (.getfield 130, 3) := by decide +kernel
theorem dX3_meetConflict_117 : decode cX3_meetConflict 117 = .ok (.iadd, 1) := by decide +kernel
theorem dX3_meetConflict_118 : decode cX3_meetConflict 118 = .ok (.invokevirtual 89, 3) := by decide +kernel
theorem dX3_meetConflict_121 : decode cX3_meetConflict 121 = .ok (.aload_n 0, 1) := by decide +kernel
theorem dX3_meetConflict_122 : decode cX3_meetConflict 122 = .ok (.getfield 50, 3) := by decide +kernel
theorem dX3_meetConflict_125 : decode cX3_meetConflict 125 = .ok (.aload_n 0, 1) := by decide +kernel
theorem dX3_meetConflict_126 : decode cX3_meetConflict 126 = .ok (.getfield 41, 3) := by decide +kernel
theorem dX3_meetConflict_129 : decode cX3_meetConflict 129 = .ok (.getfield 124, 3) := by decide +kernel
theorem dX3_meetConflict_132 : decode cX3_meetConflict 132 = .ok (.aload_n 0, 1) := by decide +kernel
theorem dX3_meetConflict_133 : decode cX3_meetConflict 133 = .ok (.getfield 41, 3) := by decide +kernel
theorem dX3_meetConflict_136 : decode cX3_meetConflict 136 = .ok (.getfield 127, 3) := by decide +kernel
theorem dX3_meetConflict_139 : decode cX3_meetConflict 139 = .ok (.aload_n 0, 1) := by decide +kernel
theorem dX3_meetConflict_140 : decode cX3_meetConflict 140 = .ok (.getfield 41, 3) := by decide +kernel
theorem dX3_meetConflict_143 : decode cX3_meetConflict 143 = .ok (.getfield 127, 3) := by decide +kernel
theorem dX3_meetConflict_146 : decode cX3_meetConflict 146 = .ok (.aload_n 0, 1) := by decide +kernel
theorem dX3_meetConflict_147 : decode cX3_meetConflict 147 = .ok (.getfield 41, 3) := by decide +kernel
theorem dX3_meetConflict_150 : decode cX3_meetConflict 150 = .ok (.getfield 130, 3) := by decide +kernel
theorem dX3_meetConflict_153 : decode cX3_meetConflict 153 = .ok (.iadd, 1) := by decide +kernel
theorem dX3_meetConflict_154 : decode cX3_meetConflict 154 = .ok (.invokevirtual 89, 3) := by decide +kernel
theorem dX3_meetConflict_157 : decode cX3_meetConflict 157 = .ok (.aload_n 0, 1) := by decide +kernel
theorem dX3_meetConflict_158 : decode cX3_meetConflict 158 = .ok (.dup, 1) := by decide +kernel
theorem dX3_meetConflict_159 : decode cX3_meetConflict 159 = .ok (.getfield 77, 3) := by decide +kernel
theorem dX3_meetConflict_162 : decode cX3_meetConflict 162 = .ok (.iconst 1, 1) := by decide +kernel
theorem dX3_meetConflict_163 : decode cX3_meetConflict 163 = .ok (.iadd, 1) := by decide +kernel
theorem dX3_meetConflict_164 : decode cX3_meetConflict 164 = .ok (.putfield 77, 3) := by decide +kernel
theorem dX3_meetConflict_167 : decode cX3_meetConflict 167 = .ok (.return_, 1) := by decide +kernel
theorem dX3_findShape_0 : decode cX3_findShape 0 = .ok (.aload_n 0, 1) := by decide +kernel
theorem dX3_findShape_1 : decode cX3_findShape 1 = .ok (.getfield 56, 3) := by decide +kernel
theorem dX3_findShape_4 : decode cX3_findShape 4 = .ok (.invokevirtual 131, 3) := by decide +kernel
theorem dX3_findShape_7 : decode cX3_findShape 7 = .ok (.aload_n 0, 1) := by decide +kernel
theorem dX3_findShape_8 : decode cX3_findShape 8 = .ok (.getfield 56, 3) := by decide +kernel
theorem dX3_findShape_11 : decode cX3_findShape 11 = .ok (.aload_n 1, 1) := by decide +kernel
theorem dX3_findShape_12 : decode cX3_findShape 12 = .ok (.invokevirtual 134, 3) := by decide +kernel
theorem dX3_findShape_15 : decode cX3_findShape 15 = .ok (.aload_n 0, 1) := by decide +kernel
theorem dX3_findShape_16 : decode cX3_findShape 16 = .ok (.getfield 56, 3) := by decide +kernel
theorem dX3_findShape_19 : decode cX3_findShape 19 = .ok (.aload_n 2, 1) := by decide +kernel
theorem dX3_findShape_20 : decode cX3_findShape 20 = .ok (.invokevirtual 134, 3) := by decide +kernel
theorem dX3_findShape_23 : decode cX3_findShape 23 = .ok (.aload_n 0, 1) := by decide +kernel
theorem dX3_findShape_24 : decode cX3_findShape 24 = .ok (.getfield 56, 3) := by decide +kernel
theorem dX3_findShape_27 : decode cX3_findShape 27 = .ok (.aload_n 3, 1) := by decide +kernel
theorem dX3_findShape_28 : decode cX3_findShape 28 = .ok (.invokevirtual 134, 3) := by decide +kernel
theorem dX3_findShape_31 : decode cX3_findShape 31 = .ok (.aload_n 0, 1) := by decide +kernel
theorem dX3_findShape_32 : decode cX3_findShape 32 = .ok (.getfield 60, 3) := by decide +kernel
theorem dX3_findShape_35 : decode cX3_findShape 35 = .ok (.invokevirtual 131, 3) := by decide +kernel
theorem dX3_findShape_38 : decode cX3_findShape 38 = .ok (.aload_n 0, 1) := by decide +kernel
theorem dX3_findShape_39 : decode cX3_findShape 39 = .ok (.getfield 60, 3) := by decide +kernel
theorem dX3_findShape_42 : decode cX3_findShape 42 = .ok (.aload_n 1, 1) := by decide +kernel
theorem dX3_findShape_43 : decode cX3_findShape 43 = .ok (.invokevirtual 134, 3) := by decide +kernel
theorem dX3_findShape_46 : decode cX3_findShape 46 = .ok (.aload_n 0, 1) := by decide +kernel
theorem dX3_findShape_47 : decode cX3_findShape 47 = .ok (.getfield 60, 3) := by decide +kernel
theorem dX3_findShape_50 : decode cX3_findShape 50 = .ok (.aload_n 3, 1) := by decide +kernel
theorem dX3_findShape_51 : decode cX3_findShape 51 = .ok (.invokevirtual 134, 3) := by decide +kernel
theorem dX3_findShape_54 : decode cX3_findShape 54 = .ok (.aload_n 0, 1) := by decide +kernel
theorem dX3_findShape_55 : decode cX3_findShape 55 = .ok (.getfield 60, 3) := by decide +kernel
theorem dX3_findShape_58 : decode cX3_findShape 58 = .ok (.aload_n 2, 1) := by decide +kernel
theorem dX3_findShape_59 : decode cX3_findShape 59 = .ok (.invokevirtual 134, 3) := by decide +kernel
theorem dX3_findShape_62 : decode cX3_findShape 62 = .ok (.aload_n 0, 1) := by decide +kernel
theorem dX3_findShape_63 : decode cX3_findShape 63 = .ok (.aload_n 0, 1) := by decide +kernel
theorem dX3_findShape_64 : decode cX3_findShape 64 = .ok (.getfield 60, 3) := by decide +kernel
theorem dX3_findShape_67 : decode cX3_findShape 67 = .ok (.aload_n 0, 1) := by decide +kernel
theorem dX3_findShape_68 : decode cX3_findShape 68 = .ok (.getfield 56, 3) := by decide +kernel
theorem dX3_findShape_71 : decode cX3_findShape 71 = .ok (.invokevirtual 137, 3) := by decide +kernel
theorem dX3_findShape_74 : decode cX3_findShape 74 = .ok (.ifCond .eq 10, 3) := by decide +kernel
theorem dX3_findShape_77 : decode cX3_findShape 77 = .ok (.aload_n 0, 1) := by decide +kernel
theorem dX3_findShape_78 : decode cX3_findShape 78 = .ok (.getfield 60, 3) := by decide +kernel
theorem dX3_findShape_81 : decode cX3_findShape 81 = .ok (.goto 7, 3) := by decide +kernel
theorem dX3_findShape_84 : decode cX3_findShape 84 = .ok (.aload_n 0, 1) := by decide +kernel
theorem dX3_findShape_85 : decode cX3_findShape 85 = .ok (.getfield 56, 3) := by decide +kernel
theorem dX3_findShape_88 : decode cX3_findShape 88 = .ok (.putfield 63, 3) := by decide +kernel
theorem dX3_findShape_91 : decode cX3_findShape 91 = .ok (.return_, 1) := by decide +kernel
theorem dX3_findResolution_0 : decode cX3_findResolution 0 = .ok (.iconst 0, 1) := by decide +kernel
theorem dX3_findResolution_1 : decode cX3_findResolution 1 = .ok (.istore_n 1, 1) := by decide +kernel
theorem dX3_findResolution_2 : decode cX3_findResolution 2 = .ok (.iload_n 1, 1) := by decide +kernel
theorem dX3_findResolution_3 : decode cX3_findResolution 3 = .ok (.aload_n 0, 1) := by decide +kernel
theorem dX3_findResolution_4 : decode cX3_findResolution 4 = .ok (.getfield 141, 3) := by decide +kernel
theorem dX3_findResolution_7 : decode cX3_findResolution 7 = .ok (.if_icmp .ge 35, 3) := by decide +kernel
theorem dX3_findResolution_10 : decode cX3_findResolution 10 = .ok (.aload_n 0, 1) := by decide +kernel
theorem dX3_findResolution_11 : decode cX3_findResolution 11 = .ok (.iload_n 1, 1) := by decide +kernel
theorem dX3_findResolution_12 : decode cX3_findResolution 12 = .ok (.invokevirtual 144, 3) := by decide +kernel
theorem dX3_findResolution_15 : decode cX3_findResolution 15 = .ok (.astore_n 2, 1) := by decide +kernel
theorem dX3_findResolution_16 : decode cX3_findResolution 16 = .ok (.aload_n 2, 1) := by decide +kernel
theorem dX3_findResolution_17 : decode cX3_findResolution 17 = .ok (.ifnull 19, 3) := by decide +kernel
theorem dX3_findResolution_20 : decode cX3_findResolution 20 = .ok (.aload_n 0, 1) := by decide +kernel
theorem dX3_findResolution_21 : decode cX3_findResolution 21 = .ok (.getfield 63, 3) := by decide +kernel
theorem dX3_findResolution_24 : decode cX3_findResolution 24 = .ok (.aload_n 2, 1) := by decide +kernel
theorem dX3_findResolution_25 : decode cX3_findResolution 25 = .ok (.getfield 148, 3) := by decide +kernel
theorem dX3_findResolution_28 : decode cX3_findResolution 28 = .ok (.invokevirtual 150, 3) := by decide +kernel
theorem dX3_findResolution_31 : decode cX3_findResolution 31 = .ok (.ifCond .eq 5, 3) := by decide +kernel
theorem dX3_findResolution_34 : decode cX3_findResolution 34 = .ok (.aload_n 2, 1) := by decide +kernel
theorem dX3_findResolution_35 : decode cX3_findResolution 35 = .ok (.areturn, 1) := by decide +kernel
theorem dX3_findResolution_36 : decode cX3_findResolution 36 = .ok (.iinc 1 1, 3) := by decide +kernel
theorem dX3_findResolution_39 : decode cX3_findResolution 39 = .ok (.goto (-37), 3) := by decide +kernel
theorem dX3_findResolution_42 : decode cX3_findResolution 42 = .ok (.aconst_null, 1) := by decide +kernel
theorem dX3_findResolution_43 : decode cX3_findResolution 43 = .ok (.areturn, 1) := by decide +kernel
theorem dX3_addLine_0 : decode cX3_addLine 0 = .ok (.aload_n 0, 1) := by decide +kernel
theorem dX3_addLine_1 : decode cX3_addLine 1 = .ok (.getfield 70, 3) := by decide +kernel
theorem dX3_addLine_4 : decode cX3_addLine 4 = .ok (.aload_n 0, 1) := by decide +kernel
theorem dX3_addLine_5 : decode cX3_addLine 5 = .ok (.getfield 17, 3) := by decide +kernel
theorem dX3_addLine_8 : decode cX3_addLine 8 = .ok (.arraylength, 1) := by decide +kernel
theorem dX3_addLine_9 : decode cX3_addLine 9 = .ok (.if_icmp .ge 23, 3) := by decide +kernel
theorem dX3_addLine_12 : decode cX3_addLine 12 = .ok (.aload_n 0, 1) := by decide +kernel
theorem dX3_addLine_13 : decode cX3_addLine 13 = .ok (.getfield 17, 3) := by decide +kernel
theorem dX3_addLine_16 : decode cX3_addLine 16 = .ok (.aload_n 0, 1) := by decide +kernel
theorem dX3_addLine_17 : decode cX3_addLine 17 = .ok (.getfield 70, 3) := by decide +kernel
theorem dX3_addLine_20 : decode cX3_addLine 20 = .ok (.iload_n 1, 1) := by decide +kernel
theorem dX3_addLine_21 : decode cX3_addLine 21 = .ok (.iastore, 1) := by decide +kernel
theorem dX3_addLine_22 : decode cX3_addLine 22 = .ok (.aload_n 0, 1) := by decide +kernel
theorem dX3_addLine_23 : decode cX3_addLine 23 = .ok (.dup, 1) := by decide +kernel
theorem dX3_addLine_24 : decode cX3_addLine 24 = .ok (.getfield 70, 3) := by decide +kernel
theorem dX3_addLine_27 : decode cX3_addLine 27 = .ok (.iconst 1, 1) := by decide +kernel
theorem dX3_addLine_28 : decode cX3_addLine 28 = .ok (.iadd, 1) := by decide +kernel
theorem dX3_addLine_29 : decode cX3_addLine 29 = .ok (.putfield 70, 3) := by decide +kernel
theorem dX3_addLine_32 : decode cX3_addLine 32 = .ok (.return_, 1) := by decide +kernel
theorem dX3_addLines_0 : decode cX3_addLines 0 = .ok (.iconst 0, 1) := by decide +kernel
theorem dX3_addLines_1 : decode cX3_addLines 1 = .ok (.istore_n 2, 1) := by decide +kernel
theorem dX3_addLines_2 : decode cX3_addLines 2 = .ok (.iload_n 2, 1) := by decide +kernel
theorem dX3_addLines_3 : decode cX3_addLines 3 = .ok (.aload_n 1, 1) := by decide +kernel
theorem dX3_addLines_4 : decode cX3_addLines 4 = .ok (.getfield 130, 3) := by decide +kernel
theorem dX3_addLines_7 : decode cX3_addLines 7 = .ok (.if_icmp .ge 18, 3) := by decide +kernel
theorem dX3_addLines_10 : decode cX3_addLines 10 = .ok (.aload_n 0, 1) := by decide +kernel
theorem dX3_addLines_11 : decode cX3_addLines 11 = .ok (.aload_n 1, 1) := by decide +kernel
theorem dX3_addLines_12 : decode cX3_addLines 12 = .ok (.iload_n 2, 1) := by decide +kernel
theorem dX3_addLines_13 : decode cX3_addLines 13 = .ok (.invokevirtual 154, 3) := by decide +kernel
theorem dX3_addLines_16 : decode cX3_addLines 16 = .ok (.invokevirtual 101, 3) := by decide +kernel
theorem dX3_addLines_19 : decode cX3_addLines 19 = .ok (.iinc 2 1, 3) := by decide +kernel
theorem dX3_addLines_22 : decode cX3_addLines 22 = .ok (.goto (-20), 3) := by decide +kernel
theorem dX3_addLines_25 : decode cX3_addLines 25 = .ok (.return_, 1) := by decide +kernel
theorem dX3_addResolved_0 : decode cX3_addResolved 0 = .ok (.iconst 0, 1) := by decide +kernel
theorem dX3_addResolved_1 : decode cX3_addResolved 1 = .ok (.istore_n 2, 1) := by decide +kernel
theorem dX3_addResolved_2 : decode cX3_addResolved 2 = .ok (.iload_n 2, 1) := by decide +kernel
theorem dX3_addResolved_3 : decode cX3_addResolved 3 = .ok (.aload_n 1, 1) := by decide +kernel
theorem dX3_addResolved_4 : decode cX3_addResolved 4 = .ok (.getfield 158, 3) := by decide +kernel
theorem dX3_addResolved_7 : decode cX3_addResolved 7 = .ok (.arraylength, 1) := by decide +kernel
theorem dX3_addResolved_8 : decode cX3_addResolved 8 = .ok (.if_icmp .ge 63, 3) := by decide +kernel
theorem dX3_addResolved_11 : decode cX3_addResolved 11 = .ok (.aload_n 1, 1) := by decide +kernel
theorem dX3_addResolved_12 : decode cX3_addResolved 12 = .ok (.getfield 158, 3) := by decide +kernel
theorem dX3_addResolved_15 : decode cX3_addResolved 15 = .ok (.iload_n 2, 1) := by decide +kernel
theorem dX3_addResolved_16 : decode cX3_addResolved 16 = .ok (.iaload, 1) := by decide +kernel
theorem dX3_addResolved_17 : decode cX3_addResolved 17 = .ok (.istore_n 3, 1) := by decide +kernel
theorem dX3_addResolved_18 : decode cX3_addResolved 18 = .ok (.iload_n 3, 1) := by decide +kernel
theorem dX3_addResolved_19 : decode cX3_addResolved 19 = .ok (.ifCond .lt 18, 3) := by decide +kernel
theorem dX3_addResolved_22 : decode cX3_addResolved 22 = .ok (.iload_n 3, 1) := by decide +kernel
theorem dX3_addResolved_23 : decode cX3_addResolved 23 = .ok (.aload_n 0, 1) := by decide +kernel
theorem dX3_addResolved_24 : decode cX3_addResolved 24 = .ok (.getfield 63, 3) := by decide +kernel
theorem dX3_addResolved_27 : decode cX3_addResolved 27 = .ok (.getfield 159, 3) := by decide +kernel
theorem dX3_addResolved_30 : decode cX3_addResolved 30 = .ok (.if_icmp .ge 7, 3) := by decide +kernel
theorem dX3_addResolved_33 : decode cX3_addResolved 33 = .ok (.iconst 1, 1) := by decide +kernel
theorem dX3_addResolved_34 : decode cX3_addResolved 34 = .ok (.goto 4, 3) := by decide +kernel
theorem dX3_addResolved_37 : decode cX3_addResolved 37 = .ok (.iconst 0, 1) := by decide +kernel
theorem dX3_addResolved_38 : decode cX3_addResolved 38 = .ok (.istore 4, 2) := by decide +kernel
theorem dX3_addResolved_40 : decode cX3_addResolved 40 = .ok (.aload_n 0, 1) := by decide +kernel
theorem dX3_addResolved_41 : decode cX3_addResolved 41 = .ok (.iload 4, 2) := by decide +kernel
theorem dX3_addResolved_43 : decode cX3_addResolved 43 = .ok (.ifCond .eq 15, 3) := by decide +kernel
theorem dX3_addResolved_46 : decode cX3_addResolved 46 = .ok (.aload_n 0, 1) := by decide +kernel
theorem dX3_addResolved_47 : decode cX3_addResolved 47 = .ok (.getfield 63, 3) := by decide +kernel
theorem dX3_addResolved_50 : decode cX3_addResolved 50 = .ok (.getfield 162, 3) := by decide +kernel
theorem dX3_addResolved_53 : decode cX3_addResolved 53 = .ok (.iload_n 3, 1) := by decide +kernel
theorem dX3_addResolved_54 : decode cX3_addResolved 54 = .ok (.iaload, 1) := by decide +kernel
theorem dX3_addResolved_55 : decode cX3_addResolved 55 = .ok (.goto 7, 3) := by decide +kernel
theorem dX3_addResolved_58 : decode cX3_addResolved 58 = .ok (.iload_n 3, 1) := by decide +kernel
theorem dX3_addResolved_59 : decode cX3_addResolved 59 = .ok (.bipush 100, 2) := by decide +kernel
theorem dX3_addResolved_61 : decode cX3_addResolved 61 = .ok (.isub, 1) := by decide +kernel
theorem dX3_addResolved_62 : decode cX3_addResolved 62 = .ok (.invokevirtual 101, 3) := by decide +kernel
theorem dX3_addResolved_65 : decode cX3_addResolved 65 = .ok (.iinc 2 1, 3) := by decide +kernel
theorem dX3_addResolved_68 : decode cX3_addResolved 68 = .ok (.goto (-66), 3) := by decide +kernel
theorem dX3_addResolved_71 : decode cX3_addResolved 71 = .ok (.return_, 1) := by decide +kernel
theorem dX3_resultLine_0 : decode cX3_resultLine 0 = .ok (.iload_n 1, 1) := by decide +kernel
theorem dX3_resultLine_1 : decode cX3_resultLine 1 = .ok (.ifCond .lt 20, 3) := by decide +kernel
theorem dX3_resultLine_4 : decode cX3_resultLine 4 = .ok (.iload_n 1, 1) := by decide +kernel
theorem dX3_resultLine_5 : decode cX3_resultLine 5 = .ok (.aload_n 0, 1) := by decide +kernel
theorem dX3_resultLine_6 : decode cX3_resultLine 6 = .ok (.getfield 70, 3) := by decide +kernel
theorem dX3_resultLine_9 : decode cX3_resultLine 9 = .ok (.if_icmp .ge 12, 3) := by decide +kernel
theorem dX3_resultLine_12 : decode cX3_resultLine 12 = .ok (.aload_n 0, 1) := by decide +kernel
theorem dX3_resultLine_13 : decode cX3_resultLine 13 = .ok (.getfield 17, 3) := by decide +kernel
theorem dX3_resultLine_16 : decode cX3_resultLine 16 = .ok (.iload_n 1, 1) := by decide +kernel
theorem dX3_resultLine_17 : decode cX3_resultLine 17 = .ok (.iaload, 1) := by decide +kernel
theorem dX3_resultLine_18 : decode cX3_resultLine 18 = .ok (.goto 5, 3) := by decide +kernel
theorem dX3_resultLine_21 : decode cX3_resultLine 21 = .ok (.bipush (-9), 2) := by decide +kernel
theorem dX3_resultLine_23 : decode cX3_resultLine 23 = .ok (.ireturn, 1) := by decide +kernel
theorem dX3_resultEquals_0 : decode cX3_resultEquals 0 = .ok (.aload_n 0, 1) := by decide +kernel
theorem dX3_resultEquals_1 : decode cX3_resultEquals 1 = .ok (.getfield 70, 3) := by decide +kernel
theorem dX3_resultEquals_4 : decode cX3_resultEquals 4 = .ok (.aload_n 1, 1) := by decide +kernel
theorem dX3_resultEquals_5 : decode cX3_resultEquals 5 = .ok (.arraylength, 1) := by decide +kernel
theorem dX3_resultEquals_6 : decode cX3_resultEquals 6 = .ok (.if_icmp .eq 5, 3) := by decide +kernel
theorem dX3_resultEquals_9 : decode cX3_resultEquals 9 = .ok (.iconst 0, 1) := by decide +kernel
theorem dX3_resultEquals_10 : decode cX3_resultEquals 10 = .ok (.ireturn, 1) := by decide +kernel
theorem dX3_resultEquals_11 : decode cX3_resultEquals 11 = .ok (.iconst 0, 1) := by decide +kernel
theorem dX3_resultEquals_12 : decode cX3_resultEquals 12 = .ok (.istore_n 2, 1) := by decide +kernel
theorem dX3_resultEquals_13 : decode cX3_resultEquals 13 = .ok (.iload_n 2, 1) := by decide +kernel
theorem dX3_resultEquals_14 : decode cX3_resultEquals 14 = .ok (.aload_n 0, 1) := by decide +kernel
theorem dX3_resultEquals_15 : decode cX3_resultEquals 15 = .ok (.getfield 70, 3) := by decide +kernel
theorem dX3_resultEquals_18 : decode cX3_resultEquals 18 = .ok (.if_icmp .ge 23, 3) := by decide +kernel
theorem dX3_resultEquals_21 : decode cX3_resultEquals 21 = .ok (.aload_n 0, 1) := by decide +kernel
theorem dX3_resultEquals_22 : decode cX3_resultEquals 22 = .ok (.getfield 17, 3) := by decide +kernel
theorem dX3_resultEquals_25 : decode cX3_resultEquals 25 = .ok (.iload_n 2, 1) := by decide +kernel
theorem dX3_resultEquals_26 : decode cX3_resultEquals 26 = .ok (.iaload, 1) := by decide +kernel
theorem dX3_resultEquals_27 : decode cX3_resultEquals 27 = .ok (.aload_n 1, 1) := by decide +kernel
theorem dX3_resultEquals_28 : decode cX3_resultEquals 28 = .ok (.iload_n 2, 1) := by decide +kernel
theorem dX3_resultEquals_29 : decode cX3_resultEquals 29 = .ok (.iaload, 1) := by decide +kernel
theorem dX3_resultEquals_30 : decode cX3_resultEquals 30 = .ok (.if_icmp .eq 5, 3) := by decide +kernel
theorem dX3_resultEquals_33 : decode cX3_resultEquals 33 = .ok (.iconst 0, 1) := by decide +kernel
theorem dX3_resultEquals_34 : decode cX3_resultEquals 34 = .ok (.ireturn, 1) := by decide +kernel
theorem dX3_resultEquals_35 : decode cX3_resultEquals 35 = .ok (.iinc 2 1, 3) := by decide +kernel
theorem dX3_resultEquals_38 : decode cX3_resultEquals 38 = .ok (.goto (-25), 3) := by decide +kernel
theorem dX3_resultEquals_41 : decode cX3_resultEquals 41 = .ok (.iconst 1, 1) := by decide +kernel
theorem dX3_resultEquals_42 : decode cX3_resultEquals 42 = .ok (.ireturn, 1) := by decide +kernel
theorem dX3_copyResult_0 : decode cX3_copyResult 0 = .ok (.aload_n 0, 1) := by decide +kernel
theorem dX3_copyResult_1 : decode cX3_copyResult 1 = .ok (.getfield 17, 3) := by decide +kernel
theorem dX3_copyResult_4 : decode cX3_copyResult 4 = .ok (.aload_n 0, 1) := by decide +kernel
theorem dX3_copyResult_5 : decode cX3_copyResult 5 = .ok (.getfield 70, 3) := by decide +kernel
theorem dX3_copyResult_8 : decode cX3_copyResult 8 = .ok (.invokestatic 165, 3) := by decide +kernel
theorem dX3_copyResult_11 : decode cX3_copyResult 11 = .ok (.areturn, 1) := by decide +kernel
theorem dX3_resolutionAt_0 : decode cX3_resolutionAt 0 = .ok (.iload_n 1, 1) := by decide +kernel
theorem dX3_resolutionAt_1 : decode cX3_resolutionAt 1 = .ok (.ifCond .lt 20, 3) := by decide +kernel
theorem dX3_resolutionAt_4 : decode cX3_resolutionAt 4 = .ok (.iload_n 1, 1) := by decide +kernel
theorem dX3_resolutionAt_5 : decode cX3_resolutionAt 5 = .ok (.aload_n 0, 1) := by decide +kernel
theorem dX3_resolutionAt_6 : decode cX3_resolutionAt 6 = .ok (.getfield 141, 3) := by decide +kernel
theorem dX3_resolutionAt_9 : decode cX3_resolutionAt 9 = .ok (.if_icmp .ge 12, 3) := by decide +kernel
theorem dX3_resolutionAt_12 : decode cX3_resolutionAt 12 = .ok (.aload_n 0, 1) := by decide +kernel
theorem dX3_resolutionAt_13 : decode cX3_resolutionAt 13 = .ok (.getfield 11, 3) := by decide +kernel
theorem dX3_resolutionAt_16 : decode cX3_resolutionAt 16 = .ok (.iload_n 1, 1) := by decide +kernel
theorem dX3_resolutionAt_17 : decode cX3_resolutionAt 17 = .ok (.aaload, 1) := by decide +kernel
theorem dX3_resolutionAt_18 : decode cX3_resolutionAt 18 = .ok (.goto 4, 3) := by decide +kernel
theorem dX3_resolutionAt_21 : decode cX3_resolutionAt 21 = .ok (.aconst_null, 1) := by decide +kernel
theorem dX3_resolutionAt_22 : decode cX3_resolutionAt 22 = .ok (.areturn, 1) := by decide +kernel
theorem dX3_addResolution_0 : decode cX3_addResolution 0 = .ok (.aload_n 0, 1) := by decide +kernel
theorem dX3_addResolution_1 : decode cX3_addResolution 1 = .ok (.getfield 141, 3) := by decide +kernel
theorem dX3_addResolution_4 : decode cX3_addResolution 4 = .ok (.bipush 8, 2) := by decide +kernel
theorem dX3_addResolution_6 : decode cX3_addResolution 6 = .ok (.if_icmp .lt 4, 3) := by decide +kernel
theorem dX3_addResolution_9 : decode cX3_addResolution 9 = .ok (.return_, 1) := by decide +kernel
theorem dX3_addResolution_10 : decode cX3_addResolution 10 = .ok (.aload_n 1, 1) := by decide +kernel
theorem dX3_addResolution_11 : decode cX3_addResolution 11 = .ok (.arraylength, 1) := by decide +kernel
theorem dX3_addResolution_12 : decode cX3_addResolution 12 = .ok (.newarray .int, 2) := by decide +kernel
theorem dX3_addResolution_14 : decode cX3_addResolution 14 = .ok (.astore_n 2, 1) := by decide +kernel
theorem dX3_addResolution_15 : decode cX3_addResolution 15 = .ok (.iconst 0, 1) := by decide +kernel
theorem dX3_addResolution_16 : decode cX3_addResolution 16 = .ok (.istore_n 3, 1) := by decide +kernel
theorem dX3_addResolution_17 : decode cX3_addResolution 17 = .ok (.iload_n 3, 1) := by decide +kernel
theorem dX3_addResolution_18 : decode cX3_addResolution 18 = .ok (.aload_n 2, 1) := by decide +kernel
theorem dX3_addResolution_19 : decode cX3_addResolution 19 = .ok (.arraylength, 1) := by decide +kernel
theorem dX3_addResolution_20 : decode cX3_addResolution 20 = .ok (.if_icmp .ge 42, 3) := by decide +kernel
theorem dX3_addResolution_23 : decode cX3_addResolution 23 = .ok (.aload_n 0, 1) := by decide +kernel
theorem dX3_addResolution_24 : decode cX3_addResolution 24 = .ok (.getfield 63, 3) := by decide +kernel
theorem dX3_addResolution_27 : decode cX3_addResolution 27 = .ok (.aload_n 1, 1) := by decide +kernel
theorem dX3_addResolution_28 : decode cX3_addResolution 28 = .ok (.iload_n 3, 1) := by decide +kernel
theorem dX3_addResolution_29 : decode cX3_addResolution 29 = .ok (.iaload, 1) := by decide +kernel
theorem dX3_addResolution_30 : decode cX3_addResolution 30 = .ok (.invokevirtual 171, 3) := by decide +kernel
theorem dX3_addResolution_33 : decode cX3_addResolution 33 = .ok (.istore 4, 2) := by decide +kernel
theorem dX3_addResolution_35 : decode cX3_addResolution 35 = .ok (.aload_n 2, 1) := by decide +kernel
theorem dX3_addResolution_36 : decode cX3_addResolution 36 = .ok (.iload_n 3, 1) := by decide +kernel
theorem dX3_addResolution_37 : decode cX3_addResolution 37 = .ok (.iload 4, 2) := by decide +kernel
theorem dX3_addResolution_39 : decode cX3_addResolution 39 = .ok (.bipush (-9), 2) := by decide +kernel
theorem dX3_addResolution_41 : decode cX3_addResolution 41 = .ok (.if_icmp .ne 12, 3) := by decide +kernel
theorem dX3_addResolution_44 : decode cX3_addResolution 44 = .ok (.bipush 100, 2) := by decide +kernel
theorem dX3_addResolution_46 : decode cX3_addResolution 46 = .ok (.aload_n 1, 1) := by decide +kernel
theorem dX3_addResolution_47 : decode cX3_addResolution 47 = .ok (.iload_n 3, 1) := by decide +kernel
theorem dX3_addResolution_48 : decode cX3_addResolution 48 = .ok (.iaload, 1) := by decide +kernel
theorem dX3_addResolution_49 : decode cX3_addResolution 49 = .ok (.iadd, 1) := by decide +kernel
theorem dX3_addResolution_50 : decode cX3_addResolution 50 = .ok (.goto 5, 3) := by decide +kernel
theorem dX3_addResolution_53 : decode cX3_addResolution 53 = .ok (.iload 4, 2) := by decide +kernel
theorem dX3_addResolution_55 : decode cX3_addResolution 55 = .ok (.iastore, 1) := by decide +kernel
theorem dX3_addResolution_56 : decode cX3_addResolution 56 = .ok (.iinc 3 1, 3) := by decide +kernel
theorem dX3_addResolution_59 : decode cX3_addResolution 59 = .ok (.goto (-42), 3) := by decide +kernel
theorem dX3_addResolution_62 : decode cX3_addResolution 62 = .ok (.aload_n 0, 1) := by decide +kernel
theorem dX3_addResolution_63 : decode cX3_addResolution 63 = .ok (.getfield 63, 3) := by decide +kernel
theorem dX3_addResolution_66 : decode cX3_addResolution 66 = .ok (.getfield 174, 3) := by decide +kernel
theorem dX3_addResolution_69 : decode cX3_addResolution 69 = .ok (.aload_n 0, 1) := by decide +kernel
theorem dX3_addResolution_70 : decode cX3_addResolution 70 = .ok (.getfield 63, 3) := by decide +kernel
theorem dX3_addResolution_73 : decode cX3_addResolution 73 = .ok (.getfield 177, 3) := by decide +kernel
theorem dX3_addResolution_76 : decode cX3_addResolution 76 = .ok (.invokestatic 165, 3) := by decide +kernel
theorem dX3_addResolution_79 : decode cX3_addResolution 79 = .ok (.astore_n 3, 1) := by decide +kernel
theorem dX3_addResolution_80 : decode cX3_addResolution 80 = .ok (.aload_n 0, 1) := by decide +kernel
theorem dX3_addResolution_81 : decode cX3_addResolution 81 = .ok (.getfield 11, 3) := by decide +kernel
theorem dX3_addResolution_84 : decode cX3_addResolution 84 = .ok (.aload_n 0, 1) := by decide +kernel
theorem dX3_addResolution_85 : decode cX3_addResolution 85 = .ok (.getfield 141, 3) := by decide +kernel
theorem dX3_addResolution_88 : decode cX3_addResolution 88 = .ok (.new 9, 3) := by decide +kernel
theorem dX3_addResolution_91 : decode cX3_addResolution 91 = .ok (.dup, 1) := by decide +kernel
theorem dX3_addResolution_92 : decode cX3_addResolution 92 = .ok (.aload_n 3, 1) := by decide +kernel
theorem dX3_addResolution_93 : decode cX3_addResolution 93 = .ok (.aload_n 2, 1) := by decide +kernel
theorem dX3_addResolution_94 : decode cX3_addResolution 94 = .ok (.invokespecial 178, 3) := by decide +kernel
theorem dX3_addResolution_97 : decode cX3_addResolution 97 = .ok (.aastore, 1) := by decide +kernel
theorem dX3_addResolution_98 : decode cX3_addResolution 98 = .ok (.aload_n 0, 1) := by decide +kernel
theorem dX3_addResolution_99 : decode cX3_addResolution 99 = .ok (.dup, 1) := by decide +kernel
theorem dX3_addResolution_100 : decode cX3_addResolution 100 = .ok (.getfield 141, 3) := by decide +kernel
theorem dX3_addResolution_103 : decode cX3_addResolution 103 = .ok (.iconst 1, 1) := by decide +kernel
theorem dX3_addResolution_104 : decode cX3_addResolution 104 = .ok (.iadd, 1) := by decide +kernel
theorem dX3_addResolution_105 : decode cX3_addResolution 105 = .ok (.putfield 141, 3) := by decide +kernel
theorem dX3_addResolution_108 : decode cX3_addResolution 108 = .ok (.return_, 1) := by decide +kernel
theorem dX3_removeResolution_0 : decode cX3_removeResolution 0 = .ok (.iload_n 1, 1) := by decide +kernel
theorem dX3_removeResolution_1 : decode cX3_removeResolution 1 = .ok (.istore_n 2, 1) := by decide +kernel
theorem dX3_removeResolution_2 : decode cX3_removeResolution 2 = .ok (.iload_n 2, 1) := by decide +kernel
theorem dX3_removeResolution_3 : decode cX3_removeResolution 3 = .ok (.iconst 1, 1) := by decide +kernel
theorem dX3_removeResolution_4 : decode cX3_removeResolution 4 = .ok (.iadd, 1) := by decide +kernel
theorem dX3_removeResolution_5 : decode cX3_removeResolution 5 = .ok (.aload_n 0, 1) := by decide +kernel
theorem dX3_removeResolution_6 : decode cX3_removeResolution 6 = .ok (.getfield 141, 3) := by decide +kernel
theorem dX3_removeResolution_9 : decode cX3_removeResolution 9 = .ok (.if_icmp .ge 23, 3) := by decide +kernel
theorem dX3_removeResolution_12 : decode cX3_removeResolution 12 = .ok (.aload_n 0, 1) := by decide +kernel
theorem dX3_removeResolution_13 : decode cX3_removeResolution 13 = .ok (.getfield 11, 3) := by decide +kernel
theorem dX3_removeResolution_16 : decode cX3_removeResolution 16 = .ok (.iload_n 2, 1) := by decide +kernel
theorem dX3_removeResolution_17 : decode cX3_removeResolution 17 = .ok (.aload_n 0, 1) := by decide +kernel
theorem dX3_removeResolution_18 : decode cX3_removeResolution 18 = .ok (.getfield 11, 3) := by decide +kernel
theorem dX3_removeResolution_21 : decode cX3_removeResolution 21 = .ok (.iload_n 2, 1) := by decide +kernel
theorem dX3_removeResolution_22 : decode cX3_removeResolution 22 = .ok (.iconst 1, 1) := by decide +kernel
theorem dX3_removeResolution_23 : decode cX3_removeResolution 23 = .ok (.iadd, 1) := by decide +kernel
theorem dX3_removeResolution_24 : decode cX3_removeResolution 24 = .ok (.aaload, 1) := by decide +kernel
theorem dX3_removeResolution_25 : decode cX3_removeResolution 25 = .ok (.aastore, 1) := by decide +kernel
theorem dX3_removeResolution_26 : decode cX3_removeResolution 26 = .ok (.iinc 2 1, 3) := by decide +kernel
theorem dX3_removeResolution_29 : decode cX3_removeResolution 29 = .ok (.goto (-27), 3) := by decide +kernel
theorem dX3_removeResolution_32 : decode cX3_removeResolution 32 = .ok (.aload_n 0, 1) := by decide +kernel
theorem dX3_removeResolution_33 : decode cX3_removeResolution 33 = .ok (.dup, 1) := by decide +kernel
theorem dX3_removeResolution_34 : decode cX3_removeResolution 34 = .ok (.getfield 141, 3) := by decide +kernel
theorem dX3_removeResolution_37 : decode cX3_removeResolution 37 = .ok (.iconst 1, 1) := by decide +kernel
theorem dX3_removeResolution_38 : decode cX3_removeResolution 38 = .ok (.isub, 1) := by decide +kernel
theorem dX3_removeResolution_39 : decode cX3_removeResolution 39 = .ok (.putfield 141, 3) := by decide +kernel
theorem dX3_removeResolution_42 : decode cX3_removeResolution 42 = .ok (.return_, 1) := by decide +kernel
theorem dX4_init_0 : decode cX4_init 0 = .ok (.aload_n 0, 1) := by decide +kernel
theorem dX4_init_1 : decode cX4_init 1 = .ok (.invokespecial 3, 3) := by decide +kernel
theorem dX4_init_4 : decode cX4_init 4 = .ok (.aload_n 0, 1) := by decide +kernel
theorem dX4_init_5 : decode cX4_init 5 = .ok (.getstatic 9, 3) := by decide +kernel
theorem dX4_init_8 : decode cX4_init 8 = .ok (.putfield 13, 3) := by decide +kernel
theorem dX4_init_11 : decode cX4_init 11 = .ok (.return_, 1) := by decide +kernel
theorem dX4_setTo_0 : decode cX4_setTo 0 = .ok (.iload_n 2, 1) := by decide +kernel
theorem dX4_setTo_1 : decode cX4_setTo 1 = .ok (.ifCond .lt 18, 3) := by decide +kernel
theorem dX4_setTo_4 : decode cX4_setTo 4 = .ok (.iload_n 2, 1) := by decide +kernel
theorem dX4_setTo_5 : decode cX4_setTo 5 = .ok (.iload_n 3, 1) := by decide +kernel
theorem dX4_setTo_6 : decode cX4_setTo 6 = .ok (.if_icmp .gt 13, 3) := by decide +kernel
theorem dX4_setTo_9 : decode cX4_setTo 9 = .ok (.iload_n 3, 1) := by decide +kernel
theorem dX4_setTo_10 : decode cX4_setTo 10 = .ok (.aload_n 1, 1) := by decide +kernel
theorem dX4_setTo_11 : decode cX4_setTo 11 = .ok (.arraylength, 1) := by decide +kernel
theorem dX4_setTo_12 : decode cX4_setTo 12 = .ok (.if_icmp .gt 7, 3) := by decide +kernel
theorem dX4_setTo_15 : decode cX4_setTo 15 = .ok (.iconst 1, 1) := by decide +kernel
theorem dX4_setTo_16 : decode cX4_setTo 16 = .ok (.goto 4, 3) := by decide +kernel
theorem dX4_setTo_19 : decode cX4_setTo 19 = .ok (.iconst 0, 1) := by decide +kernel
theorem dX4_setTo_20 : decode cX4_setTo 20 = .ok (.istore 4, 2) := by decide +kernel
theorem dX4_setTo_22 : decode cX4_setTo 22 = .ok (.aload_n 0, 1) := by decide +kernel
theorem dX4_setTo_23 : decode cX4_setTo 23 = .ok (.aload_n 1, 1) := by decide +kernel
theorem dX4_setTo_24 : decode cX4_setTo 24 = .ok (.putfield 13, 3) := by decide +kernel
theorem dX4_setTo_27 : decode cX4_setTo 27 = .ok (.aload_n 0, 1) := by decide +kernel
theorem dX4_setTo_28 : decode cX4_setTo 28 = .ok (.iload 4, 2) := by decide +kernel
theorem dX4_setTo_30 : decode cX4_setTo 30 = .ok (.ifCond .eq 7, 3) := by decide +kernel
theorem dX4_setTo_33 : decode cX4_setTo 33 = .ok (.iload_n 2, 1) := by decide +kernel
theorem dX4_setTo_34 : decode cX4_setTo 34 = .ok (.goto 4, 3) := by decide +kernel
theorem dX4_setTo_37 : decode cX4_setTo 37 = .ok (.iconst 0, 1) := by decide +kernel
theorem dX4_setTo_38 : decode cX4_setTo 38 = .ok (.putfield 18, 3) := by decide +kernel
theorem dX4_setTo_41 : decode cX4_setTo 41 = .ok (.aload_n 0, 1) := by decide +kernel
theorem dX4_setTo_42 : decode cX4_setTo 42 = .ok (.iload 4, 2) := by decide +kernel
theorem dX4_setTo_44 : decode cX4_setTo 44 = .ok (.ifCond .eq 9, 3) := by decide +kernel
theorem dX4_setTo_47 : decode cX4_setTo 47 = .ok (.iload_n 3, 1) := by decide +kernel
theorem dX4_setTo_48 : decode cX4_setTo 48 = .ok (.iload_n 2, 1) := by decide +kernel
theorem dX4_setTo_49 : decode cX4_setTo 49 = .ok (.isub, 1) := by decide +kernel
theorem dX4_setTo_50 : decode cX4_setTo 50 = .ok (.goto 4, 3) := by decide +kernel
theorem dX4_setTo_53 : decode cX4_setTo 53 = .ok (.iconst 0, 1) := by decide +kernel
theorem dX4_setTo_54 : decode cX4_setTo 54 = .ok (.putfield 22, 3) := by decide +kernel
theorem dX4_setTo_57 : decode cX4_setTo 57 = .ok (.return_, 1) := by decide +kernel
theorem dX4_lineAt_0 : decode cX4_lineAt 0 = .ok (.iload_n 1, 1) := by decide +kernel
theorem dX4_lineAt_1 : decode cX4_lineAt 1 = .ok (.ifCond .lt 25, 3) := by decide +kernel
theorem dX4_lineAt_4 : decode cX4_lineAt 4 = .ok (.iload_n 1, 1) := by decide +kernel
theorem dX4_lineAt_5 : decode cX4_lineAt 5 = .ok (.aload_n 0, 1) := by decide +kernel
theorem dX4_lineAt_6 : decode cX4_lineAt 6 = .ok (.getfield 22, 3) := by decide +kernel
theorem dX4_lineAt_9 : decode cX4_lineAt 9 = .ok (.if_icmp .ge 17, 3) := by decide +kernel
theorem dX4_lineAt_12 : decode cX4_lineAt 12 = .ok (.aload_n 0, 1) := by decide +kernel
theorem dX4_lineAt_13 : decode cX4_lineAt 13 = .ok (.getfield 13, 3) := by decide +kernel
theorem dX4_lineAt_16 : decode cX4_lineAt 16 = .ok (.aload_n 0, 1) := by decide +kernel
theorem dX4_lineAt_17 : decode cX4_lineAt 17 = .ok (.getfield 18, 3) := by decide +kernel
theorem dX4_lineAt_20 : decode cX4_lineAt 20 = .ok (.iload_n 1, 1) := by decide +kernel
theorem dX4_lineAt_21 : decode cX4_lineAt 21 = .ok (.iadd, 1) := by decide +kernel
theorem dX4_lineAt_22 : decode cX4_lineAt 22 = .ok (.iaload, 1) := by decide +kernel
theorem dX4_lineAt_23 : decode cX4_lineAt 23 = .ok (.goto 5, 3) := by decide +kernel
theorem dX4_lineAt_26 : decode cX4_lineAt 26 = .ok (.bipush (-9), 2) := by decide +kernel
theorem dX4_lineAt_28 : decode cX4_lineAt 28 = .ok (.ireturn, 1) := by decide +kernel
theorem dX4_equalsPart_0 : decode cX4_equalsPart 0 = .ok (.aload_n 0, 1) := by decide +kernel
theorem dX4_equalsPart_1 : decode cX4_equalsPart 1 = .ok (.getfield 22, 3) := by decide +kernel
theorem dX4_equalsPart_4 : decode cX4_equalsPart 4 = .ok (.aload_n 1, 1) := by decide +kernel
theorem dX4_equalsPart_5 : decode cX4_equalsPart 5 = .ok (.getfield 22, 3) := by decide +kernel
theorem dX4_equalsPart_8 : decode cX4_equalsPart 8 = .ok (.if_icmp .eq 5, 3) := by decide +kernel
theorem dX4_equalsPart_11 : decode cX4_equalsPart 11 = .ok (.iconst 0, 1) := by decide +kernel
theorem dX4_equalsPart_12 : decode cX4_equalsPart 12 = .ok (.ireturn, 1) := by decide +kernel
theorem dX4_equalsPart_13 : decode cX4_equalsPart 13 = .ok (.iconst 0, 1) := by decide +kernel
theorem dX4_equalsPart_14 : decode cX4_equalsPart 14 = .ok (.istore_n 2, 1) := by decide +kernel
theorem dX4_equalsPart_15 : decode cX4_equalsPart 15 = .ok (.iload_n 2, 1) := by decide +kernel
theorem dX4_equalsPart_16 : decode cX4_equalsPart 16 = .ok (.aload_n 0, 1) := by decide +kernel
theorem dX4_equalsPart_17 : decode cX4_equalsPart 17 = .ok (.getfield 22, 3) := by decide +kernel
theorem dX4_equalsPart_20 : decode cX4_equalsPart 20 = .ok (.if_icmp .ge 24, 3) := by decide +kernel
theorem dX4_equalsPart_23 : decode cX4_equalsPart 23 = .ok (.aload_n 0, 1) := by decide +kernel
theorem dX4_equalsPart_24 : decode cX4_equalsPart 24 = .ok (.iload_n 2, 1) := by decide +kernel
theorem dX4_equalsPart_25 : decode cX4_equalsPart 25 = .ok (.invokevirtual 25, 3) := by decide +kernel
theorem dX4_equalsPart_28 : decode cX4_equalsPart 28 = .ok (.aload_n 1, 1) := by decide +kernel
theorem dX4_equalsPart_29 : decode cX4_equalsPart 29 = .ok (.iload_n 2, 1) := by decide +kernel
theorem dX4_equalsPart_30 : decode cX4_equalsPart 30 = .ok (.invokevirtual 25, 3) := by decide +kernel
theorem dX4_equalsPart_33 : decode cX4_equalsPart 33 = .ok (.if_icmp .eq 5, 3) := by decide +kernel
theorem dX4_equalsPart_36 : decode cX4_equalsPart 36 = .ok (.iconst 0, 1) := by decide +kernel
theorem dX4_equalsPart_37 : decode cX4_equalsPart 37 = .ok (.ireturn, 1) := by decide +kernel
theorem dX4_equalsPart_38 : decode cX4_equalsPart 38 = .ok (.iinc 2 1, 3) := by decide +kernel
theorem dX4_equalsPart_41 : decode cX4_equalsPart 41 = .ok (.goto (-26), 3) := by decide +kernel
theorem dX4_equalsPart_44 : decode cX4_equalsPart 44 = .ok (.iconst 1, 1) := by decide +kernel
theorem dX4_equalsPart_45 : decode cX4_equalsPart 45 = .ok (.ireturn, 1) := by decide +kernel
theorem dX5_init_0 : decode cX5_init 0 = .ok (.aload_n 0, 1) := by decide +kernel
theorem dX5_init_1 : decode cX5_init 1 = .ok (.invokespecial 3, 3) := by decide +kernel
theorem dX5_init_4 : decode cX5_init 4 = .ok (.aload_n 0, 1) := by decide +kernel
theorem dX5_init_5 : decode cX5_init 5 = .ok (.aload_n 1, 1) := by decide +kernel
theorem dX5_init_6 : decode cX5_init 6 = .ok (.putfield 9, 3) := by decide +kernel
theorem dX5_init_9 : decode cX5_init 9 = .ok (.aload_n 0, 1) := by decide +kernel
theorem dX5_init_10 : decode cX5_init 10 = .ok (.iload_n 2, 1) := by decide +kernel
theorem dX5_init_11 : decode cX5_init 11 = .ok (.putfield 15, 3) := by decide +kernel
theorem dX5_init_14 : decode cX5_init 14 = .ok (.aload_n 0, 1) := by decide +kernel
theorem dX5_init_15 : decode cX5_init 15 = .ok (.aload_n 3, 1) := by decide +kernel
theorem dX5_init_16 : decode cX5_init 16 = .ok (.putfield 19, 3) := by decide +kernel
theorem dX5_init_19 : decode cX5_init 19 = .ok (.aload_n 0, 1) := by decide +kernel
theorem dX5_init_20 : decode cX5_init 20 = .ok (.aload 5, 2) := by decide +kernel
theorem dX5_init_22 : decode cX5_init 22 = .ok (.putfield 23, 3) := by decide +kernel
theorem dX5_init_25 : decode cX5_init 25 = .ok (.aload_n 0, 1) := by decide +kernel
theorem dX5_init_26 : decode cX5_init 26 = .ok (.aload 4, 2) := by decide +kernel
theorem dX5_init_28 : decode cX5_init 28 = .ok (.putfield 26, 3) := by decide +kernel
theorem dX5_init_31 : decode cX5_init 31 = .ok (.aload_n 1, 1) := by decide +kernel
theorem dX5_init_32 : decode cX5_init 32 = .ok (.iconst 1, 1) := by decide +kernel
theorem dX5_init_33 : decode cX5_init 33 = .ok (.invokevirtual 30, 3) := by decide +kernel
theorem dX5_init_36 : decode cX5_init 36 = .ok (.aload_n 1, 1) := by decide +kernel
theorem dX5_init_37 : decode cX5_init 37 = .ok (.iconst 2, 1) := by decide +kernel
theorem dX5_init_38 : decode cX5_init 38 = .ok (.invokevirtual 30, 3) := by decide +kernel
theorem dX5_init_41 : decode cX5_init 41 = .ok (.aload 5, 2) := by decide +kernel
theorem dX5_init_43 : decode cX5_init 43 = .ok (.ifnonnull 9, 3) := by decide +kernel
theorem dX5_init_46 : decode cX5_init 46 = .ok (.aload_n 1, 1) := by decide +kernel
theorem dX5_init_47 : decode cX5_init 47 = .ok (.bipush 7, 2) := by decide +kernel
theorem dX5_init_49 : decode cX5_init 49 = .ok (.invokevirtual 30, 3) := by decide +kernel
theorem dX5_init_52 : decode cX5_init 52 = .ok (.return_, 1) := by decide +kernel
theorem dX5_kind_0 : decode cX5_kind 0 = .ok (.iconst 0, 1) := by decide +kernel
theorem dX5_kind_1 : decode cX5_kind 1 = .ok (.ireturn, 1) := by decide +kernel
theorem dX5_speak_0 : decode cX5_speak 0 = .ok (.aload_n 0, 1) := by decide +kernel
theorem dX5_speak_1 : decode cX5_speak 1 = .ok (.invokevirtual 36, 3) := by decide +kernel
theorem dX5_speak_4 : decode cX5_speak 4 = .ok (.ireturn, 1) := by decide +kernel
theorem dX5_speakPlainly_0 : decode cX5_speakPlainly 0 = .ok (.aload_n 0, 1) := by decide +kernel
theorem dX5_speakPlainly_1 : decode cX5_speakPlainly 1 = .ok (.getfield 9, 3) := by decide +kernel
theorem dX5_speakPlainly_4 : decode cX5_speakPlainly 4 = .ok (.bipush 11, 2) := by decide +kernel
theorem dX5_speakPlainly_6 : decode cX5_speakPlainly 6 = .ok (.invokevirtual 30, 3) := by decide +kernel
theorem dX5_speakPlainly_9 : decode cX5_speakPlainly 9 = .ok (.aload_n 0, 1) := by decide +kernel
theorem dX5_speakPlainly_10 : decode cX5_speakPlainly 10 = .ok (.getfield 26, 3) := by decide +kernel
theorem dX5_speakPlainly_13 : decode cX5_speakPlainly 13 = .ok (.arraylength, 1) := by decide +kernel
theorem dX5_speakPlainly_14 : decode cX5_speakPlainly 14 = .ok (.ireturn, 1) := by decide +kernel
theorem dX5_parentRow_0 : decode cX5_parentRow 0 = .ok (.aload_n 0, 1) := by decide +kernel
theorem dX5_parentRow_1 : decode cX5_parentRow 1 = .ok (.getfield 19, 3) := by decide +kernel
theorem dX5_parentRow_4 : decode cX5_parentRow 4 = .ok (.ifnonnull 10, 3) := by decide +kernel
theorem dX5_parentRow_7 : decode cX5_parentRow 7 = .ok (.aload_n 0, 1) := by decide +kernel
theorem dX5_parentRow_8 : decode cX5_parentRow 8 = .ok (.getfield 26, 3) := by decide +kernel
theorem dX5_parentRow_11 : decode cX5_parentRow 11 = .ok (.goto 10, 3) := by decide +kernel
theorem dX5_parentRow_14 : decode cX5_parentRow 14 = .ok (.aload_n 0, 1) := by decide +kernel
theorem dX5_parentRow_15 : decode cX5_parentRow 15 = .ok (.getfield 19, 3) := by decide +kernel
theorem dX5_parentRow_18 : decode cX5_parentRow 18 = .ok (.getfield 26, 3) := by decide +kernel
theorem dX5_parentRow_21 : decode cX5_parentRow 21 = .ok (.areturn, 1) := by decide +kernel
theorem dX5_isOnPathOf_0 : decode cX5_isOnPathOf 0 = .ok (.aload_n 1, 1) := by decide +kernel
theorem dX5_isOnPathOf_1 : decode cX5_isOnPathOf 1 = .ok (.astore_n 2, 1) := by decide +kernel
theorem dX5_isOnPathOf_2 : decode cX5_isOnPathOf 2 = .ok (.aload_n 2, 1) := by decide +kernel
theorem dX5_isOnPathOf_3 : decode cX5_isOnPathOf 3 = .ok (.ifnull 18, 3) := by decide +kernel
theorem dX5_isOnPathOf_6 : decode cX5_isOnPathOf 6 = .ok (.aload_n 2, 1) := by decide +kernel
theorem dX5_isOnPathOf_7 : decode cX5_isOnPathOf 7 = .ok (.aload_n 0, 1) := by decide +kernel
theorem dX5_isOnPathOf_8 : decode cX5_isOnPathOf 8 = .ok (.if_acmp .ne 5, 3) := by decide +kernel
theorem dX5_isOnPathOf_11 : decode cX5_isOnPathOf 11 = .ok (.iconst 1, 1) := by decide +kernel
theorem dX5_isOnPathOf_12 : decode cX5_isOnPathOf 12 = .ok (.ireturn, 1) := by decide +kernel
theorem dX5_isOnPathOf_13 : decode cX5_isOnPathOf 13 = .ok (.aload_n 2, 1) := by decide +kernel
theorem dX5_isOnPathOf_14 : decode cX5_isOnPathOf 14 = .ok (.getfield 19, 3) := by decide +kernel
theorem dX5_isOnPathOf_17 : decode cX5_isOnPathOf 17 = .ok (.astore_n 2, 1) := by decide +kernel
theorem dX5_isOnPathOf_18 : decode cX5_isOnPathOf 18 = .ok (.goto (-16), 3) := by decide +kernel
theorem dX5_isOnPathOf_21 : decode cX5_isOnPathOf 21 = .ok (.iconst 0, 1) := by decide +kernel
theorem dX5_isOnPathOf_22 : decode cX5_isOnPathOf 22 = .ok (.ireturn, 1) := by decide +kernel
theorem dX5_countNotOnPathOf_0 : decode cX5_countNotOnPathOf 0 = .ok (.iconst 0, 1) := by decide +kernel
theorem dX5_countNotOnPathOf_1 : decode cX5_countNotOnPathOf 1 = .ok (.istore_n 2, 1) := by decide +kernel
theorem dX5_countNotOnPathOf_2 : decode cX5_countNotOnPathOf 2 = .ok (.aload_n 0, 1) := by decide +kernel
theorem dX5_countNotOnPathOf_3 : decode cX5_countNotOnPathOf 3 = .ok (.astore_n 3, 1) := by decide +kernel
theorem dX5_countNotOnPathOf_4 : decode cX5_countNotOnPathOf 4 = .ok (.aload_n 3, 1) := by decide +kernel
theorem dX5_countNotOnPathOf_5 : decode cX5_countNotOnPathOf 5 = .ok (.ifnull 27, 3) := by decide +kernel
theorem dX5_countNotOnPathOf_8 : decode cX5_countNotOnPathOf 8 = .ok (.iload_n 2, 1) := by decide +kernel
theorem dX5_countNotOnPathOf_9 : decode cX5_countNotOnPathOf 9 = .ok (.aload_n 3, 1) := by decide +kernel
theorem dX5_countNotOnPathOf_10 : decode cX5_countNotOnPathOf 10 = .ok (.aload_n 1, 1) := by decide +kernel
theorem dX5_countNotOnPathOf_11 : decode cX5_countNotOnPathOf 11 = .ok (.invokevirtual 40, 3) := by decide +kernel
theorem dX5_countNotOnPathOf_14 : decode cX5_countNotOnPathOf 14 = .ok (.ifCond .eq 7, 3) := by decide +kernel
theorem dX5_countNotOnPathOf_17 : decode cX5_countNotOnPathOf 17 = .ok (.iconst 0, 1) := by decide +kernel
theorem dX5_countNotOnPathOf_18 : decode cX5_countNotOnPathOf 18 = .ok (.goto 4, 3) := by decide +kernel
theorem dX5_countNotOnPathOf_21 : decode cX5_countNotOnPathOf 21 = .ok (.iconst 1, 1) := by decide +kernel
theorem dX5_countNotOnPathOf_22 : decode cX5_countNotOnPathOf 22 = .ok (.iadd, 1) := by decide +kernel
theorem dX5_countNotOnPathOf_23 : decode cX5_countNotOnPathOf 23 = .ok (.istore_n 2, 1) := by decide +kernel
theorem dX5_countNotOnPathOf_24 : decode cX5_countNotOnPathOf 24 = .ok (.aload_n 3, 1) := by decide +kernel
theorem dX5_countNotOnPathOf_25 : decode cX5_countNotOnPathOf 25 = .ok (.getfield 19, 3) := by decide +kernel
theorem dX5_countNotOnPathOf_28 : decode cX5_countNotOnPathOf 28 = .ok (.astore_n 3, 1) := by decide +kernel
theorem dX5_countNotOnPathOf_29 : decode cX5_countNotOnPathOf 29 = .ok (.goto (-25), 3) := by decide +kernel
theorem dX5_countNotOnPathOf_32 : decode cX5_countNotOnPathOf 32 = .ok (.iload_n 2, 1) := by decide +kernel
theorem dX5_countNotOnPathOf_33 : decode cX5_countNotOnPathOf 33 = .ok (.ireturn, 1) := by decide +kernel
theorem dX5_pathLength_0 : decode cX5_pathLength 0 = .ok (.iconst 0, 1) := by decide +kernel
theorem dX5_pathLength_1 : decode cX5_pathLength 1 = .ok (.istore_n 1, 1) := by decide +kernel
theorem dX5_pathLength_2 : decode cX5_pathLength 2 = .ok (.aload_n 0, 1) := by decide +kernel
theorem dX5_pathLength_3 : decode cX5_pathLength 3 = .ok (.astore_n 2, 1) := by decide +kernel
theorem dX5_pathLength_4 : decode cX5_pathLength 4 = .ok (.aload_n 2, 1) := by decide +kernel
theorem dX5_pathLength_5 : decode cX5_pathLength 5 = .ok (.ifnull 14, 3) := by decide +kernel
theorem dX5_pathLength_8 : decode cX5_pathLength 8 = .ok (.iinc 1 1, 3) := by decide +kernel
theorem dX5_pathLength_11 : decode cX5_pathLength 11 = .ok (.aload_n 2, 1) := by decide +kernel
theorem dX5_pathLength_12 : decode cX5_pathLength 12 = .ok (.getfield 19, 3) := by decide +kernel
theorem dX5_pathLength_15 : decode cX5_pathLength 15 = .ok (.astore_n 2, 1) := by decide +kernel
theorem dX5_pathLength_16 : decode cX5_pathLength 16 = .ok (.goto (-12), 3) := by decide +kernel
theorem dX5_pathLength_19 : decode cX5_pathLength 19 = .ok (.iload_n 1, 1) := by decide +kernel
theorem dX5_pathLength_20 : decode cX5_pathLength 20 = .ok (.ireturn, 1) := by decide +kernel
theorem dX5_pathNumbers_0 : decode cX5_pathNumbers 0 = .ok (.aload_n 0, 1) := by decide +kernel
theorem dX5_pathNumbers_1 : decode cX5_pathNumbers 1 = .ok (.invokevirtual 44, 3) := by decide +kernel
theorem dX5_pathNumbers_4 : decode cX5_pathNumbers 4 = .ok (.newarray .int, 2) := by decide +kernel
theorem dX5_pathNumbers_6 : decode cX5_pathNumbers 6 = .ok (.astore_n 1, 1) := by decide +kernel
theorem dX5_pathNumbers_7 : decode cX5_pathNumbers 7 = .ok (.aload_n 1, 1) := by decide +kernel
theorem dX5_pathNumbers_8 : decode cX5_pathNumbers 8 = .ok (.arraylength, 1) := by decide +kernel
theorem dX5_pathNumbers_9 : decode cX5_pathNumbers 9 = .ok (.istore_n 2, 1) := by decide +kernel
theorem dX5_pathNumbers_10 : decode cX5_pathNumbers 10 = .ok (.aload_n 0, 1) := by decide +kernel
theorem dX5_pathNumbers_11 : decode cX5_pathNumbers 11 = .ok (.astore_n 3, 1) := by decide +kernel
theorem dX5_pathNumbers_12 : decode cX5_pathNumbers 12 = .ok (.aload_n 3, 1) := by decide +kernel
theorem dX5_pathNumbers_13 : decode cX5_pathNumbers 13 = .ok (.ifnull 25, 3) := by decide +kernel
theorem dX5_pathNumbers_16 : decode cX5_pathNumbers 16 = .ok (.iload_n 2, 1) := by decide +kernel
theorem dX5_pathNumbers_17 : decode cX5_pathNumbers 17 = .ok (.ifCond .le 21, 3) := by decide +kernel
theorem dX5_pathNumbers_20 : decode cX5_pathNumbers 20 = .ok (.iinc 2 (-1), 3) := by decide +kernel
theorem dX5_pathNumbers_23 : decode cX5_pathNumbers 23 = .ok (.aload_n 1, 1) := by decide +kernel
theorem dX5_pathNumbers_24 : decode cX5_pathNumbers 24 = .ok (.iload_n 2, 1) := by decide +kernel
theorem dX5_pathNumbers_25 : decode cX5_pathNumbers 25 = .ok (.aload_n 3, 1) := by decide +kernel
theorem dX5_pathNumbers_26 : decode cX5_pathNumbers 26 = .ok (.getfield 15, 3) := by decide +kernel
theorem dX5_pathNumbers_29 : decode cX5_pathNumbers 29 = .ok (.iastore, 1) := by decide +kernel
theorem dX5_pathNumbers_30 : decode cX5_pathNumbers 30 = .ok (.aload_n 3, 1) := by decide +kernel
theorem dX5_pathNumbers_31 : decode cX5_pathNumbers 31 = .ok (.getfield 19, 3) := by decide +kernel
theorem dX5_pathNumbers_34 : decode cX5_pathNumbers 34 = .ok (.astore_n 3, 1) := by decide +kernel
theorem dX5_pathNumbers_35 : decode cX5_pathNumbers 35 = .ok (.goto (-23), 3) := by decide +kernel
theorem dX5_pathNumbers_38 : decode cX5_pathNumbers 38 = .ok (.aload_n 1, 1) := by decide +kernel
theorem dX5_pathNumbers_39 : decode cX5_pathNumbers 39 = .ok (.areturn, 1) := by decide +kernel
theorem dX6_init_0 : decode cX6_init 0 = .ok (.aload_n 0, 1) := by decide +kernel
theorem dX6_init_1 : decode cX6_init 1 = .ok (.invokespecial 3, 3) := by decide +kernel
theorem dX6_init_4 : decode cX6_init 4 = .ok (.aload_n 0, 1) := by decide +kernel
theorem dX6_init_5 : decode cX6_init 5 = .ok (.bipush 24, 2) := by decide +kernel
theorem dX6_init_7 : decode cX6_init 7 = .ok (.anewarray 9, 3) := by decide +kernel
theorem dX6_init_10 : decode cX6_init 10 = .ok (.putfield 11, 3) := by decide +kernel
theorem dX6_init_13 : decode cX6_init 13 = .ok (.aload_n 0, 1) := by decide +kernel
theorem dX6_init_14 : decode cX6_init 14 = .ok (.iconst (-1), 1) := by decide +kernel
theorem dX6_init_15 : decode cX6_init 15 = .ok (.putfield 17, 3) := by decide +kernel
theorem dX6_init_18 : decode cX6_init 18 = .ok (.aload_n 0, 1) := by decide +kernel
theorem dX6_init_19 : decode cX6_init 19 = .ok (.bipush 24, 2) := by decide +kernel
theorem dX6_init_21 : decode cX6_init 21 = .ok (.anewarray 9, 3) := by decide +kernel
theorem dX6_init_24 : decode cX6_init 24 = .ok (.putfield 21, 3) := by decide +kernel
theorem dX6_init_27 : decode cX6_init 27 = .ok (.aload_n 0, 1) := by decide +kernel
theorem dX6_init_28 : decode cX6_init 28 = .ok (.iconst 4, 1) := by decide +kernel
theorem dX6_init_29 : decode cX6_init 29 = .ok (.newarray .int, 2) := by decide +kernel
theorem dX6_init_31 : decode cX6_init 31 = .ok (.putfield 24, 3) := by decide +kernel
theorem dX6_init_34 : decode cX6_init 34 = .ok (.aload_n 0, 1) := by decide +kernel
theorem dX6_init_35 : decode cX6_init 35 = .ok (.iconst 4, 1) := by decide +kernel
theorem dX6_init_36 : decode cX6_init 36 = .ok (.newarray .int, 2) := by decide +kernel
theorem dX6_init_38 : decode cX6_init 38 = .ok (.putfield 28, 3) := by decide +kernel
theorem dX6_init_41 : decode cX6_init 41 = .ok (.aload_n 0, 1) := by decide +kernel
theorem dX6_init_42 : decode cX6_init 42 = .ok (.bipush 8, 2) := by decide +kernel
theorem dX6_init_44 : decode cX6_init 44 = .ok (.anewarray 31, 3) := by decide +kernel
theorem dX6_init_47 : decode cX6_init 47 = .ok (.putfield 33, 3) := by decide +kernel
theorem dX6_init_50 : decode cX6_init 50 = .ok (.aload_n 0, 1) := by decide +kernel
theorem dX6_init_51 : decode cX6_init 51 = .ok (.aload_n 2, 1) := by decide +kernel
theorem dX6_init_52 : decode cX6_init 52 = .ok (.putfield 37, 3) := by decide +kernel
theorem dX6_init_55 : decode cX6_init 55 = .ok (.aload_n 0, 1) := by decide +kernel
theorem dX6_init_56 : decode cX6_init 56 = .ok (.aload_n 1, 1) := by decide +kernel
theorem dX6_init_57 : decode cX6_init 57 = .ok (.putfield 41, 3) := by decide +kernel
theorem dX6_init_60 : decode cX6_init 60 = .ok (.aload_n 0, 1) := by decide +kernel
theorem dX6_init_61 : decode cX6_init 61 = .ok (.aload_n 1, 1) := by decide +kernel
theorem dX6_init_62 : decode cX6_init 62 = .ok (.putfield 44, 3) := by decide +kernel
theorem dX6_init_65 : decode cX6_init 65 = .ok (.return_, 1) := by decide +kernel
theorem dX6_begin_0 : decode cX6_begin 0 = .ok (.aload_n 0, 1) := by decide +kernel
theorem dX6_begin_1 : decode cX6_begin 1 = .ok (.iload_n 1, 1) := by decide +kernel
theorem dX6_begin_2 : decode cX6_begin 2 = .ok (.putfield 47, 3) := by decide +kernel
theorem dX6_begin_5 : decode cX6_begin 5 = .ok (.aload_n 0, 1) := by decide +kernel
theorem dX6_begin_6 : decode cX6_begin 6 = .ok (.aload_n 3, 1) := by decide +kernel
theorem dX6_begin_7 : decode cX6_begin 7 = .ok (.putfield 41, 3) := by decide +kernel
theorem dX6_begin_10 : decode cX6_begin 10 = .ok (.aload_n 0, 1) := by decide +kernel
theorem dX6_begin_11 : decode cX6_begin 11 = .ok (.aload_n 3, 1) := by decide +kernel
theorem dX6_begin_12 : decode cX6_begin 12 = .ok (.putfield 44, 3) := by decide +kernel
theorem dX6_begin_15 : decode cX6_begin 15 = .ok (.aload_n 0, 1) := by decide +kernel
theorem dX6_begin_16 : decode cX6_begin 16 = .ok (.aload_n 2, 1) := by decide +kernel
theorem dX6_begin_17 : decode cX6_begin 17 = .ok (.aload_n 3, 1) := by decide +kernel
theorem dX6_begin_18 : decode cX6_begin 18 = .ok (.aload_n 0, 1) := by decide +kernel
theorem dX6_begin_19 : decode cX6_begin 19 = .ok (.getfield 11, 3) := by decide +kernel
theorem dX6_begin_22 : decode cX6_begin 22 = .ok (.invokestatic 50, 3) := by decide +kernel
theorem dX6_begin_25 : decode cX6_begin 25 = .ok (.iconst 1, 1) := by decide +kernel
theorem dX6_begin_26 : decode cX6_begin 26 = .ok (.isub, 1) := by decide +kernel
theorem dX6_begin_27 : decode cX6_begin 27 = .ok (.putfield 17, 3) := by decide +kernel
theorem dX6_begin_30 : decode cX6_begin 30 = .ok (.aload_n 0, 1) := by decide +kernel
theorem dX6_begin_31 : decode cX6_begin 31 = .ok (.aload_n 3, 1) := by decide +kernel
theorem dX6_begin_32 : decode cX6_begin 32 = .ok (.aload_n 2, 1) := by decide +kernel
theorem dX6_begin_33 : decode cX6_begin 33 = .ok (.aload_n 0, 1) := by decide +kernel
theorem dX6_begin_34 : decode cX6_begin 34 = .ok (.getfield 21, 3) := by decide +kernel
theorem dX6_begin_37 : decode cX6_begin 37 = .ok (.invokestatic 50, 3) := by decide +kernel
theorem dX6_begin_40 : decode cX6_begin 40 = .ok (.putfield 54, 3) := by decide +kernel
theorem dX6_begin_43 : decode cX6_begin 43 = .ok (.aload_n 0, 1) := by decide +kernel
theorem dX6_begin_44 : decode cX6_begin 44 = .ok (.getfield 24, 3) := by decide +kernel
theorem dX6_begin_47 : decode cX6_begin 47 = .ok (.iconst 0, 1) := by decide +kernel
theorem dX6_begin_48 : decode cX6_begin 48 = .ok (.invokestatic 57, 3) := by decide +kernel
theorem dX6_begin_51 : decode cX6_begin 51 = .ok (.return_, 1) := by decide +kernel
theorem dX6_listNotOnPath_0 : decode cX6_listNotOnPath 0 = .ok (.iconst 0, 1) := by decide +kernel
theorem dX6_listNotOnPath_1 : decode cX6_listNotOnPath 1 = .ok (.istore_n 3, 1) := by decide +kernel
theorem dX6_listNotOnPath_2 : decode cX6_listNotOnPath 2 = .ok (.aload_n 0, 1) := by decide +kernel
theorem dX6_listNotOnPath_3 : decode cX6_listNotOnPath 3 = .ok (.astore 4, 2) := by decide +kernel
theorem dX6_listNotOnPath_5 : decode cX6_listNotOnPath 5 = .ok (.aload 4, 2) := by decide +kernel
theorem dX6_listNotOnPath_7 : decode cX6_listNotOnPath 7 = .ok (.ifnull 36, 3) := by decide +kernel
theorem dX6_listNotOnPath_10 : decode cX6_listNotOnPath 10 = .ok (.iload_n 3, 1) := by decide +kernel
theorem dX6_listNotOnPath_11 : decode cX6_listNotOnPath 11 = .ok (.aload_n 2, 1) := by decide +kernel
theorem dX6_listNotOnPath_12 : decode cX6_listNotOnPath 12 = .ok (.arraylength, 1) := by decide +kernel
theorem dX6_listNotOnPath_13 : decode cX6_listNotOnPath 13 = .ok (.if_icmp .ge 30, 3) := by decide +kernel
theorem dX6_listNotOnPath_16 : decode cX6_listNotOnPath 16 = .ok (.aload 4, 2) := by decide +kernel
theorem dX6_listNotOnPath_18 : decode cX6_listNotOnPath 18 = .ok (.aload_n 1, 1) := by decide +kernel
theorem dX6_listNotOnPath_19 : decode cX6_listNotOnPath 19 = .ok (.invokevirtual 63, 3) := by decide +kernel
theorem dX6_listNotOnPath_22 : decode cX6_listNotOnPath 22 = .ok (.ifCond .ne 11, 3) := by decide +kernel
theorem dX6_listNotOnPath_25 : decode cX6_listNotOnPath 25 = .ok (.aload_n 2, 1) := by decide +kernel
theorem dX6_listNotOnPath_26 : decode cX6_listNotOnPath 26 = .ok (.iload_n 3, 1) := by decide +kernel
theorem dX6_listNotOnPath_27 : decode cX6_listNotOnPath 27 = .ok (.aload 4, 2) := by decide +kernel
theorem dX6_listNotOnPath_29 : decode cX6_listNotOnPath 29 = .ok (.aastore, 1) := by decide +kernel
theorem dX6_listNotOnPath_30 : decode cX6_listNotOnPath 30 = .ok (.iinc 3 1, 3) := by decide +kernel
theorem dX6_listNotOnPath_33 : decode cX6_listNotOnPath 33 = .ok (.aload 4, 2) := by decide +kernel
theorem dX6_listNotOnPath_35 : decode cX6_listNotOnPath 35 = .ok (.getfield 67, 3) := by decide +kernel
theorem dX6_listNotOnPath_38 : decode cX6_listNotOnPath 38 = .ok (.astore 4, 2) := by decide +kernel
theorem dX6_listNotOnPath_40 : decode cX6_listNotOnPath 40 = .ok (.goto (-35), 3) := by decide +kernel
theorem dX6_listNotOnPath_43 : decode cX6_listNotOnPath 43 = .ok (.iload_n 3, 1) := by decide +kernel
theorem dX6_listNotOnPath_44 : decode cX6_listNotOnPath 44 = .ok (.ireturn, 1) := by decide +kernel
theorem dX6_commitAtWork_0 : decode cX6_commitAtWork 0 = .ok (.aload_n 0, 1) := by decide +kernel
theorem dX6_commitAtWork_1 : decode cX6_commitAtWork 1 = .ok (.getfield 17, 3) := by decide +kernel
theorem dX6_commitAtWork_4 : decode cX6_commitAtWork 4 = .ok (.ifCond .lt 27, 3) := by decide +kernel
theorem dX6_commitAtWork_7 : decode cX6_commitAtWork 7 = .ok (.aload_n 0, 1) := by decide +kernel
theorem dX6_commitAtWork_8 : decode cX6_commitAtWork 8 = .ok (.getfield 17, 3) := by decide +kernel
theorem dX6_commitAtWork_11 : decode cX6_commitAtWork 11 = .ok (.aload_n 0, 1) := by decide +kernel
theorem dX6_commitAtWork_12 : decode cX6_commitAtWork 12 = .ok (.getfield 11, 3) := by decide +kernel
theorem dX6_commitAtWork_15 : decode cX6_commitAtWork 15 = .ok (.arraylength, 1) := by decide +kernel
theorem dX6_commitAtWork_16 : decode cX6_commitAtWork 16 = .ok (.if_icmp .ge 15, 3) := by decide +kernel
theorem dX6_commitAtWork_19 : decode cX6_commitAtWork 19 = .ok (.aload_n 0, 1) := by decide +kernel
theorem dX6_commitAtWork_20 : decode cX6_commitAtWork 20 = .ok (.getfield 11, 3) := by decide +kernel
theorem dX6_commitAtWork_23 : decode cX6_commitAtWork 23 = .ok (.aload_n 0, 1) := by decide +kernel
theorem dX6_commitAtWork_24 : decode cX6_commitAtWork 24 = .ok (.getfield 17, 3) := by decide +kernel
theorem dX6_commitAtWork_27 : decode cX6_commitAtWork 27 = .ok (.aaload, 1) := by decide +kernel
theorem dX6_commitAtWork_28 : decode cX6_commitAtWork 28 = .ok (.goto 7, 3) := by decide +kernel
theorem dX6_commitAtWork_31 : decode cX6_commitAtWork 31 = .ok (.aload_n 0, 1) := by decide +kernel
theorem dX6_commitAtWork_32 : decode cX6_commitAtWork 32 = .ok (.getfield 41, 3) := by decide +kernel
theorem dX6_commitAtWork_35 : decode cX6_commitAtWork 35 = .ok (.areturn, 1) := by decide +kernel
theorem dX6_remember_0 : decode cX6_remember 0 = .ok (.aload_n 0, 1) := by decide +kernel
theorem dX6_remember_1 : decode cX6_remember 1 = .ok (.iload_n 1, 1) := by decide +kernel
theorem dX6_remember_2 : decode cX6_remember 2 = .ok (.putfield 70, 3) := by decide +kernel
theorem dX6_remember_5 : decode cX6_remember 5 = .ok (.aload_n 0, 1) := by decide +kernel
theorem dX6_remember_6 : decode cX6_remember 6 = .ok (.aload_n 2, 1) := by decide +kernel
theorem dX6_remember_7 : decode cX6_remember 7 = .ok (.getfield 73, 3) := by decide +kernel
theorem dX6_remember_10 : decode cX6_remember 10 = .ok (.putfield 78, 3) := by decide +kernel
theorem dX6_remember_13 : decode cX6_remember 13 = .ok (.iconst 0, 1) := by decide +kernel
theorem dX6_remember_14 : decode cX6_remember 14 = .ok (.istore_n 3, 1) := by decide +kernel
theorem dX6_remember_15 : decode cX6_remember 15 = .ok (.iload_n 3, 1) := by decide +kernel
theorem dX6_remember_16 : decode cX6_remember 16 = .ok (.bipush 8, 2) := by decide +kernel
theorem dX6_remember_18 : decode cX6_remember 18 = .ok (.if_icmp .ge 21, 3) := by decide +kernel
theorem dX6_remember_21 : decode cX6_remember 21 = .ok (.aload_n 0, 1) := by decide +kernel
theorem dX6_remember_22 : decode cX6_remember 22 = .ok (.getfield 33, 3) := by decide +kernel
theorem dX6_remember_25 : decode cX6_remember 25 = .ok (.iload_n 3, 1) := by decide +kernel
theorem dX6_remember_26 : decode cX6_remember 26 = .ok (.aload_n 2, 1) := by decide +kernel
theorem dX6_remember_27 : decode cX6_remember 27 = .ok (.getfield 81, 3) := by decide +kernel
theorem dX6_remember_30 : decode cX6_remember 30 = .ok (.iload_n 3, 1) := by decide +kernel
theorem dX6_remember_31 : decode cX6_remember 31 = .ok (.aaload, 1) := by decide +kernel
theorem dX6_remember_32 : decode cX6_remember 32 = .ok (.aastore, 1) := by decide +kernel
theorem dX6_remember_33 : decode cX6_remember 33 = .ok (.iinc 3 1, 3) := by decide +kernel
theorem dX6_remember_36 : decode cX6_remember 36 = .ok (.goto (-21), 3) := by decide +kernel
theorem dX6_remember_39 : decode cX6_remember 39 = .ok (.aload_n 0, 1) := by decide +kernel
theorem dX6_remember_40 : decode cX6_remember 40 = .ok (.getfield 24, 3) := by decide +kernel
theorem dX6_remember_43 : decode cX6_remember 43 = .ok (.iconst 0, 1) := by decide +kernel
theorem dX6_remember_44 : decode cX6_remember 44 = .ok (.aload_n 0, 1) := by decide +kernel
theorem dX6_remember_45 : decode cX6_remember 45 = .ok (.getfield 28, 3) := by decide +kernel
theorem dX6_remember_48 : decode cX6_remember 48 = .ok (.iconst 0, 1) := by decide +kernel
theorem dX6_remember_49 : decode cX6_remember 49 = .ok (.iconst 4, 1) := by decide +kernel
theorem dX6_remember_50 : decode cX6_remember 50 = .ok (.invokestatic 84, 3) := by decide +kernel
theorem dX6_remember_53 : decode cX6_remember 53 = .ok (.return_, 1) := by decide +kernel
theorem dX6_restore_0 : decode cX6_restore 0 = .ok (.aload_n 1, 1) := by decide +kernel
theorem dX6_restore_1 : decode cX6_restore 1 = .ok (.aload_n 0, 1) := by decide +kernel
theorem dX6_restore_2 : decode cX6_restore 2 = .ok (.getfield 78, 3) := by decide +kernel
theorem dX6_restore_5 : decode cX6_restore 5 = .ok (.putfield 73, 3) := by decide +kernel
theorem dX6_restore_8 : decode cX6_restore 8 = .ok (.iconst 0, 1) := by decide +kernel
theorem dX6_restore_9 : decode cX6_restore 9 = .ok (.istore_n 2, 1) := by decide +kernel
theorem dX6_restore_10 : decode cX6_restore 10 = .ok (.iload_n 2, 1) := by decide +kernel
theorem dX6_restore_11 : decode cX6_restore 11 = .ok (.bipush 8, 2) := by decide +kernel
theorem dX6_restore_13 : decode cX6_restore 13 = .ok (.if_icmp .ge 21, 3) := by decide +kernel
theorem dX6_restore_16 : decode cX6_restore 16 = .ok (.aload_n 1, 1) := by decide +kernel
theorem dX6_restore_17 : decode cX6_restore 17 = .ok (.getfield 81, 3) := by decide +kernel
theorem dX6_restore_20 : decode cX6_restore 20 = .ok (.iload_n 2, 1) := by decide +kernel
theorem dX6_restore_21 : decode cX6_restore 21 = .ok (.aload_n 0, 1) := by decide +kernel
theorem dX6_restore_22 : decode cX6_restore 22 = .ok (.getfield 33, 3) := by decide +kernel
theorem dX6_restore_25 : decode cX6_restore 25 = .ok (.iload_n 2, 1) := by decide +kernel
theorem dX6_restore_26 : decode cX6_restore 26 = .ok (.aaload, 1) := by decide +kernel
theorem dX6_restore_27 : decode cX6_restore 27 = .ok (.aastore, 1) := by decide +kernel
theorem dX6_restore_28 : decode cX6_restore 28 = .ok (.iinc 2 1, 3) := by decide +kernel
theorem dX6_restore_31 : decode cX6_restore 31 = .ok (.goto (-21), 3) := by decide +kernel
theorem dX6_restore_34 : decode cX6_restore 34 = .ok (.aload_n 0, 1) := by decide +kernel
theorem dX6_restore_35 : decode cX6_restore 35 = .ok (.getfield 28, 3) := by decide +kernel
theorem dX6_restore_38 : decode cX6_restore 38 = .ok (.iconst 0, 1) := by decide +kernel
theorem dX6_restore_39 : decode cX6_restore 39 = .ok (.aload_n 0, 1) := by decide +kernel
theorem dX6_restore_40 : decode cX6_restore 40 = .ok (.getfield 24, 3) := by decide +kernel
theorem dX6_restore_43 : decode cX6_restore 43 = .ok (.iconst 0, 1) := by decide +kernel
theorem dX6_restore_44 : decode cX6_restore 44 = .ok (.iconst 4, 1) := by decide +kernel
theorem dX6_restore_45 : decode cX6_restore 45 = .ok (.invokestatic 84, 3) := by decide +kernel
theorem dX6_restore_48 : decode cX6_restore 48 = .ok (.return_, 1) := by decide +kernel
theorem dX7_init_0 : decode cX7_init 0 = .ok (.aload_n 0, 1) := by decide +kernel
theorem dX7_init_1 : decode cX7_init 1 = .ok (.invokespecial 1, 3) := by decide +kernel
theorem dX7_init_4 : decode cX7_init 4 = .ok (.aload_n 0, 1) := by decide +kernel
theorem dX7_init_5 : decode cX7_init 5 = .ok (.aload_n 1, 1) := by decide +kernel
theorem dX7_init_6 : decode cX7_init 6 = .ok (.putfield 7, 3) := by decide +kernel
theorem dX7_init_9 : decode cX7_init 9 = .ok (.aload_n 0, 1) := by decide +kernel
theorem dX7_init_10 : decode cX7_init 10 = .ok (.aload_n 2, 1) := by decide +kernel
theorem dX7_init_11 : decode cX7_init 11 = .ok (.putfield 13, 3) := by decide +kernel
theorem dX7_init_14 : decode cX7_init 14 = .ok (.return_, 1) := by decide +kernel
theorem dX8_init_0 : decode cX8_init 0 = .ok (.aload_n 0, 1) := by decide +kernel
theorem dX8_init_1 : decode cX8_init 1 = .ok (.invokespecial 3, 3) := by decide +kernel
theorem dX8_init_4 : decode cX8_init 4 = .ok (.aload_n 0, 1) := by decide +kernel
theorem dX8_init_5 : decode cX8_init 5 = .ok (.bipush 51, 2) := by decide +kernel
theorem dX8_init_7 : decode cX8_init 7 = .ok (.newarray .int, 2) := by decide +kernel
theorem dX8_init_9 : decode cX8_init 9 = .ok (.putfield 9, 3) := by decide +kernel
theorem dX8_init_12 : decode cX8_init 12 = .ok (.aload_n 0, 1) := by decide +kernel
theorem dX8_init_13 : decode cX8_init 13 = .ok (.bipush 48, 2) := by decide +kernel
theorem dX8_init_15 : decode cX8_init 15 = .ok (.newarray .int, 2) := by decide +kernel
theorem dX8_init_17 : decode cX8_init 17 = .ok (.putfield 15, 3) := by decide +kernel
theorem dX8_init_20 : decode cX8_init 20 = .ok (.return_, 1) := by decide +kernel
theorem dX8_clear_0 : decode cX8_clear 0 = .ok (.aload_n 0, 1) := by decide +kernel
theorem dX8_clear_1 : decode cX8_clear 1 = .ok (.iconst 0, 1) := by decide +kernel
theorem dX8_clear_2 : decode cX8_clear 2 = .ok (.putfield 18, 3) := by decide +kernel
theorem dX8_clear_5 : decode cX8_clear 5 = .ok (.aload_n 0, 1) := by decide +kernel
theorem dX8_clear_6 : decode cX8_clear 6 = .ok (.iconst 0, 1) := by decide +kernel
theorem dX8_clear_7 : decode cX8_clear 7 = .ok (.putfield 22, 3) := by decide +kernel
theorem dX8_clear_10 : decode cX8_clear 10 = .ok (.return_, 1) := by decide +kernel
theorem dX8_addPart_0 : decode cX8_addPart 0 = .ok (.aload_n 0, 1) := by decide +kernel
theorem dX8_addPart_1 : decode cX8_addPart 1 = .ok (.getfield 18, 3) := by decide +kernel
theorem dX8_addPart_4 : decode cX8_addPart 4 = .ok (.iconst 1, 1) := by decide +kernel
theorem dX8_addPart_5 : decode cX8_addPart 5 = .ok (.iadd, 1) := by decide +kernel
theorem dX8_addPart_6 : decode cX8_addPart 6 = .ok (.aload_n 1, 1) := by decide +kernel
theorem dX8_addPart_7 : decode cX8_addPart 7 = .ok (.getfield 25, 3) := by decide +kernel
theorem dX8_addPart_10 : decode cX8_addPart 10 = .ok (.iadd, 1) := by decide +kernel
theorem dX8_addPart_11 : decode cX8_addPart 11 = .ok (.aload_n 0, 1) := by decide +kernel
theorem dX8_addPart_12 : decode cX8_addPart 12 = .ok (.getfield 9, 3) := by decide +kernel
theorem dX8_addPart_15 : decode cX8_addPart 15 = .ok (.arraylength, 1) := by decide +kernel
theorem dX8_addPart_16 : decode cX8_addPart 16 = .ok (.if_icmp .gt 20, 3) := by decide +kernel
theorem dX8_addPart_19 : decode cX8_addPart 19 = .ok (.aload_n 0, 1) := by decide +kernel
theorem dX8_addPart_20 : decode cX8_addPart 20 = .ok (.getfield 22, 3) := by decide +kernel
theorem dX8_addPart_23 : decode cX8_addPart 23 = .ok (.aload_n 1, 1) := by decide +kernel
theorem dX8_addPart_24 : decode cX8_addPart 24 = .ok (.getfield 25, 3) := by decide +kernel
theorem dX8_addPart_27 : decode cX8_addPart 27 = .ok (.iadd, 1) := by decide +kernel
theorem dX8_addPart_28 : decode cX8_addPart 28 = .ok (.aload_n 0, 1) := by decide +kernel
theorem dX8_addPart_29 : decode cX8_addPart 29 = .ok (.getfield 15, 3) := by decide +kernel
theorem dX8_addPart_32 : decode cX8_addPart 32 = .ok (.arraylength, 1) := by decide +kernel
theorem dX8_addPart_33 : decode cX8_addPart 33 = .ok (.if_icmp .le 4, 3) := by decide +kernel
theorem dX8_addPart_36 : decode cX8_addPart 36 = .ok (.return_, 1) := by decide +kernel
theorem dX8_addPart_37 : decode cX8_addPart 37 = .ok (.aload_n 0, 1) := by decide +kernel
theorem dX8_addPart_38 : decode cX8_addPart 38 = .ok (.getfield 9, 3) := by decide +kernel
theorem dX8_addPart_41 : decode cX8_addPart 41 = .ok (.aload_n 0, 1) := by decide +kernel
theorem dX8_addPart_42 : decode cX8_addPart 42 = .ok (.getfield 18, 3) := by decide +kernel
theorem dX8_addPart_45 : decode cX8_addPart 45 = .ok (.aload_n 1, 1) := by decide +kernel
theorem dX8_addPart_46 : decode cX8_addPart 46 = .ok (.getfield 25, 3) := by decide +kernel
theorem dX8_addPart_49 : decode cX8_addPart 49 = .ok (.iastore, 1) := by decide +kernel
theorem dX8_addPart_50 : decode cX8_addPart 50 = .ok (.aload_n 0, 1) := by decide +kernel
theorem dX8_addPart_51 : decode cX8_addPart 51 = .ok (.dup, 1) := by decide +kernel
theorem dX8_addPart_52 : decode cX8_addPart 52 = .ok (.getfield 18, 3) := by decide +kernel
theorem dX8_addPart_55 : decode cX8_addPart 55 = .ok (.iconst 1, 1) := by decide +kernel
theorem dX8_addPart_56 : decode cX8_addPart 56 = .ok (.iadd, 1) := by decide +kernel
theorem dX8_addPart_57 : decode cX8_addPart 57 = .ok (.putfield 18, 3) := by decide +kernel
theorem dX8_addPart_60 : decode cX8_addPart 60 = .ok (.iconst 0, 1) := by decide +kernel
theorem dX8_addPart_61 : decode cX8_addPart 61 = .ok (.istore_n 2, 1) := by decide +kernel
theorem dX8_addPart_62 : decode cX8_addPart 62 = .ok (.iload_n 2, 1) := by decide +kernel
theorem dX8_addPart_63 : decode cX8_addPart 63 = .ok (.aload_n 1, 1) := by decide +kernel
theorem dX8_addPart_64 : decode cX8_addPart 64 = .ok (.getfield 25, 3) := by decide +kernel
theorem dX8_addPart_67 : decode cX8_addPart 67 = .ok (.if_icmp .ge 100, 3) := by decide +kernel
theorem dX8_addPart_70 : decode cX8_addPart 70 = .ok (.aload_n 1, 1) := by decide +kernel
theorem dX8_addPart_71 : decode cX8_addPart 71 = .ok (.getfield 28, 3) := by decide +kernel
theorem dX8_addPart_74 : decode cX8_addPart 74 = .ok (.aload_n 1, 1) := by decide +kernel
theorem dX8_addPart_75 : decode cX8_addPart 75 = .ok (.getfield 31, 3) := by decide +kernel
theorem dX8_addPart_78 : decode cX8_addPart 78 = .ok (.iload_n 2, 1) := by decide +kernel
theorem dX8_addPart_79 : decode cX8_addPart 79 = .ok (.iadd, 1) := by decide +kernel
theorem dX8_addPart_80 : decode cX8_addPart 80 = .ok (.iaload, 1) := by decide +kernel
theorem dX8_addPart_81 : decode cX8_addPart 81 = .ok (.istore_n 3, 1) := by decide +kernel
theorem dX8_addPart_82 : decode cX8_addPart 82 = .ok (.iconst 0, 1) := by decide +kernel
theorem dX8_addPart_83 : decode cX8_addPart 83 = .ok (.istore 4, 2) := by decide +kernel
theorem dX8_addPart_85 : decode cX8_addPart 85 = .ok (.iload 4, 2) := by decide +kernel
theorem dX8_addPart_87 : decode cX8_addPart 87 = .ok (.aload_n 0, 1) := by decide +kernel
theorem dX8_addPart_88 : decode cX8_addPart 88 = .ok (.getfield 22, 3) := by decide +kernel
theorem dX8_addPart_91 : decode cX8_addPart 91 = .ok (.if_icmp .ge 20, 3) := by decide +kernel
theorem dX8_addPart_94 : decode cX8_addPart 94 = .ok (.aload_n 0, 1) := by decide +kernel
theorem dX8_addPart_95 : decode cX8_addPart 95 = .ok (.getfield 15, 3) := by decide +kernel
theorem dX8_addPart_98 : decode cX8_addPart 98 = .ok (.iload 4, 2) := by decide +kernel
theorem dX8_addPart_100 : decode cX8_addPart 100 = .ok (.iaload, 1) := by decide +kernel
theorem dX8_addPart_101 : decode cX8_addPart 101 = .ok (.iload_n 3, 1) := by decide +kernel
theorem dX8_addPart_102 : decode cX8_addPart 102 = .ok (.if_icmp .eq 9, 3) := by decide +kernel
theorem dX8_addPart_105 : decode cX8_addPart 105 = .ok (.iinc 4 1, 3) := by decide +kernel
theorem dX8_addPart_108 : decode cX8_addPart 108 = .ok (.goto (-23), 3) := by decide +kernel
theorem dX8_addPart_111 : decode cX8_addPart 111 = .ok (.iload 4, 2) := by decide +kernel
theorem dX8_addPart_113 : decode cX8_addPart 113 = .ok (.aload_n 0, 1) := by decide +kernel
theorem dX8_addPart_114 : decode cX8_addPart 114 = .ok (.getfield 22, 3) := by decide +kernel
theorem dX8_addPart_117 : decode cX8_addPart 117 = .ok (.if_icmp .ne 23, 3) := by decide +kernel
theorem dX8_addPart_120 : decode cX8_addPart 120 = .ok (.aload_n 0, 1) := by decide +kernel
theorem dX8_addPart_121 : decode cX8_addPart 121 = .ok (.getfield 15, 3) := by decide +kernel
theorem dX8_addPart_124 : decode cX8_addPart 124 = .ok (.aload_n 0, 1) := by decide +kernel
theorem dX8_addPart_125 : decode cX8_addPart 125 = .ok (.getfield 22, 3) := by decide +kernel
theorem dX8_addPart_128 : decode cX8_addPart 128 = .ok (.iload_n 3, 1) := by decide +kernel
theorem dX8_addPart_129 : decode cX8_addPart 129 = .ok (.iastore, 1) := by decide +kernel
theorem dX8_addPart_130 : decode cX8_addPart 130 = .ok (.aload_n 0, 1) := by decide +kernel
theorem dX8_addPart_131 : decode cX8_addPart 131 = .ok (.dup, 1) := by decide +kernel
theorem dX8_addPart_132 : decode cX8_addPart 132 = .ok (.getfield 22, 3) := by decide +kernel
theorem dX8_addPart_135 : decode cX8_addPart 135 = .ok (.iconst 1, 1) := by decide +kernel
theorem dX8_addPart_136 : decode cX8_addPart 136 = .ok (.iadd, 1) := by decide +kernel
theorem dX8_addPart_137 : decode cX8_addPart 137 = .ok (.putfield 22, 3) := by decide +kernel
theorem dX8_addPart_140 : decode cX8_addPart 140 = .ok (.aload_n 0, 1) := by decide +kernel
theorem dX8_addPart_141 : decode cX8_addPart 141 = .ok (.getfield 9, 3) := by decide +kernel
theorem dX8_addPart_144 : decode cX8_addPart 144 = .ok (.aload_n 0, 1) := by decide +kernel
theorem dX8_addPart_145 : decode cX8_addPart 145 = .ok (.getfield 18, 3) := by decide +kernel
theorem dX8_addPart_148 : decode cX8_addPart 148 = .ok (.iload 4, 2) := by decide +kernel
theorem dX8_addPart_150 : decode cX8_addPart 150 = .ok (.iastore, 1) := by decide +kernel
theorem dX8_addPart_151 : decode cX8_addPart 151 = .ok (.aload_n 0, 1) := by decide +kernel
theorem dX8_addPart_152 : decode cX8_addPart 152 = .ok (.dup, 1) := by decide +kernel
theorem dX8_addPart_153 : decode cX8_addPart 153 = .ok (.getfield 18, 3) := by decide +kernel
theorem dX8_addPart_156 : decode cX8_addPart 156 = .ok (.iconst 1, 1) := by decide +kernel
theorem dX8_addPart_157 : decode cX8_addPart 157 = .ok (.iadd, 1) := by decide +kernel
theorem dX8_addPart_158 : decode cX8_addPart 158 = .ok (.putfield 18, 3) := by decide +kernel
theorem dX8_addPart_161 : decode cX8_addPart 161 = .ok (.iinc 2 1, 3) := by decide +kernel
theorem dX8_addPart_164 : decode cX8_addPart 164 = .ok (.goto (-102), 3) := by decide +kernel
theorem dX8_addPart_167 : decode cX8_addPart 167 = .ok (.return_, 1) := by decide +kernel
theorem dX8_nameOf_0 : decode cX8_nameOf 0 = .ok (.iconst 0, 1) := by decide +kernel
theorem dX8_nameOf_1 : decode cX8_nameOf 1 = .ok (.istore_n 2, 1) := by decide +kernel
theorem dX8_nameOf_2 : decode cX8_nameOf 2 = .ok (.iload_n 2, 1) := by decide +kernel
theorem dX8_nameOf_3 : decode cX8_nameOf 3 = .ok (.aload_n 0, 1) := by decide +kernel
theorem dX8_nameOf_4 : decode cX8_nameOf 4 = .ok (.getfield 22, 3) := by decide +kernel
theorem dX8_nameOf_7 : decode cX8_nameOf 7 = .ok (.if_icmp .ge 21, 3) := by decide +kernel
theorem dX8_nameOf_10 : decode cX8_nameOf 10 = .ok (.aload_n 0, 1) := by decide +kernel
theorem dX8_nameOf_11 : decode cX8_nameOf 11 = .ok (.getfield 15, 3) := by decide +kernel
theorem dX8_nameOf_14 : decode cX8_nameOf 14 = .ok (.iload_n 2, 1) := by decide +kernel
theorem dX8_nameOf_15 : decode cX8_nameOf 15 = .ok (.iaload, 1) := by decide +kernel
theorem dX8_nameOf_16 : decode cX8_nameOf 16 = .ok (.iload_n 1, 1) := by decide +kernel
theorem dX8_nameOf_17 : decode cX8_nameOf 17 = .ok (.if_icmp .ne 5, 3) := by decide +kernel
theorem dX8_nameOf_20 : decode cX8_nameOf 20 = .ok (.iload_n 2, 1) := by decide +kernel
theorem dX8_nameOf_21 : decode cX8_nameOf 21 = .ok (.ireturn, 1) := by decide +kernel
theorem dX8_nameOf_22 : decode cX8_nameOf 22 = .ok (.iinc 2 1, 3) := by decide +kernel
theorem dX8_nameOf_25 : decode cX8_nameOf 25 = .ok (.goto (-23), 3) := by decide +kernel
theorem dX8_nameOf_28 : decode cX8_nameOf 28 = .ok (.bipush (-9), 2) := by decide +kernel
theorem dX8_nameOf_30 : decode cX8_nameOf 30 = .ok (.ireturn, 1) := by decide +kernel
theorem dX8_numberAt_0 : decode cX8_numberAt 0 = .ok (.iload_n 1, 1) := by decide +kernel
theorem dX8_numberAt_1 : decode cX8_numberAt 1 = .ok (.ifCond .lt 20, 3) := by decide +kernel
theorem dX8_numberAt_4 : decode cX8_numberAt 4 = .ok (.iload_n 1, 1) := by decide +kernel
theorem dX8_numberAt_5 : decode cX8_numberAt 5 = .ok (.aload_n 0, 1) := by decide +kernel
theorem dX8_numberAt_6 : decode cX8_numberAt 6 = .ok (.getfield 18, 3) := by decide +kernel
theorem dX8_numberAt_9 : decode cX8_numberAt 9 = .ok (.if_icmp .ge 12, 3) := by decide +kernel
theorem dX8_numberAt_12 : decode cX8_numberAt 12 = .ok (.aload_n 0, 1) := by decide +kernel
theorem dX8_numberAt_13 : decode cX8_numberAt 13 = .ok (.getfield 9, 3) := by decide +kernel
theorem dX8_numberAt_16 : decode cX8_numberAt 16 = .ok (.iload_n 1, 1) := by decide +kernel
theorem dX8_numberAt_17 : decode cX8_numberAt 17 = .ok (.iaload, 1) := by decide +kernel
theorem dX8_numberAt_18 : decode cX8_numberAt 18 = .ok (.goto 5, 3) := by decide +kernel
theorem dX8_numberAt_21 : decode cX8_numberAt 21 = .ok (.bipush (-9), 2) := by decide +kernel
theorem dX8_numberAt_23 : decode cX8_numberAt 23 = .ok (.ireturn, 1) := by decide +kernel
theorem dX8_isBelow_0 : decode cX8_isBelow 0 = .ok (.iconst 0, 1) := by decide +kernel
theorem dX8_isBelow_1 : decode cX8_isBelow 1 = .ok (.istore_n 2, 1) := by decide +kernel
theorem dX8_isBelow_2 : decode cX8_isBelow 2 = .ok (.iload_n 2, 1) := by decide +kernel
theorem dX8_isBelow_3 : decode cX8_isBelow 3 = .ok (.aload_n 0, 1) := by decide +kernel
theorem dX8_isBelow_4 : decode cX8_isBelow 4 = .ok (.getfield 18, 3) := by decide +kernel
theorem dX8_isBelow_7 : decode cX8_isBelow 7 = .ok (.if_icmp .ge 45, 3) := by decide +kernel
theorem dX8_isBelow_10 : decode cX8_isBelow 10 = .ok (.aload_n 0, 1) := by decide +kernel
theorem dX8_isBelow_11 : decode cX8_isBelow 11 = .ok (.getfield 9, 3) := by decide +kernel
theorem dX8_isBelow_14 : decode cX8_isBelow 14 = .ok (.iload_n 2, 1) := by decide +kernel
theorem dX8_isBelow_15 : decode cX8_isBelow 15 = .ok (.iaload, 1) := by decide +kernel
theorem dX8_isBelow_16 : decode cX8_isBelow 16 = .ok (.aload_n 1, 1) := by decide +kernel
theorem dX8_isBelow_17 : decode cX8_isBelow 17 = .ok (.getfield 9, 3) := by decide +kernel
theorem dX8_isBelow_20 : decode cX8_isBelow 20 = .ok (.iload_n 2, 1) := by decide +kernel
theorem dX8_isBelow_21 : decode cX8_isBelow 21 = .ok (.iaload, 1) := by decide +kernel
theorem dX8_isBelow_22 : decode cX8_isBelow 22 = .ok (.if_icmp .eq 24, 3) := by decide +kernel
theorem dX8_isBelow_25 : decode cX8_isBelow 25 = .ok (.aload_n 0, 1) := by decide +kernel
theorem dX8_isBelow_26 : decode cX8_isBelow 26 = .ok (.getfield 9, 3) := by decide +kernel
theorem dX8_isBelow_29 : decode cX8_isBelow 29 = .ok (.iload_n 2, 1) := by decide +kernel
theorem dX8_isBelow_30 : decode cX8_isBelow 30 = .ok (.iaload, 1) := by decide +kernel
theorem dX8_isBelow_31 : decode cX8_isBelow 31 = .ok (.aload_n 1, 1) := by decide +kernel
theorem dX8_isBelow_32 : decode cX8_isBelow 32 = .ok (.getfield 9, 3) := by decide +kernel
theorem dX8_isBelow_35 : decode cX8_isBelow 35 = .ok (.iload_n 2, 1) := by decide +kernel
theorem dX8_isBelow_36 : decode cX8_isBelow 36 = .ok (.iaload, 1) := by decide +kernel
theorem dX8_isBelow_37 : decode cX8_isBelow 37 = .ok (.if_icmp .ge 7, 3) := by decide +kernel
theorem dX8_isBelow_40 : decode cX8_isBelow 40 = .ok (.iconst 1, 1) := by decide +kernel
theorem dX8_isBelow_41 : decode cX8_isBelow 41 = .ok (.goto 4, 3) := by decide +kernel
theorem dX8_isBelow_44 : decode cX8_isBelow 44 = .ok (.iconst 0, 1) := by decide +kernel
theorem dX8_isBelow_45 : decode cX8_isBelow 45 = .ok (.ireturn, 1) := by decide +kernel
theorem dX8_isBelow_46 : decode cX8_isBelow 46 = .ok (.iinc 2 1, 3) := by decide +kernel
theorem dX8_isBelow_49 : decode cX8_isBelow 49 = .ok (.goto (-47), 3) := by decide +kernel
theorem dX8_isBelow_52 : decode cX8_isBelow 52 = .ok (.iconst 0, 1) := by decide +kernel
theorem dX8_isBelow_53 : decode cX8_isBelow 53 = .ok (.ireturn, 1) := by decide +kernel
theorem dX8_equalsNumbers_0 : decode cX8_equalsNumbers 0 = .ok (.aload_n 0, 1) := by decide +kernel
theorem dX8_equalsNumbers_1 : decode cX8_equalsNumbers 1 = .ok (.getfield 18, 3) := by decide +kernel
theorem dX8_equalsNumbers_4 : decode cX8_equalsNumbers 4 = .ok (.aload_n 1, 1) := by decide +kernel
theorem dX8_equalsNumbers_5 : decode cX8_equalsNumbers 5 = .ok (.arraylength, 1) := by decide +kernel
theorem dX8_equalsNumbers_6 : decode cX8_equalsNumbers 6 = .ok (.if_icmp .eq 5, 3) := by decide +kernel
theorem dX8_equalsNumbers_9 : decode cX8_equalsNumbers 9 = .ok (.iconst 0, 1) := by decide +kernel
theorem dX8_equalsNumbers_10 : decode cX8_equalsNumbers 10 = .ok (.ireturn, 1) := by decide +kernel
theorem dX8_equalsNumbers_11 : decode cX8_equalsNumbers 11 = .ok (.iconst 0, 1) := by decide +kernel
theorem dX8_equalsNumbers_12 : decode cX8_equalsNumbers 12 = .ok (.istore_n 2, 1) := by decide +kernel
theorem dX8_equalsNumbers_13 : decode cX8_equalsNumbers 13 = .ok (.iload_n 2, 1) := by decide +kernel
theorem dX8_equalsNumbers_14 : decode cX8_equalsNumbers 14 = .ok (.aload_n 0, 1) := by decide +kernel
theorem dX8_equalsNumbers_15 : decode cX8_equalsNumbers 15 = .ok (.getfield 18, 3) := by decide +kernel
theorem dX8_equalsNumbers_18 : decode cX8_equalsNumbers 18 = .ok (.if_icmp .ge 23, 3) := by decide +kernel
theorem dX8_equalsNumbers_21 : decode cX8_equalsNumbers 21 = .ok (.aload_n 0, 1) := by decide +kernel
theorem dX8_equalsNumbers_22 : decode cX8_equalsNumbers 22 = .ok (.getfield 9, 3) := by decide +kernel
theorem dX8_equalsNumbers_25 : decode cX8_equalsNumbers 25 = .ok (.iload_n 2, 1) := by decide +kernel
theorem dX8_equalsNumbers_26 : decode cX8_equalsNumbers 26 = .ok (.iaload, 1) := by decide +kernel
theorem dX8_equalsNumbers_27 : decode cX8_equalsNumbers 27 = .ok (.aload_n 1, 1) := by decide +kernel
theorem dX8_equalsNumbers_28 : decode cX8_equalsNumbers 28 = .ok (.iload_n 2, 1) := by decide +kernel
theorem dX8_equalsNumbers_29 : decode cX8_equalsNumbers 29 = .ok (.iaload, 1) := by decide +kernel
theorem dX8_equalsNumbers_30 : decode cX8_equalsNumbers 30 = .ok (.if_icmp .eq 5, 3) := by decide +kernel
theorem dX8_equalsNumbers_33 : decode cX8_equalsNumbers 33 = .ok (.iconst 0, 1) := by decide +kernel
theorem dX8_equalsNumbers_34 : decode cX8_equalsNumbers 34 = .ok (.ireturn, 1) := by decide +kernel
theorem dX8_equalsNumbers_35 : decode cX8_equalsNumbers 35 = .ok (.iinc 2 1, 3) := by decide +kernel
theorem dX8_equalsNumbers_38 : decode cX8_equalsNumbers 38 = .ok (.goto (-25), 3) := by decide +kernel
theorem dX8_equalsNumbers_41 : decode cX8_equalsNumbers 41 = .ok (.iconst 1, 1) := by decide +kernel
theorem dX8_equalsNumbers_42 : decode cX8_equalsNumbers 42 = .ok (.ireturn, 1) := by decide +kernel
theorem dX9_init_0 : decode cX9_init 0 = .ok (.aload_n 0, 1) := by decide +kernel
theorem dX9_init_1 : decode cX9_init 1 = .ok (.invokespecial 3, 3) := by decide +kernel
theorem dX9_init_4 : decode cX9_init 4 = .ok (.return_, 1) := by decide +kernel
theorem dX9_isEmpty_0 : decode cX9_isEmpty 0 = .ok (.aload_n 0, 1) := by decide +kernel
theorem dX9_isEmpty_1 : decode cX9_isEmpty 1 = .ok (.getfield 9, 3) := by decide +kernel
theorem dX9_isEmpty_4 : decode cX9_isEmpty 4 = .ok (.ifnonnull 14, 3) := by decide +kernel
theorem dX9_isEmpty_7 : decode cX9_isEmpty 7 = .ok (.aload_n 0, 1) := by decide +kernel
theorem dX9_isEmpty_8 : decode cX9_isEmpty 8 = .ok (.getfield 15, 3) := by decide +kernel
theorem dX9_isEmpty_11 : decode cX9_isEmpty 11 = .ok (.ifnonnull 7, 3) := by decide +kernel
theorem dX9_isEmpty_14 : decode cX9_isEmpty 14 = .ok (.iconst 1, 1) := by decide +kernel
theorem dX9_isEmpty_15 : decode cX9_isEmpty 15 = .ok (.goto 4, 3) := by decide +kernel
theorem dX9_isEmpty_18 : decode cX9_isEmpty 18 = .ok (.iconst 0, 1) := by decide +kernel
theorem dX9_isEmpty_19 : decode cX9_isEmpty 19 = .ok (.ireturn, 1) := by decide +kernel
theorem dX9_putArray_0 : decode cX9_putArray 0 = .ok (.aload_n 0, 1) := by decide +kernel
theorem dX9_putArray_1 : decode cX9_putArray 1 = .ok (.aload_n 1, 1) := by decide +kernel
theorem dX9_putArray_2 : decode cX9_putArray 2 = .ok (.putfield 9, 3) := by decide +kernel
theorem dX9_putArray_5 : decode cX9_putArray 5 = .ok (.aload_n 0, 1) := by decide +kernel
theorem dX9_putArray_6 : decode cX9_putArray 6 = .ok (.iload_n 2, 1) := by decide +kernel
theorem dX9_putArray_7 : decode cX9_putArray 7 = .ok (.putfield 19, 3) := by decide +kernel
theorem dX9_putArray_10 : decode cX9_putArray 10 = .ok (.aload_n 0, 1) := by decide +kernel
theorem dX9_putArray_11 : decode cX9_putArray 11 = .ok (.aconst_null, 1) := by decide +kernel
theorem dX9_putArray_12 : decode cX9_putArray 12 = .ok (.putfield 15, 3) := by decide +kernel
theorem dX9_putArray_15 : decode cX9_putArray 15 = .ok (.return_, 1) := by decide +kernel
theorem dX9_putCommit_0 : decode cX9_putCommit 0 = .ok (.aload_n 0, 1) := by decide +kernel
theorem dX9_putCommit_1 : decode cX9_putCommit 1 = .ok (.aconst_null, 1) := by decide +kernel
theorem dX9_putCommit_2 : decode cX9_putCommit 2 = .ok (.putfield 9, 3) := by decide +kernel
theorem dX9_putCommit_5 : decode cX9_putCommit 5 = .ok (.aload_n 0, 1) := by decide +kernel
theorem dX9_putCommit_6 : decode cX9_putCommit 6 = .ok (.aload_n 1, 1) := by decide +kernel
theorem dX9_putCommit_7 : decode cX9_putCommit 7 = .ok (.putfield 15, 3) := by decide +kernel
theorem dX9_putCommit_10 : decode cX9_putCommit 10 = .ok (.return_, 1) := by decide +kernel
theorem dX9_isOfSort_0 : decode cX9_isOfSort 0 = .ok (.iload_n 1, 1) := by decide +kernel
theorem dX9_isOfSort_1 : decode cX9_isOfSort 1 = .ok (.tableswitch 92 0 3 #[31, 51, 71, 84], 31) := by decide +kernel
theorem dX9_isOfSort_32 : decode cX9_isOfSort 32 = .ok (.aload_n 0, 1) := by decide +kernel
theorem dX9_isOfSort_33 : decode cX9_isOfSort 33 = .ok (.getfield 9, 3) := by decide +kernel
theorem dX9_isOfSort_36 : decode cX9_isOfSort 36 = .ok (.ifnull 14, 3) := by decide +kernel
theorem dX9_isOfSort_39 : decode cX9_isOfSort 39 = .ok (.aload_n 0, 1) := by decide +kernel
theorem dX9_isOfSort_40 : decode cX9_isOfSort 40 = .ok (.getfield 19, 3) := by decide +kernel
theorem dX9_isOfSort_43 : decode cX9_isOfSort 43 = .ok (.ifCond .eq 7, 3) := by decide +kernel
theorem dX9_isOfSort_46 : decode cX9_isOfSort 46 = .ok (.iconst 1, 1) := by decide +kernel
theorem dX9_isOfSort_47 : decode cX9_isOfSort 47 = .ok (.goto 4, 3) := by decide +kernel
theorem dX9_isOfSort_50 : decode cX9_isOfSort 50 = .ok (.iconst 0, 1) := by decide +kernel
theorem dX9_isOfSort_51 : decode cX9_isOfSort 51 = .ok (.ireturn, 1) := by decide +kernel
theorem dX9_isOfSort_52 : decode cX9_isOfSort 52 = .ok (.aload_n 0, 1) := by decide +kernel
theorem dX9_isOfSort_53 : decode cX9_isOfSort 53 = .ok (.getfield 9, 3) := by decide +kernel
theorem dX9_isOfSort_56 : decode cX9_isOfSort 56 = .ok (.ifnull 14, 3) := by decide +kernel
theorem dX9_isOfSort_59 : decode cX9_isOfSort 59 = .ok (.aload_n 0, 1) := by decide +kernel
theorem dX9_isOfSort_60 : decode cX9_isOfSort 60 = .ok (.getfield 19, 3) := by decide +kernel
theorem dX9_isOfSort_63 : decode cX9_isOfSort 63 = .ok (.ifCond .ne 7, 3) := by decide +kernel
theorem dX9_isOfSort_66 : decode cX9_isOfSort 66 = .ok (.iconst 1, 1) := by decide +kernel
theorem dX9_isOfSort_67 : decode cX9_isOfSort 67 = .ok (.goto 4, 3) := by decide +kernel
theorem dX9_isOfSort_70 : decode cX9_isOfSort 70 = .ok (.iconst 0, 1) := by decide +kernel
theorem dX9_isOfSort_71 : decode cX9_isOfSort 71 = .ok (.ireturn, 1) := by decide +kernel
theorem dX9_isOfSort_72 : decode cX9_isOfSort 72 = .ok (.aload_n 0, 1) := by decide +kernel
theorem dX9_isOfSort_73 : decode cX9_isOfSort 73 = .ok (.getfield 15, 3) := by decide +kernel
theorem dX9_isOfSort_76 : decode cX9_isOfSort 76 = .ok (.ifnull 7, 3) := by decide +kernel
theorem dX9_isOfSort_79 : decode cX9_isOfSort 79 = .ok (.iconst 1, 1) := by decide +kernel
theorem dX9_isOfSort_80 : decode cX9_isOfSort 80 = .ok (.goto 4, 3) := by decide +kernel
theorem dX9_isOfSort_83 : decode cX9_isOfSort 83 = .ok (.iconst 0, 1) := by decide +kernel
theorem dX9_isOfSort_84 : decode cX9_isOfSort 84 = .ok (.ireturn, 1) := by decide +kernel
theorem dX9_isOfSort_85 : decode cX9_isOfSort 85 = .ok (.aload_n 0, 1) := by decide +kernel
theorem dX9_isOfSort_86 : decode cX9_isOfSort 86 = .ok (.getfield 15, 3) := by decide +kernel
theorem dX9_isOfSort_89 : decode cX9_isOfSort 89 = .ok (.instanceof 23, 3) := by decide +kernel
theorem dX9_isOfSort_92 : decode cX9_isOfSort 92 = .ok (.ireturn, 1) := by decide +kernel
theorem dX9_isOfSort_93 : decode cX9_isOfSort 93 = .ok (.aload_n 0, 1) := by decide +kernel
theorem dX9_isOfSort_94 : decode cX9_isOfSort 94 = .ok (.getfield 15, 3) := by decide +kernel
theorem dX9_isOfSort_97 : decode cX9_isOfSort 97 = .ok (.instanceof 25, 3) := by decide +kernel
theorem dX9_isOfSort_100 : decode cX9_isOfSort 100 = .ok (.ireturn, 1) := by decide +kernel
theorem dX9_faultAsBytes_0 : decode cX9_faultAsBytes 0 = .ok (.aload_n 0, 1) := by decide +kernel
theorem dX9_faultAsBytes_1 : decode cX9_faultAsBytes 1 = .ok (.invokevirtual 27, 3) := by decide +kernel
theorem dX9_faultAsBytes_4 : decode cX9_faultAsBytes 4 = .ok (.ifCond .eq 5, 3) := by decide +kernel
theorem dX9_faultAsBytes_7 : decode cX9_faultAsBytes 7 = .ok (.iconst 1, 1) := by decide +kernel
theorem dX9_faultAsBytes_8 : decode cX9_faultAsBytes 8 = .ok (.ireturn, 1) := by decide +kernel
theorem dX9_faultAsBytes_9 : decode cX9_faultAsBytes 9 = .ok (.aload_n 0, 1) := by decide +kernel
theorem dX9_faultAsBytes_10 : decode cX9_faultAsBytes 10 = .ok (.iconst 0, 1) := by decide +kernel
theorem dX9_faultAsBytes_11 : decode cX9_faultAsBytes 11 = .ok (.invokevirtual 31, 3) := by decide +kernel
theorem dX9_faultAsBytes_14 : decode cX9_faultAsBytes 14 = .ok (.ifCond .eq 7, 3) := by decide +kernel
theorem dX9_faultAsBytes_17 : decode cX9_faultAsBytes 17 = .ok (.iconst 0, 1) := by decide +kernel
theorem dX9_faultAsBytes_18 : decode cX9_faultAsBytes 18 = .ok (.goto 4, 3) := by decide +kernel
theorem dX9_faultAsBytes_21 : decode cX9_faultAsBytes 21 = .ok (.iconst 2, 1) := by decide +kernel
theorem dX9_faultAsBytes_22 : decode cX9_faultAsBytes 22 = .ok (.ireturn, 1) := by decide +kernel
theorem dX9_faultAtElement_0 : decode cX9_faultAtElement 0 = .ok (.aload_n 0, 1) := by decide +kernel
theorem dX9_faultAtElement_1 : decode cX9_faultAtElement 1 = .ok (.invokevirtual 27, 3) := by decide +kernel
theorem dX9_faultAtElement_4 : decode cX9_faultAtElement 4 = .ok (.ifCond .eq 5, 3) := by decide +kernel
theorem dX9_faultAtElement_7 : decode cX9_faultAtElement 7 = .ok (.iconst 1, 1) := by decide +kernel
theorem dX9_faultAtElement_8 : decode cX9_faultAtElement 8 = .ok (.ireturn, 1) := by decide +kernel
theorem dX9_faultAtElement_9 : decode cX9_faultAtElement 9 = .ok (.aload_n 0, 1) := by decide +kernel
theorem dX9_faultAtElement_10 : decode cX9_faultAtElement 10 = .ok (.getfield 9, 3) := by decide +kernel
theorem dX9_faultAtElement_13 : decode cX9_faultAtElement 13 = .ok (.ifnonnull 5, 3) := by decide +kernel
theorem dX9_faultAtElement_16 : decode cX9_faultAtElement 16 = .ok (.iconst 2, 1) := by decide +kernel
theorem dX9_faultAtElement_17 : decode cX9_faultAtElement 17 = .ok (.ireturn, 1) := by decide +kernel
theorem dX9_faultAtElement_18 : decode cX9_faultAtElement 18 = .ok (.iload_n 1, 1) := by decide +kernel
theorem dX9_faultAtElement_19 : decode cX9_faultAtElement 19 = .ok (.ifCond .lt 16, 3) := by decide +kernel
theorem dX9_faultAtElement_22 : decode cX9_faultAtElement 22 = .ok (.iload_n 1, 1) := by decide +kernel
theorem dX9_faultAtElement_23 : decode cX9_faultAtElement 23 = .ok (.aload_n 0, 1) := by decide +kernel
theorem dX9_faultAtElement_24 : decode cX9_faultAtElement 24 = .ok (.getfield 9, 3) := by decide +kernel
theorem dX9_faultAtElement_27 : decode cX9_faultAtElement 27 = .ok (.arraylength, 1) := by decide +kernel
theorem dX9_faultAtElement_28 : decode cX9_faultAtElement 28 = .ok (.if_icmp .ge 7, 3) := by decide +kernel
theorem dX9_faultAtElement_31 : decode cX9_faultAtElement 31 = .ok (.iconst 0, 1) := by decide +kernel
theorem dX9_faultAtElement_32 : decode cX9_faultAtElement 32 = .ok (.goto 4, 3) := by decide +kernel
theorem dX9_faultAtElement_35 : decode cX9_faultAtElement 35 = .ok (.iconst 3, 1) := by decide +kernel
theorem dX9_faultAtElement_36 : decode cX9_faultAtElement 36 = .ok (.ireturn, 1) := by decide +kernel
theorem dX9_holdsLines_0 : decode cX9_holdsLines 0 = .ok (.aload_n 0, 1) := by decide +kernel
theorem dX9_holdsLines_1 : decode cX9_holdsLines 1 = .ok (.getfield 9, 3) := by decide +kernel
theorem dX9_holdsLines_4 : decode cX9_holdsLines 4 = .ok (.ifnull 12, 3) := by decide +kernel
theorem dX9_holdsLines_7 : decode cX9_holdsLines 7 = .ok (.aload_n 0, 1) := by decide +kernel
theorem dX9_holdsLines_8 : decode cX9_holdsLines 8 = .ok (.getfield 9, 3) := by decide +kernel
theorem dX9_holdsLines_11 : decode cX9_holdsLines 11 = .ok (.arraylength, 1) := by decide +kernel
theorem dX9_holdsLines_12 : decode cX9_holdsLines 12 = .ok (.iload_n 1, 1) := by decide +kernel
theorem dX9_holdsLines_13 : decode cX9_holdsLines 13 = .ok (.if_icmp .le 5, 3) := by decide +kernel
theorem dX9_holdsLines_16 : decode cX9_holdsLines 16 = .ok (.iconst 0, 1) := by decide +kernel
theorem dX9_holdsLines_17 : decode cX9_holdsLines 17 = .ok (.ireturn, 1) := by decide +kernel
theorem dX9_holdsLines_18 : decode cX9_holdsLines 18 = .ok (.iconst 0, 1) := by decide +kernel
theorem dX9_holdsLines_19 : decode cX9_holdsLines 19 = .ok (.istore_n 2, 1) := by decide +kernel
theorem dX9_holdsLines_20 : decode cX9_holdsLines 20 = .ok (.iload_n 2, 1) := by decide +kernel
theorem dX9_holdsLines_21 : decode cX9_holdsLines 21 = .ok (.aload_n 0, 1) := by decide +kernel
theorem dX9_holdsLines_22 : decode cX9_holdsLines 22 = .ok (.getfield 9, 3) := by decide +kernel
theorem dX9_holdsLines_25 : decode cX9_holdsLines 25 = .ok (.arraylength, 1) := by decide +kernel
theorem dX9_holdsLines_26 : decode cX9_holdsLines 26 = .ok (.if_icmp .ge 31, 3) := by decide +kernel
theorem dX9_holdsLines_29 : decode cX9_holdsLines 29 = .ok (.aload_n 0, 1) := by decide +kernel
theorem dX9_holdsLines_30 : decode cX9_holdsLines 30 = .ok (.getfield 9, 3) := by decide +kernel
theorem dX9_holdsLines_33 : decode cX9_holdsLines 33 = .ok (.iload_n 2, 1) := by decide +kernel
theorem dX9_holdsLines_34 : decode cX9_holdsLines 34 = .ok (.iaload, 1) := by decide +kernel
theorem dX9_holdsLines_35 : decode cX9_holdsLines 35 = .ok (.ifCond .lt 14, 3) := by decide +kernel
theorem dX9_holdsLines_38 : decode cX9_holdsLines 38 = .ok (.aload_n 0, 1) := by decide +kernel
theorem dX9_holdsLines_39 : decode cX9_holdsLines 39 = .ok (.getfield 9, 3) := by decide +kernel
theorem dX9_holdsLines_42 : decode cX9_holdsLines 42 = .ok (.iload_n 2, 1) := by decide +kernel
theorem dX9_holdsLines_43 : decode cX9_holdsLines 43 = .ok (.iaload, 1) := by decide +kernel
theorem dX9_holdsLines_44 : decode cX9_holdsLines 44 = .ok (.bipush 100, 2) := by decide +kernel
theorem dX9_holdsLines_46 : decode cX9_holdsLines 46 = .ok (.if_icmp .lt 5, 3) := by decide +kernel
theorem dX9_holdsLines_49 : decode cX9_holdsLines 49 = .ok (.iconst 0, 1) := by decide +kernel
theorem dX9_holdsLines_50 : decode cX9_holdsLines 50 = .ok (.ireturn, 1) := by decide +kernel
theorem dX9_holdsLines_51 : decode cX9_holdsLines 51 = .ok (.iinc 2 1, 3) := by decide +kernel
theorem dX9_holdsLines_54 : decode cX9_holdsLines 54 = .ok (.goto (-34), 3) := by decide +kernel
theorem dX9_holdsLines_57 : decode cX9_holdsLines 57 = .ok (.iconst 1, 1) := by decide +kernel
theorem dX9_holdsLines_58 : decode cX9_holdsLines 58 = .ok (.ireturn, 1) := by decide +kernel
theorem dX10_init_0 : decode cX10_init 0 = .ok (.aload_n 0, 1) := by decide +kernel
theorem dX10_init_1 : decode cX10_init 1 = .ok (.invokespecial 1, 3) := by decide +kernel
theorem dX10_init_4 : decode cX10_init 4 = .ok (.return_, 1) := by decide +kernel
theorem dX10_leave_0 : decode cX10_leave 0 = .ok (.aload_n 0, 1) := by decide +kernel
theorem dX10_leave_1 : decode cX10_leave 1 = .ok (.bipush 31, 2) := by decide +kernel
theorem dX10_leave_3 : decode cX10_leave 3 = .ok (.aload_n 0, 1) := by decide +kernel
theorem dX10_leave_4 : decode cX10_leave 4 = .ok (.getfield 7, 3) := by decide +kernel
theorem dX10_leave_7 : decode cX10_leave 7 = .ok (.imul, 1) := by decide +kernel
theorem dX10_leave_8 : decode cX10_leave 8 = .ok (.iload_n 1, 1) := by decide +kernel
theorem dX10_leave_9 : decode cX10_leave 9 = .ok (.iadd, 1) := by decide +kernel
theorem dX10_leave_10 : decode cX10_leave 10 = .ok (.putfield 7, 3) := by decide +kernel
theorem dX10_leave_13 : decode cX10_leave 13 = .ok (.return_, 1) := by decide +kernel
theorem dJ9_max_7cf53_0 : decode cJ9_max_7cf53 0 = .ok (.iload_n 0, 1) := by decide +kernel
theorem dJ9_max_7cf53_1 : decode cJ9_max_7cf53 1 = .ok (.iload_n 1, 1) := by decide +kernel
theorem dJ9_max_7cf53_2 : decode cJ9_max_7cf53 2 = .ok (.if_icmp .lt 7, 3) := by decide +kernel
theorem dJ9_max_7cf53_5 : decode cJ9_max_7cf53 5 = .ok (.iload_n 0, 1) := by decide +kernel
theorem dJ9_max_7cf53_6 : decode cJ9_max_7cf53 6 = .ok (.goto 4, 3) := by decide +kernel
theorem dJ9_max_7cf53_9 : decode cJ9_max_7cf53 9 = .ok (.iload_n 1, 1) := by decide +kernel
theorem dJ9_max_7cf53_10 : decode cJ9_max_7cf53 10 = .ok (.ireturn, 1) := by decide +kernel
theorem dJ9_min_7cf53_0 : decode cJ9_min_7cf53 0 = .ok (.iload_n 0, 1) := by decide +kernel
theorem dJ9_min_7cf53_1 : decode cJ9_min_7cf53 1 = .ok (.iload_n 1, 1) := by decide +kernel
theorem dJ9_min_7cf53_2 : decode cJ9_min_7cf53 2 = .ok (.if_icmp .gt 7, 3) := by decide +kernel
theorem dJ9_min_7cf53_5 : decode cJ9_min_7cf53 5 = .ok (.iload_n 0, 1) := by decide +kernel
theorem dJ9_min_7cf53_6 : decode cJ9_min_7cf53 6 = .ok (.goto 4, 3) := by decide +kernel
theorem dJ9_min_7cf53_9 : decode cJ9_min_7cf53 9 = .ok (.iload_n 1, 1) := by decide +kernel
theorem dJ9_min_7cf53_10 : decode cJ9_min_7cf53 10 = .ok (.ireturn, 1) := by decide +kernel
theorem dJ7_fill_53178_0 : decode cJ7_fill_53178 0 = .ok (.iconst 0, 1) := by decide +kernel
theorem dJ7_fill_53178_1 : decode cJ7_fill_53178 1 = .ok (.istore_n 2, 1) := by decide +kernel
theorem dJ7_fill_53178_2 : decode cJ7_fill_53178 2 = .ok (.aload_n 0, 1) := by decide +kernel
theorem dJ7_fill_53178_3 : decode cJ7_fill_53178 3 = .ok (.arraylength, 1) := by decide +kernel
theorem dJ7_fill_53178_4 : decode cJ7_fill_53178 4 = .ok (.istore_n 3, 1) := by decide +kernel
theorem dJ7_fill_53178_5 : decode cJ7_fill_53178 5 = .ok (.iload_n 2, 1) := by decide +kernel
theorem dJ7_fill_53178_6 : decode cJ7_fill_53178 6 = .ok (.iload_n 3, 1) := by decide +kernel
theorem dJ7_fill_53178_7 : decode cJ7_fill_53178 7 = .ok (.if_icmp .ge 13, 3) := by decide +kernel
theorem dJ7_fill_53178_10 : decode cJ7_fill_53178 10 = .ok (.aload_n 0, 1) := by decide +kernel
theorem dJ7_fill_53178_11 : decode cJ7_fill_53178 11 = .ok (.iload_n 2, 1) := by decide +kernel
theorem dJ7_fill_53178_12 : decode cJ7_fill_53178 12 = .ok (.iload_n 1, 1) := by decide +kernel
theorem dJ7_fill_53178_13 : decode cJ7_fill_53178 13 = .ok (.iastore, 1) := by decide +kernel
theorem dJ7_fill_53178_14 : decode cJ7_fill_53178 14 = .ok (.iinc 2 1, 3) := by decide +kernel
theorem dJ7_fill_53178_17 : decode cJ7_fill_53178 17 = .ok (.goto (-12), 3) := by decide +kernel
theorem dJ7_fill_53178_20 : decode cJ7_fill_53178 20 = .ok (.return_, 1) := by decide +kernel
theorem dJ7_copyOf_59c91_0 : decode cJ7_copyOf_59c91 0 = .ok (.iload_n 1, 1) := by decide +kernel
theorem dJ7_copyOf_59c91_1 : decode cJ7_copyOf_59c91 1 = .ok (.aload_n 0, 1) := by decide +kernel
theorem dJ7_copyOf_59c91_2 : decode cJ7_copyOf_59c91 2 = .ok (.arraylength, 1) := by decide +kernel
theorem dJ7_copyOf_59c91_3 : decode cJ7_copyOf_59c91 3 = .ok (.if_icmp .ne 11, 3) := by decide +kernel
theorem dJ7_copyOf_59c91_6 : decode cJ7_copyOf_59c91 6 = .ok (.aload_n 0, 1) := by decide +kernel
theorem dJ7_copyOf_59c91_7 : decode cJ7_copyOf_59c91 7 = .ok (.invokevirtual 316, 3) := by decide +kernel
theorem dJ7_copyOf_59c91_10 : decode cJ7_copyOf_59c91 10 = .ok (.checkcast 317, 3) := by decide +kernel
theorem dJ7_copyOf_59c91_13 : decode cJ7_copyOf_59c91 13 = .ok (.areturn, 1) := by decide +kernel
theorem dJ7_copyOf_59c91_14 : decode cJ7_copyOf_59c91 14 = .ok (.iload_n 1, 1) := by decide +kernel
theorem dJ7_copyOf_59c91_15 : decode cJ7_copyOf_59c91 15 = .ok (.newarray .int, 2) := by decide +kernel
theorem dJ7_copyOf_59c91_17 : decode cJ7_copyOf_59c91 17 = .ok (.astore_n 2, 1) := by decide +kernel
theorem dJ7_copyOf_59c91_18 : decode cJ7_copyOf_59c91 18 = .ok (.aload_n 0, 1) := by decide +kernel
theorem dJ7_copyOf_59c91_19 : decode cJ7_copyOf_59c91 19 = .ok (.iconst 0, 1) := by decide +kernel
theorem dJ7_copyOf_59c91_20 : decode cJ7_copyOf_59c91 20 = .ok (.aload_n 2, 1) := by decide +kernel
theorem dJ7_copyOf_59c91_21 : decode cJ7_copyOf_59c91 21 = .ok (.iconst 0, 1) := by decide +kernel
theorem dJ7_copyOf_59c91_22 : decode cJ7_copyOf_59c91 22 = .ok (.aload_n 0, 1) := by decide +kernel
theorem dJ7_copyOf_59c91_23 : decode cJ7_copyOf_59c91 23 = .ok (.arraylength, 1) := by decide +kernel
theorem dJ7_copyOf_59c91_24 : decode cJ7_copyOf_59c91 24 = .ok (.iload_n 1, 1) := by decide +kernel
theorem dJ7_copyOf_59c91_25 : decode cJ7_copyOf_59c91 25 = .ok (.invokestatic 304, 3) := by decide +kernel
theorem dJ7_copyOf_59c91_28 : decode cJ7_copyOf_59c91 28 = .ok (.invokestatic 150, 3) := by decide +kernel
theorem dJ7_copyOf_59c91_31 : decode cJ7_copyOf_59c91 31 = .ok (.aload_n 2, 1) := by decide +kernel
theorem dJ7_copyOf_59c91_32 : decode cJ7_copyOf_59c91 32 = .ok (.areturn, 1) := by decide +kernel
