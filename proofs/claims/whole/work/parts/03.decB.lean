theorem dX11_init_0 : decode cX11_init 0 = .ok (.aload_n 0, 1) := by decide +kernel
theorem dX11_init_1 : decode cX11_init 1 = .ok (.invokespecial 5, 3) := by decide +kernel
theorem dX11_init_4 : decode cX11_init 4 = .ok (.aload_n 0, 1) := by decide +kernel
theorem dX11_init_5 : decode cX11_init 5 = .ok (.new 11, 3) := by decide +kernel
theorem dX11_init_8 : decode cX11_init 8 = .ok (.dup, 1) := by decide +kernel
theorem dX11_init_9 : decode cX11_init 9 = .ok (.invokespecial 13, 3) := by decide +kernel
theorem dX11_init_12 : decode cX11_init 12 = .ok (.putfield 14, 3) := by decide +kernel
theorem dX11_init_15 : decode cX11_init 15 = .ok (.aload_n 0, 1) := by decide +kernel
theorem dX11_init_16 : decode cX11_init 16 = .ok (.bipush 24, 2) := by decide +kernel
theorem dX11_init_18 : decode cX11_init 18 = .ok (.anewarray 18, 3) := by decide +kernel
theorem dX11_init_21 : decode cX11_init 21 = .ok (.putfield 20, 3) := by decide +kernel
theorem dX11_init_24 : decode cX11_init 24 = .ok (.aload_n 0, 1) := by decide +kernel
theorem dX11_init_25 : decode cX11_init 25 = .ok (.iconst 4, 1) := by decide +kernel
theorem dX11_init_26 : decode cX11_init 26 = .ok (.anewarray 18, 3) := by decide +kernel
theorem dX11_init_29 : decode cX11_init 29 = .ok (.putfield 24, 3) := by decide +kernel
theorem dX11_init_32 : decode cX11_init 32 = .ok (.aload_n 0, 1) := by decide +kernel
theorem dX11_init_33 : decode cX11_init 33 = .ok (.iconst 5, 1) := by decide +kernel
theorem dX11_init_34 : decode cX11_init 34 = .ok (.anewarray 27, 3) := by decide +kernel
theorem dX11_init_37 : decode cX11_init 37 = .ok (.putfield 29, 3) := by decide +kernel
theorem dX11_init_40 : decode cX11_init 40 = .ok (.aload_n 0, 1) := by decide +kernel
theorem dX11_init_41 : decode cX11_init 41 = .ok (.new 33, 3) := by decide +kernel
theorem dX11_init_44 : decode cX11_init 44 = .ok (.dup, 1) := by decide +kernel
theorem dX11_init_45 : decode cX11_init 45 = .ok (.invokespecial 35, 3) := by decide +kernel
theorem dX11_init_48 : decode cX11_init 48 = .ok (.putfield 36, 3) := by decide +kernel
theorem dX11_init_51 : decode cX11_init 51 = .ok (.aload_n 0, 1) := by decide +kernel
theorem dX11_init_52 : decode cX11_init 52 = .ok (.new 40, 3) := by decide +kernel
theorem dX11_init_55 : decode cX11_init 55 = .ok (.dup, 1) := by decide +kernel
theorem dX11_init_56 : decode cX11_init 56 = .ok (.invokespecial 42, 3) := by decide +kernel
theorem dX11_init_59 : decode cX11_init 59 = .ok (.putfield 43, 3) := by decide +kernel
theorem dX11_init_62 : decode cX11_init 62 = .ok (.aload_n 0, 1) := by decide +kernel
theorem dX11_init_63 : decode cX11_init 63 = .ok (.new 40, 3) := by decide +kernel
theorem dX11_init_66 : decode cX11_init 66 = .ok (.dup, 1) := by decide +kernel
theorem dX11_init_67 : decode cX11_init 67 = .ok (.invokespecial 42, 3) := by decide +kernel
theorem dX11_init_70 : decode cX11_init 70 = .ok (.putfield 47, 3) := by decide +kernel
theorem dX11_init_73 : decode cX11_init 73 = .ok (.aload_n 0, 1) := by decide +kernel
theorem dX11_init_74 : decode cX11_init 74 = .ok (.bipush 100, 2) := by decide +kernel
theorem dX11_init_76 : decode cX11_init 76 = .ok (.newarray .int, 2) := by decide +kernel
theorem dX11_init_78 : decode cX11_init 78 = .ok (.putfield 50, 3) := by decide +kernel
theorem dX11_init_81 : decode cX11_init 81 = .ok (.iconst 0, 1) := by decide +kernel
theorem dX11_init_82 : decode cX11_init 82 = .ok (.istore_n 1, 1) := by decide +kernel
theorem dX11_init_83 : decode cX11_init 83 = .ok (.iload_n 1, 1) := by decide +kernel
theorem dX11_init_84 : decode cX11_init 84 = .ok (.iconst 5, 1) := by decide +kernel
theorem dX11_init_85 : decode cX11_init 85 = .ok (.if_icmp .ge 22, 3) := by decide +kernel
theorem dX11_init_88 : decode cX11_init 88 = .ok (.aload_n 0, 1) := by decide +kernel
theorem dX11_init_89 : decode cX11_init 89 = .ok (.getfield 29, 3) := by decide +kernel
theorem dX11_init_92 : decode cX11_init 92 = .ok (.iload_n 1, 1) := by decide +kernel
theorem dX11_init_93 : decode cX11_init 93 = .ok (.new 27, 3) := by decide +kernel
theorem dX11_init_96 : decode cX11_init 96 = .ok (.dup, 1) := by decide +kernel
theorem dX11_init_97 : decode cX11_init 97 = .ok (.invokespecial 54, 3) := by decide +kernel
theorem dX11_init_100 : decode cX11_init 100 = .ok (.aastore, 1) := by decide +kernel
theorem dX11_init_101 : decode cX11_init 101 = .ok (.iinc 1 1, 3) := by decide +kernel
theorem dX11_init_104 : decode cX11_init 104 = .ok (.goto (-21), 3) := by decide +kernel
theorem dX11_init_107 : decode cX11_init 107 = .ok (.aload_n 0, 1) := by decide +kernel
theorem dX11_init_108 : decode cX11_init 108 = .ok (.getfield 50, 3) := by decide +kernel
theorem dX11_init_111 : decode cX11_init 111 = .ok (.iconst 0, 1) := by decide +kernel
theorem dX11_init_112 : decode cX11_init 112 = .ok (.bipush 7, 2) := by decide +kernel
theorem dX11_init_114 : decode cX11_init 114 = .ok (.iastore, 1) := by decide +kernel
theorem dX11_init_115 : decode cX11_init 115 = .ok (.iconst 1, 1) := by decide +kernel
theorem dX11_init_116 : decode cX11_init 116 = .ok (.istore_n 1, 1) := by decide +kernel
theorem dX11_init_117 : decode cX11_init 117 = .ok (.iload_n 1, 1) := by decide +kernel
theorem dX11_init_118 : decode cX11_init 118 = .ok (.bipush 100, 2) := by decide +kernel
theorem dX11_init_120 : decode cX11_init 120 = .ok (.if_icmp .ge 33, 3) := by decide +kernel
theorem dX11_init_123 : decode cX11_init 123 = .ok (.aload_n 0, 1) := by decide +kernel
theorem dX11_init_124 : decode cX11_init 124 = .ok (.getfield 50, 3) := by decide +kernel
theorem dX11_init_127 : decode cX11_init 127 = .ok (.iload_n 1, 1) := by decide +kernel
theorem dX11_init_128 : decode cX11_init 128 = .ok (.bipush 73, 2) := by decide +kernel
theorem dX11_init_130 : decode cX11_init 130 = .ok (.aload_n 0, 1) := by decide +kernel
theorem dX11_init_131 : decode cX11_init 131 = .ok (.getfield 50, 3) := by decide +kernel
theorem dX11_init_134 : decode cX11_init 134 = .ok (.iload_n 1, 1) := by decide +kernel
theorem dX11_init_135 : decode cX11_init 135 = .ok (.iconst 1, 1) := by decide +kernel
theorem dX11_init_136 : decode cX11_init 136 = .ok (.isub, 1) := by decide +kernel
theorem dX11_init_137 : decode cX11_init 137 = .ok (.iaload, 1) := by decide +kernel
theorem dX11_init_138 : decode cX11_init 138 = .ok (.imul, 1) := by decide +kernel
theorem dX11_init_139 : decode cX11_init 139 = .ok (.bipush 29, 2) := by decide +kernel
theorem dX11_init_141 : decode cX11_init 141 = .ok (.iadd, 1) := by decide +kernel
theorem dX11_init_142 : decode cX11_init 142 = .ok (.sipush 1009, 3) := by decide +kernel
theorem dX11_init_145 : decode cX11_init 145 = .ok (.irem, 1) := by decide +kernel
theorem dX11_init_146 : decode cX11_init 146 = .ok (.iastore, 1) := by decide +kernel
theorem dX11_init_147 : decode cX11_init 147 = .ok (.iinc 1 1, 3) := by decide +kernel
theorem dX11_init_150 : decode cX11_init 150 = .ok (.goto (-33), 3) := by decide +kernel
theorem dX11_init_153 : decode cX11_init 153 = .ok (.aload_n 0, 1) := by decide +kernel
theorem dX11_init_154 : decode cX11_init 154 = .ok (.invokevirtual 55, 3) := by decide +kernel
theorem dX11_init_157 : decode cX11_init 157 = .ok (.astore_n 1, 1) := by decide +kernel
theorem dX11_init_158 : decode cX11_init 158 = .ok (.aload_n 0, 1) := by decide +kernel
theorem dX11_init_159 : decode cX11_init 159 = .ok (.new 59, 3) := by decide +kernel
theorem dX11_init_162 : decode cX11_init 162 = .ok (.dup, 1) := by decide +kernel
theorem dX11_init_163 : decode cX11_init 163 = .ok (.aload_n 1, 1) := by decide +kernel
theorem dX11_init_164 : decode cX11_init 164 = .ok (.aconst_null, 1) := by decide +kernel
theorem dX11_init_165 : decode cX11_init 165 = .ok (.invokespecial 61, 3) := by decide +kernel
theorem dX11_init_168 : decode cX11_init 168 = .ok (.putfield 64, 3) := by decide +kernel
theorem dX11_init_171 : decode cX11_init 171 = .ok (.aload_n 0, 1) := by decide +kernel
theorem dX11_init_172 : decode cX11_init 172 = .ok (.new 59, 3) := by decide +kernel
theorem dX11_init_175 : decode cX11_init 175 = .ok (.dup, 1) := by decide +kernel
theorem dX11_init_176 : decode cX11_init 176 = .ok (.aload_n 1, 1) := by decide +kernel
theorem dX11_init_177 : decode cX11_init 177 = .ok (.new 18, 3) := by decide +kernel
theorem dX11_init_180 : decode cX11_init 180 = .ok (.dup, 1) := by decide +kernel
theorem dX11_init_181 : decode cX11_init 181 = .ok (.new 11, 3) := by decide +kernel
theorem dX11_init_184 : decode cX11_init 184 = .ok (.dup, 1) := by decide +kernel
theorem dX11_init_185 : decode cX11_init 185 = .ok (.invokespecial 13, 3) := by decide +kernel
theorem dX11_init_188 : decode cX11_init 188 = .ok (.iconst 0, 1) := by decide +kernel
theorem dX11_init_189 : decode cX11_init 189 = .ok (.aconst_null, 1) := by decide +kernel
theorem dX11_init_190 : decode cX11_init 190 = .ok (.getstatic 68, 3) := by decide +kernel
theorem dX11_init_193 : decode cX11_init 193 = .ok (.aconst_null, 1) := by decide +kernel
theorem dX11_init_194 : decode cX11_init 194 = .ok (.invokespecial 71, 3) := by decide +kernel
theorem dX11_init_197 : decode cX11_init 197 = .ok (.invokespecial 61, 3) := by decide +kernel
theorem dX11_init_200 : decode cX11_init 200 = .ok (.putfield 74, 3) := by decide +kernel
theorem dX11_init_203 : decode cX11_init 203 = .ok (.return_, 1) := by decide +kernel
theorem dX11_commit_0 : decode cX11_commit 0 = .ok (.aload_n 0, 1) := by decide +kernel
theorem dX11_commit_1 : decode cX11_commit 1 = .ok (.iconst 0, 1) := by decide +kernel
theorem dX11_commit_2 : decode cX11_commit 2 = .ok (.putfield 77, 3) := by decide +kernel
theorem dX11_commit_5 : decode cX11_commit 5 = .ok (.aload_n 0, 1) := by decide +kernel
theorem dX11_commit_6 : decode cX11_commit 6 = .ok (.iload_n 1, 1) := by decide +kernel
theorem dX11_commit_7 : decode cX11_commit 7 = .ok (.invokevirtual 81, 3) := by decide +kernel
theorem dX11_commit_10 : decode cX11_commit 10 = .ok (.astore 4, 2) := by decide +kernel
theorem dX11_commit_12 : decode cX11_commit 12 = .ok (.aload_n 0, 1) := by decide +kernel
theorem dX11_commit_13 : decode cX11_commit 13 = .ok (.iload_n 3, 1) := by decide +kernel
theorem dX11_commit_14 : decode cX11_commit 14 = .ok (.invokevirtual 85, 3) := by decide +kernel
theorem dX11_commit_17 : decode cX11_commit 17 = .ok (.astore 5, 2) := by decide +kernel
theorem dX11_commit_19 : decode cX11_commit 19 = .ok (.aload 4, 2) := by decide +kernel
theorem dX11_commit_21 : decode cX11_commit 21 = .ok (.ifnull 8, 3) := by decide +kernel
theorem dX11_commit_24 : decode cX11_commit 24 = .ok (.aload 5, 2) := by decide +kernel
theorem dX11_commit_26 : decode cX11_commit 26 = .ok (.ifnonnull 5, 3) := by decide +kernel
theorem dX11_commit_29 : decode cX11_commit 29 = .ok (.iconst (-1), 1) := by decide +kernel
theorem dX11_commit_30 : decode cX11_commit 30 = .ok (.ireturn, 1) := by decide +kernel
theorem dX11_commit_31 : decode cX11_commit 31 = .ok (.iload_n 2, 1) := by decide +kernel
theorem dX11_commit_32 : decode cX11_commit 32 = .ok (.ifCond .lt 8, 3) := by decide +kernel
theorem dX11_commit_35 : decode cX11_commit 35 = .ok (.iload_n 2, 1) := by decide +kernel
theorem dX11_commit_36 : decode cX11_commit 36 = .ok (.iconst 2, 1) := by decide +kernel
theorem dX11_commit_37 : decode cX11_commit 37 = .ok (.if_icmp .le 6, 3) := by decide +kernel
theorem dX11_commit_40 : decode cX11_commit 40 = .ok (.bipush (-2), 2) := by decide +kernel
theorem dX11_commit_42 : decode cX11_commit 42 = .ok (.ireturn, 1) := by decide +kernel
theorem dX11_commit_43 : decode cX11_commit 43 = .ok (.aload_n 0, 1) := by decide +kernel
theorem dX11_commit_44 : decode cX11_commit 44 = .ok (.invokevirtual 89, 3) := by decide +kernel
theorem dX11_commit_47 : decode cX11_commit 47 = .ok (.ifCond .eq 6, 3) := by decide +kernel
theorem dX11_commit_50 : decode cX11_commit 50 = .ok (.bipush (-3), 2) := by decide +kernel
theorem dX11_commit_52 : decode cX11_commit 52 = .ok (.ireturn, 1) := by decide +kernel
theorem dX11_commit_53 : decode cX11_commit 53 = .ok (.aload 5, 2) := by decide +kernel
theorem dX11_commit_55 : decode cX11_commit 55 = .ok (.invokevirtual 93, 3) := by decide +kernel
theorem dX11_commit_58 : decode cX11_commit 58 = .ok (.istore 6, 2) := by decide +kernel
theorem dX11_commit_60 : decode cX11_commit 60 = .ok (.iload 6, 2) := by decide +kernel
theorem dX11_commit_62 : decode cX11_commit 62 = .ok (.ifCond .eq 10, 3) := by decide +kernel
theorem dX11_commit_65 : decode cX11_commit 65 = .ok (.aload_n 0, 1) := by decide +kernel
theorem dX11_commit_66 : decode cX11_commit 66 = .ok (.iload 6, 2) := by decide +kernel
theorem dX11_commit_68 : decode cX11_commit 68 = .ok (.invokevirtual 97, 3) := by decide +kernel
theorem dX11_commit_71 : decode cX11_commit 71 = .ok (.ireturn, 1) := by decide +kernel
theorem dX11_commit_72 : decode cX11_commit 72 = .ok (.aload 5, 2) := by decide +kernel
theorem dX11_commit_74 : decode cX11_commit 74 = .ok (.bipush 16, 2) := by decide +kernel
theorem dX11_commit_76 : decode cX11_commit 76 = .ok (.invokevirtual 101, 3) := by decide +kernel
theorem dX11_commit_79 : decode cX11_commit 79 = .ok (.ifCond .ne 6, 3) := by decide +kernel
theorem dX11_commit_82 : decode cX11_commit 82 = .ok (.bipush (-2), 2) := by decide +kernel
theorem dX11_commit_84 : decode cX11_commit 84 = .ok (.ireturn, 1) := by decide +kernel
theorem dX11_commit_85 : decode cX11_commit 85 = .ok (.aload_n 0, 1) := by decide +kernel
theorem dX11_commit_86 : decode cX11_commit 86 = .ok (.getfield 105, 3) := by decide +kernel
theorem dX11_commit_89 : decode cX11_commit 89 = .ok (.bipush 24, 2) := by decide +kernel
theorem dX11_commit_91 : decode cX11_commit 91 = .ok (.if_icmp .lt 6, 3) := by decide +kernel
theorem dX11_commit_94 : decode cX11_commit 94 = .ok (.bipush (-4), 2) := by decide +kernel
theorem dX11_commit_96 : decode cX11_commit 96 = .ok (.ireturn, 1) := by decide +kernel
theorem dX11_commit_97 : decode cX11_commit 97 = .ok (.aload_n 0, 1) := by decide +kernel
theorem dX11_commit_98 : decode cX11_commit 98 = .ok (.iload_n 2, 1) := by decide +kernel
theorem dX11_commit_99 : decode cX11_commit 99 = .ok (.aload 4, 2) := by decide +kernel
theorem dX11_commit_101 : decode cX11_commit 101 = .ok (.aload 5, 2) := by decide +kernel
theorem dX11_commit_103 : decode cX11_commit 103 = .ok (.getfield 108, 3) := by decide +kernel
theorem dX11_commit_106 : decode cX11_commit 106 = .ok (.invokevirtual 111, 3) := by decide +kernel
theorem dX11_commit_109 : decode cX11_commit 109 = .ok (.checkcast 112, 3) := by decide +kernel
theorem dX11_commit_112 : decode cX11_commit 112 = .ok (.aconst_null, 1) := by decide +kernel
theorem dX11_commit_113 : decode cX11_commit 113 = .ok (.invokevirtual 116, 3) := by decide +kernel
theorem dX11_commit_116 : decode cX11_commit 116 = .ok (.astore 7, 2) := by decide +kernel
theorem dX11_commit_118 : decode cX11_commit 118 = .ok (.aload_n 0, 1) := by decide +kernel
theorem dX11_commit_119 : decode cX11_commit 119 = .ok (.getfield 24, 3) := by decide +kernel
theorem dX11_commit_122 : decode cX11_commit 122 = .ok (.iload_n 1, 1) := by decide +kernel
theorem dX11_commit_123 : decode cX11_commit 123 = .ok (.aload 7, 2) := by decide +kernel
theorem dX11_commit_125 : decode cX11_commit 125 = .ok (.aastore, 1) := by decide +kernel
theorem dX11_commit_126 : decode cX11_commit 126 = .ok (.aload 7, 2) := by decide +kernel
theorem dX11_commit_128 : decode cX11_commit 128 = .ok (.getfield 120, 3) := by decide +kernel
theorem dX11_commit_131 : decode cX11_commit 131 = .ok (.ireturn, 1) := by decide +kernel
theorem dX11_ofCommit_0 : decode cX11_ofCommit 0 = .ok (.aload_n 0, 1) := by decide +kernel
theorem dX11_ofCommit_1 : decode cX11_ofCommit 1 = .ok (.iload_n 1, 1) := by decide +kernel
theorem dX11_ofCommit_2 : decode cX11_ofCommit 2 = .ok (.invokevirtual 123, 3) := by decide +kernel
theorem dX11_ofCommit_5 : decode cX11_ofCommit 5 = .ok (.astore_n 3, 1) := by decide +kernel
theorem dX11_ofCommit_6 : decode cX11_ofCommit 6 = .ok (.aload_n 3, 1) := by decide +kernel
theorem dX11_ofCommit_7 : decode cX11_ofCommit 7 = .ok (.ifnonnull 5, 3) := by decide +kernel
theorem dX11_ofCommit_10 : decode cX11_ofCommit 10 = .ok (.iconst (-1), 1) := by decide +kernel
theorem dX11_ofCommit_11 : decode cX11_ofCommit 11 = .ok (.ireturn, 1) := by decide +kernel
theorem dX11_ofCommit_12 : decode cX11_ofCommit 12 = .ok (.iload_n 2, 1) := by decide +kernel
theorem dX11_ofCommit_13 : decode cX11_ofCommit 13 = .ok (.tableswitch 111 0 5 #[39, 44, 64, 70, 86, 91], 39) := by decide +kernel
theorem dX11_ofCommit_52 : decode cX11_ofCommit 52 = .ok (.aload_n 3, 1) := by decide +kernel
theorem dX11_ofCommit_53 : decode cX11_ofCommit 53 = .ok (.invokevirtual 126, 3) := by decide +kernel
theorem dX11_ofCommit_56 : decode cX11_ofCommit 56 = .ok (.ireturn, 1) := by decide +kernel
theorem dX11_ofCommit_57 : decode cX11_ofCommit 57 = .ok (.aload_n 3, 1) := by decide +kernel
theorem dX11_ofCommit_58 : decode cX11_ofCommit 58 = .ok (.getfield 129, 3) := by decide +kernel
theorem dX11_ofCommit_61 : decode cX11_ofCommit 61 = .ok (.ifnonnull 8, 3) := by decide +kernel
theorem dX11_ofCommit_64 : decode cX11_ofCommit 64 = .ok (.bipush (-9), 2) := by decide +kernel
theorem dX11_ofCommit_66 : decode cX11_ofCommit 66 = .ok (.goto 10, 3) := by decide +kernel
theorem dX11_ofCommit_69 : decode cX11_ofCommit 69 = .ok (.aload_n 3, 1) := by decide +kernel
theorem dX11_ofCommit_70 : decode cX11_ofCommit 70 = .ok (.getfield 129, 3) := by decide +kernel
theorem dX11_ofCommit_73 : decode cX11_ofCommit 73 = .ok (.getfield 120, 3) := by decide +kernel
theorem dX11_ofCommit_76 : decode cX11_ofCommit 76 = .ok (.ireturn, 1) := by decide +kernel
theorem dX11_ofCommit_77 : decode cX11_ofCommit 77 = .ok (.aload_n 3, 1) := by decide +kernel
theorem dX11_ofCommit_78 : decode cX11_ofCommit 78 = .ok (.getfield 133, 3) := by decide +kernel
theorem dX11_ofCommit_81 : decode cX11_ofCommit 81 = .ok (.arraylength, 1) := by decide +kernel
theorem dX11_ofCommit_82 : decode cX11_ofCommit 82 = .ok (.ireturn, 1) := by decide +kernel
theorem dX11_ofCommit_83 : decode cX11_ofCommit 83 = .ok (.aload_n 0, 1) := by decide +kernel
theorem dX11_ofCommit_84 : decode cX11_ofCommit 84 = .ok (.getfield 43, 3) := by decide +kernel
theorem dX11_ofCommit_87 : decode cX11_ofCommit 87 = .ok (.aload_n 3, 1) := by decide +kernel
theorem dX11_ofCommit_88 : decode cX11_ofCommit 88 = .ok (.invokevirtual 136, 3) := by decide +kernel
theorem dX11_ofCommit_91 : decode cX11_ofCommit 91 = .ok (.aload_n 0, 1) := by decide +kernel
theorem dX11_ofCommit_92 : decode cX11_ofCommit 92 = .ok (.getfield 43, 3) := by decide +kernel
theorem dX11_ofCommit_95 : decode cX11_ofCommit 95 = .ok (.getfield 140, 3) := by decide +kernel
theorem dX11_ofCommit_98 : decode cX11_ofCommit 98 = .ok (.ireturn, 1) := by decide +kernel
theorem dX11_ofCommit_99 : decode cX11_ofCommit 99 = .ok (.aload_n 3, 1) := by decide +kernel
theorem dX11_ofCommit_100 : decode cX11_ofCommit 100 = .ok (.invokevirtual 143, 3) := by decide +kernel
theorem dX11_ofCommit_103 : decode cX11_ofCommit 103 = .ok (.ireturn, 1) := by decide +kernel
theorem dX11_ofCommit_104 : decode cX11_ofCommit 104 = .ok (.aload_n 3, 1) := by decide +kernel
theorem dX11_ofCommit_105 : decode cX11_ofCommit 105 = .ok (.getfield 146, 3) := by decide +kernel
theorem dX11_ofCommit_108 : decode cX11_ofCommit 108 = .ok (.ifnonnull 8, 3) := by decide +kernel
theorem dX11_ofCommit_111 : decode cX11_ofCommit 111 = .ok (.bipush (-9), 2) := by decide +kernel
theorem dX11_ofCommit_113 : decode cX11_ofCommit 113 = .ok (.goto 10, 3) := by decide +kernel
theorem dX11_ofCommit_116 : decode cX11_ofCommit 116 = .ok (.aload_n 3, 1) := by decide +kernel
theorem dX11_ofCommit_117 : decode cX11_ofCommit 117 = .ok (.getfield 146, 3) := by decide +kernel
theorem dX11_ofCommit_120 : decode cX11_ofCommit 120 = .ok (.getfield 120, 3) := by decide +kernel
theorem dX11_ofCommit_123 : decode cX11_ofCommit 123 = .ok (.ireturn, 1) := by decide +kernel
theorem dX11_ofCommit_124 : decode cX11_ofCommit 124 = .ok (.iload_n 2, 1) := by decide +kernel
theorem dX11_ofCommit_125 : decode cX11_ofCommit 125 = .ok (.bipush 10, 2) := by decide +kernel
theorem dX11_ofCommit_127 : decode cX11_ofCommit 127 = .ok (.isub, 1) := by decide +kernel
theorem dX11_ofCommit_128 : decode cX11_ofCommit 128 = .ok (.invokestatic 149, 3) := by decide +kernel
theorem dX11_ofCommit_131 : decode cX11_ofCommit 131 = .ok (.ifCond .eq 17, 3) := by decide +kernel
theorem dX11_ofCommit_134 : decode cX11_ofCommit 134 = .ok (.aload_n 3, 1) := by decide +kernel
theorem dX11_ofCommit_135 : decode cX11_ofCommit 135 = .ok (.getfield 133, 3) := by decide +kernel
theorem dX11_ofCommit_138 : decode cX11_ofCommit 138 = .ok (.iload_n 2, 1) := by decide +kernel
theorem dX11_ofCommit_139 : decode cX11_ofCommit 139 = .ok (.bipush 10, 2) := by decide +kernel
theorem dX11_ofCommit_141 : decode cX11_ofCommit 141 = .ok (.isub, 1) := by decide +kernel
theorem dX11_ofCommit_142 : decode cX11_ofCommit 142 = .ok (.invokestatic 152, 3) := by decide +kernel
theorem dX11_ofCommit_145 : decode cX11_ofCommit 145 = .ok (.goto 5, 3) := by decide +kernel
theorem dX11_ofCommit_148 : decode cX11_ofCommit 148 = .ok (.bipush (-2), 2) := by decide +kernel
theorem dX11_ofCommit_150 : decode cX11_ofCommit 150 = .ok (.ireturn, 1) := by decide +kernel
theorem dX11_piece_0 : decode cX11_piece 0 = .ok (.aload_n 0, 1) := by decide +kernel
theorem dX11_piece_1 : decode cX11_piece 1 = .ok (.iload_n 1, 1) := by decide +kernel
theorem dX11_piece_2 : decode cX11_piece 2 = .ok (.invokevirtual 123, 3) := by decide +kernel
theorem dX11_piece_5 : decode cX11_piece 5 = .ok (.astore 4, 2) := by decide +kernel
theorem dX11_piece_7 : decode cX11_piece 7 = .ok (.aload 4, 2) := by decide +kernel
theorem dX11_piece_9 : decode cX11_piece 9 = .ok (.ifnonnull 5, 3) := by decide +kernel
theorem dX11_piece_12 : decode cX11_piece 12 = .ok (.iconst (-1), 1) := by decide +kernel
theorem dX11_piece_13 : decode cX11_piece 13 = .ok (.ireturn, 1) := by decide +kernel
theorem dX11_piece_14 : decode cX11_piece 14 = .ok (.aload_n 0, 1) := by decide +kernel
theorem dX11_piece_15 : decode cX11_piece 15 = .ok (.getfield 43, 3) := by decide +kernel
theorem dX11_piece_18 : decode cX11_piece 18 = .ok (.aload 4, 2) := by decide +kernel
theorem dX11_piece_20 : decode cX11_piece 20 = .ok (.invokevirtual 136, 3) := by decide +kernel
theorem dX11_piece_23 : decode cX11_piece 23 = .ok (.iload_n 2, 1) := by decide +kernel
theorem dX11_piece_24 : decode cX11_piece 24 = .ok (.ifCond .lt 14, 3) := by decide +kernel
theorem dX11_piece_27 : decode cX11_piece 27 = .ok (.iload_n 2, 1) := by decide +kernel
theorem dX11_piece_28 : decode cX11_piece 28 = .ok (.aload_n 0, 1) := by decide +kernel
theorem dX11_piece_29 : decode cX11_piece 29 = .ok (.getfield 43, 3) := by decide +kernel
theorem dX11_piece_32 : decode cX11_piece 32 = .ok (.getfield 140, 3) := by decide +kernel
theorem dX11_piece_35 : decode cX11_piece 35 = .ok (.if_icmp .lt 5, 3) := by decide +kernel
theorem dX11_piece_38 : decode cX11_piece 38 = .ok (.iconst (-1), 1) := by decide +kernel
theorem dX11_piece_39 : decode cX11_piece 39 = .ok (.ireturn, 1) := by decide +kernel
theorem dX11_piece_40 : decode cX11_piece 40 = .ok (.aload_n 0, 1) := by decide +kernel
theorem dX11_piece_41 : decode cX11_piece 41 = .ok (.getfield 43, 3) := by decide +kernel
theorem dX11_piece_44 : decode cX11_piece 44 = .ok (.getfield 156, 3) := by decide +kernel
theorem dX11_piece_47 : decode cX11_piece 47 = .ok (.iload_n 2, 1) := by decide +kernel
theorem dX11_piece_48 : decode cX11_piece 48 = .ok (.aaload, 1) := by decide +kernel
theorem dX11_piece_49 : decode cX11_piece 49 = .ok (.astore 5, 2) := by decide +kernel
theorem dX11_piece_51 : decode cX11_piece 51 = .ok (.aload_n 0, 1) := by decide +kernel
theorem dX11_piece_52 : decode cX11_piece 52 = .ok (.getfield 43, 3) := by decide +kernel
theorem dX11_piece_55 : decode cX11_piece 55 = .ok (.getfield 160, 3) := by decide +kernel
theorem dX11_piece_58 : decode cX11_piece 58 = .ok (.iload_n 2, 1) := by decide +kernel
theorem dX11_piece_59 : decode cX11_piece 59 = .ok (.aaload, 1) := by decide +kernel
theorem dX11_piece_60 : decode cX11_piece 60 = .ok (.astore 6, 2) := by decide +kernel
theorem dX11_piece_62 : decode cX11_piece 62 = .ok (.iload_n 3, 1) := by decide +kernel
theorem dX11_piece_63 : decode cX11_piece 63 = .ok (.ifCond .ne 9, 3) := by decide +kernel
theorem dX11_piece_66 : decode cX11_piece 66 = .ok (.aload 5, 2) := by decide +kernel
theorem dX11_piece_68 : decode cX11_piece 68 = .ok (.getfield 163, 3) := by decide +kernel
theorem dX11_piece_71 : decode cX11_piece 71 = .ok (.ireturn, 1) := by decide +kernel
theorem dX11_piece_72 : decode cX11_piece 72 = .ok (.iload_n 3, 1) := by decide +kernel
theorem dX11_piece_73 : decode cX11_piece 73 = .ok (.iconst 1, 1) := by decide +kernel
theorem dX11_piece_74 : decode cX11_piece 74 = .ok (.if_icmp .ne 9, 3) := by decide +kernel
theorem dX11_piece_77 : decode cX11_piece 77 = .ok (.aload 6, 2) := by decide +kernel
theorem dX11_piece_79 : decode cX11_piece 79 = .ok (.getfield 163, 3) := by decide +kernel
theorem dX11_piece_82 : decode cX11_piece 82 = .ok (.ireturn, 1) := by decide +kernel
theorem dX11_piece_83 : decode cX11_piece 83 = .ok (.iload_n 3, 1) := by decide +kernel
theorem dX11_piece_84 : decode cX11_piece 84 = .ok (.bipush 30, 2) := by decide +kernel
theorem dX11_piece_86 : decode cX11_piece 86 = .ok (.if_icmp .lt 28, 3) := by decide +kernel
theorem dX11_piece_89 : decode cX11_piece 89 = .ok (.iload_n 3, 1) := by decide +kernel
theorem dX11_piece_90 : decode cX11_piece 90 = .ok (.bipush 30, 2) := by decide +kernel
theorem dX11_piece_92 : decode cX11_piece 92 = .ok (.isub, 1) := by decide +kernel
theorem dX11_piece_93 : decode cX11_piece 93 = .ok (.invokestatic 149, 3) := by decide +kernel
theorem dX11_piece_96 : decode cX11_piece 96 = .ok (.ifCond .eq 15, 3) := by decide +kernel
theorem dX11_piece_99 : decode cX11_piece 99 = .ok (.aload 6, 2) := by decide +kernel
theorem dX11_piece_101 : decode cX11_piece 101 = .ok (.iload_n 3, 1) := by decide +kernel
theorem dX11_piece_102 : decode cX11_piece 102 = .ok (.bipush 30, 2) := by decide +kernel
theorem dX11_piece_104 : decode cX11_piece 104 = .ok (.isub, 1) := by decide +kernel
theorem dX11_piece_105 : decode cX11_piece 105 = .ok (.invokevirtual 168, 3) := by decide +kernel
theorem dX11_piece_108 : decode cX11_piece 108 = .ok (.goto 5, 3) := by decide +kernel
theorem dX11_piece_111 : decode cX11_piece 111 = .ok (.bipush (-2), 2) := by decide +kernel
theorem dX11_piece_113 : decode cX11_piece 113 = .ok (.ireturn, 1) := by decide +kernel
theorem dX11_piece_114 : decode cX11_piece 114 = .ok (.iload_n 3, 1) := by decide +kernel
theorem dX11_piece_115 : decode cX11_piece 115 = .ok (.bipush 10, 2) := by decide +kernel
theorem dX11_piece_117 : decode cX11_piece 117 = .ok (.isub, 1) := by decide +kernel
theorem dX11_piece_118 : decode cX11_piece 118 = .ok (.invokestatic 149, 3) := by decide +kernel
theorem dX11_piece_121 : decode cX11_piece 121 = .ok (.ifCond .eq 15, 3) := by decide +kernel
theorem dX11_piece_124 : decode cX11_piece 124 = .ok (.aload 5, 2) := by decide +kernel
theorem dX11_piece_126 : decode cX11_piece 126 = .ok (.iload_n 3, 1) := by decide +kernel
theorem dX11_piece_127 : decode cX11_piece 127 = .ok (.bipush 10, 2) := by decide +kernel
theorem dX11_piece_129 : decode cX11_piece 129 = .ok (.isub, 1) := by decide +kernel
theorem dX11_piece_130 : decode cX11_piece 130 = .ok (.invokevirtual 168, 3) := by decide +kernel
theorem dX11_piece_133 : decode cX11_piece 133 = .ok (.goto 5, 3) := by decide +kernel
theorem dX11_piece_136 : decode cX11_piece 136 = .ok (.bipush (-2), 2) := by decide +kernel
theorem dX11_piece_138 : decode cX11_piece 138 = .ok (.ireturn, 1) := by decide +kernel
theorem dX11_mark_0 : decode cX11_mark 0 = .ok (.aload_n 0, 1) := by decide +kernel
theorem dX11_mark_1 : decode cX11_mark 1 = .ok (.iload_n 1, 1) := by decide +kernel
theorem dX11_mark_2 : decode cX11_mark 2 = .ok (.invokevirtual 123, 3) := by decide +kernel
theorem dX11_mark_5 : decode cX11_mark 5 = .ok (.astore_n 2, 1) := by decide +kernel
theorem dX11_mark_6 : decode cX11_mark 6 = .ok (.aload_n 2, 1) := by decide +kernel
theorem dX11_mark_7 : decode cX11_mark 7 = .ok (.ifnonnull 5, 3) := by decide +kernel
theorem dX11_mark_10 : decode cX11_mark 10 = .ok (.iconst (-1), 1) := by decide +kernel
theorem dX11_mark_11 : decode cX11_mark 11 = .ok (.ireturn, 1) := by decide +kernel
theorem dX11_mark_12 : decode cX11_mark 12 = .ok (.aload_n 0, 1) := by decide +kernel
theorem dX11_mark_13 : decode cX11_mark 13 = .ok (.getfield 43, 3) := by decide +kernel
theorem dX11_mark_16 : decode cX11_mark 16 = .ok (.aload_n 2, 1) := by decide +kernel
theorem dX11_mark_17 : decode cX11_mark 17 = .ok (.invokevirtual 136, 3) := by decide +kernel
theorem dX11_mark_20 : decode cX11_mark 20 = .ok (.aload_n 0, 1) := by decide +kernel
theorem dX11_mark_21 : decode cX11_mark 21 = .ok (.getfield 43, 3) := by decide +kernel
theorem dX11_mark_24 : decode cX11_mark 24 = .ok (.getfield 140, 3) := by decide +kernel
theorem dX11_mark_27 : decode cX11_mark 27 = .ok (.istore_n 3, 1) := by decide +kernel
theorem dX11_mark_28 : decode cX11_mark 28 = .ok (.iconst 0, 1) := by decide +kernel
theorem dX11_mark_29 : decode cX11_mark 29 = .ok (.istore 4, 2) := by decide +kernel
theorem dX11_mark_31 : decode cX11_mark 31 = .ok (.iload 4, 2) := by decide +kernel
theorem dX11_mark_33 : decode cX11_mark 33 = .ok (.aload_n 0, 1) := by decide +kernel
theorem dX11_mark_34 : decode cX11_mark 34 = .ok (.getfield 43, 3) := by decide +kernel
theorem dX11_mark_37 : decode cX11_mark 37 = .ok (.getfield 140, 3) := by decide +kernel
theorem dX11_mark_40 : decode cX11_mark 40 = .ok (.if_icmp .ge 39, 3) := by decide +kernel
theorem dX11_mark_43 : decode cX11_mark 43 = .ok (.aload_n 0, 1) := by decide +kernel
theorem dX11_mark_44 : decode cX11_mark 44 = .ok (.aload_n 0, 1) := by decide +kernel
theorem dX11_mark_45 : decode cX11_mark 45 = .ok (.iload_n 3, 1) := by decide +kernel
theorem dX11_mark_46 : decode cX11_mark 46 = .ok (.aload_n 0, 1) := by decide +kernel
theorem dX11_mark_47 : decode cX11_mark 47 = .ok (.getfield 43, 3) := by decide +kernel
theorem dX11_mark_50 : decode cX11_mark 50 = .ok (.getfield 156, 3) := by decide +kernel
theorem dX11_mark_53 : decode cX11_mark 53 = .ok (.iload 4, 2) := by decide +kernel
theorem dX11_mark_55 : decode cX11_mark 55 = .ok (.aaload, 1) := by decide +kernel
theorem dX11_mark_56 : decode cX11_mark 56 = .ok (.invokevirtual 171, 3) := by decide +kernel
theorem dX11_mark_59 : decode cX11_mark 59 = .ok (.aload_n 0, 1) := by decide +kernel
theorem dX11_mark_60 : decode cX11_mark 60 = .ok (.getfield 43, 3) := by decide +kernel
theorem dX11_mark_63 : decode cX11_mark 63 = .ok (.getfield 160, 3) := by decide +kernel
theorem dX11_mark_66 : decode cX11_mark 66 = .ok (.iload 4, 2) := by decide +kernel
theorem dX11_mark_68 : decode cX11_mark 68 = .ok (.aaload, 1) := by decide +kernel
theorem dX11_mark_69 : decode cX11_mark 69 = .ok (.invokevirtual 171, 3) := by decide +kernel
theorem dX11_mark_72 : decode cX11_mark 72 = .ok (.istore_n 3, 1) := by decide +kernel
theorem dX11_mark_73 : decode cX11_mark 73 = .ok (.iinc 4 1, 3) := by decide +kernel
theorem dX11_mark_76 : decode cX11_mark 76 = .ok (.goto (-45), 3) := by decide +kernel
theorem dX11_mark_79 : decode cX11_mark 79 = .ok (.iload_n 3, 1) := by decide +kernel
theorem dX11_mark_80 : decode cX11_mark 80 = .ok (.ireturn, 1) := by decide +kernel
theorem dX11_alike_0 : decode cX11_alike 0 = .ok (.aload_n 0, 1) := by decide +kernel
theorem dX11_alike_1 : decode cX11_alike 1 = .ok (.iload_n 1, 1) := by decide +kernel
theorem dX11_alike_2 : decode cX11_alike 2 = .ok (.invokevirtual 123, 3) := by decide +kernel
theorem dX11_alike_5 : decode cX11_alike 5 = .ok (.astore_n 3, 1) := by decide +kernel
theorem dX11_alike_6 : decode cX11_alike 6 = .ok (.aload_n 0, 1) := by decide +kernel
theorem dX11_alike_7 : decode cX11_alike 7 = .ok (.iload_n 2, 1) := by decide +kernel
theorem dX11_alike_8 : decode cX11_alike 8 = .ok (.invokevirtual 123, 3) := by decide +kernel
theorem dX11_alike_11 : decode cX11_alike 11 = .ok (.astore 4, 2) := by decide +kernel
theorem dX11_alike_13 : decode cX11_alike 13 = .ok (.aload_n 3, 1) := by decide +kernel
theorem dX11_alike_14 : decode cX11_alike 14 = .ok (.ifnull 8, 3) := by decide +kernel
theorem dX11_alike_17 : decode cX11_alike 17 = .ok (.aload 4, 2) := by decide +kernel
theorem dX11_alike_19 : decode cX11_alike 19 = .ok (.ifnonnull 5, 3) := by decide +kernel
theorem dX11_alike_22 : decode cX11_alike 22 = .ok (.iconst (-1), 1) := by decide +kernel
theorem dX11_alike_23 : decode cX11_alike 23 = .ok (.ireturn, 1) := by decide +kernel
theorem dX11_alike_24 : decode cX11_alike 24 = .ok (.aload_n 0, 1) := by decide +kernel
theorem dX11_alike_25 : decode cX11_alike 25 = .ok (.getfield 43, 3) := by decide +kernel
theorem dX11_alike_28 : decode cX11_alike 28 = .ok (.aload_n 3, 1) := by decide +kernel
theorem dX11_alike_29 : decode cX11_alike 29 = .ok (.invokevirtual 136, 3) := by decide +kernel
theorem dX11_alike_32 : decode cX11_alike 32 = .ok (.aload_n 0, 1) := by decide +kernel
theorem dX11_alike_33 : decode cX11_alike 33 = .ok (.getfield 47, 3) := by decide +kernel
theorem dX11_alike_36 : decode cX11_alike 36 = .ok (.aload 4, 2) := by decide +kernel
theorem dX11_alike_38 : decode cX11_alike 38 = .ok (.invokevirtual 136, 3) := by decide +kernel
theorem dX11_alike_41 : decode cX11_alike 41 = .ok (.aload_n 0, 1) := by decide +kernel
theorem dX11_alike_42 : decode cX11_alike 42 = .ok (.getfield 43, 3) := by decide +kernel
theorem dX11_alike_45 : decode cX11_alike 45 = .ok (.aload_n 0, 1) := by decide +kernel
theorem dX11_alike_46 : decode cX11_alike 46 = .ok (.getfield 47, 3) := by decide +kernel
theorem dX11_alike_49 : decode cX11_alike 49 = .ok (.invokevirtual 175, 3) := by decide +kernel
theorem dX11_alike_52 : decode cX11_alike 52 = .ok (.ifCond .eq 7, 3) := by decide +kernel
theorem dX11_alike_55 : decode cX11_alike 55 = .ok (.iconst 1, 1) := by decide +kernel
theorem dX11_alike_56 : decode cX11_alike 56 = .ok (.goto 4, 3) := by decide +kernel
theorem dX11_alike_59 : decode cX11_alike 59 = .ok (.iconst 0, 1) := by decide +kernel
theorem dX11_alike_60 : decode cX11_alike 60 = .ok (.ireturn, 1) := by decide +kernel
theorem dX11_fork_0 : decode cX11_fork 0 = .ok (.aload_n 0, 1) := by decide +kernel
theorem dX11_fork_1 : decode cX11_fork 1 = .ok (.iload_n 1, 1) := by decide +kernel
theorem dX11_fork_2 : decode cX11_fork 2 = .ok (.invokevirtual 123, 3) := by decide +kernel
theorem dX11_fork_5 : decode cX11_fork 5 = .ok (.astore_n 3, 1) := by decide +kernel
theorem dX11_fork_6 : decode cX11_fork 6 = .ok (.aload_n 0, 1) := by decide +kernel
theorem dX11_fork_7 : decode cX11_fork 7 = .ok (.iload_n 2, 1) := by decide +kernel
theorem dX11_fork_8 : decode cX11_fork 8 = .ok (.invokevirtual 123, 3) := by decide +kernel
theorem dX11_fork_11 : decode cX11_fork 11 = .ok (.astore 4, 2) := by decide +kernel
theorem dX11_fork_13 : decode cX11_fork 13 = .ok (.aload_n 3, 1) := by decide +kernel
theorem dX11_fork_14 : decode cX11_fork 14 = .ok (.ifnull 8, 3) := by decide +kernel
theorem dX11_fork_17 : decode cX11_fork 17 = .ok (.aload 4, 2) := by decide +kernel
theorem dX11_fork_19 : decode cX11_fork 19 = .ok (.ifnonnull 5, 3) := by decide +kernel
theorem dX11_fork_22 : decode cX11_fork 22 = .ok (.iconst (-1), 1) := by decide +kernel
theorem dX11_fork_23 : decode cX11_fork 23 = .ok (.ireturn, 1) := by decide +kernel
theorem dX11_fork_24 : decode cX11_fork 24 = .ok (.aload_n 3, 1) := by decide +kernel
theorem dX11_fork_25 : decode cX11_fork 25 = .ok (.astore 5, 2) := by decide +kernel
theorem dX11_fork_27 : decode cX11_fork 27 = .ok (.aload 5, 2) := by decide +kernel
theorem dX11_fork_29 : decode cX11_fork 29 = .ok (.ifnull 29, 3) := by decide +kernel
theorem dX11_fork_32 : decode cX11_fork 32 = .ok (.aload 5, 2) := by decide +kernel
theorem dX11_fork_34 : decode cX11_fork 34 = .ok (.aload 4, 2) := by decide +kernel
theorem dX11_fork_36 : decode cX11_fork 36 = .ok (.invokevirtual 179, 3) := by decide +kernel
theorem dX11_fork_39 : decode cX11_fork 39 = .ok (.ifCond .eq 9, 3) := by decide +kernel
theorem dX11_fork_42 : decode cX11_fork 42 = .ok (.aload 5, 2) := by decide +kernel
theorem dX11_fork_44 : decode cX11_fork 44 = .ok (.getfield 120, 3) := by decide +kernel
theorem dX11_fork_47 : decode cX11_fork 47 = .ok (.ireturn, 1) := by decide +kernel
theorem dX11_fork_48 : decode cX11_fork 48 = .ok (.aload 5, 2) := by decide +kernel
theorem dX11_fork_50 : decode cX11_fork 50 = .ok (.getfield 129, 3) := by decide +kernel
theorem dX11_fork_53 : decode cX11_fork 53 = .ok (.astore 5, 2) := by decide +kernel
theorem dX11_fork_55 : decode cX11_fork 55 = .ok (.goto (-28), 3) := by decide +kernel
theorem dX11_fork_58 : decode cX11_fork 58 = .ok (.iconst 0, 1) := by decide +kernel
theorem dX11_fork_59 : decode cX11_fork 59 = .ok (.ireturn, 1) := by decide +kernel
theorem dX11_ahead_0 : decode cX11_ahead 0 = .ok (.aload_n 0, 1) := by decide +kernel
theorem dX11_ahead_1 : decode cX11_ahead 1 = .ok (.iload_n 1, 1) := by decide +kernel
theorem dX11_ahead_2 : decode cX11_ahead 2 = .ok (.invokevirtual 123, 3) := by decide +kernel
theorem dX11_ahead_5 : decode cX11_ahead 5 = .ok (.astore_n 3, 1) := by decide +kernel
theorem dX11_ahead_6 : decode cX11_ahead 6 = .ok (.aload_n 0, 1) := by decide +kernel
theorem dX11_ahead_7 : decode cX11_ahead 7 = .ok (.iload_n 2, 1) := by decide +kernel
theorem dX11_ahead_8 : decode cX11_ahead 8 = .ok (.invokevirtual 123, 3) := by decide +kernel
theorem dX11_ahead_11 : decode cX11_ahead 11 = .ok (.astore 4, 2) := by decide +kernel
theorem dX11_ahead_13 : decode cX11_ahead 13 = .ok (.aload_n 3, 1) := by decide +kernel
theorem dX11_ahead_14 : decode cX11_ahead 14 = .ok (.ifnull 8, 3) := by decide +kernel
theorem dX11_ahead_17 : decode cX11_ahead 17 = .ok (.aload 4, 2) := by decide +kernel
theorem dX11_ahead_19 : decode cX11_ahead 19 = .ok (.ifnonnull 7, 3) := by decide +kernel
theorem dX11_ahead_22 : decode cX11_ahead 22 = .ok (.iconst (-1), 1) := by decide +kernel
theorem dX11_ahead_23 : decode cX11_ahead 23 = .ok (.goto 9, 3) := by decide +kernel
theorem dX11_ahead_26 : decode cX11_ahead 26 = .ok (.aload_n 3, 1) := by decide +kernel
theorem dX11_ahead_27 : decode cX11_ahead 27 = .ok (.aload 4, 2) := by decide +kernel
theorem dX11_ahead_29 : decode cX11_ahead 29 = .ok (.invokevirtual 183, 3) := by decide +kernel
theorem dX11_ahead_32 : decode cX11_ahead 32 = .ok (.ireturn, 1) := by decide +kernel
theorem dX11_swaps_0 : decode cX11_swaps 0 = .ok (.aload_n 0, 1) := by decide +kernel
theorem dX11_swaps_1 : decode cX11_swaps 1 = .ok (.iload_n 1, 1) := by decide +kernel
theorem dX11_swaps_2 : decode cX11_swaps 2 = .ok (.invokevirtual 123, 3) := by decide +kernel
theorem dX11_swaps_5 : decode cX11_swaps 5 = .ok (.astore_n 2, 1) := by decide +kernel
theorem dX11_swaps_6 : decode cX11_swaps 6 = .ok (.aload_n 2, 1) := by decide +kernel
theorem dX11_swaps_7 : decode cX11_swaps 7 = .ok (.ifnonnull 5, 3) := by decide +kernel
theorem dX11_swaps_10 : decode cX11_swaps 10 = .ok (.iconst (-1), 1) := by decide +kernel
theorem dX11_swaps_11 : decode cX11_swaps 11 = .ok (.ireturn, 1) := by decide +kernel
theorem dX11_swaps_12 : decode cX11_swaps 12 = .ok (.aload_n 2, 1) := by decide +kernel
theorem dX11_swaps_13 : decode cX11_swaps 13 = .ok (.getfield 129, 3) := by decide +kernel
theorem dX11_swaps_16 : decode cX11_swaps 16 = .ok (.astore_n 3, 1) := by decide +kernel
theorem dX11_swaps_17 : decode cX11_swaps 17 = .ok (.aload_n 3, 1) := by decide +kernel
theorem dX11_swaps_18 : decode cX11_swaps 18 = .ok (.ifnonnull 7, 3) := by decide +kernel
theorem dX11_swaps_21 : decode cX11_swaps 21 = .ok (.aconst_null, 1) := by decide +kernel
theorem dX11_swaps_22 : decode cX11_swaps 22 = .ok (.goto 7, 3) := by decide +kernel
theorem dX11_swaps_25 : decode cX11_swaps 25 = .ok (.aload_n 3, 1) := by decide +kernel
theorem dX11_swaps_26 : decode cX11_swaps 26 = .ok (.getfield 129, 3) := by decide +kernel
theorem dX11_swaps_29 : decode cX11_swaps 29 = .ok (.astore 4, 2) := by decide +kernel
theorem dX11_swaps_31 : decode cX11_swaps 31 = .ok (.aload_n 3, 1) := by decide +kernel
theorem dX11_swaps_32 : decode cX11_swaps 32 = .ok (.ifnull 8, 3) := by decide +kernel
theorem dX11_swaps_35 : decode cX11_swaps 35 = .ok (.aload 4, 2) := by decide +kernel
theorem dX11_swaps_37 : decode cX11_swaps 37 = .ok (.ifnonnull 6, 3) := by decide +kernel
theorem dX11_swaps_40 : decode cX11_swaps 40 = .ok (.bipush (-3), 2) := by decide +kernel
theorem dX11_swaps_42 : decode cX11_swaps 42 = .ok (.ireturn, 1) := by decide +kernel
theorem dX11_swaps_43 : decode cX11_swaps 43 = .ok (.aload_n 0, 1) := by decide +kernel
theorem dX11_swaps_44 : decode cX11_swaps 44 = .ok (.getfield 36, 3) := by decide +kernel
theorem dX11_swaps_47 : decode cX11_swaps 47 = .ok (.aload_n 3, 1) := by decide +kernel
theorem dX11_swaps_48 : decode cX11_swaps 48 = .ok (.getfield 133, 3) := by decide +kernel
theorem dX11_swaps_51 : decode cX11_swaps 51 = .ok (.aload 4, 2) := by decide +kernel
theorem dX11_swaps_53 : decode cX11_swaps 53 = .ok (.getfield 133, 3) := by decide +kernel
theorem dX11_swaps_56 : decode cX11_swaps 56 = .ok (.aload_n 2, 1) := by decide +kernel
theorem dX11_swaps_57 : decode cX11_swaps 57 = .ok (.getfield 133, 3) := by decide +kernel
theorem dX11_swaps_60 : decode cX11_swaps 60 = .ok (.bipush (-9), 2) := by decide +kernel
theorem dX11_swaps_62 : decode cX11_swaps 62 = .ok (.invokevirtual 187, 3) := by decide +kernel
theorem dX11_swaps_65 : decode cX11_swaps 65 = .ok (.aload_n 0, 1) := by decide +kernel
theorem dX11_swaps_66 : decode cX11_swaps 66 = .ok (.getfield 36, 3) := by decide +kernel
theorem dX11_swaps_69 : decode cX11_swaps 69 = .ok (.getfield 191, 3) := by decide +kernel
theorem dX11_swaps_72 : decode cX11_swaps 72 = .ok (.ifCond .gt 15, 3) := by decide +kernel
theorem dX11_swaps_75 : decode cX11_swaps 75 = .ok (.aload_n 0, 1) := by decide +kernel
theorem dX11_swaps_76 : decode cX11_swaps 76 = .ok (.getfield 36, 3) := by decide +kernel
theorem dX11_swaps_79 : decode cX11_swaps 79 = .ok (.getfield 194, 3) := by decide +kernel
theorem dX11_swaps_82 : decode cX11_swaps 82 = .ok (.bipush 16, 2) := by decide +kernel
theorem dX11_swaps_84 : decode cX11_swaps 84 = .ok (.if_icmp .le 5, 3) := by decide +kernel
theorem dX11_swaps_87 : decode cX11_swaps 87 = .ok (.iconst 0, 1) := by decide +kernel
theorem dX11_swaps_88 : decode cX11_swaps 88 = .ok (.ireturn, 1) := by decide +kernel
theorem dX11_swaps_89 : decode cX11_swaps 89 = .ok (.aload_n 0, 1) := by decide +kernel
theorem dX11_swaps_90 : decode cX11_swaps 90 = .ok (.getfield 36, 3) := by decide +kernel
theorem dX11_swaps_93 : decode cX11_swaps 93 = .ok (.invokevirtual 195, 3) := by decide +kernel
theorem dX11_swaps_96 : decode cX11_swaps 96 = .ok (.astore 5, 2) := by decide +kernel
theorem dX11_swaps_98 : decode cX11_swaps 98 = .ok (.aload_n 0, 1) := by decide +kernel
theorem dX11_swaps_99 : decode cX11_swaps 99 = .ok (.getfield 36, 3) := by decide +kernel
theorem dX11_swaps_102 : decode cX11_swaps 102 = .ok (.aload 4, 2) := by decide +kernel
theorem dX11_swaps_104 : decode cX11_swaps 104 = .ok (.getfield 133, 3) := by decide +kernel
theorem dX11_swaps_107 : decode cX11_swaps 107 = .ok (.aload 5, 2) := by decide +kernel
theorem dX11_swaps_109 : decode cX11_swaps 109 = .ok (.aload_n 3, 1) := by decide +kernel
theorem dX11_swaps_110 : decode cX11_swaps 110 = .ok (.getfield 133, 3) := by decide +kernel
theorem dX11_swaps_113 : decode cX11_swaps 113 = .ok (.bipush (-9), 2) := by decide +kernel
theorem dX11_swaps_115 : decode cX11_swaps 115 = .ok (.invokevirtual 187, 3) := by decide +kernel
theorem dX11_swaps_118 : decode cX11_swaps 118 = .ok (.aload_n 0, 1) := by decide +kernel
theorem dX11_swaps_119 : decode cX11_swaps 119 = .ok (.getfield 36, 3) := by decide +kernel
theorem dX11_swaps_122 : decode cX11_swaps 122 = .ok (.getfield 191, 3) := by decide +kernel
theorem dX11_swaps_125 : decode cX11_swaps 125 = .ok (.ifCond .ne 21, 3) := by decide +kernel
theorem dX11_swaps_128 : decode cX11_swaps 128 = .ok (.aload_n 0, 1) := by decide +kernel
theorem dX11_swaps_129 : decode cX11_swaps 129 = .ok (.getfield 36, 3) := by decide +kernel
theorem dX11_swaps_132 : decode cX11_swaps 132 = .ok (.aload_n 2, 1) := by decide +kernel
theorem dX11_swaps_133 : decode cX11_swaps 133 = .ok (.getfield 133, 3) := by decide +kernel
theorem dX11_swaps_136 : decode cX11_swaps 136 = .ok (.invokevirtual 199, 3) := by decide +kernel
theorem dX11_swaps_139 : decode cX11_swaps 139 = .ok (.ifCond .eq 7, 3) := by decide +kernel
theorem dX11_swaps_142 : decode cX11_swaps 142 = .ok (.iconst 1, 1) := by decide +kernel
theorem dX11_swaps_143 : decode cX11_swaps 143 = .ok (.goto 4, 3) := by decide +kernel
theorem dX11_swaps_146 : decode cX11_swaps 146 = .ok (.iconst 0, 1) := by decide +kernel
theorem dX11_swaps_147 : decode cX11_swaps 147 = .ok (.ireturn, 1) := by decide +kernel
theorem dX11_tip_0 : decode cX11_tip 0 = .ok (.aload_n 0, 1) := by decide +kernel
theorem dX11_tip_1 : decode cX11_tip 1 = .ok (.iload_n 1, 1) := by decide +kernel
theorem dX11_tip_2 : decode cX11_tip 2 = .ok (.invokevirtual 81, 3) := by decide +kernel
theorem dX11_tip_5 : decode cX11_tip 5 = .ok (.astore_n 2, 1) := by decide +kernel
theorem dX11_tip_6 : decode cX11_tip 6 = .ok (.aload_n 2, 1) := by decide +kernel
theorem dX11_tip_7 : decode cX11_tip 7 = .ok (.ifnonnull 7, 3) := by decide +kernel
theorem dX11_tip_10 : decode cX11_tip 10 = .ok (.iconst (-1), 1) := by decide +kernel
theorem dX11_tip_11 : decode cX11_tip 11 = .ok (.goto 7, 3) := by decide +kernel
theorem dX11_tip_14 : decode cX11_tip 14 = .ok (.aload_n 2, 1) := by decide +kernel
theorem dX11_tip_15 : decode cX11_tip 15 = .ok (.getfield 120, 3) := by decide +kernel
theorem dX11_tip_18 : decode cX11_tip 18 = .ok (.ireturn, 1) := by decide +kernel
theorem dX11_point_0 : decode cX11_point 0 = .ok (.aload_n 0, 1) := by decide +kernel
theorem dX11_point_1 : decode cX11_point 1 = .ok (.iload_n 1, 1) := by decide +kernel
theorem dX11_point_2 : decode cX11_point 2 = .ok (.invokevirtual 81, 3) := by decide +kernel
theorem dX11_point_5 : decode cX11_point 5 = .ok (.astore_n 3, 1) := by decide +kernel
theorem dX11_point_6 : decode cX11_point 6 = .ok (.aload_n 0, 1) := by decide +kernel
theorem dX11_point_7 : decode cX11_point 7 = .ok (.iload_n 2, 1) := by decide +kernel
theorem dX11_point_8 : decode cX11_point 8 = .ok (.invokevirtual 123, 3) := by decide +kernel
theorem dX11_point_11 : decode cX11_point 11 = .ok (.astore 4, 2) := by decide +kernel
theorem dX11_point_13 : decode cX11_point 13 = .ok (.aload_n 3, 1) := by decide +kernel
theorem dX11_point_14 : decode cX11_point 14 = .ok (.ifnull 8, 3) := by decide +kernel
theorem dX11_point_17 : decode cX11_point 17 = .ok (.aload 4, 2) := by decide +kernel
theorem dX11_point_19 : decode cX11_point 19 = .ok (.ifnonnull 5, 3) := by decide +kernel
theorem dX11_point_22 : decode cX11_point 22 = .ok (.iconst (-1), 1) := by decide +kernel
theorem dX11_point_23 : decode cX11_point 23 = .ok (.ireturn, 1) := by decide +kernel
theorem dX11_point_24 : decode cX11_point 24 = .ok (.aload_n 0, 1) := by decide +kernel
theorem dX11_point_25 : decode cX11_point 25 = .ok (.invokevirtual 89, 3) := by decide +kernel
theorem dX11_point_28 : decode cX11_point 28 = .ok (.ifCond .eq 6, 3) := by decide +kernel
theorem dX11_point_31 : decode cX11_point 31 = .ok (.bipush (-3), 2) := by decide +kernel
theorem dX11_point_33 : decode cX11_point 33 = .ok (.ireturn, 1) := by decide +kernel
theorem dX11_point_34 : decode cX11_point 34 = .ok (.aload_n 0, 1) := by decide +kernel
theorem dX11_point_35 : decode cX11_point 35 = .ok (.getfield 24, 3) := by decide +kernel
theorem dX11_point_38 : decode cX11_point 38 = .ok (.iload_n 1, 1) := by decide +kernel
theorem dX11_point_39 : decode cX11_point 39 = .ok (.aload 4, 2) := by decide +kernel
theorem dX11_point_41 : decode cX11_point 41 = .ok (.aastore, 1) := by decide +kernel
theorem dX11_point_42 : decode cX11_point 42 = .ok (.aload_n 3, 1) := by decide +kernel
theorem dX11_point_43 : decode cX11_point 43 = .ok (.getfield 120, 3) := by decide +kernel
theorem dX11_point_46 : decode cX11_point 46 = .ok (.ireturn, 1) := by decide +kernel
theorem dX11_anew_0 : decode cX11_anew 0 = .ok (.aload_n 0, 1) := by decide +kernel
theorem dX11_anew_1 : decode cX11_anew 1 = .ok (.invokevirtual 89, 3) := by decide +kernel
theorem dX11_anew_4 : decode cX11_anew 4 = .ok (.ifCond .eq 6, 3) := by decide +kernel
theorem dX11_anew_7 : decode cX11_anew 7 = .ok (.bipush (-3), 2) := by decide +kernel
theorem dX11_anew_9 : decode cX11_anew 9 = .ok (.ireturn, 1) := by decide +kernel
theorem dX11_anew_10 : decode cX11_anew 10 = .ok (.aload_n 0, 1) := by decide +kernel
theorem dX11_anew_11 : decode cX11_anew 11 = .ok (.getfield 105, 3) := by decide +kernel
theorem dX11_anew_14 : decode cX11_anew 14 = .ok (.istore_n 1, 1) := by decide +kernel
theorem dX11_anew_15 : decode cX11_anew 15 = .ok (.aload_n 0, 1) := by decide +kernel
theorem dX11_anew_16 : decode cX11_anew 16 = .ok (.iconst 0, 1) := by decide +kernel
theorem dX11_anew_17 : decode cX11_anew 17 = .ok (.invokevirtual 203, 3) := by decide +kernel
theorem dX11_anew_20 : decode cX11_anew 20 = .ok (.aload_n 0, 1) := by decide +kernel
theorem dX11_anew_21 : decode cX11_anew 21 = .ok (.getfield 36, 3) := by decide +kernel
theorem dX11_anew_24 : decode cX11_anew 24 = .ok (.iconst 0, 1) := by decide +kernel
theorem dX11_anew_25 : decode cX11_anew 25 = .ok (.putfield 207, 3) := by decide +kernel
theorem dX11_anew_28 : decode cX11_anew 28 = .ok (.aload_n 0, 1) := by decide +kernel
theorem dX11_anew_29 : decode cX11_anew 29 = .ok (.getfield 64, 3) := by decide +kernel
theorem dX11_anew_32 : decode cX11_anew 32 = .ok (.getfield 210, 3) := by decide +kernel
theorem dX11_anew_35 : decode cX11_anew 35 = .ok (.iconst 0, 1) := by decide +kernel
theorem dX11_anew_36 : decode cX11_anew 36 = .ok (.invokestatic 213, 3) := by decide +kernel
theorem dX11_anew_39 : decode cX11_anew 39 = .ok (.aload_n 0, 1) := by decide +kernel
theorem dX11_anew_40 : decode cX11_anew 40 = .ok (.invokevirtual 55, 3) := by decide +kernel
theorem dX11_anew_43 : decode cX11_anew 43 = .ok (.pop, 1) := by decide +kernel
theorem dX11_anew_44 : decode cX11_anew 44 = .ok (.iload_n 1, 1) := by decide +kernel
theorem dX11_anew_45 : decode cX11_anew 45 = .ok (.ireturn, 1) := by decide +kernel
theorem dX11_merge_0 : decode cX11_merge 0 = .ok (.aload_n 0, 1) := by decide +kernel
theorem dX11_merge_1 : decode cX11_merge 1 = .ok (.iload_n 1, 1) := by decide +kernel
theorem dX11_merge_2 : decode cX11_merge 2 = .ok (.invokevirtual 123, 3) := by decide +kernel
theorem dX11_merge_5 : decode cX11_merge 5 = .ok (.astore 5, 2) := by decide +kernel
theorem dX11_merge_7 : decode cX11_merge 7 = .ok (.aload_n 0, 1) := by decide +kernel
theorem dX11_merge_8 : decode cX11_merge 8 = .ok (.iload_n 2, 1) := by decide +kernel
theorem dX11_merge_9 : decode cX11_merge 9 = .ok (.invokevirtual 123, 3) := by decide +kernel
theorem dX11_merge_12 : decode cX11_merge 12 = .ok (.astore 6, 2) := by decide +kernel
theorem dX11_merge_14 : decode cX11_merge 14 = .ok (.aload_n 0, 1) := by decide +kernel
theorem dX11_merge_15 : decode cX11_merge 15 = .ok (.iload_n 3, 1) := by decide +kernel
theorem dX11_merge_16 : decode cX11_merge 16 = .ok (.invokevirtual 123, 3) := by decide +kernel
theorem dX11_merge_19 : decode cX11_merge 19 = .ok (.astore 7, 2) := by decide +kernel
theorem dX11_merge_21 : decode cX11_merge 21 = .ok (.aload 5, 2) := by decide +kernel
theorem dX11_merge_23 : decode cX11_merge 23 = .ok (.ifnull 13, 3) := by decide +kernel
theorem dX11_merge_26 : decode cX11_merge 26 = .ok (.aload 6, 2) := by decide +kernel
theorem dX11_merge_28 : decode cX11_merge 28 = .ok (.ifnull 8, 3) := by decide +kernel
theorem dX11_merge_31 : decode cX11_merge 31 = .ok (.aload 7, 2) := by decide +kernel
theorem dX11_merge_33 : decode cX11_merge 33 = .ok (.ifnonnull 5, 3) := by decide +kernel
theorem dX11_merge_36 : decode cX11_merge 36 = .ok (.iconst (-1), 1) := by decide +kernel
theorem dX11_merge_37 : decode cX11_merge 37 = .ok (.ireturn, 1) := by decide +kernel
theorem dX11_merge_38 : decode cX11_merge 38 = .ok (.iload 4, 2) := by decide +kernel
theorem dX11_merge_40 : decode cX11_merge 40 = .ok (.ifCond .lt 9, 3) := by decide +kernel
theorem dX11_merge_43 : decode cX11_merge 43 = .ok (.iload 4, 2) := by decide +kernel
theorem dX11_merge_45 : decode cX11_merge 45 = .ok (.iconst 2, 1) := by decide +kernel
theorem dX11_merge_46 : decode cX11_merge 46 = .ok (.if_icmp .le 17, 3) := by decide +kernel
theorem dX11_merge_49 : decode cX11_merge 49 = .ok (.iload 4, 2) := by decide +kernel
theorem dX11_merge_51 : decode cX11_merge 51 = .ok (.bipush 10, 2) := by decide +kernel
theorem dX11_merge_53 : decode cX11_merge 53 = .ok (.isub, 1) := by decide +kernel
theorem dX11_merge_54 : decode cX11_merge 54 = .ok (.invokestatic 149, 3) := by decide +kernel
theorem dX11_merge_57 : decode cX11_merge 57 = .ok (.ifCond .ne 6, 3) := by decide +kernel
theorem dX11_merge_60 : decode cX11_merge 60 = .ok (.bipush (-2), 2) := by decide +kernel
theorem dX11_merge_62 : decode cX11_merge 62 = .ok (.ireturn, 1) := by decide +kernel
theorem dX11_merge_63 : decode cX11_merge 63 = .ok (.aload_n 0, 1) := by decide +kernel
theorem dX11_merge_64 : decode cX11_merge 64 = .ok (.getfield 36, 3) := by decide +kernel
theorem dX11_merge_67 : decode cX11_merge 67 = .ok (.aload 5, 2) := by decide +kernel
theorem dX11_merge_69 : decode cX11_merge 69 = .ok (.getfield 133, 3) := by decide +kernel
theorem dX11_merge_72 : decode cX11_merge 72 = .ok (.aload 6, 2) := by decide +kernel
theorem dX11_merge_74 : decode cX11_merge 74 = .ok (.getfield 133, 3) := by decide +kernel
theorem dX11_merge_77 : decode cX11_merge 77 = .ok (.aload 7, 2) := by decide +kernel
theorem dX11_merge_79 : decode cX11_merge 79 = .ok (.getfield 133, 3) := by decide +kernel
theorem dX11_merge_82 : decode cX11_merge 82 = .ok (.bipush (-9), 2) := by decide +kernel
theorem dX11_merge_84 : decode cX11_merge 84 = .ok (.invokevirtual 187, 3) := by decide +kernel
theorem dX11_merge_87 : decode cX11_merge 87 = .ok (.iload 4, 2) := by decide +kernel
theorem dX11_merge_89 : decode cX11_merge 89 = .ok (.ifCond .ne 11, 3) := by decide +kernel
theorem dX11_merge_92 : decode cX11_merge 92 = .ok (.aload_n 0, 1) := by decide +kernel
theorem dX11_merge_93 : decode cX11_merge 93 = .ok (.getfield 36, 3) := by decide +kernel
theorem dX11_merge_96 : decode cX11_merge 96 = .ok (.getfield 191, 3) := by decide +kernel
theorem dX11_merge_99 : decode cX11_merge 99 = .ok (.ireturn, 1) := by decide +kernel
theorem dX11_merge_100 : decode cX11_merge 100 = .ok (.iload 4, 2) := by decide +kernel
theorem dX11_merge_102 : decode cX11_merge 102 = .ok (.iconst 1, 1) := by decide +kernel
theorem dX11_merge_103 : decode cX11_merge 103 = .ok (.if_icmp .ne 11, 3) := by decide +kernel
theorem dX11_merge_106 : decode cX11_merge 106 = .ok (.aload_n 0, 1) := by decide +kernel
theorem dX11_merge_107 : decode cX11_merge 107 = .ok (.getfield 36, 3) := by decide +kernel
theorem dX11_merge_110 : decode cX11_merge 110 = .ok (.getfield 219, 3) := by decide +kernel
theorem dX11_merge_113 : decode cX11_merge 113 = .ok (.ireturn, 1) := by decide +kernel
theorem dX11_merge_114 : decode cX11_merge 114 = .ok (.aload_n 0, 1) := by decide +kernel
theorem dX11_merge_115 : decode cX11_merge 115 = .ok (.getfield 36, 3) := by decide +kernel
theorem dX11_merge_118 : decode cX11_merge 118 = .ok (.getfield 219, 3) := by decide +kernel
theorem dX11_merge_121 : decode cX11_merge 121 = .ok (.ifCond .le 6, 3) := by decide +kernel
theorem dX11_merge_124 : decode cX11_merge 124 = .ok (.bipush (-9), 2) := by decide +kernel
theorem dX11_merge_126 : decode cX11_merge 126 = .ok (.ireturn, 1) := by decide +kernel
theorem dX11_merge_127 : decode cX11_merge 127 = .ok (.iload 4, 2) := by decide +kernel
theorem dX11_merge_129 : decode cX11_merge 129 = .ok (.iconst 2, 1) := by decide +kernel
theorem dX11_merge_130 : decode cX11_merge 130 = .ok (.if_icmp .ne 13, 3) := by decide +kernel
theorem dX11_merge_133 : decode cX11_merge 133 = .ok (.aload_n 0, 1) := by decide +kernel
theorem dX11_merge_134 : decode cX11_merge 134 = .ok (.getfield 36, 3) := by decide +kernel
theorem dX11_merge_137 : decode cX11_merge 137 = .ok (.getfield 194, 3) := by decide +kernel
theorem dX11_merge_140 : decode cX11_merge 140 = .ok (.goto 15, 3) := by decide +kernel
theorem dX11_merge_143 : decode cX11_merge 143 = .ok (.aload_n 0, 1) := by decide +kernel
theorem dX11_merge_144 : decode cX11_merge 144 = .ok (.getfield 36, 3) := by decide +kernel
theorem dX11_merge_147 : decode cX11_merge 147 = .ok (.iload 4, 2) := by decide +kernel
theorem dX11_merge_149 : decode cX11_merge 149 = .ok (.bipush 10, 2) := by decide +kernel
theorem dX11_merge_151 : decode cX11_merge 151 = .ok (.isub, 1) := by decide +kernel
theorem dX11_merge_152 : decode cX11_merge 152 = .ok (.invokevirtual 222, 3) := by decide +kernel
theorem dX11_merge_155 : decode cX11_merge 155 = .ok (.ireturn, 1) := by decide +kernel
theorem dX11_resolution_0 : decode cX11_resolution 0 = .ok (.aload_n 0, 1) := by decide +kernel
theorem dX11_resolution_1 : decode cX11_resolution 1 = .ok (.getfield 36, 3) := by decide +kernel
theorem dX11_resolution_4 : decode cX11_resolution 4 = .ok (.iload_n 1, 1) := by decide +kernel
theorem dX11_resolution_5 : decode cX11_resolution 5 = .ok (.invokevirtual 225, 3) := by decide +kernel
theorem dX11_resolution_8 : decode cX11_resolution 8 = .ok (.astore_n 3, 1) := by decide +kernel
theorem dX11_resolution_9 : decode cX11_resolution 9 = .ok (.aload_n 3, 1) := by decide +kernel
theorem dX11_resolution_10 : decode cX11_resolution 10 = .ok (.ifnonnull 5, 3) := by decide +kernel
theorem dX11_resolution_13 : decode cX11_resolution 13 = .ok (.iconst (-1), 1) := by decide +kernel
theorem dX11_resolution_14 : decode cX11_resolution 14 = .ok (.ireturn, 1) := by decide +kernel
theorem dX11_resolution_15 : decode cX11_resolution 15 = .ok (.iload_n 2, 1) := by decide +kernel
theorem dX11_resolution_16 : decode cX11_resolution 16 = .ok (.ifCond .ne 9, 3) := by decide +kernel
theorem dX11_resolution_19 : decode cX11_resolution 19 = .ok (.aload_n 3, 1) := by decide +kernel
theorem dX11_resolution_20 : decode cX11_resolution 20 = .ok (.getfield 229, 3) := by decide +kernel
theorem dX11_resolution_23 : decode cX11_resolution 23 = .ok (.arraylength, 1) := by decide +kernel
theorem dX11_resolution_24 : decode cX11_resolution 24 = .ok (.ireturn, 1) := by decide +kernel
theorem dX11_resolution_25 : decode cX11_resolution 25 = .ok (.iload_n 2, 1) := by decide +kernel
theorem dX11_resolution_26 : decode cX11_resolution 26 = .ok (.iconst 1, 1) := by decide +kernel
theorem dX11_resolution_27 : decode cX11_resolution 27 = .ok (.if_icmp .ne 9, 3) := by decide +kernel
theorem dX11_resolution_30 : decode cX11_resolution 30 = .ok (.aload_n 3, 1) := by decide +kernel
theorem dX11_resolution_31 : decode cX11_resolution 31 = .ok (.getfield 234, 3) := by decide +kernel
theorem dX11_resolution_34 : decode cX11_resolution 34 = .ok (.arraylength, 1) := by decide +kernel
theorem dX11_resolution_35 : decode cX11_resolution 35 = .ok (.ireturn, 1) := by decide +kernel
theorem dX11_resolution_36 : decode cX11_resolution 36 = .ok (.iload_n 2, 1) := by decide +kernel
theorem dX11_resolution_37 : decode cX11_resolution 37 = .ok (.bipush 70, 2) := by decide +kernel
theorem dX11_resolution_39 : decode cX11_resolution 39 = .ok (.if_icmp .lt 21, 3) := by decide +kernel
theorem dX11_resolution_42 : decode cX11_resolution 42 = .ok (.iload_n 2, 1) := by decide +kernel
theorem dX11_resolution_43 : decode cX11_resolution 43 = .ok (.bipush 76, 2) := by decide +kernel
theorem dX11_resolution_45 : decode cX11_resolution 45 = .ok (.if_icmp .ge 15, 3) := by decide +kernel
theorem dX11_resolution_48 : decode cX11_resolution 48 = .ok (.aload_n 3, 1) := by decide +kernel
theorem dX11_resolution_49 : decode cX11_resolution 49 = .ok (.getfield 234, 3) := by decide +kernel
theorem dX11_resolution_52 : decode cX11_resolution 52 = .ok (.iload_n 2, 1) := by decide +kernel
theorem dX11_resolution_53 : decode cX11_resolution 53 = .ok (.bipush 70, 2) := by decide +kernel
theorem dX11_resolution_55 : decode cX11_resolution 55 = .ok (.isub, 1) := by decide +kernel
theorem dX11_resolution_56 : decode cX11_resolution 56 = .ok (.invokestatic 152, 3) := by decide +kernel
theorem dX11_resolution_59 : decode cX11_resolution 59 = .ok (.ireturn, 1) := by decide +kernel
theorem dX11_resolution_60 : decode cX11_resolution 60 = .ok (.iload_n 2, 1) := by decide +kernel
theorem dX11_resolution_61 : decode cX11_resolution 61 = .ok (.bipush 10, 2) := by decide +kernel
theorem dX11_resolution_63 : decode cX11_resolution 63 = .ok (.isub, 1) := by decide +kernel
theorem dX11_resolution_64 : decode cX11_resolution 64 = .ok (.invokestatic 235, 3) := by decide +kernel
theorem dX11_resolution_67 : decode cX11_resolution 67 = .ok (.ifCond .eq 17, 3) := by decide +kernel
theorem dX11_resolution_70 : decode cX11_resolution 70 = .ok (.aload_n 3, 1) := by decide +kernel
theorem dX11_resolution_71 : decode cX11_resolution 71 = .ok (.getfield 229, 3) := by decide +kernel
theorem dX11_resolution_74 : decode cX11_resolution 74 = .ok (.iload_n 2, 1) := by decide +kernel
theorem dX11_resolution_75 : decode cX11_resolution 75 = .ok (.bipush 10, 2) := by decide +kernel
theorem dX11_resolution_77 : decode cX11_resolution 77 = .ok (.isub, 1) := by decide +kernel
theorem dX11_resolution_78 : decode cX11_resolution 78 = .ok (.invokestatic 152, 3) := by decide +kernel
theorem dX11_resolution_81 : decode cX11_resolution 81 = .ok (.goto 5, 3) := by decide +kernel
theorem dX11_resolution_84 : decode cX11_resolution 84 = .ok (.bipush (-2), 2) := by decide +kernel
theorem dX11_resolution_86 : decode cX11_resolution 86 = .ok (.ireturn, 1) := by decide +kernel
theorem dX11_forget_0 : decode cX11_forget 0 = .ok (.aload_n 0, 1) := by decide +kernel
theorem dX11_forget_1 : decode cX11_forget 1 = .ok (.getfield 36, 3) := by decide +kernel
theorem dX11_forget_4 : decode cX11_forget 4 = .ok (.iload_n 1, 1) := by decide +kernel
theorem dX11_forget_5 : decode cX11_forget 5 = .ok (.invokevirtual 225, 3) := by decide +kernel
theorem dX11_forget_8 : decode cX11_forget 8 = .ok (.ifnonnull 5, 3) := by decide +kernel
theorem dX11_forget_11 : decode cX11_forget 11 = .ok (.iconst (-1), 1) := by decide +kernel
theorem dX11_forget_12 : decode cX11_forget 12 = .ok (.ireturn, 1) := by decide +kernel
theorem dX11_forget_13 : decode cX11_forget 13 = .ok (.aload_n 0, 1) := by decide +kernel
theorem dX11_forget_14 : decode cX11_forget 14 = .ok (.getfield 36, 3) := by decide +kernel
theorem dX11_forget_17 : decode cX11_forget 17 = .ok (.iload_n 1, 1) := by decide +kernel
theorem dX11_forget_18 : decode cX11_forget 18 = .ok (.invokevirtual 238, 3) := by decide +kernel
theorem dX11_forget_21 : decode cX11_forget 21 = .ok (.aload_n 0, 1) := by decide +kernel
theorem dX11_forget_22 : decode cX11_forget 22 = .ok (.getfield 36, 3) := by decide +kernel
theorem dX11_forget_25 : decode cX11_forget 25 = .ok (.getfield 207, 3) := by decide +kernel
theorem dX11_forget_28 : decode cX11_forget 28 = .ok (.ireturn, 1) := by decide +kernel
theorem dX11_replay_0 : decode cX11_replay 0 = .ok (.aload_n 0, 1) := by decide +kernel
theorem dX11_replay_1 : decode cX11_replay 1 = .ok (.iload_n 1, 1) := by decide +kernel
theorem dX11_replay_2 : decode cX11_replay 2 = .ok (.invokevirtual 81, 3) := by decide +kernel
theorem dX11_replay_5 : decode cX11_replay 5 = .ok (.astore_n 3, 1) := by decide +kernel
theorem dX11_replay_6 : decode cX11_replay 6 = .ok (.aload_n 0, 1) := by decide +kernel
theorem dX11_replay_7 : decode cX11_replay 7 = .ok (.iload_n 2, 1) := by decide +kernel
theorem dX11_replay_8 : decode cX11_replay 8 = .ok (.invokevirtual 123, 3) := by decide +kernel
theorem dX11_replay_11 : decode cX11_replay 11 = .ok (.astore 4, 2) := by decide +kernel
theorem dX11_replay_13 : decode cX11_replay 13 = .ok (.aload_n 3, 1) := by decide +kernel
theorem dX11_replay_14 : decode cX11_replay 14 = .ok (.ifnull 8, 3) := by decide +kernel
theorem dX11_replay_17 : decode cX11_replay 17 = .ok (.aload 4, 2) := by decide +kernel
theorem dX11_replay_19 : decode cX11_replay 19 = .ok (.ifnonnull 5, 3) := by decide +kernel
theorem dX11_replay_22 : decode cX11_replay 22 = .ok (.iconst (-1), 1) := by decide +kernel
theorem dX11_replay_23 : decode cX11_replay 23 = .ok (.ireturn, 1) := by decide +kernel
theorem dX11_replay_24 : decode cX11_replay 24 = .ok (.aload_n 0, 1) := by decide +kernel
theorem dX11_replay_25 : decode cX11_replay 25 = .ok (.invokevirtual 89, 3) := by decide +kernel
theorem dX11_replay_28 : decode cX11_replay 28 = .ok (.ifCond .eq 6, 3) := by decide +kernel
theorem dX11_replay_31 : decode cX11_replay 31 = .ok (.bipush (-3), 2) := by decide +kernel
theorem dX11_replay_33 : decode cX11_replay 33 = .ok (.ireturn, 1) := by decide +kernel
theorem dX11_replay_34 : decode cX11_replay 34 = .ok (.aload_n 0, 1) := by decide +kernel
theorem dX11_replay_35 : decode cX11_replay 35 = .ok (.aload_n 3, 1) := by decide +kernel
theorem dX11_replay_36 : decode cX11_replay 36 = .ok (.aload 4, 2) := by decide +kernel
theorem dX11_replay_38 : decode cX11_replay 38 = .ok (.invokevirtual 241, 3) := by decide +kernel
theorem dX11_replay_41 : decode cX11_replay 41 = .ok (.ifCond .eq 6, 3) := by decide +kernel
theorem dX11_replay_44 : decode cX11_replay 44 = .ok (.bipush (-4), 2) := by decide +kernel
theorem dX11_replay_46 : decode cX11_replay 46 = .ok (.ireturn, 1) := by decide +kernel
theorem dX11_replay_47 : decode cX11_replay 47 = .ok (.aload_n 0, 1) := by decide +kernel
theorem dX11_replay_48 : decode cX11_replay 48 = .ok (.getfield 64, 3) := by decide +kernel
theorem dX11_replay_51 : decode cX11_replay 51 = .ok (.aload_n 0, 1) := by decide +kernel
theorem dX11_replay_52 : decode cX11_replay 52 = .ok (.getfield 105, 3) := by decide +kernel
theorem dX11_replay_55 : decode cX11_replay 55 = .ok (.aload_n 0, 1) := by decide +kernel
theorem dX11_replay_56 : decode cX11_replay 56 = .ok (.getfield 36, 3) := by decide +kernel
theorem dX11_replay_59 : decode cX11_replay 59 = .ok (.invokevirtual 245, 3) := by decide +kernel
theorem dX11_replay_62 : decode cX11_replay 62 = .ok (.aload_n 0, 1) := by decide +kernel
theorem dX11_replay_63 : decode cX11_replay 63 = .ok (.getfield 64, 3) := by decide +kernel
theorem dX11_replay_66 : decode cX11_replay 66 = .ok (.iload_n 1, 1) := by decide +kernel
theorem dX11_replay_67 : decode cX11_replay 67 = .ok (.aload_n 3, 1) := by decide +kernel
theorem dX11_replay_68 : decode cX11_replay 68 = .ok (.aload 4, 2) := by decide +kernel
theorem dX11_replay_70 : decode cX11_replay 70 = .ok (.invokevirtual 249, 3) := by decide +kernel
theorem dX11_replay_73 : decode cX11_replay 73 = .ok (.aload_n 0, 1) := by decide +kernel
theorem dX11_replay_74 : decode cX11_replay 74 = .ok (.aload_n 0, 1) := by decide +kernel
theorem dX11_replay_75 : decode cX11_replay 75 = .ok (.aload_n 0, 1) := by decide +kernel
theorem dX11_replay_76 : decode cX11_replay 76 = .ok (.getfield 64, 3) := by decide +kernel
theorem dX11_replay_79 : decode cX11_replay 79 = .ok (.invokevirtual 253, 3) := by decide +kernel
theorem dX11_replay_82 : decode cX11_replay 82 = .ok (.invokevirtual 257, 3) := by decide +kernel
theorem dX11_replay_85 : decode cX11_replay 85 = .ok (.ireturn, 1) := by decide +kernel
theorem dX11_go_0 : decode cX11_go 0 = .ok (.aload_n 0, 1) := by decide +kernel
theorem dX11_go_1 : decode cX11_go 1 = .ok (.invokevirtual 89, 3) := by decide +kernel
theorem dX11_go_4 : decode cX11_go 4 = .ok (.ifCond .eq 18, 3) := by decide +kernel
theorem dX11_go_7 : decode cX11_go 7 = .ok (.aload_n 0, 1) := by decide +kernel
theorem dX11_go_8 : decode cX11_go 8 = .ok (.aload_n 0, 1) := by decide +kernel
theorem dX11_go_9 : decode cX11_go 9 = .ok (.aload_n 0, 1) := by decide +kernel
theorem dX11_go_10 : decode cX11_go 10 = .ok (.getfield 64, 3) := by decide +kernel
theorem dX11_go_13 : decode cX11_go 13 = .ok (.invokevirtual 253, 3) := by decide +kernel
theorem dX11_go_16 : decode cX11_go 16 = .ok (.invokevirtual 257, 3) := by decide +kernel
theorem dX11_go_19 : decode cX11_go 19 = .ok (.goto 5, 3) := by decide +kernel
theorem dX11_go_22 : decode cX11_go 22 = .ok (.bipush (-3), 2) := by decide +kernel
theorem dX11_go_24 : decode cX11_go 24 = .ok (.ireturn, 1) := by decide +kernel
theorem dX11_skip_0 : decode cX11_skip 0 = .ok (.aload_n 0, 1) := by decide +kernel
theorem dX11_skip_1 : decode cX11_skip 1 = .ok (.invokevirtual 89, 3) := by decide +kernel
theorem dX11_skip_4 : decode cX11_skip 4 = .ok (.ifCond .ne 6, 3) := by decide +kernel
theorem dX11_skip_7 : decode cX11_skip 7 = .ok (.bipush (-3), 2) := by decide +kernel
theorem dX11_skip_9 : decode cX11_skip 9 = .ok (.ireturn, 1) := by decide +kernel
theorem dX11_skip_10 : decode cX11_skip 10 = .ok (.aload_n 0, 1) := by decide +kernel
theorem dX11_skip_11 : decode cX11_skip 11 = .ok (.getfield 64, 3) := by decide +kernel
theorem dX11_skip_14 : decode cX11_skip 14 = .ok (.getfield 210, 3) := by decide +kernel
theorem dX11_skip_17 : decode cX11_skip 17 = .ok (.iconst 1, 1) := by decide +kernel
theorem dX11_skip_18 : decode cX11_skip 18 = .ok (.dup2, 1) := by decide +kernel
theorem dX11_skip_19 : decode cX11_skip 19 = .ok (.iaload, 1) := by decide +kernel
theorem dX11_skip_20 : decode cX11_skip 20 = .ok (.iconst 1, 1) := by decide +kernel
theorem dX11_skip_21 : decode cX11_skip 21 = .ok (.iadd, 1) := by decide +kernel
theorem dX11_skip_22 : decode cX11_skip 22 = .ok (.iastore, 1) := by decide +kernel
theorem dX11_skip_23 : decode cX11_skip 23 = .ok (.aload_n 0, 1) := by decide +kernel
theorem dX11_skip_24 : decode cX11_skip 24 = .ok (.getfield 64, 3) := by decide +kernel
theorem dX11_skip_27 : decode cX11_skip 27 = .ok (.dup, 1) := by decide +kernel
theorem dX11_skip_28 : decode cX11_skip 28 = .ok (.getfield 260, 3) := by decide +kernel
theorem dX11_skip_31 : decode cX11_skip 31 = .ok (.iconst 1, 1) := by decide +kernel
theorem dX11_skip_32 : decode cX11_skip 32 = .ok (.isub, 1) := by decide +kernel
theorem dX11_skip_33 : decode cX11_skip 33 = .ok (.putfield 260, 3) := by decide +kernel
theorem dX11_skip_36 : decode cX11_skip 36 = .ok (.aload_n 0, 1) := by decide +kernel
theorem dX11_skip_37 : decode cX11_skip 37 = .ok (.aload_n 0, 1) := by decide +kernel
theorem dX11_skip_38 : decode cX11_skip 38 = .ok (.aload_n 0, 1) := by decide +kernel
theorem dX11_skip_39 : decode cX11_skip 39 = .ok (.getfield 64, 3) := by decide +kernel
theorem dX11_skip_42 : decode cX11_skip 42 = .ok (.invokevirtual 253, 3) := by decide +kernel
theorem dX11_skip_45 : decode cX11_skip 45 = .ok (.invokevirtual 257, 3) := by decide +kernel
theorem dX11_skip_48 : decode cX11_skip 48 = .ok (.ireturn, 1) := by decide +kernel
theorem dX11_abort_0 : decode cX11_abort 0 = .ok (.aload_n 0, 1) := by decide +kernel
theorem dX11_abort_1 : decode cX11_abort 1 = .ok (.invokevirtual 89, 3) := by decide +kernel
theorem dX11_abort_4 : decode cX11_abort 4 = .ok (.ifCond .ne 6, 3) := by decide +kernel
theorem dX11_abort_7 : decode cX11_abort 7 = .ok (.bipush (-3), 2) := by decide +kernel
theorem dX11_abort_9 : decode cX11_abort 9 = .ok (.ireturn, 1) := by decide +kernel
theorem dX11_abort_10 : decode cX11_abort 10 = .ok (.aload_n 0, 1) := by decide +kernel
theorem dX11_abort_11 : decode cX11_abort 11 = .ok (.getfield 105, 3) := by decide +kernel
theorem dX11_abort_14 : decode cX11_abort 14 = .ok (.istore_n 1, 1) := by decide +kernel
theorem dX11_abort_15 : decode cX11_abort 15 = .ok (.aload_n 0, 1) := by decide +kernel
theorem dX11_abort_16 : decode cX11_abort 16 = .ok (.aload_n 0, 1) := by decide +kernel
theorem dX11_abort_17 : decode cX11_abort 17 = .ok (.getfield 64, 3) := by decide +kernel
theorem dX11_abort_20 : decode cX11_abort 20 = .ok (.getfield 263, 3) := by decide +kernel
theorem dX11_abort_23 : decode cX11_abort 23 = .ok (.invokevirtual 203, 3) := by decide +kernel
theorem dX11_abort_26 : decode cX11_abort 26 = .ok (.aload_n 0, 1) := by decide +kernel
theorem dX11_abort_27 : decode cX11_abort 27 = .ok (.getfield 64, 3) := by decide +kernel
theorem dX11_abort_30 : decode cX11_abort 30 = .ok (.aload_n 0, 1) := by decide +kernel
theorem dX11_abort_31 : decode cX11_abort 31 = .ok (.getfield 36, 3) := by decide +kernel
theorem dX11_abort_34 : decode cX11_abort 34 = .ok (.invokevirtual 266, 3) := by decide +kernel
theorem dX11_abort_37 : decode cX11_abort 37 = .ok (.aload_n 0, 1) := by decide +kernel
theorem dX11_abort_38 : decode cX11_abort 38 = .ok (.getfield 64, 3) := by decide +kernel
theorem dX11_abort_41 : decode cX11_abort 41 = .ok (.iconst 0, 1) := by decide +kernel
theorem dX11_abort_42 : decode cX11_abort 42 = .ok (.putfield 270, 3) := by decide +kernel
theorem dX11_abort_45 : decode cX11_abort 45 = .ok (.iload_n 1, 1) := by decide +kernel
theorem dX11_abort_46 : decode cX11_abort 46 = .ok (.aload_n 0, 1) := by decide +kernel
theorem dX11_abort_47 : decode cX11_abort 47 = .ok (.getfield 105, 3) := by decide +kernel
theorem dX11_abort_50 : decode cX11_abort 50 = .ok (.isub, 1) := by decide +kernel
theorem dX11_abort_51 : decode cX11_abort 51 = .ok (.ireturn, 1) := by decide +kernel
theorem dX11_status_0 : decode cX11_status 0 = .ok (.iload_n 1, 1) := by decide +kernel
theorem dX11_status_1 : decode cX11_status 1 = .ok (.ifCond .lt 9, 3) := by decide +kernel
theorem dX11_status_4 : decode cX11_status 4 = .ok (.iload_n 1, 1) := by decide +kernel
theorem dX11_status_5 : decode cX11_status 5 = .ok (.bipush 8, 2) := by decide +kernel
theorem dX11_status_7 : decode cX11_status 7 = .ok (.if_icmp .le 6, 3) := by decide +kernel
theorem dX11_status_10 : decode cX11_status 10 = .ok (.bipush (-2), 2) := by decide +kernel
theorem dX11_status_12 : decode cX11_status 12 = .ok (.ireturn, 1) := by decide +kernel
theorem dX11_status_13 : decode cX11_status 13 = .ok (.iload_n 1, 1) := by decide +kernel
theorem dX11_status_14 : decode cX11_status 14 = .ok (.iconst 2, 1) := by decide +kernel
theorem dX11_status_15 : decode cX11_status 15 = .ok (.if_icmp .lt 20, 3) := by decide +kernel
theorem dX11_status_18 : decode cX11_status 18 = .ok (.iload_n 1, 1) := by decide +kernel
theorem dX11_status_19 : decode cX11_status 19 = .ok (.iconst 5, 1) := by decide +kernel
theorem dX11_status_20 : decode cX11_status 20 = .ok (.if_icmp .gt 15, 3) := by decide +kernel
theorem dX11_status_23 : decode cX11_status 23 = .ok (.aload_n 0, 1) := by decide +kernel
theorem dX11_status_24 : decode cX11_status 24 = .ok (.getfield 64, 3) := by decide +kernel
theorem dX11_status_27 : decode cX11_status 27 = .ok (.getfield 210, 3) := by decide +kernel
theorem dX11_status_30 : decode cX11_status 30 = .ok (.iload_n 1, 1) := by decide +kernel
theorem dX11_status_31 : decode cX11_status 31 = .ok (.iconst 2, 1) := by decide +kernel
theorem dX11_status_32 : decode cX11_status 32 = .ok (.isub, 1) := by decide +kernel
theorem dX11_status_33 : decode cX11_status 33 = .ok (.iaload, 1) := by decide +kernel
theorem dX11_status_34 : decode cX11_status 34 = .ok (.ireturn, 1) := by decide +kernel
theorem dX11_status_35 : decode cX11_status 35 = .ok (.aload_n 0, 1) := by decide +kernel
theorem dX11_status_36 : decode cX11_status 36 = .ok (.invokevirtual 89, 3) := by decide +kernel
theorem dX11_status_39 : decode cX11_status 39 = .ok (.ifCond .ne 7, 3) := by decide +kernel
theorem dX11_status_42 : decode cX11_status 42 = .ok (.iconst 1, 1) := by decide +kernel
theorem dX11_status_43 : decode cX11_status 43 = .ok (.goto 4, 3) := by decide +kernel
theorem dX11_status_46 : decode cX11_status 46 = .ok (.iconst 0, 1) := by decide +kernel
theorem dX11_status_47 : decode cX11_status 47 = .ok (.istore_n 2, 1) := by decide +kernel
theorem dX11_status_48 : decode cX11_status 48 = .ok (.iload_n 1, 1) := by decide +kernel
theorem dX11_status_49 : decode cX11_status 49 = .ok (.tableswitch 112 0 7 #[47, 55, 112, 112, 112, 112, 75, 91], 47) := by decide +kernel
theorem dX11_status_96 : decode cX11_status 96 = .ok (.aload_n 0, 1) := by decide +kernel
theorem dX11_status_97 : decode cX11_status 97 = .ok (.getfield 64, 3) := by decide +kernel
theorem dX11_status_100 : decode cX11_status 100 = .ok (.getfield 270, 3) := by decide +kernel
theorem dX11_status_103 : decode cX11_status 103 = .ok (.ireturn, 1) := by decide +kernel
theorem dX11_status_104 : decode cX11_status 104 = .ok (.iload_n 2, 1) := by decide +kernel
theorem dX11_status_105 : decode cX11_status 105 = .ok (.ifCond .eq 8, 3) := by decide +kernel
theorem dX11_status_108 : decode cX11_status 108 = .ok (.bipush (-9), 2) := by decide +kernel
theorem dX11_status_110 : decode cX11_status 110 = .ok (.goto 13, 3) := by decide +kernel
theorem dX11_status_113 : decode cX11_status 113 = .ok (.aload_n 0, 1) := by decide +kernel
theorem dX11_status_114 : decode cX11_status 114 = .ok (.getfield 64, 3) := by decide +kernel
theorem dX11_status_117 : decode cX11_status 117 = .ok (.invokevirtual 273, 3) := by decide +kernel
theorem dX11_status_120 : decode cX11_status 120 = .ok (.getfield 120, 3) := by decide +kernel
theorem dX11_status_123 : decode cX11_status 123 = .ok (.ireturn, 1) := by decide +kernel
theorem dX11_status_124 : decode cX11_status 124 = .ok (.iload_n 2, 1) := by decide +kernel
theorem dX11_status_125 : decode cX11_status 125 = .ok (.ifCond .eq 7, 3) := by decide +kernel
theorem dX11_status_128 : decode cX11_status 128 = .ok (.iconst 0, 1) := by decide +kernel
theorem dX11_status_129 : decode cX11_status 129 = .ok (.goto 10, 3) := by decide +kernel
theorem dX11_status_132 : decode cX11_status 132 = .ok (.aload_n 0, 1) := by decide +kernel
theorem dX11_status_133 : decode cX11_status 133 = .ok (.getfield 64, 3) := by decide +kernel
theorem dX11_status_136 : decode cX11_status 136 = .ok (.getfield 260, 3) := by decide +kernel
theorem dX11_status_139 : decode cX11_status 139 = .ok (.ireturn, 1) := by decide +kernel
theorem dX11_status_140 : decode cX11_status 140 = .ok (.aload_n 0, 1) := by decide +kernel
theorem dX11_status_141 : decode cX11_status 141 = .ok (.bipush (-9), 2) := by decide +kernel
theorem dX11_status_143 : decode cX11_status 143 = .ok (.invokevirtual 276, 3) := by decide +kernel
theorem dX11_status_146 : decode cX11_status 146 = .ok (.ifCond .eq 13, 3) := by decide +kernel
theorem dX11_status_149 : decode cX11_status 149 = .ok (.aload_n 0, 1) := by decide +kernel
theorem dX11_status_150 : decode cX11_status 150 = .ok (.getfield 36, 3) := by decide +kernel
theorem dX11_status_153 : decode cX11_status 153 = .ok (.getfield 219, 3) := by decide +kernel
theorem dX11_status_156 : decode cX11_status 156 = .ok (.goto 4, 3) := by decide +kernel
theorem dX11_status_159 : decode cX11_status 159 = .ok (.iconst 0, 1) := by decide +kernel
theorem dX11_status_160 : decode cX11_status 160 = .ok (.ireturn, 1) := by decide +kernel
theorem dX11_status_161 : decode cX11_status 161 = .ok (.iload_n 2, 1) := by decide +kernel
theorem dX11_status_162 : decode cX11_status 162 = .ok (.ifCond .eq 8, 3) := by decide +kernel
theorem dX11_status_165 : decode cX11_status 165 = .ok (.bipush (-9), 2) := by decide +kernel
theorem dX11_status_167 : decode cX11_status 167 = .ok (.goto 13, 3) := by decide +kernel
theorem dX11_status_170 : decode cX11_status 170 = .ok (.aload_n 0, 1) := by decide +kernel
theorem dX11_status_171 : decode cX11_status 171 = .ok (.getfield 64, 3) := by decide +kernel
theorem dX11_status_174 : decode cX11_status 174 = .ok (.getfield 279, 3) := by decide +kernel
theorem dX11_status_177 : decode cX11_status 177 = .ok (.getfield 120, 3) := by decide +kernel
theorem dX11_status_180 : decode cX11_status 180 = .ok (.ireturn, 1) := by decide +kernel
theorem dX11_conflict_0 : decode cX11_conflict 0 = .ok (.aload_n 0, 1) := by decide +kernel
theorem dX11_conflict_1 : decode cX11_conflict 1 = .ok (.iload_n 1, 1) := by decide +kernel
theorem dX11_conflict_2 : decode cX11_conflict 2 = .ok (.invokevirtual 282, 3) := by decide +kernel
theorem dX11_conflict_5 : decode cX11_conflict 5 = .ok (.ifCond .ne 5, 3) := by decide +kernel
theorem dX11_conflict_8 : decode cX11_conflict 8 = .ok (.iconst (-1), 1) := by decide +kernel
theorem dX11_conflict_9 : decode cX11_conflict 9 = .ok (.ireturn, 1) := by decide +kernel
theorem dX11_conflict_10 : decode cX11_conflict 10 = .ok (.iload_n 2, 1) := by decide +kernel
theorem dX11_conflict_11 : decode cX11_conflict 11 = .ok (.bipush 70, 2) := by decide +kernel
theorem dX11_conflict_13 : decode cX11_conflict 13 = .ok (.if_icmp .lt 33, 3) := by decide +kernel
theorem dX11_conflict_16 : decode cX11_conflict 16 = .ok (.iload_n 2, 1) := by decide +kernel
theorem dX11_conflict_17 : decode cX11_conflict 17 = .ok (.bipush 70, 2) := by decide +kernel
theorem dX11_conflict_19 : decode cX11_conflict 19 = .ok (.isub, 1) := by decide +kernel
theorem dX11_conflict_20 : decode cX11_conflict 20 = .ok (.invokestatic 235, 3) := by decide +kernel
theorem dX11_conflict_23 : decode cX11_conflict 23 = .ok (.ifCond .eq 20, 3) := by decide +kernel
theorem dX11_conflict_26 : decode cX11_conflict 26 = .ok (.aload_n 0, 1) := by decide +kernel
theorem dX11_conflict_27 : decode cX11_conflict 27 = .ok (.getfield 36, 3) := by decide +kernel
theorem dX11_conflict_30 : decode cX11_conflict 30 = .ok (.getfield 285, 3) := by decide +kernel
theorem dX11_conflict_33 : decode cX11_conflict 33 = .ok (.iload_n 2, 1) := by decide +kernel
theorem dX11_conflict_34 : decode cX11_conflict 34 = .ok (.bipush 70, 2) := by decide +kernel
theorem dX11_conflict_36 : decode cX11_conflict 36 = .ok (.isub, 1) := by decide +kernel
theorem dX11_conflict_37 : decode cX11_conflict 37 = .ok (.invokevirtual 288, 3) := by decide +kernel
theorem dX11_conflict_40 : decode cX11_conflict 40 = .ok (.goto 5, 3) := by decide +kernel
theorem dX11_conflict_43 : decode cX11_conflict 43 = .ok (.bipush (-2), 2) := by decide +kernel
theorem dX11_conflict_45 : decode cX11_conflict 45 = .ok (.ireturn, 1) := by decide +kernel
theorem dX11_conflict_46 : decode cX11_conflict 46 = .ok (.iload_n 2, 1) := by decide +kernel
theorem dX11_conflict_47 : decode cX11_conflict 47 = .ok (.bipush 50, 2) := by decide +kernel
theorem dX11_conflict_49 : decode cX11_conflict 49 = .ok (.if_icmp .lt 33, 3) := by decide +kernel
theorem dX11_conflict_52 : decode cX11_conflict 52 = .ok (.iload_n 2, 1) := by decide +kernel
theorem dX11_conflict_53 : decode cX11_conflict 53 = .ok (.bipush 50, 2) := by decide +kernel
theorem dX11_conflict_55 : decode cX11_conflict 55 = .ok (.isub, 1) := by decide +kernel
theorem dX11_conflict_56 : decode cX11_conflict 56 = .ok (.invokestatic 149, 3) := by decide +kernel
theorem dX11_conflict_59 : decode cX11_conflict 59 = .ok (.ifCond .eq 20, 3) := by decide +kernel
theorem dX11_conflict_62 : decode cX11_conflict 62 = .ok (.aload_n 0, 1) := by decide +kernel
theorem dX11_conflict_63 : decode cX11_conflict 63 = .ok (.getfield 36, 3) := by decide +kernel
theorem dX11_conflict_66 : decode cX11_conflict 66 = .ok (.getfield 293, 3) := by decide +kernel
theorem dX11_conflict_69 : decode cX11_conflict 69 = .ok (.iload_n 2, 1) := by decide +kernel
theorem dX11_conflict_70 : decode cX11_conflict 70 = .ok (.bipush 50, 2) := by decide +kernel
theorem dX11_conflict_72 : decode cX11_conflict 72 = .ok (.isub, 1) := by decide +kernel
theorem dX11_conflict_73 : decode cX11_conflict 73 = .ok (.invokevirtual 168, 3) := by decide +kernel
theorem dX11_conflict_76 : decode cX11_conflict 76 = .ok (.goto 5, 3) := by decide +kernel
theorem dX11_conflict_79 : decode cX11_conflict 79 = .ok (.bipush (-2), 2) := by decide +kernel
theorem dX11_conflict_81 : decode cX11_conflict 81 = .ok (.ireturn, 1) := by decide +kernel
theorem dX11_conflict_82 : decode cX11_conflict 82 = .ok (.iload_n 2, 1) := by decide +kernel
theorem dX11_conflict_83 : decode cX11_conflict 83 = .ok (.bipush 30, 2) := by decide +kernel
theorem dX11_conflict_85 : decode cX11_conflict 85 = .ok (.if_icmp .lt 33, 3) := by decide +kernel
theorem dX11_conflict_88 : decode cX11_conflict 88 = .ok (.iload_n 2, 1) := by decide +kernel
theorem dX11_conflict_89 : decode cX11_conflict 89 = .ok (.bipush 30, 2) := by decide +kernel
theorem dX11_conflict_91 : decode cX11_conflict 91 = .ok (.isub, 1) := by decide +kernel
theorem dX11_conflict_92 : decode cX11_conflict 92 = .ok (.invokestatic 149, 3) := by decide +kernel
theorem dX11_conflict_95 : decode cX11_conflict 95 = .ok (.ifCond .eq 20, 3) := by decide +kernel
theorem dX11_conflict_98 : decode cX11_conflict 98 = .ok (.aload_n 0, 1) := by decide +kernel
theorem dX11_conflict_99 : decode cX11_conflict 99 = .ok (.getfield 36, 3) := by decide +kernel
theorem dX11_conflict_102 : decode cX11_conflict 102 = .ok (.getfield 297, 3) := by decide +kernel
theorem dX11_conflict_105 : decode cX11_conflict 105 = .ok (.iload_n 2, 1) := by decide +kernel
theorem dX11_conflict_106 : decode cX11_conflict 106 = .ok (.bipush 30, 2) := by decide +kernel
theorem dX11_conflict_108 : decode cX11_conflict 108 = .ok (.isub, 1) := by decide +kernel
theorem dX11_conflict_109 : decode cX11_conflict 109 = .ok (.invokevirtual 168, 3) := by decide +kernel
theorem dX11_conflict_112 : decode cX11_conflict 112 = .ok (.goto 5, 3) := by decide +kernel
theorem dX11_conflict_115 : decode cX11_conflict 115 = .ok (.bipush (-2), 2) := by decide +kernel
theorem dX11_conflict_117 : decode cX11_conflict 117 = .ok (.ireturn, 1) := by decide +kernel
theorem dX11_conflict_118 : decode cX11_conflict 118 = .ok (.iload_n 2, 1) := by decide +kernel
theorem dX11_conflict_119 : decode cX11_conflict 119 = .ok (.tableswitch 100 0 4 #[33, 44, 55, 66, 77], 33) := by decide +kernel
theorem dX11_conflict_152 : decode cX11_conflict 152 = .ok (.aload_n 0, 1) := by decide +kernel
theorem dX11_conflict_153 : decode cX11_conflict 153 = .ok (.getfield 36, 3) := by decide +kernel
theorem dX11_conflict_156 : decode cX11_conflict 156 = .ok (.getfield 300, 3) := by decide +kernel
theorem dX11_conflict_159 : decode cX11_conflict 159 = .ok (.getfield 163, 3) := by decide +kernel
theorem dX11_conflict_162 : decode cX11_conflict 162 = .ok (.ireturn, 1) := by decide +kernel
theorem dX11_conflict_163 : decode cX11_conflict 163 = .ok (.aload_n 0, 1) := by decide +kernel
theorem dX11_conflict_164 : decode cX11_conflict 164 = .ok (.getfield 36, 3) := by decide +kernel
theorem dX11_conflict_167 : decode cX11_conflict 167 = .ok (.getfield 297, 3) := by decide +kernel
theorem dX11_conflict_170 : decode cX11_conflict 170 = .ok (.getfield 163, 3) := by decide +kernel
theorem dX11_conflict_173 : decode cX11_conflict 173 = .ok (.ireturn, 1) := by decide +kernel
theorem dX11_conflict_174 : decode cX11_conflict 174 = .ok (.aload_n 0, 1) := by decide +kernel
theorem dX11_conflict_175 : decode cX11_conflict 175 = .ok (.getfield 36, 3) := by decide +kernel
theorem dX11_conflict_178 : decode cX11_conflict 178 = .ok (.getfield 293, 3) := by decide +kernel
theorem dX11_conflict_181 : decode cX11_conflict 181 = .ok (.getfield 163, 3) := by decide +kernel
theorem dX11_conflict_184 : decode cX11_conflict 184 = .ok (.ireturn, 1) := by decide +kernel
theorem dX11_conflict_185 : decode cX11_conflict 185 = .ok (.aload_n 0, 1) := by decide +kernel
theorem dX11_conflict_186 : decode cX11_conflict 186 = .ok (.getfield 36, 3) := by decide +kernel
theorem dX11_conflict_189 : decode cX11_conflict 189 = .ok (.getfield 285, 3) := by decide +kernel
theorem dX11_conflict_192 : decode cX11_conflict 192 = .ok (.getfield 303, 3) := by decide +kernel
theorem dX11_conflict_195 : decode cX11_conflict 195 = .ok (.ireturn, 1) := by decide +kernel
theorem dX11_conflict_196 : decode cX11_conflict 196 = .ok (.aload_n 0, 1) := by decide +kernel
theorem dX11_conflict_197 : decode cX11_conflict 197 = .ok (.getfield 36, 3) := by decide +kernel
theorem dX11_conflict_200 : decode cX11_conflict 200 = .ok (.getfield 285, 3) := by decide +kernel
theorem dX11_conflict_203 : decode cX11_conflict 203 = .ok (.aload_n 0, 1) := by decide +kernel
theorem dX11_conflict_204 : decode cX11_conflict 204 = .ok (.getfield 36, 3) := by decide +kernel
theorem dX11_conflict_207 : decode cX11_conflict 207 = .ok (.getfield 304, 3) := by decide +kernel
theorem dX11_conflict_210 : decode cX11_conflict 210 = .ok (.if_acmp .ne 7, 3) := by decide +kernel
theorem dX11_conflict_213 : decode cX11_conflict 213 = .ok (.iconst 1, 1) := by decide +kernel
theorem dX11_conflict_214 : decode cX11_conflict 214 = .ok (.goto 4, 3) := by decide +kernel
theorem dX11_conflict_217 : decode cX11_conflict 217 = .ok (.iconst 0, 1) := by decide +kernel
theorem dX11_conflict_218 : decode cX11_conflict 218 = .ok (.ireturn, 1) := by decide +kernel
theorem dX11_conflict_219 : decode cX11_conflict 219 = .ok (.iload_n 2, 1) := by decide +kernel
theorem dX11_conflict_220 : decode cX11_conflict 220 = .ok (.bipush 10, 2) := by decide +kernel
theorem dX11_conflict_222 : decode cX11_conflict 222 = .ok (.isub, 1) := by decide +kernel
theorem dX11_conflict_223 : decode cX11_conflict 223 = .ok (.invokestatic 149, 3) := by decide +kernel
theorem dX11_conflict_226 : decode cX11_conflict 226 = .ok (.ifCond .eq 20, 3) := by decide +kernel
theorem dX11_conflict_229 : decode cX11_conflict 229 = .ok (.aload_n 0, 1) := by decide +kernel
theorem dX11_conflict_230 : decode cX11_conflict 230 = .ok (.getfield 36, 3) := by decide +kernel
theorem dX11_conflict_233 : decode cX11_conflict 233 = .ok (.getfield 300, 3) := by decide +kernel
theorem dX11_conflict_236 : decode cX11_conflict 236 = .ok (.iload_n 2, 1) := by decide +kernel
theorem dX11_conflict_237 : decode cX11_conflict 237 = .ok (.bipush 10, 2) := by decide +kernel
theorem dX11_conflict_239 : decode cX11_conflict 239 = .ok (.isub, 1) := by decide +kernel
theorem dX11_conflict_240 : decode cX11_conflict 240 = .ok (.invokevirtual 168, 3) := by decide +kernel
theorem dX11_conflict_243 : decode cX11_conflict 243 = .ok (.goto 5, 3) := by decide +kernel
theorem dX11_conflict_246 : decode cX11_conflict 246 = .ok (.bipush (-2), 2) := by decide +kernel
theorem dX11_conflict_248 : decode cX11_conflict 248 = .ok (.ireturn, 1) := by decide +kernel
theorem dX11_settle_0 : decode cX11_settle 0 = .ok (.aload_n 0, 1) := by decide +kernel
theorem dX11_settle_1 : decode cX11_settle 1 = .ok (.iconst 0, 1) := by decide +kernel
theorem dX11_settle_2 : decode cX11_settle 2 = .ok (.putfield 77, 3) := by decide +kernel
theorem dX11_settle_5 : decode cX11_settle 5 = .ok (.aload_n 0, 1) := by decide +kernel
theorem dX11_settle_6 : decode cX11_settle 6 = .ok (.iload_n 2, 1) := by decide +kernel
theorem dX11_settle_7 : decode cX11_settle 7 = .ok (.invokevirtual 85, 3) := by decide +kernel
theorem dX11_settle_10 : decode cX11_settle 10 = .ok (.astore_n 3, 1) := by decide +kernel
theorem dX11_settle_11 : decode cX11_settle 11 = .ok (.aload_n 3, 1) := by decide +kernel
theorem dX11_settle_12 : decode cX11_settle 12 = .ok (.ifnull 11, 3) := by decide +kernel
theorem dX11_settle_15 : decode cX11_settle 15 = .ok (.aload_n 0, 1) := by decide +kernel
theorem dX11_settle_16 : decode cX11_settle 16 = .ok (.iload_n 1, 1) := by decide +kernel
theorem dX11_settle_17 : decode cX11_settle 17 = .ok (.invokevirtual 282, 3) := by decide +kernel
theorem dX11_settle_20 : decode cX11_settle 20 = .ok (.ifCond .ne 5, 3) := by decide +kernel
theorem dX11_settle_23 : decode cX11_settle 23 = .ok (.iconst (-1), 1) := by decide +kernel
theorem dX11_settle_24 : decode cX11_settle 24 = .ok (.ireturn, 1) := by decide +kernel
theorem dX11_settle_25 : decode cX11_settle 25 = .ok (.aload_n 3, 1) := by decide +kernel
theorem dX11_settle_26 : decode cX11_settle 26 = .ok (.invokevirtual 93, 3) := by decide +kernel
theorem dX11_settle_29 : decode cX11_settle 29 = .ok (.istore 4, 2) := by decide +kernel
theorem dX11_settle_31 : decode cX11_settle 31 = .ok (.iload 4, 2) := by decide +kernel
theorem dX11_settle_33 : decode cX11_settle 33 = .ok (.ifCond .eq 10, 3) := by decide +kernel
theorem dX11_settle_36 : decode cX11_settle 36 = .ok (.aload_n 0, 1) := by decide +kernel
theorem dX11_settle_37 : decode cX11_settle 37 = .ok (.iload 4, 2) := by decide +kernel
theorem dX11_settle_39 : decode cX11_settle 39 = .ok (.invokevirtual 97, 3) := by decide +kernel
theorem dX11_settle_42 : decode cX11_settle 42 = .ok (.ireturn, 1) := by decide +kernel
theorem dX11_settle_43 : decode cX11_settle 43 = .ok (.aload_n 3, 1) := by decide +kernel
theorem dX11_settle_44 : decode cX11_settle 44 = .ok (.bipush 6, 2) := by decide +kernel
theorem dX11_settle_46 : decode cX11_settle 46 = .ok (.invokevirtual 101, 3) := by decide +kernel
theorem dX11_settle_49 : decode cX11_settle 49 = .ok (.ifCond .ne 6, 3) := by decide +kernel
theorem dX11_settle_52 : decode cX11_settle 52 = .ok (.bipush (-2), 2) := by decide +kernel
theorem dX11_settle_54 : decode cX11_settle 54 = .ok (.ireturn, 1) := by decide +kernel
theorem dX11_settle_55 : decode cX11_settle 55 = .ok (.aload_n 0, 1) := by decide +kernel
theorem dX11_settle_56 : decode cX11_settle 56 = .ok (.getfield 36, 3) := by decide +kernel
theorem dX11_settle_59 : decode cX11_settle 59 = .ok (.getfield 207, 3) := by decide +kernel
theorem dX11_settle_62 : decode cX11_settle 62 = .ok (.bipush 8, 2) := by decide +kernel
theorem dX11_settle_64 : decode cX11_settle 64 = .ok (.if_icmp .lt 6, 3) := by decide +kernel
theorem dX11_settle_67 : decode cX11_settle 67 = .ok (.bipush (-4), 2) := by decide +kernel
theorem dX11_settle_69 : decode cX11_settle 69 = .ok (.ireturn, 1) := by decide +kernel
theorem dX11_settle_70 : decode cX11_settle 70 = .ok (.aload_n 0, 1) := by decide +kernel
theorem dX11_settle_71 : decode cX11_settle 71 = .ok (.getfield 36, 3) := by decide +kernel
theorem dX11_settle_74 : decode cX11_settle 74 = .ok (.aload_n 3, 1) := by decide +kernel
theorem dX11_settle_75 : decode cX11_settle 75 = .ok (.getfield 108, 3) := by decide +kernel
theorem dX11_settle_78 : decode cX11_settle 78 = .ok (.invokevirtual 307, 3) := by decide +kernel
theorem dX11_settle_81 : decode cX11_settle 81 = .ok (.aload_n 0, 1) := by decide +kernel
theorem dX11_settle_82 : decode cX11_settle 82 = .ok (.getfield 36, 3) := by decide +kernel
theorem dX11_settle_85 : decode cX11_settle 85 = .ok (.getfield 207, 3) := by decide +kernel
theorem dX11_settle_88 : decode cX11_settle 88 = .ok (.ireturn, 1) := by decide +kernel
theorem dX11_foretell_0 : decode cX11_foretell 0 = .ok (.aload_n 0, 1) := by decide +kernel
theorem dX11_foretell_1 : decode cX11_foretell 1 = .ok (.iload_n 1, 1) := by decide +kernel
theorem dX11_foretell_2 : decode cX11_foretell 2 = .ok (.invokevirtual 81, 3) := by decide +kernel
theorem dX11_foretell_5 : decode cX11_foretell 5 = .ok (.astore 4, 2) := by decide +kernel
theorem dX11_foretell_7 : decode cX11_foretell 7 = .ok (.aload_n 0, 1) := by decide +kernel
theorem dX11_foretell_8 : decode cX11_foretell 8 = .ok (.iload_n 2, 1) := by decide +kernel
theorem dX11_foretell_9 : decode cX11_foretell 9 = .ok (.invokevirtual 123, 3) := by decide +kernel
theorem dX11_foretell_12 : decode cX11_foretell 12 = .ok (.astore 5, 2) := by decide +kernel
theorem dX11_foretell_14 : decode cX11_foretell 14 = .ok (.aload 4, 2) := by decide +kernel
theorem dX11_foretell_16 : decode cX11_foretell 16 = .ok (.ifnull 8, 3) := by decide +kernel
theorem dX11_foretell_19 : decode cX11_foretell 19 = .ok (.aload 5, 2) := by decide +kernel
theorem dX11_foretell_21 : decode cX11_foretell 21 = .ok (.ifnonnull 5, 3) := by decide +kernel
theorem dX11_foretell_24 : decode cX11_foretell 24 = .ok (.iconst (-1), 1) := by decide +kernel
theorem dX11_foretell_25 : decode cX11_foretell 25 = .ok (.ireturn, 1) := by decide +kernel
theorem dX11_foretell_26 : decode cX11_foretell 26 = .ok (.iload_n 3, 1) := by decide +kernel
theorem dX11_foretell_27 : decode cX11_foretell 27 = .ok (.ifCond .lt 8, 3) := by decide +kernel
theorem dX11_foretell_30 : decode cX11_foretell 30 = .ok (.iload_n 3, 1) := by decide +kernel
theorem dX11_foretell_31 : decode cX11_foretell 31 = .ok (.iconst 5, 1) := by decide +kernel
theorem dX11_foretell_32 : decode cX11_foretell 32 = .ok (.if_icmp .le 16, 3) := by decide +kernel
theorem dX11_foretell_35 : decode cX11_foretell 35 = .ok (.iload_n 3, 1) := by decide +kernel
theorem dX11_foretell_36 : decode cX11_foretell 36 = .ok (.bipush 10, 2) := by decide +kernel
theorem dX11_foretell_38 : decode cX11_foretell 38 = .ok (.isub, 1) := by decide +kernel
theorem dX11_foretell_39 : decode cX11_foretell 39 = .ok (.invokestatic 149, 3) := by decide +kernel
theorem dX11_foretell_42 : decode cX11_foretell 42 = .ok (.ifCond .ne 6, 3) := by decide +kernel
theorem dX11_foretell_45 : decode cX11_foretell 45 = .ok (.bipush (-2), 2) := by decide +kernel
theorem dX11_foretell_47 : decode cX11_foretell 47 = .ok (.ireturn, 1) := by decide +kernel
theorem dX11_foretell_48 : decode cX11_foretell 48 = .ok (.aload_n 0, 1) := by decide +kernel
theorem dX11_foretell_49 : decode cX11_foretell 49 = .ok (.invokevirtual 89, 3) := by decide +kernel
theorem dX11_foretell_52 : decode cX11_foretell 52 = .ok (.ifCond .eq 6, 3) := by decide +kernel
theorem dX11_foretell_55 : decode cX11_foretell 55 = .ok (.bipush (-3), 2) := by decide +kernel
theorem dX11_foretell_57 : decode cX11_foretell 57 = .ok (.ireturn, 1) := by decide +kernel
theorem dX11_foretell_58 : decode cX11_foretell 58 = .ok (.aload_n 0, 1) := by decide +kernel
theorem dX11_foretell_59 : decode cX11_foretell 59 = .ok (.aload 4, 2) := by decide +kernel
theorem dX11_foretell_61 : decode cX11_foretell 61 = .ok (.aload 5, 2) := by decide +kernel
theorem dX11_foretell_63 : decode cX11_foretell 63 = .ok (.invokevirtual 241, 3) := by decide +kernel
theorem dX11_foretell_66 : decode cX11_foretell 66 = .ok (.ifCond .eq 6, 3) := by decide +kernel
theorem dX11_foretell_69 : decode cX11_foretell 69 = .ok (.bipush (-4), 2) := by decide +kernel
theorem dX11_foretell_71 : decode cX11_foretell 71 = .ok (.ireturn, 1) := by decide +kernel
theorem dX11_foretell_72 : decode cX11_foretell 72 = .ok (.aload_n 0, 1) := by decide +kernel
theorem dX11_foretell_73 : decode cX11_foretell 73 = .ok (.getfield 74, 3) := by decide +kernel
theorem dX11_foretell_76 : decode cX11_foretell 76 = .ok (.iload_n 1, 1) := by decide +kernel
theorem dX11_foretell_77 : decode cX11_foretell 77 = .ok (.aload 4, 2) := by decide +kernel
theorem dX11_foretell_79 : decode cX11_foretell 79 = .ok (.aload 5, 2) := by decide +kernel
theorem dX11_foretell_81 : decode cX11_foretell 81 = .ok (.invokevirtual 249, 3) := by decide +kernel
theorem dX11_foretell_84 : decode cX11_foretell 84 = .ok (.aload_n 0, 1) := by decide +kernel
theorem dX11_foretell_85 : decode cX11_foretell 85 = .ok (.aload_n 0, 1) := by decide +kernel
theorem dX11_foretell_86 : decode cX11_foretell 86 = .ok (.getfield 74, 3) := by decide +kernel
theorem dX11_foretell_89 : decode cX11_foretell 89 = .ok (.invokevirtual 253, 3) := by decide +kernel
theorem dX11_foretell_92 : decode cX11_foretell 92 = .ok (.istore 6, 2) := by decide +kernel
theorem dX11_foretell_94 : decode cX11_foretell 94 = .ok (.iload_n 3, 1) := by decide +kernel
theorem dX11_foretell_95 : decode cX11_foretell 95 = .ok (.tableswitch 110 0 5 #[37, 40, 50, 60, 81, 98], 37) := by decide +kernel
theorem dX11_foretell_132 : decode cX11_foretell 132 = .ok (.iload 6, 2) := by decide +kernel
theorem dX11_foretell_134 : decode cX11_foretell 134 = .ok (.ireturn, 1) := by decide +kernel
theorem dX11_foretell_135 : decode cX11_foretell 135 = .ok (.aload_n 0, 1) := by decide +kernel
theorem dX11_foretell_136 : decode cX11_foretell 136 = .ok (.getfield 74, 3) := by decide +kernel
theorem dX11_foretell_139 : decode cX11_foretell 139 = .ok (.getfield 210, 3) := by decide +kernel
theorem dX11_foretell_142 : decode cX11_foretell 142 = .ok (.iconst 0, 1) := by decide +kernel
theorem dX11_foretell_143 : decode cX11_foretell 143 = .ok (.iaload, 1) := by decide +kernel
theorem dX11_foretell_144 : decode cX11_foretell 144 = .ok (.ireturn, 1) := by decide +kernel
theorem dX11_foretell_145 : decode cX11_foretell 145 = .ok (.aload_n 0, 1) := by decide +kernel
theorem dX11_foretell_146 : decode cX11_foretell 146 = .ok (.getfield 74, 3) := by decide +kernel
theorem dX11_foretell_149 : decode cX11_foretell 149 = .ok (.getfield 210, 3) := by decide +kernel
theorem dX11_foretell_152 : decode cX11_foretell 152 = .ok (.iconst 1, 1) := by decide +kernel
theorem dX11_foretell_153 : decode cX11_foretell 153 = .ok (.iaload, 1) := by decide +kernel
theorem dX11_foretell_154 : decode cX11_foretell 154 = .ok (.ireturn, 1) := by decide +kernel
theorem dX11_foretell_155 : decode cX11_foretell 155 = .ok (.iload 6, 2) := by decide +kernel
theorem dX11_foretell_157 : decode cX11_foretell 157 = .ok (.ifCond .ne 8, 3) := by decide +kernel
theorem dX11_foretell_160 : decode cX11_foretell 160 = .ok (.bipush (-9), 2) := by decide +kernel
theorem dX11_foretell_162 : decode cX11_foretell 162 = .ok (.goto 13, 3) := by decide +kernel
theorem dX11_foretell_165 : decode cX11_foretell 165 = .ok (.aload_n 0, 1) := by decide +kernel
theorem dX11_foretell_166 : decode cX11_foretell 166 = .ok (.getfield 74, 3) := by decide +kernel
theorem dX11_foretell_169 : decode cX11_foretell 169 = .ok (.invokevirtual 273, 3) := by decide +kernel
theorem dX11_foretell_172 : decode cX11_foretell 172 = .ok (.getfield 120, 3) := by decide +kernel
theorem dX11_foretell_175 : decode cX11_foretell 175 = .ok (.ireturn, 1) := by decide +kernel
theorem dX11_foretell_176 : decode cX11_foretell 176 = .ok (.iload 6, 2) := by decide +kernel
theorem dX11_foretell_178 : decode cX11_foretell 178 = .ok (.ifCond .ne 7, 3) := by decide +kernel
theorem dX11_foretell_181 : decode cX11_foretell 181 = .ok (.iconst 0, 1) := by decide +kernel
theorem dX11_foretell_182 : decode cX11_foretell 182 = .ok (.goto 10, 3) := by decide +kernel
theorem dX11_foretell_185 : decode cX11_foretell 185 = .ok (.aload_n 0, 1) := by decide +kernel
theorem dX11_foretell_186 : decode cX11_foretell 186 = .ok (.getfield 36, 3) := by decide +kernel
theorem dX11_foretell_189 : decode cX11_foretell 189 = .ok (.getfield 219, 3) := by decide +kernel
theorem dX11_foretell_192 : decode cX11_foretell 192 = .ok (.ireturn, 1) := by decide +kernel
theorem dX11_foretell_193 : decode cX11_foretell 193 = .ok (.aload_n 0, 1) := by decide +kernel
theorem dX11_foretell_194 : decode cX11_foretell 194 = .ok (.getfield 74, 3) := by decide +kernel
theorem dX11_foretell_197 : decode cX11_foretell 197 = .ok (.getfield 279, 3) := by decide +kernel
theorem dX11_foretell_200 : decode cX11_foretell 200 = .ok (.getfield 133, 3) := by decide +kernel
theorem dX11_foretell_203 : decode cX11_foretell 203 = .ok (.arraylength, 1) := by decide +kernel
theorem dX11_foretell_204 : decode cX11_foretell 204 = .ok (.ireturn, 1) := by decide +kernel
theorem dX11_foretell_205 : decode cX11_foretell 205 = .ok (.aload_n 0, 1) := by decide +kernel
theorem dX11_foretell_206 : decode cX11_foretell 206 = .ok (.getfield 74, 3) := by decide +kernel
theorem dX11_foretell_209 : decode cX11_foretell 209 = .ok (.getfield 279, 3) := by decide +kernel
theorem dX11_foretell_212 : decode cX11_foretell 212 = .ok (.getfield 133, 3) := by decide +kernel
theorem dX11_foretell_215 : decode cX11_foretell 215 = .ok (.iload_n 3, 1) := by decide +kernel
theorem dX11_foretell_216 : decode cX11_foretell 216 = .ok (.bipush 10, 2) := by decide +kernel
theorem dX11_foretell_218 : decode cX11_foretell 218 = .ok (.isub, 1) := by decide +kernel
theorem dX11_foretell_219 : decode cX11_foretell 219 = .ok (.invokestatic 152, 3) := by decide +kernel
theorem dX11_foretell_222 : decode cX11_foretell 222 = .ok (.ireturn, 1) := by decide +kernel
theorem dX11_blank_0 : decode cX11_blank 0 = .ok (.aload_n 0, 1) := by decide +kernel
theorem dX11_blank_1 : decode cX11_blank 1 = .ok (.iconst 0, 1) := by decide +kernel
theorem dX11_blank_2 : decode cX11_blank 2 = .ok (.putfield 77, 3) := by decide +kernel
theorem dX11_blank_5 : decode cX11_blank 5 = .ok (.aload_n 0, 1) := by decide +kernel
theorem dX11_blank_6 : decode cX11_blank 6 = .ok (.iload_n 1, 1) := by decide +kernel
theorem dX11_blank_7 : decode cX11_blank 7 = .ok (.invokevirtual 85, 3) := by decide +kernel
theorem dX11_blank_10 : decode cX11_blank 10 = .ok (.astore 4, 2) := by decide +kernel
theorem dX11_blank_12 : decode cX11_blank 12 = .ok (.aload 4, 2) := by decide +kernel
theorem dX11_blank_14 : decode cX11_blank 14 = .ok (.ifnonnull 5, 3) := by decide +kernel
theorem dX11_blank_17 : decode cX11_blank 17 = .ok (.iconst (-1), 1) := by decide +kernel
theorem dX11_blank_18 : decode cX11_blank 18 = .ok (.ireturn, 1) := by decide +kernel
theorem dX11_blank_19 : decode cX11_blank 19 = .ok (.iload_n 2, 1) := by decide +kernel
theorem dX11_blank_20 : decode cX11_blank 20 = .ok (.ifCond .lt 14, 3) := by decide +kernel
theorem dX11_blank_23 : decode cX11_blank 23 = .ok (.iload_n 2, 1) := by decide +kernel
theorem dX11_blank_24 : decode cX11_blank 24 = .ok (.iconst 1, 1) := by decide +kernel
theorem dX11_blank_25 : decode cX11_blank 25 = .ok (.if_icmp .gt 9, 3) := by decide +kernel
theorem dX11_blank_28 : decode cX11_blank 28 = .ok (.iload_n 3, 1) := by decide +kernel
theorem dX11_blank_29 : decode cX11_blank 29 = .ok (.bipush 24, 2) := by decide +kernel
theorem dX11_blank_31 : decode cX11_blank 31 = .ok (.if_icmp .le 6, 3) := by decide +kernel
theorem dX11_blank_34 : decode cX11_blank 34 = .ok (.bipush (-2), 2) := by decide +kernel
theorem dX11_blank_36 : decode cX11_blank 36 = .ok (.ireturn, 1) := by decide +kernel
theorem dX11_blank_37 : decode cX11_blank 37 = .ok (.iload_n 3, 1) := by decide +kernel
theorem dX11_blank_38 : decode cX11_blank 38 = .ok (.ifCond .ge 9, 3) := by decide +kernel
theorem dX11_blank_41 : decode cX11_blank 41 = .ok (.aload_n 0, 1) := by decide +kernel
theorem dX11_blank_42 : decode cX11_blank 42 = .ok (.iconst 4, 1) := by decide +kernel
theorem dX11_blank_43 : decode cX11_blank 43 = .ok (.invokevirtual 97, 3) := by decide +kernel
theorem dX11_blank_46 : decode cX11_blank 46 = .ok (.ireturn, 1) := by decide +kernel
theorem dX11_blank_47 : decode cX11_blank 47 = .ok (.aload 4, 2) := by decide +kernel
theorem dX11_blank_49 : decode cX11_blank 49 = .ok (.iload_n 3, 1) := by decide +kernel
theorem dX11_blank_50 : decode cX11_blank 50 = .ok (.newarray .int, 2) := by decide +kernel
theorem dX11_blank_52 : decode cX11_blank 52 = .ok (.iload_n 2, 1) := by decide +kernel
theorem dX11_blank_53 : decode cX11_blank 53 = .ok (.ifCond .ne 7, 3) := by decide +kernel
theorem dX11_blank_56 : decode cX11_blank 56 = .ok (.iconst 1, 1) := by decide +kernel
theorem dX11_blank_57 : decode cX11_blank 57 = .ok (.goto 4, 3) := by decide +kernel
theorem dX11_blank_60 : decode cX11_blank 60 = .ok (.iconst 0, 1) := by decide +kernel
theorem dX11_blank_61 : decode cX11_blank 61 = .ok (.invokevirtual 311, 3) := by decide +kernel
theorem dX11_blank_64 : decode cX11_blank 64 = .ok (.iconst 1, 1) := by decide +kernel
theorem dX11_blank_65 : decode cX11_blank 65 = .ok (.ireturn, 1) := by decide +kernel
theorem dX11_show_0 : decode cX11_show 0 = .ok (.aload_n 0, 1) := by decide +kernel
theorem dX11_show_1 : decode cX11_show 1 = .ok (.iload_n 1, 1) := by decide +kernel
theorem dX11_show_2 : decode cX11_show 2 = .ok (.invokevirtual 85, 3) := by decide +kernel
theorem dX11_show_5 : decode cX11_show 5 = .ok (.astore_n 3, 1) := by decide +kernel
theorem dX11_show_6 : decode cX11_show 6 = .ok (.aload_n 0, 1) := by decide +kernel
theorem dX11_show_7 : decode cX11_show 7 = .ok (.iload_n 2, 1) := by decide +kernel
theorem dX11_show_8 : decode cX11_show 8 = .ok (.invokevirtual 123, 3) := by decide +kernel
theorem dX11_show_11 : decode cX11_show 11 = .ok (.astore 4, 2) := by decide +kernel
theorem dX11_show_13 : decode cX11_show 13 = .ok (.aload_n 3, 1) := by decide +kernel
theorem dX11_show_14 : decode cX11_show 14 = .ok (.ifnull 8, 3) := by decide +kernel
theorem dX11_show_17 : decode cX11_show 17 = .ok (.aload 4, 2) := by decide +kernel
theorem dX11_show_19 : decode cX11_show 19 = .ok (.ifnonnull 5, 3) := by decide +kernel
theorem dX11_show_22 : decode cX11_show 22 = .ok (.iconst (-1), 1) := by decide +kernel
theorem dX11_show_23 : decode cX11_show 23 = .ok (.ireturn, 1) := by decide +kernel
theorem dX11_show_24 : decode cX11_show 24 = .ok (.aload_n 3, 1) := by decide +kernel
theorem dX11_show_25 : decode cX11_show 25 = .ok (.aload 4, 2) := by decide +kernel
theorem dX11_show_27 : decode cX11_show 27 = .ok (.getfield 133, 3) := by decide +kernel
theorem dX11_show_30 : decode cX11_show 30 = .ok (.invokevirtual 111, 3) := by decide +kernel
theorem dX11_show_33 : decode cX11_show 33 = .ok (.checkcast 112, 3) := by decide +kernel
theorem dX11_show_36 : decode cX11_show 36 = .ok (.iconst 1, 1) := by decide +kernel
theorem dX11_show_37 : decode cX11_show 37 = .ok (.invokevirtual 311, 3) := by decide +kernel
theorem dX11_show_40 : decode cX11_show 40 = .ok (.aload 4, 2) := by decide +kernel
theorem dX11_show_42 : decode cX11_show 42 = .ok (.getfield 133, 3) := by decide +kernel
theorem dX11_show_45 : decode cX11_show 45 = .ok (.arraylength, 1) := by decide +kernel
theorem dX11_show_46 : decode cX11_show 46 = .ok (.ireturn, 1) := by decide +kernel
theorem dX11_trail_0 : decode cX11_trail 0 = .ok (.aload_n 0, 1) := by decide +kernel
theorem dX11_trail_1 : decode cX11_trail 1 = .ok (.iload_n 1, 1) := by decide +kernel
theorem dX11_trail_2 : decode cX11_trail 2 = .ok (.invokevirtual 85, 3) := by decide +kernel
theorem dX11_trail_5 : decode cX11_trail 5 = .ok (.astore_n 3, 1) := by decide +kernel
theorem dX11_trail_6 : decode cX11_trail 6 = .ok (.aload_n 0, 1) := by decide +kernel
theorem dX11_trail_7 : decode cX11_trail 7 = .ok (.iload_n 2, 1) := by decide +kernel
theorem dX11_trail_8 : decode cX11_trail 8 = .ok (.invokevirtual 123, 3) := by decide +kernel
theorem dX11_trail_11 : decode cX11_trail 11 = .ok (.astore 4, 2) := by decide +kernel
theorem dX11_trail_13 : decode cX11_trail 13 = .ok (.aload_n 3, 1) := by decide +kernel
theorem dX11_trail_14 : decode cX11_trail 14 = .ok (.ifnull 8, 3) := by decide +kernel
theorem dX11_trail_17 : decode cX11_trail 17 = .ok (.aload 4, 2) := by decide +kernel
theorem dX11_trail_19 : decode cX11_trail 19 = .ok (.ifnonnull 5, 3) := by decide +kernel
theorem dX11_trail_22 : decode cX11_trail 22 = .ok (.iconst (-1), 1) := by decide +kernel
theorem dX11_trail_23 : decode cX11_trail 23 = .ok (.ireturn, 1) := by decide +kernel
theorem dX11_trail_24 : decode cX11_trail 24 = .ok (.aload 4, 2) := by decide +kernel
theorem dX11_trail_26 : decode cX11_trail 26 = .ok (.invokevirtual 315, 3) := by decide +kernel
theorem dX11_trail_29 : decode cX11_trail 29 = .ok (.astore 5, 2) := by decide +kernel
theorem dX11_trail_31 : decode cX11_trail 31 = .ok (.aload_n 3, 1) := by decide +kernel
theorem dX11_trail_32 : decode cX11_trail 32 = .ok (.aload 5, 2) := by decide +kernel
theorem dX11_trail_34 : decode cX11_trail 34 = .ok (.iconst 0, 1) := by decide +kernel
theorem dX11_trail_35 : decode cX11_trail 35 = .ok (.invokevirtual 311, 3) := by decide +kernel
theorem dX11_trail_38 : decode cX11_trail 38 = .ok (.aload 5, 2) := by decide +kernel
theorem dX11_trail_40 : decode cX11_trail 40 = .ok (.arraylength, 1) := by decide +kernel
theorem dX11_trail_41 : decode cX11_trail 41 = .ok (.ireturn, 1) := by decide +kernel
theorem dX11_hold_0 : decode cX11_hold 0 = .ok (.aload_n 0, 1) := by decide +kernel
theorem dX11_hold_1 : decode cX11_hold 1 = .ok (.iload_n 1, 1) := by decide +kernel
theorem dX11_hold_2 : decode cX11_hold 2 = .ok (.invokevirtual 85, 3) := by decide +kernel
theorem dX11_hold_5 : decode cX11_hold 5 = .ok (.astore_n 3, 1) := by decide +kernel
theorem dX11_hold_6 : decode cX11_hold 6 = .ok (.aload_n 0, 1) := by decide +kernel
theorem dX11_hold_7 : decode cX11_hold 7 = .ok (.iload_n 2, 1) := by decide +kernel
theorem dX11_hold_8 : decode cX11_hold 8 = .ok (.invokevirtual 123, 3) := by decide +kernel
theorem dX11_hold_11 : decode cX11_hold 11 = .ok (.astore 4, 2) := by decide +kernel
theorem dX11_hold_13 : decode cX11_hold 13 = .ok (.aload_n 3, 1) := by decide +kernel
theorem dX11_hold_14 : decode cX11_hold 14 = .ok (.ifnull 8, 3) := by decide +kernel
theorem dX11_hold_17 : decode cX11_hold 17 = .ok (.aload 4, 2) := by decide +kernel
theorem dX11_hold_19 : decode cX11_hold 19 = .ok (.ifnonnull 5, 3) := by decide +kernel
theorem dX11_hold_22 : decode cX11_hold 22 = .ok (.iconst (-1), 1) := by decide +kernel
theorem dX11_hold_23 : decode cX11_hold 23 = .ok (.ireturn, 1) := by decide +kernel
theorem dX11_hold_24 : decode cX11_hold 24 = .ok (.aload_n 3, 1) := by decide +kernel
theorem dX11_hold_25 : decode cX11_hold 25 = .ok (.aload 4, 2) := by decide +kernel
theorem dX11_hold_27 : decode cX11_hold 27 = .ok (.invokevirtual 318, 3) := by decide +kernel
theorem dX11_hold_30 : decode cX11_hold 30 = .ok (.iconst 1, 1) := by decide +kernel
theorem dX11_hold_31 : decode cX11_hold 31 = .ok (.ireturn, 1) := by decide +kernel
theorem dX11_held_0 : decode cX11_held 0 = .ok (.aload_n 0, 1) := by decide +kernel
theorem dX11_held_1 : decode cX11_held 1 = .ok (.iconst 0, 1) := by decide +kernel
theorem dX11_held_2 : decode cX11_held 2 = .ok (.putfield 77, 3) := by decide +kernel
theorem dX11_held_5 : decode cX11_held 5 = .ok (.aload_n 0, 1) := by decide +kernel
theorem dX11_held_6 : decode cX11_held 6 = .ok (.iload_n 1, 1) := by decide +kernel
theorem dX11_held_7 : decode cX11_held 7 = .ok (.invokevirtual 85, 3) := by decide +kernel
theorem dX11_held_10 : decode cX11_held 10 = .ok (.astore_n 2, 1) := by decide +kernel
theorem dX11_held_11 : decode cX11_held 11 = .ok (.aload_n 2, 1) := by decide +kernel
theorem dX11_held_12 : decode cX11_held 12 = .ok (.ifnonnull 5, 3) := by decide +kernel
theorem dX11_held_15 : decode cX11_held 15 = .ok (.iconst (-1), 1) := by decide +kernel
theorem dX11_held_16 : decode cX11_held 16 = .ok (.ireturn, 1) := by decide +kernel
theorem dX11_held_17 : decode cX11_held 17 = .ok (.aload_n 2, 1) := by decide +kernel
theorem dX11_held_18 : decode cX11_held 18 = .ok (.getfield 108, 3) := by decide +kernel
theorem dX11_held_21 : decode cX11_held 21 = .ok (.ifnull 9, 3) := by decide +kernel
theorem dX11_held_24 : decode cX11_held 24 = .ok (.aload_n 0, 1) := by decide +kernel
theorem dX11_held_25 : decode cX11_held 25 = .ok (.iconst 2, 1) := by decide +kernel
theorem dX11_held_26 : decode cX11_held 26 = .ok (.invokevirtual 97, 3) := by decide +kernel
theorem dX11_held_29 : decode cX11_held 29 = .ok (.ireturn, 1) := by decide +kernel
theorem dX11_held_30 : decode cX11_held 30 = .ok (.aload_n 2, 1) := by decide +kernel
theorem dX11_held_31 : decode cX11_held 31 = .ok (.getfield 321, 3) := by decide +kernel
theorem dX11_held_34 : decode cX11_held 34 = .ok (.ifnonnull 9, 3) := by decide +kernel
theorem dX11_held_37 : decode cX11_held 37 = .ok (.aload_n 0, 1) := by decide +kernel
theorem dX11_held_38 : decode cX11_held 38 = .ok (.iconst 1, 1) := by decide +kernel
theorem dX11_held_39 : decode cX11_held 39 = .ok (.invokevirtual 97, 3) := by decide +kernel
theorem dX11_held_42 : decode cX11_held 42 = .ok (.ireturn, 1) := by decide +kernel
theorem dX11_held_43 : decode cX11_held 43 = .ok (.aload_n 2, 1) := by decide +kernel
theorem dX11_held_44 : decode cX11_held 44 = .ok (.getfield 321, 3) := by decide +kernel
theorem dX11_held_47 : decode cX11_held 47 = .ok (.getfield 324, 3) := by decide +kernel
theorem dX11_held_50 : decode cX11_held 50 = .ok (.ifCond .eq 8, 3) := by decide +kernel
theorem dX11_held_53 : decode cX11_held 53 = .ok (.bipush (-9), 2) := by decide +kernel
theorem dX11_held_55 : decode cX11_held 55 = .ok (.goto 10, 3) := by decide +kernel
theorem dX11_held_58 : decode cX11_held 58 = .ok (.aload_n 2, 1) := by decide +kernel
theorem dX11_held_59 : decode cX11_held 59 = .ok (.getfield 321, 3) := by decide +kernel
theorem dX11_held_62 : decode cX11_held 62 = .ok (.getfield 120, 3) := by decide +kernel
theorem dX11_held_65 : decode cX11_held 65 = .ok (.ireturn, 1) := by decide +kernel
theorem dX11_as_0 : decode cX11_as 0 = .ok (.aload_n 0, 1) := by decide +kernel
theorem dX11_as_1 : decode cX11_as 1 = .ok (.iconst 0, 1) := by decide +kernel
theorem dX11_as_2 : decode cX11_as 2 = .ok (.putfield 77, 3) := by decide +kernel
theorem dX11_as_5 : decode cX11_as 5 = .ok (.aload_n 0, 1) := by decide +kernel
theorem dX11_as_6 : decode cX11_as 6 = .ok (.iload_n 1, 1) := by decide +kernel
theorem dX11_as_7 : decode cX11_as 7 = .ok (.invokevirtual 85, 3) := by decide +kernel
theorem dX11_as_10 : decode cX11_as 10 = .ok (.astore_n 3, 1) := by decide +kernel
theorem dX11_as_11 : decode cX11_as 11 = .ok (.aload_n 3, 1) := by decide +kernel
theorem dX11_as_12 : decode cX11_as 12 = .ok (.ifnonnull 5, 3) := by decide +kernel
theorem dX11_as_15 : decode cX11_as 15 = .ok (.iconst (-1), 1) := by decide +kernel
theorem dX11_as_16 : decode cX11_as 16 = .ok (.ireturn, 1) := by decide +kernel
theorem dX11_as_17 : decode cX11_as 17 = .ok (.iload_n 2, 1) := by decide +kernel
theorem dX11_as_18 : decode cX11_as 18 = .ok (.ifCond .lt 8, 3) := by decide +kernel
theorem dX11_as_21 : decode cX11_as 21 = .ok (.iload_n 2, 1) := by decide +kernel
theorem dX11_as_22 : decode cX11_as 22 = .ok (.iconst 4, 1) := by decide +kernel
theorem dX11_as_23 : decode cX11_as 23 = .ok (.if_icmp .le 6, 3) := by decide +kernel
theorem dX11_as_26 : decode cX11_as 26 = .ok (.bipush (-2), 2) := by decide +kernel
theorem dX11_as_28 : decode cX11_as 28 = .ok (.ireturn, 1) := by decide +kernel
theorem dX11_as_29 : decode cX11_as 29 = .ok (.aload_n 3, 1) := by decide +kernel
theorem dX11_as_30 : decode cX11_as 30 = .ok (.invokevirtual 328, 3) := by decide +kernel
theorem dX11_as_33 : decode cX11_as 33 = .ok (.ifCond .eq 9, 3) := by decide +kernel
theorem dX11_as_36 : decode cX11_as 36 = .ok (.aload_n 0, 1) := by decide +kernel
theorem dX11_as_37 : decode cX11_as 37 = .ok (.iconst 1, 1) := by decide +kernel
theorem dX11_as_38 : decode cX11_as 38 = .ok (.invokevirtual 97, 3) := by decide +kernel
theorem dX11_as_41 : decode cX11_as 41 = .ok (.ireturn, 1) := by decide +kernel
theorem dX11_as_42 : decode cX11_as 42 = .ok (.aload_n 3, 1) := by decide +kernel
theorem dX11_as_43 : decode cX11_as 43 = .ok (.iload_n 2, 1) := by decide +kernel
theorem dX11_as_44 : decode cX11_as 44 = .ok (.invokevirtual 331, 3) := by decide +kernel
theorem dX11_as_47 : decode cX11_as 47 = .ok (.ifCond .eq 7, 3) := by decide +kernel
theorem dX11_as_50 : decode cX11_as 50 = .ok (.iconst 1, 1) := by decide +kernel
theorem dX11_as_51 : decode cX11_as 51 = .ok (.goto 8, 3) := by decide +kernel
theorem dX11_as_54 : decode cX11_as 54 = .ok (.aload_n 0, 1) := by decide +kernel
theorem dX11_as_55 : decode cX11_as 55 = .ok (.iconst 2, 1) := by decide +kernel
theorem dX11_as_56 : decode cX11_as 56 = .ok (.invokevirtual 97, 3) := by decide +kernel
theorem dX11_as_59 : decode cX11_as 59 = .ok (.ireturn, 1) := by decide +kernel
theorem dX11_lose_0 : decode cX11_lose 0 = .ok (.aload_n 0, 1) := by decide +kernel
theorem dX11_lose_1 : decode cX11_lose 1 = .ok (.iload_n 1, 1) := by decide +kernel
theorem dX11_lose_2 : decode cX11_lose 2 = .ok (.invokevirtual 85, 3) := by decide +kernel
theorem dX11_lose_5 : decode cX11_lose 5 = .ok (.astore_n 2, 1) := by decide +kernel
theorem dX11_lose_6 : decode cX11_lose 6 = .ok (.aload_n 2, 1) := by decide +kernel
theorem dX11_lose_7 : decode cX11_lose 7 = .ok (.ifnonnull 5, 3) := by decide +kernel
theorem dX11_lose_10 : decode cX11_lose 10 = .ok (.iconst (-1), 1) := by decide +kernel
theorem dX11_lose_11 : decode cX11_lose 11 = .ok (.ireturn, 1) := by decide +kernel
theorem dX11_lose_12 : decode cX11_lose 12 = .ok (.aload_n 2, 1) := by decide +kernel
theorem dX11_lose_13 : decode cX11_lose 13 = .ok (.invokevirtual 328, 3) := by decide +kernel
theorem dX11_lose_16 : decode cX11_lose 16 = .ok (.ifCond .ne 7, 3) := by decide +kernel
theorem dX11_lose_19 : decode cX11_lose 19 = .ok (.iconst 1, 1) := by decide +kernel
theorem dX11_lose_20 : decode cX11_lose 20 = .ok (.goto 4, 3) := by decide +kernel
theorem dX11_lose_23 : decode cX11_lose 23 = .ok (.iconst 0, 1) := by decide +kernel
theorem dX11_lose_24 : decode cX11_lose 24 = .ok (.istore_n 3, 1) := by decide +kernel
theorem dX11_lose_25 : decode cX11_lose 25 = .ok (.aload_n 2, 1) := by decide +kernel
theorem dX11_lose_26 : decode cX11_lose 26 = .ok (.aconst_null, 1) := by decide +kernel
theorem dX11_lose_27 : decode cX11_lose 27 = .ok (.invokevirtual 318, 3) := by decide +kernel
theorem dX11_lose_30 : decode cX11_lose 30 = .ok (.iload_n 3, 1) := by decide +kernel
theorem dX11_lose_31 : decode cX11_lose 31 = .ok (.ifCond .eq 7, 3) := by decide +kernel
theorem dX11_lose_34 : decode cX11_lose 34 = .ok (.iconst 1, 1) := by decide +kernel
theorem dX11_lose_35 : decode cX11_lose 35 = .ok (.goto 4, 3) := by decide +kernel
theorem dX11_lose_38 : decode cX11_lose 38 = .ok (.iconst 0, 1) := by decide +kernel
theorem dX11_lose_39 : decode cX11_lose 39 = .ok (.ireturn, 1) := by decide +kernel
theorem dX11_write_0 : decode cX11_write 0 = .ok (.aload_n 0, 1) := by decide +kernel
theorem dX11_write_1 : decode cX11_write 1 = .ok (.iconst 0, 1) := by decide +kernel
theorem dX11_write_2 : decode cX11_write 2 = .ok (.putfield 77, 3) := by decide +kernel
theorem dX11_write_5 : decode cX11_write 5 = .ok (.aload_n 0, 1) := by decide +kernel
theorem dX11_write_6 : decode cX11_write 6 = .ok (.iload_n 1, 1) := by decide +kernel
theorem dX11_write_7 : decode cX11_write 7 = .ok (.invokevirtual 85, 3) := by decide +kernel
theorem dX11_write_10 : decode cX11_write 10 = .ok (.astore 4, 2) := by decide +kernel
theorem dX11_write_12 : decode cX11_write 12 = .ok (.aload 4, 2) := by decide +kernel
theorem dX11_write_14 : decode cX11_write 14 = .ok (.ifnonnull 5, 3) := by decide +kernel
theorem dX11_write_17 : decode cX11_write 17 = .ok (.iconst (-1), 1) := by decide +kernel
theorem dX11_write_18 : decode cX11_write 18 = .ok (.ireturn, 1) := by decide +kernel
theorem dX11_write_19 : decode cX11_write 19 = .ok (.aload 4, 2) := by decide +kernel
theorem dX11_write_21 : decode cX11_write 21 = .ok (.iload_n 2, 1) := by decide +kernel
theorem dX11_write_22 : decode cX11_write 22 = .ok (.invokevirtual 334, 3) := by decide +kernel
theorem dX11_write_25 : decode cX11_write 25 = .ok (.istore 5, 2) := by decide +kernel
theorem dX11_write_27 : decode cX11_write 27 = .ok (.iload 5, 2) := by decide +kernel
theorem dX11_write_29 : decode cX11_write 29 = .ok (.ifCond .eq 10, 3) := by decide +kernel
theorem dX11_write_32 : decode cX11_write 32 = .ok (.aload_n 0, 1) := by decide +kernel
theorem dX11_write_33 : decode cX11_write 33 = .ok (.iload 5, 2) := by decide +kernel
theorem dX11_write_35 : decode cX11_write 35 = .ok (.invokevirtual 97, 3) := by decide +kernel
theorem dX11_write_38 : decode cX11_write 38 = .ok (.ireturn, 1) := by decide +kernel
theorem dX11_write_39 : decode cX11_write 39 = .ok (.aload 4, 2) := by decide +kernel
theorem dX11_write_41 : decode cX11_write 41 = .ok (.getfield 108, 3) := by decide +kernel
theorem dX11_write_44 : decode cX11_write 44 = .ok (.iload_n 2, 1) := by decide +kernel
theorem dX11_write_45 : decode cX11_write 45 = .ok (.aload 4, 2) := by decide +kernel
theorem dX11_write_47 : decode cX11_write 47 = .ok (.getfield 337, 3) := by decide +kernel
theorem dX11_write_50 : decode cX11_write 50 = .ok (.ifCond .eq 8, 3) := by decide +kernel
theorem dX11_write_53 : decode cX11_write 53 = .ok (.iload_n 3, 1) := by decide +kernel
theorem dX11_write_54 : decode cX11_write 54 = .ok (.i2b, 1) := by decide +kernel
theorem dX11_write_55 : decode cX11_write 55 = .ok (.goto 4, 3) := by decide +kernel
theorem dX11_write_58 : decode cX11_write 58 = .ok (.iload_n 3, 1) := by decide +kernel
theorem dX11_write_59 : decode cX11_write 59 = .ok (.iastore, 1) := by decide +kernel
theorem dX11_write_60 : decode cX11_write 60 = .ok (.iconst 1, 1) := by decide +kernel
theorem dX11_write_61 : decode cX11_write 61 = .ok (.ireturn, 1) := by decide +kernel
theorem dX11_number_0 : decode cX11_number 0 = .ok (.aload_n 0, 1) := by decide +kernel
theorem dX11_number_1 : decode cX11_number 1 = .ok (.iconst 0, 1) := by decide +kernel
theorem dX11_number_2 : decode cX11_number 2 = .ok (.putfield 77, 3) := by decide +kernel
theorem dX11_number_5 : decode cX11_number 5 = .ok (.aload_n 0, 1) := by decide +kernel
theorem dX11_number_6 : decode cX11_number 6 = .ok (.iload_n 1, 1) := by decide +kernel
theorem dX11_number_7 : decode cX11_number 7 = .ok (.invokevirtual 85, 3) := by decide +kernel
theorem dX11_number_10 : decode cX11_number 10 = .ok (.astore_n 3, 1) := by decide +kernel
theorem dX11_number_11 : decode cX11_number 11 = .ok (.aload_n 3, 1) := by decide +kernel
theorem dX11_number_12 : decode cX11_number 12 = .ok (.ifnonnull 7, 3) := by decide +kernel
theorem dX11_number_15 : decode cX11_number 15 = .ok (.ldc2_w 340, 3) := by decide +kernel
theorem dX11_number_18 : decode cX11_number 18 = .ok (.lreturn, 1) := by decide +kernel
theorem dX11_number_19 : decode cX11_number 19 = .ok (.aload_n 0, 1) := by decide +kernel
theorem dX11_number_20 : decode cX11_number 20 = .ok (.aload_n 3, 1) := by decide +kernel
theorem dX11_number_21 : decode cX11_number 21 = .ok (.iload_n 2, 1) := by decide +kernel
theorem dX11_number_22 : decode cX11_number 22 = .ok (.invokevirtual 334, 3) := by decide +kernel
theorem dX11_number_25 : decode cX11_number 25 = .ok (.putfield 77, 3) := by decide +kernel
theorem dX11_number_28 : decode cX11_number 28 = .ok (.aload_n 0, 1) := by decide +kernel
theorem dX11_number_29 : decode cX11_number 29 = .ok (.getfield 77, 3) := by decide +kernel
theorem dX11_number_32 : decode cX11_number 32 = .ok (.ifCond .ne 13, 3) := by decide +kernel
theorem dX11_number_35 : decode cX11_number 35 = .ok (.aload_n 3, 1) := by decide +kernel
theorem dX11_number_36 : decode cX11_number 36 = .ok (.getfield 108, 3) := by decide +kernel
theorem dX11_number_39 : decode cX11_number 39 = .ok (.iload_n 2, 1) := by decide +kernel
theorem dX11_number_40 : decode cX11_number 40 = .ok (.iaload, 1) := by decide +kernel
theorem dX11_number_41 : decode cX11_number 41 = .ok (.i2l, 1) := by decide +kernel
theorem dX11_number_42 : decode cX11_number 42 = .ok (.goto 6, 3) := by decide +kernel
theorem dX11_number_45 : decode cX11_number 45 = .ok (.ldc2_w 340, 3) := by decide +kernel
theorem dX11_number_48 : decode cX11_number 48 = .ok (.lreturn, 1) := by decide +kernel
theorem dX11_copy_0 : decode cX11_copy 0 = .ok (.aload_n 0, 1) := by decide +kernel
theorem dX11_copy_1 : decode cX11_copy 1 = .ok (.iconst 0, 1) := by decide +kernel
theorem dX11_copy_2 : decode cX11_copy 2 = .ok (.putfield 77, 3) := by decide +kernel
theorem dX11_copy_5 : decode cX11_copy 5 = .ok (.aload_n 0, 1) := by decide +kernel
theorem dX11_copy_6 : decode cX11_copy 6 = .ok (.iload_n 1, 1) := by decide +kernel
theorem dX11_copy_7 : decode cX11_copy 7 = .ok (.invokevirtual 85, 3) := by decide +kernel
theorem dX11_copy_10 : decode cX11_copy 10 = .ok (.astore 6, 2) := by decide +kernel
theorem dX11_copy_12 : decode cX11_copy 12 = .ok (.aload_n 0, 1) := by decide +kernel
theorem dX11_copy_13 : decode cX11_copy 13 = .ok (.iload_n 3, 1) := by decide +kernel
theorem dX11_copy_14 : decode cX11_copy 14 = .ok (.invokevirtual 85, 3) := by decide +kernel
theorem dX11_copy_17 : decode cX11_copy 17 = .ok (.astore 7, 2) := by decide +kernel
theorem dX11_copy_19 : decode cX11_copy 19 = .ok (.aload 6, 2) := by decide +kernel
theorem dX11_copy_21 : decode cX11_copy 21 = .ok (.ifnull 8, 3) := by decide +kernel
theorem dX11_copy_24 : decode cX11_copy 24 = .ok (.aload 7, 2) := by decide +kernel
theorem dX11_copy_26 : decode cX11_copy 26 = .ok (.ifnonnull 5, 3) := by decide +kernel
theorem dX11_copy_29 : decode cX11_copy 29 = .ok (.iconst (-1), 1) := by decide +kernel
theorem dX11_copy_30 : decode cX11_copy 30 = .ok (.ireturn, 1) := by decide +kernel
theorem dX11_copy_31 : decode cX11_copy 31 = .ok (.aload 6, 2) := by decide +kernel
theorem dX11_copy_33 : decode cX11_copy 33 = .ok (.invokevirtual 328, 3) := by decide +kernel
theorem dX11_copy_36 : decode cX11_copy 36 = .ok (.ifCond .ne 11, 3) := by decide +kernel
theorem dX11_copy_39 : decode cX11_copy 39 = .ok (.aload 7, 2) := by decide +kernel
theorem dX11_copy_41 : decode cX11_copy 41 = .ok (.invokevirtual 328, 3) := by decide +kernel
theorem dX11_copy_44 : decode cX11_copy 44 = .ok (.ifCond .eq 9, 3) := by decide +kernel
theorem dX11_copy_47 : decode cX11_copy 47 = .ok (.aload_n 0, 1) := by decide +kernel
theorem dX11_copy_48 : decode cX11_copy 48 = .ok (.iconst 1, 1) := by decide +kernel
theorem dX11_copy_49 : decode cX11_copy 49 = .ok (.invokevirtual 97, 3) := by decide +kernel
theorem dX11_copy_52 : decode cX11_copy 52 = .ok (.ireturn, 1) := by decide +kernel
theorem dX11_copy_53 : decode cX11_copy 53 = .ok (.aload 6, 2) := by decide +kernel
theorem dX11_copy_55 : decode cX11_copy 55 = .ok (.getfield 108, 3) := by decide +kernel
theorem dX11_copy_58 : decode cX11_copy 58 = .ok (.ifnull 24, 3) := by decide +kernel
theorem dX11_copy_61 : decode cX11_copy 61 = .ok (.aload 7, 2) := by decide +kernel
theorem dX11_copy_63 : decode cX11_copy 63 = .ok (.getfield 108, 3) := by decide +kernel
theorem dX11_copy_66 : decode cX11_copy 66 = .ok (.ifnull 16, 3) := by decide +kernel
theorem dX11_copy_69 : decode cX11_copy 69 = .ok (.aload 6, 2) := by decide +kernel
theorem dX11_copy_71 : decode cX11_copy 71 = .ok (.getfield 337, 3) := by decide +kernel
theorem dX11_copy_74 : decode cX11_copy 74 = .ok (.aload 7, 2) := by decide +kernel
theorem dX11_copy_76 : decode cX11_copy 76 = .ok (.getfield 337, 3) := by decide +kernel
theorem dX11_copy_79 : decode cX11_copy 79 = .ok (.if_icmp .eq 9, 3) := by decide +kernel
theorem dX11_copy_82 : decode cX11_copy 82 = .ok (.aload_n 0, 1) := by decide +kernel
theorem dX11_copy_83 : decode cX11_copy 83 = .ok (.iconst 2, 1) := by decide +kernel
theorem dX11_copy_84 : decode cX11_copy 84 = .ok (.invokevirtual 97, 3) := by decide +kernel
theorem dX11_copy_87 : decode cX11_copy 87 = .ok (.ireturn, 1) := by decide +kernel
theorem dX11_copy_88 : decode cX11_copy 88 = .ok (.iload_n 2, 1) := by decide +kernel
theorem dX11_copy_89 : decode cX11_copy 89 = .ok (.iload 5, 2) := by decide +kernel
theorem dX11_copy_91 : decode cX11_copy 91 = .ok (.aload 6, 2) := by decide +kernel
theorem dX11_copy_93 : decode cX11_copy 93 = .ok (.getfield 108, 3) := by decide +kernel
theorem dX11_copy_96 : decode cX11_copy 96 = .ok (.arraylength, 1) := by decide +kernel
theorem dX11_copy_97 : decode cX11_copy 97 = .ok (.invokestatic 342, 3) := by decide +kernel
theorem dX11_copy_100 : decode cX11_copy 100 = .ok (.ifCond .eq 19, 3) := by decide +kernel
theorem dX11_copy_103 : decode cX11_copy 103 = .ok (.iload 4, 2) := by decide +kernel
theorem dX11_copy_105 : decode cX11_copy 105 = .ok (.iload 5, 2) := by decide +kernel
theorem dX11_copy_107 : decode cX11_copy 107 = .ok (.aload 7, 2) := by decide +kernel
theorem dX11_copy_109 : decode cX11_copy 109 = .ok (.getfield 108, 3) := by decide +kernel
theorem dX11_copy_112 : decode cX11_copy 112 = .ok (.arraylength, 1) := by decide +kernel
theorem dX11_copy_113 : decode cX11_copy 113 = .ok (.invokestatic 342, 3) := by decide +kernel
theorem dX11_copy_116 : decode cX11_copy 116 = .ok (.ifCond .ne 9, 3) := by decide +kernel
theorem dX11_copy_119 : decode cX11_copy 119 = .ok (.aload_n 0, 1) := by decide +kernel
theorem dX11_copy_120 : decode cX11_copy 120 = .ok (.iconst 3, 1) := by decide +kernel
theorem dX11_copy_121 : decode cX11_copy 121 = .ok (.invokevirtual 97, 3) := by decide +kernel
theorem dX11_copy_124 : decode cX11_copy 124 = .ok (.ireturn, 1) := by decide +kernel
theorem dX11_copy_125 : decode cX11_copy 125 = .ok (.aload 6, 2) := by decide +kernel
theorem dX11_copy_127 : decode cX11_copy 127 = .ok (.getfield 108, 3) := by decide +kernel
theorem dX11_copy_130 : decode cX11_copy 130 = .ok (.iload_n 2, 1) := by decide +kernel
theorem dX11_copy_131 : decode cX11_copy 131 = .ok (.aload 7, 2) := by decide +kernel
theorem dX11_copy_133 : decode cX11_copy 133 = .ok (.getfield 108, 3) := by decide +kernel
theorem dX11_copy_136 : decode cX11_copy 136 = .ok (.iload 4, 2) := by decide +kernel
theorem dX11_copy_138 : decode cX11_copy 138 = .ok (.iload 5, 2) := by decide +kernel
theorem dX11_copy_140 : decode cX11_copy 140 = .ok (.invokestatic 346, 3) := by decide +kernel
theorem dX11_copy_143 : decode cX11_copy 143 = .ok (.iload 5, 2) := by decide +kernel
theorem dX11_copy_145 : decode cX11_copy 145 = .ok (.ireturn, 1) := by decide +kernel
theorem dX11_tell_0 : decode cX11_tell 0 = .ok (.aload_n 0, 1) := by decide +kernel
theorem dX11_tell_1 : decode cX11_tell 1 = .ok (.iload_n 1, 1) := by decide +kernel
theorem dX11_tell_2 : decode cX11_tell 2 = .ok (.invokevirtual 123, 3) := by decide +kernel
theorem dX11_tell_5 : decode cX11_tell 5 = .ok (.astore_n 2, 1) := by decide +kernel
theorem dX11_tell_6 : decode cX11_tell 6 = .ok (.aload_n 2, 1) := by decide +kernel
theorem dX11_tell_7 : decode cX11_tell 7 = .ok (.ifnonnull 7, 3) := by decide +kernel
theorem dX11_tell_10 : decode cX11_tell 10 = .ok (.iconst (-1), 1) := by decide +kernel
theorem dX11_tell_11 : decode cX11_tell 11 = .ok (.goto 7, 3) := by decide +kernel
theorem dX11_tell_14 : decode cX11_tell 14 = .ok (.aload_n 2, 1) := by decide +kernel
theorem dX11_tell_15 : decode cX11_tell 15 = .ok (.invokevirtual 352, 3) := by decide +kernel
theorem dX11_tell_18 : decode cX11_tell 18 = .ok (.ireturn, 1) := by decide +kernel
theorem dX11_trace_0 : decode cX11_trace 0 = .ok (.aload_n 0, 1) := by decide +kernel
theorem dX11_trace_1 : decode cX11_trace 1 = .ok (.getfield 14, 3) := by decide +kernel
theorem dX11_trace_4 : decode cX11_trace 4 = .ok (.getfield 355, 3) := by decide +kernel
theorem dX11_trace_7 : decode cX11_trace 7 = .ok (.ireturn, 1) := by decide +kernel
theorem dX11_fault_0 : decode cX11_fault 0 = .ok (.aload_n 0, 1) := by decide +kernel
theorem dX11_fault_1 : decode cX11_fault 1 = .ok (.getfield 77, 3) := by decide +kernel
theorem dX11_fault_4 : decode cX11_fault 4 = .ok (.ireturn, 1) := by decide +kernel
theorem dX11_many_0 : decode cX11_many 0 = .ok (.iload_n 1, 1) := by decide +kernel
theorem dX11_many_1 : decode cX11_many 1 = .ok (.tableswitch 54 0 3 #[31, 36, 44, 49], 31) := by decide +kernel
theorem dX11_many_32 : decode cX11_many 32 = .ok (.aload_n 0, 1) := by decide +kernel
theorem dX11_many_33 : decode cX11_many 33 = .ok (.getfield 105, 3) := by decide +kernel
theorem dX11_many_36 : decode cX11_many 36 = .ok (.ireturn, 1) := by decide +kernel
theorem dX11_many_37 : decode cX11_many 37 = .ok (.aload_n 0, 1) := by decide +kernel
theorem dX11_many_38 : decode cX11_many 38 = .ok (.getfield 36, 3) := by decide +kernel
theorem dX11_many_41 : decode cX11_many 41 = .ok (.getfield 207, 3) := by decide +kernel
theorem dX11_many_44 : decode cX11_many 44 = .ok (.ireturn, 1) := by decide +kernel
theorem dX11_many_45 : decode cX11_many 45 = .ok (.aload_n 0, 1) := by decide +kernel
theorem dX11_many_46 : decode cX11_many 46 = .ok (.invokevirtual 358, 3) := by decide +kernel
theorem dX11_many_49 : decode cX11_many 49 = .ok (.ireturn, 1) := by decide +kernel
theorem dX11_many_50 : decode cX11_many 50 = .ok (.aload_n 0, 1) := by decide +kernel
theorem dX11_many_51 : decode cX11_many 51 = .ok (.invokevirtual 361, 3) := by decide +kernel
theorem dX11_many_54 : decode cX11_many 54 = .ok (.ireturn, 1) := by decide +kernel
theorem dX11_many_55 : decode cX11_many 55 = .ok (.bipush (-2), 2) := by decide +kernel
theorem dX11_many_57 : decode cX11_many 57 = .ok (.ireturn, 1) := by decide +kernel
theorem dX11_commitAt_0 : decode cX11_commitAt 0 = .ok (.iload_n 1, 1) := by decide +kernel
theorem dX11_commitAt_1 : decode cX11_commitAt 1 = .ok (.ifCond .lt 20, 3) := by decide +kernel
theorem dX11_commitAt_4 : decode cX11_commitAt 4 = .ok (.iload_n 1, 1) := by decide +kernel
theorem dX11_commitAt_5 : decode cX11_commitAt 5 = .ok (.aload_n 0, 1) := by decide +kernel
theorem dX11_commitAt_6 : decode cX11_commitAt 6 = .ok (.getfield 105, 3) := by decide +kernel
theorem dX11_commitAt_9 : decode cX11_commitAt 9 = .ok (.if_icmp .ge 12, 3) := by decide +kernel
theorem dX11_commitAt_12 : decode cX11_commitAt 12 = .ok (.aload_n 0, 1) := by decide +kernel
theorem dX11_commitAt_13 : decode cX11_commitAt 13 = .ok (.getfield 20, 3) := by decide +kernel
theorem dX11_commitAt_16 : decode cX11_commitAt 16 = .ok (.iload_n 1, 1) := by decide +kernel
theorem dX11_commitAt_17 : decode cX11_commitAt 17 = .ok (.aaload, 1) := by decide +kernel
theorem dX11_commitAt_18 : decode cX11_commitAt 18 = .ok (.goto 4, 3) := by decide +kernel
theorem dX11_commitAt_21 : decode cX11_commitAt 21 = .ok (.aconst_null, 1) := by decide +kernel
theorem dX11_commitAt_22 : decode cX11_commitAt 22 = .ok (.areturn, 1) := by decide +kernel
theorem dX11_tipOf_0 : decode cX11_tipOf 0 = .ok (.iload_n 1, 1) := by decide +kernel
theorem dX11_tipOf_1 : decode cX11_tipOf 1 = .ok (.ifCond .lt 17, 3) := by decide +kernel
theorem dX11_tipOf_4 : decode cX11_tipOf 4 = .ok (.iload_n 1, 1) := by decide +kernel
theorem dX11_tipOf_5 : decode cX11_tipOf 5 = .ok (.iconst 4, 1) := by decide +kernel
theorem dX11_tipOf_6 : decode cX11_tipOf 6 = .ok (.if_icmp .ge 12, 3) := by decide +kernel
theorem dX11_tipOf_9 : decode cX11_tipOf 9 = .ok (.aload_n 0, 1) := by decide +kernel
theorem dX11_tipOf_10 : decode cX11_tipOf 10 = .ok (.getfield 24, 3) := by decide +kernel
theorem dX11_tipOf_13 : decode cX11_tipOf 13 = .ok (.iload_n 1, 1) := by decide +kernel
theorem dX11_tipOf_14 : decode cX11_tipOf 14 = .ok (.aaload, 1) := by decide +kernel
theorem dX11_tipOf_15 : decode cX11_tipOf 15 = .ok (.goto 4, 3) := by decide +kernel
theorem dX11_tipOf_18 : decode cX11_tipOf 18 = .ok (.aconst_null, 1) := by decide +kernel
theorem dX11_tipOf_19 : decode cX11_tipOf 19 = .ok (.areturn, 1) := by decide +kernel
theorem dX11_slotAt_0 : decode cX11_slotAt 0 = .ok (.iload_n 1, 1) := by decide +kernel
theorem dX11_slotAt_1 : decode cX11_slotAt 1 = .ok (.ifCond .lt 17, 3) := by decide +kernel
theorem dX11_slotAt_4 : decode cX11_slotAt 4 = .ok (.iload_n 1, 1) := by decide +kernel
theorem dX11_slotAt_5 : decode cX11_slotAt 5 = .ok (.iconst 5, 1) := by decide +kernel
theorem dX11_slotAt_6 : decode cX11_slotAt 6 = .ok (.if_icmp .ge 12, 3) := by decide +kernel
theorem dX11_slotAt_9 : decode cX11_slotAt 9 = .ok (.aload_n 0, 1) := by decide +kernel
theorem dX11_slotAt_10 : decode cX11_slotAt 10 = .ok (.getfield 29, 3) := by decide +kernel
theorem dX11_slotAt_13 : decode cX11_slotAt 13 = .ok (.iload_n 1, 1) := by decide +kernel
theorem dX11_slotAt_14 : decode cX11_slotAt 14 = .ok (.aaload, 1) := by decide +kernel
theorem dX11_slotAt_15 : decode cX11_slotAt 15 = .ok (.goto 4, 3) := by decide +kernel
theorem dX11_slotAt_18 : decode cX11_slotAt 18 = .ok (.aconst_null, 1) := by decide +kernel
theorem dX11_slotAt_19 : decode cX11_slotAt 19 = .ok (.areturn, 1) := by decide +kernel
theorem dX11_elementOr_0 : decode cX11_elementOr 0 = .ok (.iload_n 1, 1) := by decide +kernel
theorem dX11_elementOr_1 : decode cX11_elementOr 1 = .ok (.ifCond .lt 15, 3) := by decide +kernel
theorem dX11_elementOr_4 : decode cX11_elementOr 4 = .ok (.iload_n 1, 1) := by decide +kernel
theorem dX11_elementOr_5 : decode cX11_elementOr 5 = .ok (.aload_n 0, 1) := by decide +kernel
theorem dX11_elementOr_6 : decode cX11_elementOr 6 = .ok (.arraylength, 1) := by decide +kernel
theorem dX11_elementOr_7 : decode cX11_elementOr 7 = .ok (.if_icmp .ge 9, 3) := by decide +kernel
theorem dX11_elementOr_10 : decode cX11_elementOr 10 = .ok (.aload_n 0, 1) := by decide +kernel
theorem dX11_elementOr_11 : decode cX11_elementOr 11 = .ok (.iload_n 1, 1) := by decide +kernel
theorem dX11_elementOr_12 : decode cX11_elementOr 12 = .ok (.iaload, 1) := by decide +kernel
theorem dX11_elementOr_13 : decode cX11_elementOr 13 = .ok (.goto 5, 3) := by decide +kernel
theorem dX11_elementOr_16 : decode cX11_elementOr 16 = .ok (.bipush (-9), 2) := by decide +kernel
theorem dX11_elementOr_18 : decode cX11_elementOr 18 = .ok (.ireturn, 1) := by decide +kernel
theorem dX11_isLineIndex_0 : decode cX11_isLineIndex 0 = .ok (.iload_n 0, 1) := by decide +kernel
theorem dX11_isLineIndex_1 : decode cX11_isLineIndex 1 = .ok (.ifCond .lt 13, 3) := by decide +kernel
theorem dX11_isLineIndex_4 : decode cX11_isLineIndex 4 = .ok (.iload_n 0, 1) := by decide +kernel
theorem dX11_isLineIndex_5 : decode cX11_isLineIndex 5 = .ok (.bipush 16, 2) := by decide +kernel
theorem dX11_isLineIndex_7 : decode cX11_isLineIndex 7 = .ok (.if_icmp .ge 7, 3) := by decide +kernel
theorem dX11_isLineIndex_10 : decode cX11_isLineIndex 10 = .ok (.iconst 1, 1) := by decide +kernel
theorem dX11_isLineIndex_11 : decode cX11_isLineIndex 11 = .ok (.goto 4, 3) := by decide +kernel
theorem dX11_isLineIndex_14 : decode cX11_isLineIndex 14 = .ok (.iconst 0, 1) := by decide +kernel
theorem dX11_isLineIndex_15 : decode cX11_isLineIndex 15 = .ok (.ireturn, 1) := by decide +kernel
theorem dX11_isShapeIndex_0 : decode cX11_isShapeIndex 0 = .ok (.iload_n 0, 1) := by decide +kernel
theorem dX11_isShapeIndex_1 : decode cX11_isShapeIndex 1 = .ok (.ifCond .lt 13, 3) := by decide +kernel
theorem dX11_isShapeIndex_4 : decode cX11_isShapeIndex 4 = .ok (.iload_n 0, 1) := by decide +kernel
theorem dX11_isShapeIndex_5 : decode cX11_isShapeIndex 5 = .ok (.bipush 51, 2) := by decide +kernel
theorem dX11_isShapeIndex_7 : decode cX11_isShapeIndex 7 = .ok (.if_icmp .ge 7, 3) := by decide +kernel
theorem dX11_isShapeIndex_10 : decode cX11_isShapeIndex 10 = .ok (.iconst 1, 1) := by decide +kernel
theorem dX11_isShapeIndex_11 : decode cX11_isShapeIndex 11 = .ok (.goto 4, 3) := by decide +kernel
theorem dX11_isShapeIndex_14 : decode cX11_isShapeIndex 14 = .ok (.iconst 0, 1) := by decide +kernel
theorem dX11_isShapeIndex_15 : decode cX11_isShapeIndex 15 = .ok (.ireturn, 1) := by decide +kernel
theorem dX11_isRange_0 : decode cX11_isRange 0 = .ok (.iload_n 0, 1) := by decide +kernel
theorem dX11_isRange_1 : decode cX11_isRange 1 = .ok (.ifCond .lt 23, 3) := by decide +kernel
theorem dX11_isRange_4 : decode cX11_isRange 4 = .ok (.iload_n 1, 1) := by decide +kernel
theorem dX11_isRange_5 : decode cX11_isRange 5 = .ok (.ifCond .lt 19, 3) := by decide +kernel
theorem dX11_isRange_8 : decode cX11_isRange 8 = .ok (.iload_n 0, 1) := by decide +kernel
theorem dX11_isRange_9 : decode cX11_isRange 9 = .ok (.iload_n 2, 1) := by decide +kernel
theorem dX11_isRange_10 : decode cX11_isRange 10 = .ok (.if_icmp .gt 14, 3) := by decide +kernel
theorem dX11_isRange_13 : decode cX11_isRange 13 = .ok (.iload_n 1, 1) := by decide +kernel
theorem dX11_isRange_14 : decode cX11_isRange 14 = .ok (.iload_n 2, 1) := by decide +kernel
theorem dX11_isRange_15 : decode cX11_isRange 15 = .ok (.iload_n 0, 1) := by decide +kernel
theorem dX11_isRange_16 : decode cX11_isRange 16 = .ok (.isub, 1) := by decide +kernel
theorem dX11_isRange_17 : decode cX11_isRange 17 = .ok (.if_icmp .gt 7, 3) := by decide +kernel
theorem dX11_isRange_20 : decode cX11_isRange 20 = .ok (.iconst 1, 1) := by decide +kernel
theorem dX11_isRange_21 : decode cX11_isRange 21 = .ok (.goto 4, 3) := by decide +kernel
theorem dX11_isRange_24 : decode cX11_isRange 24 = .ok (.iconst 0, 1) := by decide +kernel
theorem dX11_isRange_25 : decode cX11_isRange 25 = .ok (.ireturn, 1) := by decide +kernel
theorem dX11_failBy_0 : decode cX11_failBy 0 = .ok (.aload_n 0, 1) := by decide +kernel
theorem dX11_failBy_1 : decode cX11_failBy 1 = .ok (.iload_n 1, 1) := by decide +kernel
theorem dX11_failBy_2 : decode cX11_failBy 2 = .ok (.putfield 77, 3) := by decide +kernel
theorem dX11_failBy_5 : decode cX11_failBy 5 = .ok (.bipush (-10), 2) := by decide +kernel
theorem dX11_failBy_7 : decode cX11_failBy 7 = .ok (.iload_n 1, 1) := by decide +kernel
theorem dX11_failBy_8 : decode cX11_failBy 8 = .ok (.isub, 1) := by decide +kernel
theorem dX11_failBy_9 : decode cX11_failBy 9 = .ok (.ireturn, 1) := by decide +kernel
theorem dX11_hashPart_0 : decode cX11_hashPart 0 = .ok (.bipush 31, 2) := by decide +kernel
theorem dX11_hashPart_2 : decode cX11_hashPart 2 = .ok (.iload_n 1, 1) := by decide +kernel
theorem dX11_hashPart_3 : decode cX11_hashPart 3 = .ok (.imul, 1) := by decide +kernel
theorem dX11_hashPart_4 : decode cX11_hashPart 4 = .ok (.aload_n 2, 1) := by decide +kernel
theorem dX11_hashPart_5 : decode cX11_hashPart 5 = .ok (.getfield 163, 3) := by decide +kernel
theorem dX11_hashPart_8 : decode cX11_hashPart 8 = .ok (.iadd, 1) := by decide +kernel
theorem dX11_hashPart_9 : decode cX11_hashPart 9 = .ok (.istore_n 3, 1) := by decide +kernel
theorem dX11_hashPart_10 : decode cX11_hashPart 10 = .ok (.iconst 0, 1) := by decide +kernel
theorem dX11_hashPart_11 : decode cX11_hashPart 11 = .ok (.istore 4, 2) := by decide +kernel
theorem dX11_hashPart_13 : decode cX11_hashPart 13 = .ok (.iload 4, 2) := by decide +kernel
theorem dX11_hashPart_15 : decode cX11_hashPart 15 = .ok (.aload_n 2, 1) := by decide +kernel
theorem dX11_hashPart_16 : decode cX11_hashPart 16 = .ok (.getfield 163, 3) := by decide +kernel
theorem dX11_hashPart_19 : decode cX11_hashPart 19 = .ok (.if_icmp .ge 46, 3) := by decide +kernel
theorem dX11_hashPart_22 : decode cX11_hashPart 22 = .ok (.aload_n 2, 1) := by decide +kernel
theorem dX11_hashPart_23 : decode cX11_hashPart 23 = .ok (.iload 4, 2) := by decide +kernel
theorem dX11_hashPart_25 : decode cX11_hashPart 25 = .ok (.invokevirtual 168, 3) := by decide +kernel
theorem dX11_hashPart_28 : decode cX11_hashPart 28 = .ok (.istore 5, 2) := by decide +kernel
theorem dX11_hashPart_30 : decode cX11_hashPart 30 = .ok (.bipush 31, 2) := by decide +kernel
theorem dX11_hashPart_32 : decode cX11_hashPart 32 = .ok (.iload_n 3, 1) := by decide +kernel
theorem dX11_hashPart_33 : decode cX11_hashPart 33 = .ok (.imul, 1) := by decide +kernel
theorem dX11_hashPart_34 : decode cX11_hashPart 34 = .ok (.iload 5, 2) := by decide +kernel
theorem dX11_hashPart_36 : decode cX11_hashPart 36 = .ok (.ifCond .lt 20, 3) := by decide +kernel
theorem dX11_hashPart_39 : decode cX11_hashPart 39 = .ok (.iload 5, 2) := by decide +kernel
theorem dX11_hashPart_41 : decode cX11_hashPart 41 = .ok (.bipush 100, 2) := by decide +kernel
theorem dX11_hashPart_43 : decode cX11_hashPart 43 = .ok (.if_icmp .ge 13, 3) := by decide +kernel
theorem dX11_hashPart_46 : decode cX11_hashPart 46 = .ok (.aload_n 0, 1) := by decide +kernel
theorem dX11_hashPart_47 : decode cX11_hashPart 47 = .ok (.getfield 50, 3) := by decide +kernel
theorem dX11_hashPart_50 : decode cX11_hashPart 50 = .ok (.iload 5, 2) := by decide +kernel
theorem dX11_hashPart_52 : decode cX11_hashPart 52 = .ok (.iaload, 1) := by decide +kernel
theorem dX11_hashPart_53 : decode cX11_hashPart 53 = .ok (.goto 4, 3) := by decide +kernel
theorem dX11_hashPart_56 : decode cX11_hashPart 56 = .ok (.iconst 0, 1) := by decide +kernel
theorem dX11_hashPart_57 : decode cX11_hashPart 57 = .ok (.iadd, 1) := by decide +kernel
theorem dX11_hashPart_58 : decode cX11_hashPart 58 = .ok (.istore_n 3, 1) := by decide +kernel
theorem dX11_hashPart_59 : decode cX11_hashPart 59 = .ok (.iinc 4 1, 3) := by decide +kernel
theorem dX11_hashPart_62 : decode cX11_hashPart 62 = .ok (.goto (-49), 3) := by decide +kernel
theorem dX11_hashPart_65 : decode cX11_hashPart 65 = .ok (.iload_n 3, 1) := by decide +kernel
theorem dX11_hashPart_66 : decode cX11_hashPart 66 = .ok (.ireturn, 1) := by decide +kernel
theorem dX11_countReachedCommits_0 : decode cX11_countReachedCommits 0 = .ok (.iconst 0, 1) := by decide +kernel
theorem dX11_countReachedCommits_1 : decode cX11_countReachedCommits 1 = .ok (.istore_n 1, 1) := by decide +kernel
theorem dX11_countReachedCommits_2 : decode cX11_countReachedCommits 2 = .ok (.iconst 0, 1) := by decide +kernel
theorem dX11_countReachedCommits_3 : decode cX11_countReachedCommits 3 = .ok (.istore_n 2, 1) := by decide +kernel
theorem dX11_countReachedCommits_4 : decode cX11_countReachedCommits 4 = .ok (.iload_n 2, 1) := by decide +kernel
theorem dX11_countReachedCommits_5 : decode cX11_countReachedCommits 5 = .ok (.aload_n 0, 1) := by decide +kernel
theorem dX11_countReachedCommits_6 : decode cX11_countReachedCommits 6 = .ok (.getfield 105, 3) := by decide +kernel
theorem dX11_countReachedCommits_9 : decode cX11_countReachedCommits 9 = .ok (.if_icmp .ge 35, 3) := by decide +kernel
theorem dX11_countReachedCommits_12 : decode cX11_countReachedCommits 12 = .ok (.aload_n 0, 1) := by decide +kernel
theorem dX11_countReachedCommits_13 : decode cX11_countReachedCommits 13 = .ok (.iload_n 2, 1) := by decide +kernel
theorem dX11_countReachedCommits_14 : decode cX11_countReachedCommits 14 = .ok (.invokevirtual 123, 3) := by decide +kernel
theorem dX11_countReachedCommits_17 : decode cX11_countReachedCommits 17 = .ok (.astore_n 3, 1) := by decide +kernel
theorem dX11_countReachedCommits_18 : decode cX11_countReachedCommits 18 = .ok (.iload_n 1, 1) := by decide +kernel
theorem dX11_countReachedCommits_19 : decode cX11_countReachedCommits 19 = .ok (.aload_n 3, 1) := by decide +kernel
theorem dX11_countReachedCommits_20 : decode cX11_countReachedCommits 20 = .ok (.ifnull 15, 3) := by decide +kernel
theorem dX11_countReachedCommits_23 : decode cX11_countReachedCommits 23 = .ok (.aload_n 0, 1) := by decide +kernel
theorem dX11_countReachedCommits_24 : decode cX11_countReachedCommits 24 = .ok (.aload_n 3, 1) := by decide +kernel
theorem dX11_countReachedCommits_25 : decode cX11_countReachedCommits 25 = .ok (.invokevirtual 364, 3) := by decide +kernel
theorem dX11_countReachedCommits_28 : decode cX11_countReachedCommits 28 = .ok (.ifCond .eq 7, 3) := by decide +kernel
theorem dX11_countReachedCommits_31 : decode cX11_countReachedCommits 31 = .ok (.iconst 1, 1) := by decide +kernel
theorem dX11_countReachedCommits_32 : decode cX11_countReachedCommits 32 = .ok (.goto 4, 3) := by decide +kernel
theorem dX11_countReachedCommits_35 : decode cX11_countReachedCommits 35 = .ok (.iconst 0, 1) := by decide +kernel
theorem dX11_countReachedCommits_36 : decode cX11_countReachedCommits 36 = .ok (.iadd, 1) := by decide +kernel
theorem dX11_countReachedCommits_37 : decode cX11_countReachedCommits 37 = .ok (.istore_n 1, 1) := by decide +kernel
theorem dX11_countReachedCommits_38 : decode cX11_countReachedCommits 38 = .ok (.iinc 2 1, 3) := by decide +kernel
theorem dX11_countReachedCommits_41 : decode cX11_countReachedCommits 41 = .ok (.goto (-37), 3) := by decide +kernel
theorem dX11_countReachedCommits_44 : decode cX11_countReachedCommits 44 = .ok (.iload_n 1, 1) := by decide +kernel
theorem dX11_countReachedCommits_45 : decode cX11_countReachedCommits 45 = .ok (.ireturn, 1) := by decide +kernel
theorem dX11_isReached_0 : decode cX11_isReached 0 = .ok (.iconst 0, 1) := by decide +kernel
theorem dX11_isReached_1 : decode cX11_isReached 1 = .ok (.istore_n 2, 1) := by decide +kernel
theorem dX11_isReached_2 : decode cX11_isReached 2 = .ok (.iload_n 2, 1) := by decide +kernel
theorem dX11_isReached_3 : decode cX11_isReached 3 = .ok (.iconst 4, 1) := by decide +kernel
theorem dX11_isReached_4 : decode cX11_isReached 4 = .ok (.if_icmp .ge 24, 3) := by decide +kernel
theorem dX11_isReached_7 : decode cX11_isReached 7 = .ok (.aload_n 1, 1) := by decide +kernel
theorem dX11_isReached_8 : decode cX11_isReached 8 = .ok (.aload_n 0, 1) := by decide +kernel
theorem dX11_isReached_9 : decode cX11_isReached 9 = .ok (.getfield 24, 3) := by decide +kernel
theorem dX11_isReached_12 : decode cX11_isReached 12 = .ok (.iload_n 2, 1) := by decide +kernel
theorem dX11_isReached_13 : decode cX11_isReached 13 = .ok (.aaload, 1) := by decide +kernel
theorem dX11_isReached_14 : decode cX11_isReached 14 = .ok (.invokevirtual 179, 3) := by decide +kernel
theorem dX11_isReached_17 : decode cX11_isReached 17 = .ok (.ifCond .eq 5, 3) := by decide +kernel
theorem dX11_isReached_20 : decode cX11_isReached 20 = .ok (.iconst 1, 1) := by decide +kernel
theorem dX11_isReached_21 : decode cX11_isReached 21 = .ok (.ireturn, 1) := by decide +kernel
theorem dX11_isReached_22 : decode cX11_isReached 22 = .ok (.iinc 2 1, 3) := by decide +kernel
theorem dX11_isReached_25 : decode cX11_isReached 25 = .ok (.goto (-23), 3) := by decide +kernel
theorem dX11_isReached_28 : decode cX11_isReached 28 = .ok (.iconst 0, 1) := by decide +kernel
theorem dX11_isReached_29 : decode cX11_isReached 29 = .ok (.ireturn, 1) := by decide +kernel
theorem dX11_countFilledSlots_0 : decode cX11_countFilledSlots 0 = .ok (.iconst 0, 1) := by decide +kernel
theorem dX11_countFilledSlots_1 : decode cX11_countFilledSlots 1 = .ok (.istore_n 1, 1) := by decide +kernel
theorem dX11_countFilledSlots_2 : decode cX11_countFilledSlots 2 = .ok (.iconst 0, 1) := by decide +kernel
theorem dX11_countFilledSlots_3 : decode cX11_countFilledSlots 3 = .ok (.istore_n 2, 1) := by decide +kernel
theorem dX11_countFilledSlots_4 : decode cX11_countFilledSlots 4 = .ok (.iload_n 2, 1) := by decide +kernel
theorem dX11_countFilledSlots_5 : decode cX11_countFilledSlots 5 = .ok (.iconst 5, 1) := by decide +kernel
theorem dX11_countFilledSlots_6 : decode cX11_countFilledSlots 6 = .ok (.if_icmp .ge 29, 3) := by decide +kernel
theorem dX11_countFilledSlots_9 : decode cX11_countFilledSlots 9 = .ok (.iload_n 1, 1) := by decide +kernel
theorem dX11_countFilledSlots_10 : decode cX11_countFilledSlots 10 = .ok (.aload_n 0, 1) := by decide +kernel
theorem dX11_countFilledSlots_11 : decode cX11_countFilledSlots 11 = .ok (.getfield 29, 3) := by decide +kernel
theorem dX11_countFilledSlots_14 : decode cX11_countFilledSlots 14 = .ok (.iload_n 2, 1) := by decide +kernel
theorem dX11_countFilledSlots_15 : decode cX11_countFilledSlots 15 = .ok (.aaload, 1) := by decide +kernel
theorem dX11_countFilledSlots_16 : decode cX11_countFilledSlots 16 = .ok (.invokevirtual 328, 3) := by decide +kernel
theorem dX11_countFilledSlots_19 : decode cX11_countFilledSlots 19 = .ok (.ifCond .eq 7, 3) := by decide +kernel
theorem dX11_countFilledSlots_22 : decode cX11_countFilledSlots 22 = .ok (.iconst 0, 1) := by decide +kernel
theorem dX11_countFilledSlots_23 : decode cX11_countFilledSlots 23 = .ok (.goto 4, 3) := by decide +kernel
theorem dX11_countFilledSlots_26 : decode cX11_countFilledSlots 26 = .ok (.iconst 1, 1) := by decide +kernel
theorem dX11_countFilledSlots_27 : decode cX11_countFilledSlots 27 = .ok (.iadd, 1) := by decide +kernel
theorem dX11_countFilledSlots_28 : decode cX11_countFilledSlots 28 = .ok (.istore_n 1, 1) := by decide +kernel
theorem dX11_countFilledSlots_29 : decode cX11_countFilledSlots 29 = .ok (.iinc 2 1, 3) := by decide +kernel
theorem dX11_countFilledSlots_32 : decode cX11_countFilledSlots 32 = .ok (.goto (-28), 3) := by decide +kernel
theorem dX11_countFilledSlots_35 : decode cX11_countFilledSlots 35 = .ok (.iload_n 1, 1) := by decide +kernel
theorem dX11_countFilledSlots_36 : decode cX11_countFilledSlots 36 = .ok (.ireturn, 1) := by decide +kernel
theorem dX11_makeFirstCommit_0 : decode cX11_makeFirstCommit 0 = .ok (.aload_n 0, 1) := by decide +kernel
theorem dX11_makeFirstCommit_1 : decode cX11_makeFirstCommit 1 = .ok (.iconst 0, 1) := by decide +kernel
theorem dX11_makeFirstCommit_2 : decode cX11_makeFirstCommit 2 = .ok (.aconst_null, 1) := by decide +kernel
theorem dX11_makeFirstCommit_3 : decode cX11_makeFirstCommit 3 = .ok (.getstatic 68, 3) := by decide +kernel
theorem dX11_makeFirstCommit_6 : decode cX11_makeFirstCommit 6 = .ok (.aconst_null, 1) := by decide +kernel
theorem dX11_makeFirstCommit_7 : decode cX11_makeFirstCommit 7 = .ok (.invokevirtual 116, 3) := by decide +kernel
theorem dX11_makeFirstCommit_10 : decode cX11_makeFirstCommit 10 = .ok (.astore_n 1, 1) := by decide +kernel
theorem dX11_makeFirstCommit_11 : decode cX11_makeFirstCommit 11 = .ok (.iconst 0, 1) := by decide +kernel
theorem dX11_makeFirstCommit_12 : decode cX11_makeFirstCommit 12 = .ok (.istore_n 2, 1) := by decide +kernel
theorem dX11_makeFirstCommit_13 : decode cX11_makeFirstCommit 13 = .ok (.iload_n 2, 1) := by decide +kernel
theorem dX11_makeFirstCommit_14 : decode cX11_makeFirstCommit 14 = .ok (.iconst 4, 1) := by decide +kernel
theorem dX11_makeFirstCommit_15 : decode cX11_makeFirstCommit 15 = .ok (.if_icmp .ge 16, 3) := by decide +kernel
theorem dX11_makeFirstCommit_18 : decode cX11_makeFirstCommit 18 = .ok (.aload_n 0, 1) := by decide +kernel
theorem dX11_makeFirstCommit_19 : decode cX11_makeFirstCommit 19 = .ok (.getfield 24, 3) := by decide +kernel
theorem dX11_makeFirstCommit_22 : decode cX11_makeFirstCommit 22 = .ok (.iload_n 2, 1) := by decide +kernel
theorem dX11_makeFirstCommit_23 : decode cX11_makeFirstCommit 23 = .ok (.aload_n 1, 1) := by decide +kernel
theorem dX11_makeFirstCommit_24 : decode cX11_makeFirstCommit 24 = .ok (.aastore, 1) := by decide +kernel
theorem dX11_makeFirstCommit_25 : decode cX11_makeFirstCommit 25 = .ok (.iinc 2 1, 3) := by decide +kernel
theorem dX11_makeFirstCommit_28 : decode cX11_makeFirstCommit 28 = .ok (.goto (-15), 3) := by decide +kernel
theorem dX11_makeFirstCommit_31 : decode cX11_makeFirstCommit 31 = .ok (.aload_n 1, 1) := by decide +kernel
theorem dX11_makeFirstCommit_32 : decode cX11_makeFirstCommit 32 = .ok (.areturn, 1) := by decide +kernel
theorem dX11_makeCommit_0 : decode cX11_makeCommit 0 = .ok (.iload_n 1, 1) := by decide +kernel
theorem dX11_makeCommit_1 : decode cX11_makeCommit 1 = .ok (.iconst 2, 1) := by decide +kernel
theorem dX11_makeCommit_2 : decode cX11_makeCommit 2 = .ok (.if_icmp .ne 27, 3) := by decide +kernel
theorem dX11_makeCommit_5 : decode cX11_makeCommit 5 = .ok (.new 367, 3) := by decide +kernel
theorem dX11_makeCommit_8 : decode cX11_makeCommit 8 = .ok (.dup, 1) := by decide +kernel
theorem dX11_makeCommit_9 : decode cX11_makeCommit 9 = .ok (.aload_n 0, 1) := by decide +kernel
theorem dX11_makeCommit_10 : decode cX11_makeCommit 10 = .ok (.getfield 14, 3) := by decide +kernel
theorem dX11_makeCommit_13 : decode cX11_makeCommit 13 = .ok (.aload_n 0, 1) := by decide +kernel
theorem dX11_makeCommit_14 : decode cX11_makeCommit 14 = .ok (.getfield 105, 3) := by decide +kernel
theorem dX11_makeCommit_17 : decode cX11_makeCommit 17 = .ok (.aload_n 2, 1) := by decide +kernel
theorem dX11_makeCommit_18 : decode cX11_makeCommit 18 = .ok (.aload_n 3, 1) := by decide +kernel
theorem dX11_makeCommit_19 : decode cX11_makeCommit 19 = .ok (.aload 4, 2) := by decide +kernel
theorem dX11_makeCommit_21 : decode cX11_makeCommit 21 = .ok (.invokespecial 369, 3) := by decide +kernel
theorem dX11_makeCommit_24 : decode cX11_makeCommit 24 = .ok (.astore 5, 2) := by decide +kernel
theorem dX11_makeCommit_26 : decode cX11_makeCommit 26 = .ok (.goto 53, 3) := by decide +kernel
theorem dX11_makeCommit_29 : decode cX11_makeCommit 29 = .ok (.iload_n 1, 1) := by decide +kernel
theorem dX11_makeCommit_30 : decode cX11_makeCommit 30 = .ok (.iconst 1, 1) := by decide +kernel
theorem dX11_makeCommit_31 : decode cX11_makeCommit 31 = .ok (.if_icmp .ne 27, 3) := by decide +kernel
theorem dX11_makeCommit_34 : decode cX11_makeCommit 34 = .ok (.new 370, 3) := by decide +kernel
theorem dX11_makeCommit_37 : decode cX11_makeCommit 37 = .ok (.dup, 1) := by decide +kernel
theorem dX11_makeCommit_38 : decode cX11_makeCommit 38 = .ok (.aload_n 0, 1) := by decide +kernel
theorem dX11_makeCommit_39 : decode cX11_makeCommit 39 = .ok (.getfield 14, 3) := by decide +kernel
theorem dX11_makeCommit_42 : decode cX11_makeCommit 42 = .ok (.aload_n 0, 1) := by decide +kernel
theorem dX11_makeCommit_43 : decode cX11_makeCommit 43 = .ok (.getfield 105, 3) := by decide +kernel
theorem dX11_makeCommit_46 : decode cX11_makeCommit 46 = .ok (.aload_n 2, 1) := by decide +kernel
theorem dX11_makeCommit_47 : decode cX11_makeCommit 47 = .ok (.aload_n 3, 1) := by decide +kernel
theorem dX11_makeCommit_48 : decode cX11_makeCommit 48 = .ok (.aload 4, 2) := by decide +kernel
theorem dX11_makeCommit_50 : decode cX11_makeCommit 50 = .ok (.invokespecial 372, 3) := by decide +kernel
theorem dX11_makeCommit_53 : decode cX11_makeCommit 53 = .ok (.astore 5, 2) := by decide +kernel
theorem dX11_makeCommit_55 : decode cX11_makeCommit 55 = .ok (.goto 24, 3) := by decide +kernel
theorem dX11_makeCommit_58 : decode cX11_makeCommit 58 = .ok (.new 18, 3) := by decide +kernel
theorem dX11_makeCommit_61 : decode cX11_makeCommit 61 = .ok (.dup, 1) := by decide +kernel
theorem dX11_makeCommit_62 : decode cX11_makeCommit 62 = .ok (.aload_n 0, 1) := by decide +kernel
theorem dX11_makeCommit_63 : decode cX11_makeCommit 63 = .ok (.getfield 14, 3) := by decide +kernel
theorem dX11_makeCommit_66 : decode cX11_makeCommit 66 = .ok (.aload_n 0, 1) := by decide +kernel
theorem dX11_makeCommit_67 : decode cX11_makeCommit 67 = .ok (.getfield 105, 3) := by decide +kernel
theorem dX11_makeCommit_70 : decode cX11_makeCommit 70 = .ok (.aload_n 2, 1) := by decide +kernel
theorem dX11_makeCommit_71 : decode cX11_makeCommit 71 = .ok (.aload_n 3, 1) := by decide +kernel
theorem dX11_makeCommit_72 : decode cX11_makeCommit 72 = .ok (.aload 4, 2) := by decide +kernel
theorem dX11_makeCommit_74 : decode cX11_makeCommit 74 = .ok (.invokespecial 71, 3) := by decide +kernel
theorem dX11_makeCommit_77 : decode cX11_makeCommit 77 = .ok (.astore 5, 2) := by decide +kernel
theorem dX11_makeCommit_79 : decode cX11_makeCommit 79 = .ok (.aload_n 0, 1) := by decide +kernel
theorem dX11_makeCommit_80 : decode cX11_makeCommit 80 = .ok (.getfield 105, 3) := by decide +kernel
theorem dX11_makeCommit_83 : decode cX11_makeCommit 83 = .ok (.bipush 24, 2) := by decide +kernel
theorem dX11_makeCommit_85 : decode cX11_makeCommit 85 = .ok (.if_icmp .ge 24, 3) := by decide +kernel
theorem dX11_makeCommit_88 : decode cX11_makeCommit 88 = .ok (.aload_n 0, 1) := by decide +kernel
theorem dX11_makeCommit_89 : decode cX11_makeCommit 89 = .ok (.getfield 20, 3) := by decide +kernel
theorem dX11_makeCommit_92 : decode cX11_makeCommit 92 = .ok (.aload_n 0, 1) := by decide +kernel
theorem dX11_makeCommit_93 : decode cX11_makeCommit 93 = .ok (.getfield 105, 3) := by decide +kernel
theorem dX11_makeCommit_96 : decode cX11_makeCommit 96 = .ok (.aload 5, 2) := by decide +kernel
theorem dX11_makeCommit_98 : decode cX11_makeCommit 98 = .ok (.aastore, 1) := by decide +kernel
theorem dX11_makeCommit_99 : decode cX11_makeCommit 99 = .ok (.aload_n 0, 1) := by decide +kernel
theorem dX11_makeCommit_100 : decode cX11_makeCommit 100 = .ok (.dup, 1) := by decide +kernel
theorem dX11_makeCommit_101 : decode cX11_makeCommit 101 = .ok (.getfield 105, 3) := by decide +kernel
theorem dX11_makeCommit_104 : decode cX11_makeCommit 104 = .ok (.iconst 1, 1) := by decide +kernel
theorem dX11_makeCommit_105 : decode cX11_makeCommit 105 = .ok (.iadd, 1) := by decide +kernel
theorem dX11_makeCommit_106 : decode cX11_makeCommit 106 = .ok (.putfield 105, 3) := by decide +kernel
theorem dX11_makeCommit_109 : decode cX11_makeCommit 109 = .ok (.aload 5, 2) := by decide +kernel
theorem dX11_makeCommit_111 : decode cX11_makeCommit 111 = .ok (.areturn, 1) := by decide +kernel
theorem dX11_dropCommitsFrom_0 : decode cX11_dropCommitsFrom 0 = .ok (.iload_n 1, 1) := by decide +kernel
theorem dX11_dropCommitsFrom_1 : decode cX11_dropCommitsFrom 1 = .ok (.istore_n 2, 1) := by decide +kernel
theorem dX11_dropCommitsFrom_2 : decode cX11_dropCommitsFrom 2 = .ok (.iload_n 2, 1) := by decide +kernel
theorem dX11_dropCommitsFrom_3 : decode cX11_dropCommitsFrom 3 = .ok (.aload_n 0, 1) := by decide +kernel
theorem dX11_dropCommitsFrom_4 : decode cX11_dropCommitsFrom 4 = .ok (.getfield 105, 3) := by decide +kernel
theorem dX11_dropCommitsFrom_7 : decode cX11_dropCommitsFrom 7 = .ok (.if_icmp .ge 31, 3) := by decide +kernel
theorem dX11_dropCommitsFrom_10 : decode cX11_dropCommitsFrom 10 = .ok (.aload_n 0, 1) := by decide +kernel
theorem dX11_dropCommitsFrom_11 : decode cX11_dropCommitsFrom 11 = .ok (.iload_n 2, 1) := by decide +kernel
theorem dX11_dropCommitsFrom_12 : decode cX11_dropCommitsFrom 12 = .ok (.invokevirtual 123, 3) := by decide +kernel
theorem dX11_dropCommitsFrom_15 : decode cX11_dropCommitsFrom 15 = .ok (.astore_n 3, 1) := by decide +kernel
theorem dX11_dropCommitsFrom_16 : decode cX11_dropCommitsFrom 16 = .ok (.aload_n 3, 1) := by decide +kernel
theorem dX11_dropCommitsFrom_17 : decode cX11_dropCommitsFrom 17 = .ok (.ifnull 15, 3) := by decide +kernel
theorem dX11_dropCommitsFrom_20 : decode cX11_dropCommitsFrom 20 = .ok (.aload_n 3, 1) := by decide +kernel
theorem dX11_dropCommitsFrom_21 : decode cX11_dropCommitsFrom 21 = .ok (.iconst 1, 1) := by decide +kernel
theorem dX11_dropCommitsFrom_22 : decode cX11_dropCommitsFrom 22 = .ok (.putfield 324, 3) := by decide +kernel
theorem dX11_dropCommitsFrom_25 : decode cX11_dropCommitsFrom 25 = .ok (.aload_n 0, 1) := by decide +kernel
theorem dX11_dropCommitsFrom_26 : decode cX11_dropCommitsFrom 26 = .ok (.getfield 20, 3) := by decide +kernel
theorem dX11_dropCommitsFrom_29 : decode cX11_dropCommitsFrom 29 = .ok (.iload_n 2, 1) := by decide +kernel
theorem dX11_dropCommitsFrom_30 : decode cX11_dropCommitsFrom 30 = .ok (.aconst_null, 1) := by decide +kernel
theorem dX11_dropCommitsFrom_31 : decode cX11_dropCommitsFrom 31 = .ok (.aastore, 1) := by decide +kernel
theorem dX11_dropCommitsFrom_32 : decode cX11_dropCommitsFrom 32 = .ok (.iinc 2 1, 3) := by decide +kernel
theorem dX11_dropCommitsFrom_35 : decode cX11_dropCommitsFrom 35 = .ok (.goto (-33), 3) := by decide +kernel
theorem dX11_dropCommitsFrom_38 : decode cX11_dropCommitsFrom 38 = .ok (.aload_n 0, 1) := by decide +kernel
theorem dX11_dropCommitsFrom_39 : decode cX11_dropCommitsFrom 39 = .ok (.iload_n 1, 1) := by decide +kernel
theorem dX11_dropCommitsFrom_40 : decode cX11_dropCommitsFrom 40 = .ok (.putfield 105, 3) := by decide +kernel
theorem dX11_dropCommitsFrom_43 : decode cX11_dropCommitsFrom 43 = .ok (.return_, 1) := by decide +kernel
theorem dX11_isUnderWay_0 : decode cX11_isUnderWay 0 = .ok (.aload_n 0, 1) := by decide +kernel
theorem dX11_isUnderWay_1 : decode cX11_isUnderWay 1 = .ok (.getfield 64, 3) := by decide +kernel
theorem dX11_isUnderWay_4 : decode cX11_isUnderWay 4 = .ok (.getfield 270, 3) := by decide +kernel
theorem dX11_isUnderWay_7 : decode cX11_isUnderWay 7 = .ok (.ifCond .eq 7, 3) := by decide +kernel
theorem dX11_isUnderWay_10 : decode cX11_isUnderWay 10 = .ok (.iconst 1, 1) := by decide +kernel
theorem dX11_isUnderWay_11 : decode cX11_isUnderWay 11 = .ok (.goto 4, 3) := by decide +kernel
theorem dX11_isUnderWay_14 : decode cX11_isUnderWay 14 = .ok (.iconst 0, 1) := by decide +kernel
theorem dX11_isUnderWay_15 : decode cX11_isUnderWay 15 = .ok (.ireturn, 1) := by decide +kernel
theorem dX11_lacksRoomFor_0 : decode cX11_lacksRoomFor 0 = .ok (.aload_n 0, 1) := by decide +kernel
theorem dX11_lacksRoomFor_1 : decode cX11_lacksRoomFor 1 = .ok (.getfield 105, 3) := by decide +kernel
theorem dX11_lacksRoomFor_4 : decode cX11_lacksRoomFor 4 = .ok (.aload_n 1, 1) := by decide +kernel
theorem dX11_lacksRoomFor_5 : decode cX11_lacksRoomFor 5 = .ok (.aload_n 2, 1) := by decide +kernel
theorem dX11_lacksRoomFor_6 : decode cX11_lacksRoomFor 6 = .ok (.invokevirtual 183, 3) := by decide +kernel
theorem dX11_lacksRoomFor_9 : decode cX11_lacksRoomFor 9 = .ok (.iadd, 1) := by decide +kernel
theorem dX11_lacksRoomFor_10 : decode cX11_lacksRoomFor 10 = .ok (.bipush 24, 2) := by decide +kernel
theorem dX11_lacksRoomFor_12 : decode cX11_lacksRoomFor 12 = .ok (.if_icmp .le 7, 3) := by decide +kernel
theorem dX11_lacksRoomFor_15 : decode cX11_lacksRoomFor 15 = .ok (.iconst 1, 1) := by decide +kernel
theorem dX11_lacksRoomFor_16 : decode cX11_lacksRoomFor 16 = .ok (.goto 4, 3) := by decide +kernel
theorem dX11_lacksRoomFor_19 : decode cX11_lacksRoomFor 19 = .ok (.iconst 0, 1) := by decide +kernel
theorem dX11_lacksRoomFor_20 : decode cX11_lacksRoomFor 20 = .ok (.ireturn, 1) := by decide +kernel
theorem dX11_carry_0 : decode cX11_carry 0 = .ok (.aload_n 1, 1) := by decide +kernel
theorem dX11_carry_1 : decode cX11_carry 1 = .ok (.getfield 260, 3) := by decide +kernel
theorem dX11_carry_4 : decode cX11_carry 4 = .ok (.ifCond .lt 56, 3) := by decide +kernel
theorem dX11_carry_7 : decode cX11_carry 7 = .ok (.aload_n 1, 1) := by decide +kernel
theorem dX11_carry_8 : decode cX11_carry 8 = .ok (.invokevirtual 273, 3) := by decide +kernel
theorem dX11_carry_11 : decode cX11_carry 11 = .ok (.astore_n 2, 1) := by decide +kernel
theorem dX11_carry_12 : decode cX11_carry 12 = .ok (.aload_n 0, 1) := by decide +kernel
theorem dX11_carry_13 : decode cX11_carry 13 = .ok (.aload_n 1, 1) := by decide +kernel
theorem dX11_carry_14 : decode cX11_carry 14 = .ok (.aload_n 2, 1) := by decide +kernel
theorem dX11_carry_15 : decode cX11_carry 15 = .ok (.invokevirtual 373, 3) := by decide +kernel
theorem dX11_carry_18 : decode cX11_carry 18 = .ok (.ifCond .eq 16, 3) := by decide +kernel
theorem dX11_carry_21 : decode cX11_carry 21 = .ok (.aload_n 1, 1) := by decide +kernel
theorem dX11_carry_22 : decode cX11_carry 22 = .ok (.getfield 210, 3) := by decide +kernel
theorem dX11_carry_25 : decode cX11_carry 25 = .ok (.iconst 1, 1) := by decide +kernel
theorem dX11_carry_26 : decode cX11_carry 26 = .ok (.dup2, 1) := by decide +kernel
theorem dX11_carry_27 : decode cX11_carry 27 = .ok (.iaload, 1) := by decide +kernel
theorem dX11_carry_28 : decode cX11_carry 28 = .ok (.iconst 1, 1) := by decide +kernel
theorem dX11_carry_29 : decode cX11_carry 29 = .ok (.iadd, 1) := by decide +kernel
theorem dX11_carry_30 : decode cX11_carry 30 = .ok (.iastore, 1) := by decide +kernel
theorem dX11_carry_31 : decode cX11_carry 31 = .ok (.goto 16, 3) := by decide +kernel
theorem dX11_carry_34 : decode cX11_carry 34 = .ok (.aload_n 0, 1) := by decide +kernel
theorem dX11_carry_35 : decode cX11_carry 35 = .ok (.aload_n 1, 1) := by decide +kernel
theorem dX11_carry_36 : decode cX11_carry 36 = .ok (.aload_n 2, 1) := by decide +kernel
theorem dX11_carry_37 : decode cX11_carry 37 = .ok (.invokevirtual 377, 3) := by decide +kernel
theorem dX11_carry_40 : decode cX11_carry 40 = .ok (.istore_n 3, 1) := by decide +kernel
theorem dX11_carry_41 : decode cX11_carry 41 = .ok (.iload_n 3, 1) := by decide +kernel
theorem dX11_carry_42 : decode cX11_carry 42 = .ok (.ifCond .eq 5, 3) := by decide +kernel
theorem dX11_carry_45 : decode cX11_carry 45 = .ok (.iload_n 3, 1) := by decide +kernel
theorem dX11_carry_46 : decode cX11_carry 46 = .ok (.ireturn, 1) := by decide +kernel
theorem dX11_carry_47 : decode cX11_carry 47 = .ok (.aload_n 1, 1) := by decide +kernel
theorem dX11_carry_48 : decode cX11_carry 48 = .ok (.dup, 1) := by decide +kernel
theorem dX11_carry_49 : decode cX11_carry 49 = .ok (.getfield 260, 3) := by decide +kernel
theorem dX11_carry_52 : decode cX11_carry 52 = .ok (.iconst 1, 1) := by decide +kernel
theorem dX11_carry_53 : decode cX11_carry 53 = .ok (.isub, 1) := by decide +kernel
theorem dX11_carry_54 : decode cX11_carry 54 = .ok (.putfield 260, 3) := by decide +kernel
theorem dX11_carry_57 : decode cX11_carry 57 = .ok (.goto (-57), 3) := by decide +kernel
theorem dX11_carry_60 : decode cX11_carry 60 = .ok (.iconst 0, 1) := by decide +kernel
theorem dX11_carry_61 : decode cX11_carry 61 = .ok (.ireturn, 1) := by decide +kernel
theorem dX11_isThereAlready_0 : decode cX11_isThereAlready 0 = .ok (.aload_n 2, 1) := by decide +kernel
theorem dX11_isThereAlready_1 : decode cX11_isThereAlready 1 = .ok (.invokevirtual 126, 3) := by decide +kernel
theorem dX11_isThereAlready_4 : decode cX11_isThereAlready 4 = .ok (.ifCond .eq 5, 3) := by decide +kernel
theorem dX11_isThereAlready_7 : decode cX11_isThereAlready 7 = .ok (.iconst 0, 1) := by decide +kernel
theorem dX11_isThereAlready_8 : decode cX11_isThereAlready 8 = .ok (.ireturn, 1) := by decide +kernel
theorem dX11_isThereAlready_9 : decode cX11_isThereAlready 9 = .ok (.aload_n 0, 1) := by decide +kernel
theorem dX11_isThereAlready_10 : decode cX11_isThereAlready 10 = .ok (.getfield 43, 3) := by decide +kernel
theorem dX11_isThereAlready_13 : decode cX11_isThereAlready 13 = .ok (.aload_n 2, 1) := by decide +kernel
theorem dX11_isThereAlready_14 : decode cX11_isThereAlready 14 = .ok (.invokevirtual 136, 3) := by decide +kernel
theorem dX11_isThereAlready_17 : decode cX11_isThereAlready 17 = .ok (.iconst 0, 1) := by decide +kernel
theorem dX11_isThereAlready_18 : decode cX11_isThereAlready 18 = .ok (.istore_n 3, 1) := by decide +kernel
theorem dX11_isThereAlready_19 : decode cX11_isThereAlready 19 = .ok (.iload_n 3, 1) := by decide +kernel
theorem dX11_isThereAlready_20 : decode cX11_isThereAlready 20 = .ok (.aload_n 1, 1) := by decide +kernel
theorem dX11_isThereAlready_21 : decode cX11_isThereAlready 21 = .ok (.getfield 381, 3) := by decide +kernel
theorem dX11_isThereAlready_24 : decode cX11_isThereAlready 24 = .ok (.if_icmp .ge 38, 3) := by decide +kernel
theorem dX11_isThereAlready_27 : decode cX11_isThereAlready 27 = .ok (.aload_n 0, 1) := by decide +kernel
theorem dX11_isThereAlready_28 : decode cX11_isThereAlready 28 = .ok (.getfield 47, 3) := by decide +kernel
theorem dX11_isThereAlready_31 : decode cX11_isThereAlready 31 = .ok (.aload_n 1, 1) := by decide +kernel
theorem dX11_isThereAlready_32 : decode cX11_isThereAlready 32 = .ok (.getfield 384, 3) := by decide +kernel
theorem dX11_isThereAlready_35 : decode cX11_isThereAlready 35 = .ok (.iload_n 3, 1) := by decide +kernel
theorem dX11_isThereAlready_36 : decode cX11_isThereAlready 36 = .ok (.aaload, 1) := by decide +kernel
theorem dX11_isThereAlready_37 : decode cX11_isThereAlready 37 = .ok (.invokevirtual 136, 3) := by decide +kernel
theorem dX11_isThereAlready_40 : decode cX11_isThereAlready 40 = .ok (.aload_n 0, 1) := by decide +kernel
theorem dX11_isThereAlready_41 : decode cX11_isThereAlready 41 = .ok (.getfield 43, 3) := by decide +kernel
theorem dX11_isThereAlready_44 : decode cX11_isThereAlready 44 = .ok (.aload_n 0, 1) := by decide +kernel
theorem dX11_isThereAlready_45 : decode cX11_isThereAlready 45 = .ok (.getfield 47, 3) := by decide +kernel
theorem dX11_isThereAlready_48 : decode cX11_isThereAlready 48 = .ok (.invokevirtual 175, 3) := by decide +kernel
theorem dX11_isThereAlready_51 : decode cX11_isThereAlready 51 = .ok (.ifCond .eq 5, 3) := by decide +kernel
theorem dX11_isThereAlready_54 : decode cX11_isThereAlready 54 = .ok (.iconst 1, 1) := by decide +kernel
theorem dX11_isThereAlready_55 : decode cX11_isThereAlready 55 = .ok (.ireturn, 1) := by decide +kernel
theorem dX11_isThereAlready_56 : decode cX11_isThereAlready 56 = .ok (.iinc 3 1, 3) := by decide +kernel
theorem dX11_isThereAlready_59 : decode cX11_isThereAlready 59 = .ok (.goto (-40), 3) := by decide +kernel
theorem dX11_isThereAlready_62 : decode cX11_isThereAlready 62 = .ok (.iconst 0, 1) := by decide +kernel
theorem dX11_isThereAlready_63 : decode cX11_isThereAlready 63 = .ok (.ireturn, 1) := by decide +kernel
theorem dX11_place_0 : decode cX11_place 0 = .ok (.aload_n 0, 1) := by decide +kernel
theorem dX11_place_1 : decode cX11_place 1 = .ok (.getfield 36, 3) := by decide +kernel
theorem dX11_place_4 : decode cX11_place 4 = .ok (.aload_n 2, 1) := by decide +kernel
theorem dX11_place_5 : decode cX11_place 5 = .ok (.invokevirtual 387, 3) := by decide +kernel
theorem dX11_place_8 : decode cX11_place 8 = .ok (.aload_n 1, 1) := by decide +kernel
theorem dX11_place_9 : decode cX11_place 9 = .ok (.getfield 279, 3) := by decide +kernel
theorem dX11_place_12 : decode cX11_place 12 = .ok (.getfield 133, 3) := by decide +kernel
theorem dX11_place_15 : decode cX11_place 15 = .ok (.aload_n 2, 1) := by decide +kernel
theorem dX11_place_16 : decode cX11_place 16 = .ok (.getfield 133, 3) := by decide +kernel
theorem dX11_place_19 : decode cX11_place 19 = .ok (.bipush (-9), 2) := by decide +kernel
theorem dX11_place_21 : decode cX11_place 21 = .ok (.invokevirtual 187, 3) := by decide +kernel
theorem dX11_place_24 : decode cX11_place 24 = .ok (.aload_n 0, 1) := by decide +kernel
theorem dX11_place_25 : decode cX11_place 25 = .ok (.getfield 36, 3) := by decide +kernel
theorem dX11_place_28 : decode cX11_place 28 = .ok (.getfield 219, 3) := by decide +kernel
theorem dX11_place_31 : decode cX11_place 31 = .ok (.ifCond .le 5, 3) := by decide +kernel
theorem dX11_place_34 : decode cX11_place 34 = .ok (.iconst 1, 1) := by decide +kernel
theorem dX11_place_35 : decode cX11_place 35 = .ok (.ireturn, 1) := by decide +kernel
theorem dX11_place_36 : decode cX11_place 36 = .ok (.aload_n 0, 1) := by decide +kernel
theorem dX11_place_37 : decode cX11_place 37 = .ok (.getfield 36, 3) := by decide +kernel
theorem dX11_place_40 : decode cX11_place 40 = .ok (.getfield 194, 3) := by decide +kernel
theorem dX11_place_43 : decode cX11_place 43 = .ok (.bipush 16, 2) := by decide +kernel
theorem dX11_place_45 : decode cX11_place 45 = .ok (.if_icmp .le 5, 3) := by decide +kernel
theorem dX11_place_48 : decode cX11_place 48 = .ok (.iconst 2, 1) := by decide +kernel
theorem dX11_place_49 : decode cX11_place 49 = .ok (.ireturn, 1) := by decide +kernel
theorem dX11_place_50 : decode cX11_place 50 = .ok (.aload_n 1, 1) := by decide +kernel
theorem dX11_place_51 : decode cX11_place 51 = .ok (.getfield 210, 3) := by decide +kernel
theorem dX11_place_54 : decode cX11_place 54 = .ok (.iconst 3, 1) := by decide +kernel
theorem dX11_place_55 : decode cX11_place 55 = .ok (.dup2, 1) := by decide +kernel
theorem dX11_place_56 : decode cX11_place 56 = .ok (.iaload, 1) := by decide +kernel
theorem dX11_place_57 : decode cX11_place 57 = .ok (.aload_n 0, 1) := by decide +kernel
theorem dX11_place_58 : decode cX11_place 58 = .ok (.getfield 36, 3) := by decide +kernel
theorem dX11_place_61 : decode cX11_place 61 = .ok (.getfield 191, 3) := by decide +kernel
theorem dX11_place_64 : decode cX11_place 64 = .ok (.iadd, 1) := by decide +kernel
theorem dX11_place_65 : decode cX11_place 65 = .ok (.iastore, 1) := by decide +kernel
theorem dX11_place_66 : decode cX11_place 66 = .ok (.aload_n 2, 1) := by decide +kernel
theorem dX11_place_67 : decode cX11_place 67 = .ok (.invokevirtual 126, 3) := by decide +kernel
theorem dX11_place_70 : decode cX11_place 70 = .ok (.ifCond .ne 33, 3) := by decide +kernel
theorem dX11_place_73 : decode cX11_place 73 = .ok (.aload_n 0, 1) := by decide +kernel
theorem dX11_place_74 : decode cX11_place 74 = .ok (.getfield 36, 3) := by decide +kernel
theorem dX11_place_77 : decode cX11_place 77 = .ok (.aload_n 1, 1) := by decide +kernel
theorem dX11_place_78 : decode cX11_place 78 = .ok (.getfield 279, 3) := by decide +kernel
theorem dX11_place_81 : decode cX11_place 81 = .ok (.getfield 133, 3) := by decide +kernel
theorem dX11_place_84 : decode cX11_place 84 = .ok (.invokevirtual 199, 3) := by decide +kernel
theorem dX11_place_87 : decode cX11_place 87 = .ok (.ifCond .eq 16, 3) := by decide +kernel
theorem dX11_place_90 : decode cX11_place 90 = .ok (.aload_n 1, 1) := by decide +kernel
theorem dX11_place_91 : decode cX11_place 91 = .ok (.getfield 210, 3) := by decide +kernel
theorem dX11_place_94 : decode cX11_place 94 = .ok (.iconst 1, 1) := by decide +kernel
theorem dX11_place_95 : decode cX11_place 95 = .ok (.dup2, 1) := by decide +kernel
theorem dX11_place_96 : decode cX11_place 96 = .ok (.iaload, 1) := by decide +kernel
theorem dX11_place_97 : decode cX11_place 97 = .ok (.iconst 1, 1) := by decide +kernel
theorem dX11_place_98 : decode cX11_place 98 = .ok (.iadd, 1) := by decide +kernel
theorem dX11_place_99 : decode cX11_place 99 = .ok (.iastore, 1) := by decide +kernel
theorem dX11_place_100 : decode cX11_place 100 = .ok (.goto 125, 3) := by decide +kernel
theorem dX11_place_103 : decode cX11_place 103 = .ok (.aload_n 2, 1) := by decide +kernel
theorem dX11_place_104 : decode cX11_place 104 = .ok (.invokevirtual 126, 3) := by decide +kernel
theorem dX11_place_107 : decode cX11_place 107 = .ok (.iconst 2, 1) := by decide +kernel
theorem dX11_place_108 : decode cX11_place 108 = .ok (.if_icmp .ne 41, 3) := by decide +kernel
theorem dX11_place_111 : decode cX11_place 111 = .ok (.aload_n 1, 1) := by decide +kernel
theorem dX11_place_112 : decode cX11_place 112 = .ok (.getfield 279, 3) := by decide +kernel
theorem dX11_place_115 : decode cX11_place 115 = .ok (.aload_n 1, 1) := by decide +kernel
theorem dX11_place_116 : decode cX11_place 116 = .ok (.getfield 390, 3) := by decide +kernel
theorem dX11_place_119 : decode cX11_place 119 = .ok (.if_acmp .eq 30, 3) := by decide +kernel
theorem dX11_place_122 : decode cX11_place 122 = .ok (.aload_n 1, 1) := by decide +kernel
theorem dX11_place_123 : decode cX11_place 123 = .ok (.getfield 279, 3) := by decide +kernel
theorem dX11_place_126 : decode cX11_place 126 = .ok (.aload_n 0, 1) := by decide +kernel
theorem dX11_place_127 : decode cX11_place 127 = .ok (.getfield 36, 3) := by decide +kernel
theorem dX11_place_130 : decode cX11_place 130 = .ok (.invokevirtual 195, 3) := by decide +kernel
theorem dX11_place_133 : decode cX11_place 133 = .ok (.putfield 133, 3) := by decide +kernel
theorem dX11_place_136 : decode cX11_place 136 = .ok (.aload_n 1, 1) := by decide +kernel
theorem dX11_place_137 : decode cX11_place 137 = .ok (.getfield 210, 3) := by decide +kernel
theorem dX11_place_140 : decode cX11_place 140 = .ok (.iconst 2, 1) := by decide +kernel
theorem dX11_place_141 : decode cX11_place 141 = .ok (.dup2, 1) := by decide +kernel
theorem dX11_place_142 : decode cX11_place 142 = .ok (.iaload, 1) := by decide +kernel
theorem dX11_place_143 : decode cX11_place 143 = .ok (.iconst 1, 1) := by decide +kernel
theorem dX11_place_144 : decode cX11_place 144 = .ok (.iadd, 1) := by decide +kernel
theorem dX11_place_145 : decode cX11_place 145 = .ok (.iastore, 1) := by decide +kernel
theorem dX11_place_146 : decode cX11_place 146 = .ok (.goto 79, 3) := by decide +kernel
theorem dX11_place_149 : decode cX11_place 149 = .ok (.aload_n 1, 1) := by decide +kernel
theorem dX11_place_150 : decode cX11_place 150 = .ok (.getfield 393, 3) := by decide +kernel
theorem dX11_place_153 : decode cX11_place 153 = .ok (.ifnonnull 40, 3) := by decide +kernel
theorem dX11_place_156 : decode cX11_place 156 = .ok (.aload_n 1, 1) := by decide +kernel
theorem dX11_place_157 : decode cX11_place 157 = .ok (.aload_n 0, 1) := by decide +kernel
theorem dX11_place_158 : decode cX11_place 158 = .ok (.aload_n 2, 1) := by decide +kernel
theorem dX11_place_159 : decode cX11_place 159 = .ok (.invokevirtual 126, 3) := by decide +kernel
theorem dX11_place_162 : decode cX11_place 162 = .ok (.aload_n 1, 1) := by decide +kernel
theorem dX11_place_163 : decode cX11_place 163 = .ok (.getfield 279, 3) := by decide +kernel
theorem dX11_place_166 : decode cX11_place 166 = .ok (.aload_n 0, 1) := by decide +kernel
theorem dX11_place_167 : decode cX11_place 167 = .ok (.getfield 36, 3) := by decide +kernel
theorem dX11_place_170 : decode cX11_place 170 = .ok (.invokevirtual 195, 3) := by decide +kernel
theorem dX11_place_173 : decode cX11_place 173 = .ok (.aload_n 2, 1) := by decide +kernel
theorem dX11_place_174 : decode cX11_place 174 = .ok (.invokevirtual 116, 3) := by decide +kernel
theorem dX11_place_177 : decode cX11_place 177 = .ok (.putfield 279, 3) := by decide +kernel
theorem dX11_place_180 : decode cX11_place 180 = .ok (.aload_n 1, 1) := by decide +kernel
theorem dX11_place_181 : decode cX11_place 181 = .ok (.getfield 210, 3) := by decide +kernel
theorem dX11_place_184 : decode cX11_place 184 = .ok (.iconst 0, 1) := by decide +kernel
theorem dX11_place_185 : decode cX11_place 185 = .ok (.dup2, 1) := by decide +kernel
theorem dX11_place_186 : decode cX11_place 186 = .ok (.iaload, 1) := by decide +kernel
theorem dX11_place_187 : decode cX11_place 187 = .ok (.iconst 1, 1) := by decide +kernel
theorem dX11_place_188 : decode cX11_place 188 = .ok (.iadd, 1) := by decide +kernel
theorem dX11_place_189 : decode cX11_place 189 = .ok (.iastore, 1) := by decide +kernel
theorem dX11_place_190 : decode cX11_place 190 = .ok (.goto 35, 3) := by decide +kernel
theorem dX11_place_193 : decode cX11_place 193 = .ok (.aload_n 1, 1) := by decide +kernel
theorem dX11_place_194 : decode cX11_place 194 = .ok (.getfield 393, 3) := by decide +kernel
theorem dX11_place_197 : decode cX11_place 197 = .ok (.aload_n 0, 1) := by decide +kernel
theorem dX11_place_198 : decode cX11_place 198 = .ok (.getfield 36, 3) := by decide +kernel
theorem dX11_place_201 : decode cX11_place 201 = .ok (.invokevirtual 195, 3) := by decide +kernel
theorem dX11_place_204 : decode cX11_place 204 = .ok (.putfield 133, 3) := by decide +kernel
theorem dX11_place_207 : decode cX11_place 207 = .ok (.aload_n 1, 1) := by decide +kernel
theorem dX11_place_208 : decode cX11_place 208 = .ok (.aload_n 1, 1) := by decide +kernel
theorem dX11_place_209 : decode cX11_place 209 = .ok (.getfield 393, 3) := by decide +kernel
theorem dX11_place_212 : decode cX11_place 212 = .ok (.putfield 279, 3) := by decide +kernel
theorem dX11_place_215 : decode cX11_place 215 = .ok (.aload_n 1, 1) := by decide +kernel
theorem dX11_place_216 : decode cX11_place 216 = .ok (.getfield 210, 3) := by decide +kernel
theorem dX11_place_219 : decode cX11_place 219 = .ok (.iconst 0, 1) := by decide +kernel
theorem dX11_place_220 : decode cX11_place 220 = .ok (.dup2, 1) := by decide +kernel
theorem dX11_place_221 : decode cX11_place 221 = .ok (.iaload, 1) := by decide +kernel
theorem dX11_place_222 : decode cX11_place 222 = .ok (.iconst 1, 1) := by decide +kernel
theorem dX11_place_223 : decode cX11_place 223 = .ok (.iadd, 1) := by decide +kernel
theorem dX11_place_224 : decode cX11_place 224 = .ok (.iastore, 1) := by decide +kernel
theorem dX11_place_225 : decode cX11_place 225 = .ok (.iconst 0, 1) := by decide +kernel
theorem dX11_place_226 : decode cX11_place 226 = .ok (.ireturn, 1) := by decide +kernel
theorem dX11_stopOrFinish_0 : decode cX11_stopOrFinish 0 = .ok (.aload_n 0, 1) := by decide +kernel
theorem dX11_stopOrFinish_1 : decode cX11_stopOrFinish 1 = .ok (.getfield 64, 3) := by decide +kernel
theorem dX11_stopOrFinish_4 : decode cX11_stopOrFinish 4 = .ok (.iload_n 1, 1) := by decide +kernel
theorem dX11_stopOrFinish_5 : decode cX11_stopOrFinish 5 = .ok (.putfield 270, 3) := by decide +kernel
theorem dX11_stopOrFinish_8 : decode cX11_stopOrFinish 8 = .ok (.iload_n 1, 1) := by decide +kernel
theorem dX11_stopOrFinish_9 : decode cX11_stopOrFinish 9 = .ok (.ifCond .ne 22, 3) := by decide +kernel
theorem dX11_stopOrFinish_12 : decode cX11_stopOrFinish 12 = .ok (.aload_n 0, 1) := by decide +kernel
theorem dX11_stopOrFinish_13 : decode cX11_stopOrFinish 13 = .ok (.getfield 24, 3) := by decide +kernel
theorem dX11_stopOrFinish_16 : decode cX11_stopOrFinish 16 = .ok (.aload_n 0, 1) := by decide +kernel
theorem dX11_stopOrFinish_17 : decode cX11_stopOrFinish 17 = .ok (.getfield 64, 3) := by decide +kernel
theorem dX11_stopOrFinish_20 : decode cX11_stopOrFinish 20 = .ok (.getfield 396, 3) := by decide +kernel
theorem dX11_stopOrFinish_23 : decode cX11_stopOrFinish 23 = .ok (.aload_n 0, 1) := by decide +kernel
theorem dX11_stopOrFinish_24 : decode cX11_stopOrFinish 24 = .ok (.getfield 64, 3) := by decide +kernel
theorem dX11_stopOrFinish_27 : decode cX11_stopOrFinish 27 = .ok (.getfield 279, 3) := by decide +kernel
theorem dX11_stopOrFinish_30 : decode cX11_stopOrFinish 30 = .ok (.aastore, 1) := by decide +kernel
theorem dX11_stopOrFinish_31 : decode cX11_stopOrFinish 31 = .ok (.iload_n 1, 1) := by decide +kernel
theorem dX11_stopOrFinish_32 : decode cX11_stopOrFinish 32 = .ok (.ireturn, 1) := by decide +kernel
theorem dX11_mergeAtStop_0 : decode cX11_mergeAtStop 0 = .ok (.aload_n 0, 1) := by decide +kernel
theorem dX11_mergeAtStop_1 : decode cX11_mergeAtStop 1 = .ok (.invokevirtual 89, 3) := by decide +kernel
theorem dX11_mergeAtStop_4 : decode cX11_mergeAtStop 4 = .ok (.ifCond .ne 5, 3) := by decide +kernel
theorem dX11_mergeAtStop_7 : decode cX11_mergeAtStop 7 = .ok (.iconst 0, 1) := by decide +kernel
theorem dX11_mergeAtStop_8 : decode cX11_mergeAtStop 8 = .ok (.ireturn, 1) := by decide +kernel
theorem dX11_mergeAtStop_9 : decode cX11_mergeAtStop 9 = .ok (.aload_n 0, 1) := by decide +kernel
theorem dX11_mergeAtStop_10 : decode cX11_mergeAtStop 10 = .ok (.getfield 64, 3) := by decide +kernel
theorem dX11_mergeAtStop_13 : decode cX11_mergeAtStop 13 = .ok (.invokevirtual 273, 3) := by decide +kernel
theorem dX11_mergeAtStop_16 : decode cX11_mergeAtStop 16 = .ok (.astore_n 2, 1) := by decide +kernel
theorem dX11_mergeAtStop_17 : decode cX11_mergeAtStop 17 = .ok (.aload_n 0, 1) := by decide +kernel
theorem dX11_mergeAtStop_18 : decode cX11_mergeAtStop 18 = .ok (.getfield 36, 3) := by decide +kernel
theorem dX11_mergeAtStop_21 : decode cX11_mergeAtStop 21 = .ok (.aload_n 2, 1) := by decide +kernel
theorem dX11_mergeAtStop_22 : decode cX11_mergeAtStop 22 = .ok (.invokevirtual 387, 3) := by decide +kernel
theorem dX11_mergeAtStop_25 : decode cX11_mergeAtStop 25 = .ok (.aload_n 0, 1) := by decide +kernel
theorem dX11_mergeAtStop_26 : decode cX11_mergeAtStop 26 = .ok (.getfield 64, 3) := by decide +kernel
theorem dX11_mergeAtStop_29 : decode cX11_mergeAtStop 29 = .ok (.getfield 279, 3) := by decide +kernel
theorem dX11_mergeAtStop_32 : decode cX11_mergeAtStop 32 = .ok (.getfield 133, 3) := by decide +kernel
theorem dX11_mergeAtStop_35 : decode cX11_mergeAtStop 35 = .ok (.aload_n 2, 1) := by decide +kernel
theorem dX11_mergeAtStop_36 : decode cX11_mergeAtStop 36 = .ok (.getfield 133, 3) := by decide +kernel
theorem dX11_mergeAtStop_39 : decode cX11_mergeAtStop 39 = .ok (.iload_n 1, 1) := by decide +kernel
theorem dX11_mergeAtStop_40 : decode cX11_mergeAtStop 40 = .ok (.invokevirtual 187, 3) := by decide +kernel
theorem dX11_mergeAtStop_43 : decode cX11_mergeAtStop 43 = .ok (.iconst 1, 1) := by decide +kernel
theorem dX11_mergeAtStop_44 : decode cX11_mergeAtStop 44 = .ok (.ireturn, 1) := by decide +kernel
theorem dX11_pickConflict_0 : decode cX11_pickConflict 0 = .ok (.iload_n 1, 1) := by decide +kernel
theorem dX11_pickConflict_1 : decode cX11_pickConflict 1 = .ok (.ifCond .lt 22, 3) := by decide +kernel
theorem dX11_pickConflict_4 : decode cX11_pickConflict 4 = .ok (.aload_n 0, 1) := by decide +kernel
theorem dX11_pickConflict_5 : decode cX11_pickConflict 5 = .ok (.iload_n 1, 1) := by decide +kernel
theorem dX11_pickConflict_6 : decode cX11_pickConflict 6 = .ok (.invokevirtual 276, 3) := by decide +kernel
theorem dX11_pickConflict_9 : decode cX11_pickConflict 9 = .ok (.ifCond .eq 14, 3) := by decide +kernel
theorem dX11_pickConflict_12 : decode cX11_pickConflict 12 = .ok (.iload_n 1, 1) := by decide +kernel
theorem dX11_pickConflict_13 : decode cX11_pickConflict 13 = .ok (.aload_n 0, 1) := by decide +kernel
theorem dX11_pickConflict_14 : decode cX11_pickConflict 14 = .ok (.getfield 36, 3) := by decide +kernel
theorem dX11_pickConflict_17 : decode cX11_pickConflict 17 = .ok (.getfield 219, 3) := by decide +kernel
theorem dX11_pickConflict_20 : decode cX11_pickConflict 20 = .ok (.if_icmp .lt 5, 3) := by decide +kernel
theorem dX11_pickConflict_23 : decode cX11_pickConflict 23 = .ok (.iconst 0, 1) := by decide +kernel
theorem dX11_pickConflict_24 : decode cX11_pickConflict 24 = .ok (.ireturn, 1) := by decide +kernel
theorem dX11_pickConflict_25 : decode cX11_pickConflict 25 = .ok (.aload_n 0, 1) := by decide +kernel
theorem dX11_pickConflict_26 : decode cX11_pickConflict 26 = .ok (.getfield 36, 3) := by decide +kernel
theorem dX11_pickConflict_29 : decode cX11_pickConflict 29 = .ok (.aload_n 0, 1) := by decide +kernel
theorem dX11_pickConflict_30 : decode cX11_pickConflict 30 = .ok (.getfield 36, 3) := by decide +kernel
theorem dX11_pickConflict_33 : decode cX11_pickConflict 33 = .ok (.getfield 300, 3) := by decide +kernel
theorem dX11_pickConflict_36 : decode cX11_pickConflict 36 = .ok (.aload_n 0, 1) := by decide +kernel
theorem dX11_pickConflict_37 : decode cX11_pickConflict 37 = .ok (.getfield 36, 3) := by decide +kernel
theorem dX11_pickConflict_40 : decode cX11_pickConflict 40 = .ok (.getfield 297, 3) := by decide +kernel
theorem dX11_pickConflict_43 : decode cX11_pickConflict 43 = .ok (.aload_n 0, 1) := by decide +kernel
theorem dX11_pickConflict_44 : decode cX11_pickConflict 44 = .ok (.getfield 36, 3) := by decide +kernel
theorem dX11_pickConflict_47 : decode cX11_pickConflict 47 = .ok (.getfield 293, 3) := by decide +kernel
theorem dX11_pickConflict_50 : decode cX11_pickConflict 50 = .ok (.invokevirtual 399, 3) := by decide +kernel
theorem dX11_pickConflict_53 : decode cX11_pickConflict 53 = .ok (.iconst 1, 1) := by decide +kernel
theorem dX11_pickConflict_54 : decode cX11_pickConflict 54 = .ok (.ireturn, 1) := by decide +kernel
theorem dL_law_0 : decode cL_law 0 = .ok (.new 7, 3) := by decide +kernel
theorem dL_law_3 : decode cL_law 3 = .ok (.dup, 1) := by decide +kernel
theorem dL_law_4 : decode cL_law 4 = .ok (.invokespecial 9, 3) := by decide +kernel
theorem dL_law_7 : decode cL_law 7 = .ok (.astore_n 1, 1) := by decide +kernel
theorem dL_law_8 : decode cL_law 8 = .ok (.new 10, 3) := by decide +kernel
theorem dL_law_11 : decode cL_law 11 = .ok (.dup, 1) := by decide +kernel
theorem dL_law_12 : decode cL_law 12 = .ok (.invokespecial 12, 3) := by decide +kernel
theorem dL_law_15 : decode cL_law 15 = .ok (.astore_n 2, 1) := by decide +kernel
theorem dL_law_16 : decode cL_law 16 = .ok (.iconst 0, 1) := by decide +kernel
theorem dL_law_17 : decode cL_law 17 = .ok (.istore_n 3, 1) := by decide +kernel
theorem dL_law_18 : decode cL_law 18 = .ok (.iload_n 3, 1) := by decide +kernel
theorem dL_law_19 : decode cL_law 19 = .ok (.aload_n 0, 1) := by decide +kernel
theorem dL_law_20 : decode cL_law 20 = .ok (.arraylength, 1) := by decide +kernel
theorem dL_law_21 : decode cL_law 21 = .ok (.bipush 6, 2) := by decide +kernel
theorem dL_law_23 : decode cL_law 23 = .ok (.isub, 1) := by decide +kernel
theorem dL_law_24 : decode cL_law 24 = .ok (.if_icmp .gt 1253, 3) := by decide +kernel
theorem dL_law_27 : decode cL_law 27 = .ok (.aload_n 0, 1) := by decide +kernel
theorem dL_law_28 : decode cL_law 28 = .ok (.iload_n 3, 1) := by decide +kernel
theorem dL_law_29 : decode cL_law 29 = .ok (.iaload, 1) := by decide +kernel
theorem dL_law_30 : decode cL_law 30 = .ok (.bipush 63, 2) := by decide +kernel
theorem dL_law_32 : decode cL_law 32 = .ok (.iand, 1) := by decide +kernel
theorem dL_law_33 : decode cL_law 33 = .ok (.tableswitch 1238 0 35 #[159, 202, 235, 278, 301, 334, 367, 400, 423, 446, 479, 492, 545, 578, 601, 634, 647, 660, 673, 696, 729, 762, 805, 848, 881, 914, 947, 970, 1003, 1026, 1069, 1103, 1166, 1189, 1202, 1215], 159) := by decide +kernel
theorem dL_law_192 : decode cL_law 192 = .ok (.aload_n 1, 1) := by decide +kernel
theorem dL_law_193 : decode cL_law 193 = .ok (.aload_n 0, 1) := by decide +kernel
theorem dL_law_194 : decode cL_law 194 = .ok (.iload_n 3, 1) := by decide +kernel
theorem dL_law_195 : decode cL_law 195 = .ok (.iconst 1, 1) := by decide +kernel
theorem dL_law_196 : decode cL_law 196 = .ok (.iadd, 1) := by decide +kernel
theorem dL_law_197 : decode cL_law 197 = .ok (.iaload, 1) := by decide +kernel
theorem dL_law_198 : decode cL_law 198 = .ok (.aload_n 0, 1) := by decide +kernel
theorem dL_law_199 : decode cL_law 199 = .ok (.iload_n 3, 1) := by decide +kernel
theorem dL_law_200 : decode cL_law 200 = .ok (.iconst 2, 1) := by decide +kernel
theorem dL_law_201 : decode cL_law 201 = .ok (.iadd, 1) := by decide +kernel
theorem dL_law_202 : decode cL_law 202 = .ok (.iaload, 1) := by decide +kernel
theorem dL_law_203 : decode cL_law 203 = .ok (.aload_n 0, 1) := by decide +kernel
theorem dL_law_204 : decode cL_law 204 = .ok (.iload_n 3, 1) := by decide +kernel
theorem dL_law_205 : decode cL_law 205 = .ok (.iconst 3, 1) := by decide +kernel
theorem dL_law_206 : decode cL_law 206 = .ok (.iadd, 1) := by decide +kernel
theorem dL_law_207 : decode cL_law 207 = .ok (.iaload, 1) := by decide +kernel
theorem dL_law_208 : decode cL_law 208 = .ok (.invokevirtual 13, 3) := by decide +kernel
theorem dL_law_211 : decode cL_law 211 = .ok (.aload_n 2, 1) := by decide +kernel
theorem dL_law_212 : decode cL_law 212 = .ok (.aload_n 0, 1) := by decide +kernel
theorem dL_law_213 : decode cL_law 213 = .ok (.iload_n 3, 1) := by decide +kernel
theorem dL_law_214 : decode cL_law 214 = .ok (.iconst 1, 1) := by decide +kernel
theorem dL_law_215 : decode cL_law 215 = .ok (.iadd, 1) := by decide +kernel
theorem dL_law_216 : decode cL_law 216 = .ok (.iaload, 1) := by decide +kernel
theorem dL_law_217 : decode cL_law 217 = .ok (.aload_n 0, 1) := by decide +kernel
theorem dL_law_218 : decode cL_law 218 = .ok (.iload_n 3, 1) := by decide +kernel
theorem dL_law_219 : decode cL_law 219 = .ok (.iconst 2, 1) := by decide +kernel
theorem dL_law_220 : decode cL_law 220 = .ok (.iadd, 1) := by decide +kernel
theorem dL_law_221 : decode cL_law 221 = .ok (.iaload, 1) := by decide +kernel
theorem dL_law_222 : decode cL_law 222 = .ok (.aload_n 0, 1) := by decide +kernel
theorem dL_law_223 : decode cL_law 223 = .ok (.iload_n 3, 1) := by decide +kernel
theorem dL_law_224 : decode cL_law 224 = .ok (.iconst 3, 1) := by decide +kernel
theorem dL_law_225 : decode cL_law 225 = .ok (.iadd, 1) := by decide +kernel
theorem dL_law_226 : decode cL_law 226 = .ok (.iaload, 1) := by decide +kernel
theorem dL_law_227 : decode cL_law 227 = .ok (.invokevirtual 17, 3) := by decide +kernel
theorem dL_law_230 : decode cL_law 230 = .ok (.if_icmp .eq 1041, 3) := by decide +kernel
theorem dL_law_233 : decode cL_law 233 = .ok (.iconst 0, 1) := by decide +kernel
theorem dL_law_234 : decode cL_law 234 = .ok (.ireturn, 1) := by decide +kernel
theorem dL_law_235 : decode cL_law 235 = .ok (.aload_n 1, 1) := by decide +kernel
theorem dL_law_236 : decode cL_law 236 = .ok (.aload_n 0, 1) := by decide +kernel
theorem dL_law_237 : decode cL_law 237 = .ok (.iload_n 3, 1) := by decide +kernel
theorem dL_law_238 : decode cL_law 238 = .ok (.iconst 1, 1) := by decide +kernel
theorem dL_law_239 : decode cL_law 239 = .ok (.iadd, 1) := by decide +kernel
theorem dL_law_240 : decode cL_law 240 = .ok (.iaload, 1) := by decide +kernel
theorem dL_law_241 : decode cL_law 241 = .ok (.aload_n 0, 1) := by decide +kernel
theorem dL_law_242 : decode cL_law 242 = .ok (.iload_n 3, 1) := by decide +kernel
theorem dL_law_243 : decode cL_law 243 = .ok (.iconst 2, 1) := by decide +kernel
theorem dL_law_244 : decode cL_law 244 = .ok (.iadd, 1) := by decide +kernel
theorem dL_law_245 : decode cL_law 245 = .ok (.iaload, 1) := by decide +kernel
theorem dL_law_246 : decode cL_law 246 = .ok (.invokevirtual 18, 3) := by decide +kernel
theorem dL_law_249 : decode cL_law 249 = .ok (.aload_n 2, 1) := by decide +kernel
theorem dL_law_250 : decode cL_law 250 = .ok (.aload_n 0, 1) := by decide +kernel
theorem dL_law_251 : decode cL_law 251 = .ok (.iload_n 3, 1) := by decide +kernel
theorem dL_law_252 : decode cL_law 252 = .ok (.iconst 1, 1) := by decide +kernel
theorem dL_law_253 : decode cL_law 253 = .ok (.iadd, 1) := by decide +kernel
theorem dL_law_254 : decode cL_law 254 = .ok (.iaload, 1) := by decide +kernel
theorem dL_law_255 : decode cL_law 255 = .ok (.aload_n 0, 1) := by decide +kernel
theorem dL_law_256 : decode cL_law 256 = .ok (.iload_n 3, 1) := by decide +kernel
theorem dL_law_257 : decode cL_law 257 = .ok (.iconst 2, 1) := by decide +kernel
theorem dL_law_258 : decode cL_law 258 = .ok (.iadd, 1) := by decide +kernel
theorem dL_law_259 : decode cL_law 259 = .ok (.iaload, 1) := by decide +kernel
theorem dL_law_260 : decode cL_law 260 = .ok (.invokevirtual 22, 3) := by decide +kernel
theorem dL_law_263 : decode cL_law 263 = .ok (.if_icmp .eq 1008, 3) := by decide +kernel
theorem dL_law_266 : decode cL_law 266 = .ok (.iconst 0, 1) := by decide +kernel
theorem dL_law_267 : decode cL_law 267 = .ok (.ireturn, 1) := by decide +kernel
theorem dL_law_268 : decode cL_law 268 = .ok (.aload_n 1, 1) := by decide +kernel
theorem dL_law_269 : decode cL_law 269 = .ok (.aload_n 0, 1) := by decide +kernel
theorem dL_law_270 : decode cL_law 270 = .ok (.iload_n 3, 1) := by decide +kernel
theorem dL_law_271 : decode cL_law 271 = .ok (.iconst 1, 1) := by decide +kernel
theorem dL_law_272 : decode cL_law 272 = .ok (.iadd, 1) := by decide +kernel
theorem dL_law_273 : decode cL_law 273 = .ok (.iaload, 1) := by decide +kernel
theorem dL_law_274 : decode cL_law 274 = .ok (.aload_n 0, 1) := by decide +kernel
theorem dL_law_275 : decode cL_law 275 = .ok (.iload_n 3, 1) := by decide +kernel
theorem dL_law_276 : decode cL_law 276 = .ok (.iconst 2, 1) := by decide +kernel
theorem dL_law_277 : decode cL_law 277 = .ok (.iadd, 1) := by decide +kernel
theorem dL_law_278 : decode cL_law 278 = .ok (.iaload, 1) := by decide +kernel
theorem dL_law_279 : decode cL_law 279 = .ok (.aload_n 0, 1) := by decide +kernel
theorem dL_law_280 : decode cL_law 280 = .ok (.iload_n 3, 1) := by decide +kernel
theorem dL_law_281 : decode cL_law 281 = .ok (.iconst 3, 1) := by decide +kernel
theorem dL_law_282 : decode cL_law 282 = .ok (.iadd, 1) := by decide +kernel
theorem dL_law_283 : decode cL_law 283 = .ok (.iaload, 1) := by decide +kernel
theorem dL_law_284 : decode cL_law 284 = .ok (.invokevirtual 23, 3) := by decide +kernel
theorem dL_law_287 : decode cL_law 287 = .ok (.aload_n 2, 1) := by decide +kernel
theorem dL_law_288 : decode cL_law 288 = .ok (.aload_n 0, 1) := by decide +kernel
theorem dL_law_289 : decode cL_law 289 = .ok (.iload_n 3, 1) := by decide +kernel
theorem dL_law_290 : decode cL_law 290 = .ok (.iconst 1, 1) := by decide +kernel
theorem dL_law_291 : decode cL_law 291 = .ok (.iadd, 1) := by decide +kernel
theorem dL_law_292 : decode cL_law 292 = .ok (.iaload, 1) := by decide +kernel
theorem dL_law_293 : decode cL_law 293 = .ok (.aload_n 0, 1) := by decide +kernel
theorem dL_law_294 : decode cL_law 294 = .ok (.iload_n 3, 1) := by decide +kernel
theorem dL_law_295 : decode cL_law 295 = .ok (.iconst 2, 1) := by decide +kernel
theorem dL_law_296 : decode cL_law 296 = .ok (.iadd, 1) := by decide +kernel
theorem dL_law_297 : decode cL_law 297 = .ok (.iaload, 1) := by decide +kernel
theorem dL_law_298 : decode cL_law 298 = .ok (.aload_n 0, 1) := by decide +kernel
theorem dL_law_299 : decode cL_law 299 = .ok (.iload_n 3, 1) := by decide +kernel
theorem dL_law_300 : decode cL_law 300 = .ok (.iconst 3, 1) := by decide +kernel
theorem dL_law_301 : decode cL_law 301 = .ok (.iadd, 1) := by decide +kernel
theorem dL_law_302 : decode cL_law 302 = .ok (.iaload, 1) := by decide +kernel
theorem dL_law_303 : decode cL_law 303 = .ok (.invokevirtual 26, 3) := by decide +kernel
theorem dL_law_306 : decode cL_law 306 = .ok (.if_icmp .eq 965, 3) := by decide +kernel
theorem dL_law_309 : decode cL_law 309 = .ok (.iconst 0, 1) := by decide +kernel
theorem dL_law_310 : decode cL_law 310 = .ok (.ireturn, 1) := by decide +kernel
theorem dL_law_311 : decode cL_law 311 = .ok (.aload_n 1, 1) := by decide +kernel
theorem dL_law_312 : decode cL_law 312 = .ok (.aload_n 0, 1) := by decide +kernel
theorem dL_law_313 : decode cL_law 313 = .ok (.iload_n 3, 1) := by decide +kernel
theorem dL_law_314 : decode cL_law 314 = .ok (.iconst 1, 1) := by decide +kernel
theorem dL_law_315 : decode cL_law 315 = .ok (.iadd, 1) := by decide +kernel
theorem dL_law_316 : decode cL_law 316 = .ok (.iaload, 1) := by decide +kernel
theorem dL_law_317 : decode cL_law 317 = .ok (.invokevirtual 27, 3) := by decide +kernel
theorem dL_law_320 : decode cL_law 320 = .ok (.aload_n 2, 1) := by decide +kernel
theorem dL_law_321 : decode cL_law 321 = .ok (.aload_n 0, 1) := by decide +kernel
theorem dL_law_322 : decode cL_law 322 = .ok (.iload_n 3, 1) := by decide +kernel
theorem dL_law_323 : decode cL_law 323 = .ok (.iconst 1, 1) := by decide +kernel
theorem dL_law_324 : decode cL_law 324 = .ok (.iadd, 1) := by decide +kernel
theorem dL_law_325 : decode cL_law 325 = .ok (.iaload, 1) := by decide +kernel
theorem dL_law_326 : decode cL_law 326 = .ok (.invokevirtual 31, 3) := by decide +kernel
theorem dL_law_329 : decode cL_law 329 = .ok (.if_icmp .eq 942, 3) := by decide +kernel
theorem dL_law_332 : decode cL_law 332 = .ok (.iconst 0, 1) := by decide +kernel
theorem dL_law_333 : decode cL_law 333 = .ok (.ireturn, 1) := by decide +kernel
theorem dL_law_334 : decode cL_law 334 = .ok (.aload_n 1, 1) := by decide +kernel
theorem dL_law_335 : decode cL_law 335 = .ok (.aload_n 0, 1) := by decide +kernel
theorem dL_law_336 : decode cL_law 336 = .ok (.iload_n 3, 1) := by decide +kernel
theorem dL_law_337 : decode cL_law 337 = .ok (.iconst 1, 1) := by decide +kernel
theorem dL_law_338 : decode cL_law 338 = .ok (.iadd, 1) := by decide +kernel
theorem dL_law_339 : decode cL_law 339 = .ok (.iaload, 1) := by decide +kernel
theorem dL_law_340 : decode cL_law 340 = .ok (.aload_n 0, 1) := by decide +kernel
theorem dL_law_341 : decode cL_law 341 = .ok (.iload_n 3, 1) := by decide +kernel
theorem dL_law_342 : decode cL_law 342 = .ok (.iconst 2, 1) := by decide +kernel
theorem dL_law_343 : decode cL_law 343 = .ok (.iadd, 1) := by decide +kernel
theorem dL_law_344 : decode cL_law 344 = .ok (.iaload, 1) := by decide +kernel
theorem dL_law_345 : decode cL_law 345 = .ok (.invokevirtual 32, 3) := by decide +kernel
theorem dL_law_348 : decode cL_law 348 = .ok (.aload_n 2, 1) := by decide +kernel
theorem dL_law_349 : decode cL_law 349 = .ok (.aload_n 0, 1) := by decide +kernel
theorem dL_law_350 : decode cL_law 350 = .ok (.iload_n 3, 1) := by decide +kernel
theorem dL_law_351 : decode cL_law 351 = .ok (.iconst 1, 1) := by decide +kernel
theorem dL_law_352 : decode cL_law 352 = .ok (.iadd, 1) := by decide +kernel
theorem dL_law_353 : decode cL_law 353 = .ok (.iaload, 1) := by decide +kernel
theorem dL_law_354 : decode cL_law 354 = .ok (.aload_n 0, 1) := by decide +kernel
theorem dL_law_355 : decode cL_law 355 = .ok (.iload_n 3, 1) := by decide +kernel
theorem dL_law_356 : decode cL_law 356 = .ok (.iconst 2, 1) := by decide +kernel
theorem dL_law_357 : decode cL_law 357 = .ok (.iadd, 1) := by decide +kernel
theorem dL_law_358 : decode cL_law 358 = .ok (.iaload, 1) := by decide +kernel
theorem dL_law_359 : decode cL_law 359 = .ok (.invokevirtual 35, 3) := by decide +kernel
theorem dL_law_362 : decode cL_law 362 = .ok (.if_icmp .eq 909, 3) := by decide +kernel
theorem dL_law_365 : decode cL_law 365 = .ok (.iconst 0, 1) := by decide +kernel
theorem dL_law_366 : decode cL_law 366 = .ok (.ireturn, 1) := by decide +kernel
theorem dL_law_367 : decode cL_law 367 = .ok (.aload_n 1, 1) := by decide +kernel
theorem dL_law_368 : decode cL_law 368 = .ok (.aload_n 0, 1) := by decide +kernel
theorem dL_law_369 : decode cL_law 369 = .ok (.iload_n 3, 1) := by decide +kernel
theorem dL_law_370 : decode cL_law 370 = .ok (.iconst 1, 1) := by decide +kernel
theorem dL_law_371 : decode cL_law 371 = .ok (.iadd, 1) := by decide +kernel
theorem dL_law_372 : decode cL_law 372 = .ok (.iaload, 1) := by decide +kernel
theorem dL_law_373 : decode cL_law 373 = .ok (.aload_n 0, 1) := by decide +kernel
theorem dL_law_374 : decode cL_law 374 = .ok (.iload_n 3, 1) := by decide +kernel
theorem dL_law_375 : decode cL_law 375 = .ok (.iconst 2, 1) := by decide +kernel
theorem dL_law_376 : decode cL_law 376 = .ok (.iadd, 1) := by decide +kernel
theorem dL_law_377 : decode cL_law 377 = .ok (.iaload, 1) := by decide +kernel
theorem dL_law_378 : decode cL_law 378 = .ok (.invokevirtual 36, 3) := by decide +kernel
theorem dL_law_381 : decode cL_law 381 = .ok (.aload_n 2, 1) := by decide +kernel
theorem dL_law_382 : decode cL_law 382 = .ok (.aload_n 0, 1) := by decide +kernel
theorem dL_law_383 : decode cL_law 383 = .ok (.iload_n 3, 1) := by decide +kernel
theorem dL_law_384 : decode cL_law 384 = .ok (.iconst 1, 1) := by decide +kernel
theorem dL_law_385 : decode cL_law 385 = .ok (.iadd, 1) := by decide +kernel
theorem dL_law_386 : decode cL_law 386 = .ok (.iaload, 1) := by decide +kernel
theorem dL_law_387 : decode cL_law 387 = .ok (.aload_n 0, 1) := by decide +kernel
theorem dL_law_388 : decode cL_law 388 = .ok (.iload_n 3, 1) := by decide +kernel
theorem dL_law_389 : decode cL_law 389 = .ok (.iconst 2, 1) := by decide +kernel
theorem dL_law_390 : decode cL_law 390 = .ok (.iadd, 1) := by decide +kernel
theorem dL_law_391 : decode cL_law 391 = .ok (.iaload, 1) := by decide +kernel
theorem dL_law_392 : decode cL_law 392 = .ok (.invokevirtual 39, 3) := by decide +kernel
theorem dL_law_395 : decode cL_law 395 = .ok (.if_icmp .eq 876, 3) := by decide +kernel
theorem dL_law_398 : decode cL_law 398 = .ok (.iconst 0, 1) := by decide +kernel
theorem dL_law_399 : decode cL_law 399 = .ok (.ireturn, 1) := by decide +kernel
theorem dL_law_400 : decode cL_law 400 = .ok (.aload_n 1, 1) := by decide +kernel
theorem dL_law_401 : decode cL_law 401 = .ok (.aload_n 0, 1) := by decide +kernel
theorem dL_law_402 : decode cL_law 402 = .ok (.iload_n 3, 1) := by decide +kernel
theorem dL_law_403 : decode cL_law 403 = .ok (.iconst 1, 1) := by decide +kernel
theorem dL_law_404 : decode cL_law 404 = .ok (.iadd, 1) := by decide +kernel
theorem dL_law_405 : decode cL_law 405 = .ok (.iaload, 1) := by decide +kernel
theorem dL_law_406 : decode cL_law 406 = .ok (.aload_n 0, 1) := by decide +kernel
theorem dL_law_407 : decode cL_law 407 = .ok (.iload_n 3, 1) := by decide +kernel
theorem dL_law_408 : decode cL_law 408 = .ok (.iconst 2, 1) := by decide +kernel
theorem dL_law_409 : decode cL_law 409 = .ok (.iadd, 1) := by decide +kernel
theorem dL_law_410 : decode cL_law 410 = .ok (.iaload, 1) := by decide +kernel
theorem dL_law_411 : decode cL_law 411 = .ok (.invokevirtual 40, 3) := by decide +kernel
theorem dL_law_414 : decode cL_law 414 = .ok (.aload_n 2, 1) := by decide +kernel
theorem dL_law_415 : decode cL_law 415 = .ok (.aload_n 0, 1) := by decide +kernel
theorem dL_law_416 : decode cL_law 416 = .ok (.iload_n 3, 1) := by decide +kernel
theorem dL_law_417 : decode cL_law 417 = .ok (.iconst 1, 1) := by decide +kernel
theorem dL_law_418 : decode cL_law 418 = .ok (.iadd, 1) := by decide +kernel
theorem dL_law_419 : decode cL_law 419 = .ok (.iaload, 1) := by decide +kernel
theorem dL_law_420 : decode cL_law 420 = .ok (.aload_n 0, 1) := by decide +kernel
theorem dL_law_421 : decode cL_law 421 = .ok (.iload_n 3, 1) := by decide +kernel
theorem dL_law_422 : decode cL_law 422 = .ok (.iconst 2, 1) := by decide +kernel
theorem dL_law_423 : decode cL_law 423 = .ok (.iadd, 1) := by decide +kernel
theorem dL_law_424 : decode cL_law 424 = .ok (.iaload, 1) := by decide +kernel
theorem dL_law_425 : decode cL_law 425 = .ok (.invokevirtual 43, 3) := by decide +kernel
theorem dL_law_428 : decode cL_law 428 = .ok (.if_icmp .eq 843, 3) := by decide +kernel
theorem dL_law_431 : decode cL_law 431 = .ok (.iconst 0, 1) := by decide +kernel
theorem dL_law_432 : decode cL_law 432 = .ok (.ireturn, 1) := by decide +kernel
theorem dL_law_433 : decode cL_law 433 = .ok (.aload_n 1, 1) := by decide +kernel
theorem dL_law_434 : decode cL_law 434 = .ok (.aload_n 0, 1) := by decide +kernel
theorem dL_law_435 : decode cL_law 435 = .ok (.iload_n 3, 1) := by decide +kernel
theorem dL_law_436 : decode cL_law 436 = .ok (.iconst 1, 1) := by decide +kernel
theorem dL_law_437 : decode cL_law 437 = .ok (.iadd, 1) := by decide +kernel
theorem dL_law_438 : decode cL_law 438 = .ok (.iaload, 1) := by decide +kernel
theorem dL_law_439 : decode cL_law 439 = .ok (.invokevirtual 44, 3) := by decide +kernel
theorem dL_law_442 : decode cL_law 442 = .ok (.aload_n 2, 1) := by decide +kernel
theorem dL_law_443 : decode cL_law 443 = .ok (.aload_n 0, 1) := by decide +kernel
theorem dL_law_444 : decode cL_law 444 = .ok (.iload_n 3, 1) := by decide +kernel
theorem dL_law_445 : decode cL_law 445 = .ok (.iconst 1, 1) := by decide +kernel
theorem dL_law_446 : decode cL_law 446 = .ok (.iadd, 1) := by decide +kernel
theorem dL_law_447 : decode cL_law 447 = .ok (.iaload, 1) := by decide +kernel
theorem dL_law_448 : decode cL_law 448 = .ok (.invokevirtual 47, 3) := by decide +kernel
theorem dL_law_451 : decode cL_law 451 = .ok (.if_icmp .eq 820, 3) := by decide +kernel
theorem dL_law_454 : decode cL_law 454 = .ok (.iconst 0, 1) := by decide +kernel
theorem dL_law_455 : decode cL_law 455 = .ok (.ireturn, 1) := by decide +kernel
theorem dL_law_456 : decode cL_law 456 = .ok (.aload_n 1, 1) := by decide +kernel
theorem dL_law_457 : decode cL_law 457 = .ok (.aload_n 0, 1) := by decide +kernel
theorem dL_law_458 : decode cL_law 458 = .ok (.iload_n 3, 1) := by decide +kernel
theorem dL_law_459 : decode cL_law 459 = .ok (.iconst 1, 1) := by decide +kernel
theorem dL_law_460 : decode cL_law 460 = .ok (.iadd, 1) := by decide +kernel
theorem dL_law_461 : decode cL_law 461 = .ok (.iaload, 1) := by decide +kernel
theorem dL_law_462 : decode cL_law 462 = .ok (.invokevirtual 48, 3) := by decide +kernel
theorem dL_law_465 : decode cL_law 465 = .ok (.aload_n 2, 1) := by decide +kernel
theorem dL_law_466 : decode cL_law 466 = .ok (.aload_n 0, 1) := by decide +kernel
theorem dL_law_467 : decode cL_law 467 = .ok (.iload_n 3, 1) := by decide +kernel
theorem dL_law_468 : decode cL_law 468 = .ok (.iconst 1, 1) := by decide +kernel
theorem dL_law_469 : decode cL_law 469 = .ok (.iadd, 1) := by decide +kernel
theorem dL_law_470 : decode cL_law 470 = .ok (.iaload, 1) := by decide +kernel
theorem dL_law_471 : decode cL_law 471 = .ok (.invokevirtual 51, 3) := by decide +kernel
theorem dL_law_474 : decode cL_law 474 = .ok (.if_icmp .eq 797, 3) := by decide +kernel
theorem dL_law_477 : decode cL_law 477 = .ok (.iconst 0, 1) := by decide +kernel
theorem dL_law_478 : decode cL_law 478 = .ok (.ireturn, 1) := by decide +kernel
theorem dL_law_479 : decode cL_law 479 = .ok (.aload_n 1, 1) := by decide +kernel
theorem dL_law_480 : decode cL_law 480 = .ok (.aload_n 0, 1) := by decide +kernel
theorem dL_law_481 : decode cL_law 481 = .ok (.iload_n 3, 1) := by decide +kernel
theorem dL_law_482 : decode cL_law 482 = .ok (.iconst 1, 1) := by decide +kernel
theorem dL_law_483 : decode cL_law 483 = .ok (.iadd, 1) := by decide +kernel
theorem dL_law_484 : decode cL_law 484 = .ok (.iaload, 1) := by decide +kernel
theorem dL_law_485 : decode cL_law 485 = .ok (.aload_n 0, 1) := by decide +kernel
theorem dL_law_486 : decode cL_law 486 = .ok (.iload_n 3, 1) := by decide +kernel
theorem dL_law_487 : decode cL_law 487 = .ok (.iconst 2, 1) := by decide +kernel
theorem dL_law_488 : decode cL_law 488 = .ok (.iadd, 1) := by decide +kernel
theorem dL_law_489 : decode cL_law 489 = .ok (.iaload, 1) := by decide +kernel
theorem dL_law_490 : decode cL_law 490 = .ok (.invokevirtual 52, 3) := by decide +kernel
theorem dL_law_493 : decode cL_law 493 = .ok (.aload_n 2, 1) := by decide +kernel
theorem dL_law_494 : decode cL_law 494 = .ok (.aload_n 0, 1) := by decide +kernel
theorem dL_law_495 : decode cL_law 495 = .ok (.iload_n 3, 1) := by decide +kernel
theorem dL_law_496 : decode cL_law 496 = .ok (.iconst 1, 1) := by decide +kernel
theorem dL_law_497 : decode cL_law 497 = .ok (.iadd, 1) := by decide +kernel
theorem dL_law_498 : decode cL_law 498 = .ok (.iaload, 1) := by decide +kernel
theorem dL_law_499 : decode cL_law 499 = .ok (.aload_n 0, 1) := by decide +kernel
theorem dL_law_500 : decode cL_law 500 = .ok (.iload_n 3, 1) := by decide +kernel
theorem dL_law_501 : decode cL_law 501 = .ok (.iconst 2, 1) := by decide +kernel
theorem dL_law_502 : decode cL_law 502 = .ok (.iadd, 1) := by decide +kernel
theorem dL_law_503 : decode cL_law 503 = .ok (.iaload, 1) := by decide +kernel
theorem dL_law_504 : decode cL_law 504 = .ok (.invokevirtual 55, 3) := by decide +kernel
theorem dL_law_507 : decode cL_law 507 = .ok (.if_icmp .eq 764, 3) := by decide +kernel
theorem dL_law_510 : decode cL_law 510 = .ok (.iconst 0, 1) := by decide +kernel
theorem dL_law_511 : decode cL_law 511 = .ok (.ireturn, 1) := by decide +kernel
theorem dL_law_512 : decode cL_law 512 = .ok (.aload_n 1, 1) := by decide +kernel
theorem dL_law_513 : decode cL_law 513 = .ok (.invokevirtual 56, 3) := by decide +kernel
theorem dL_law_516 : decode cL_law 516 = .ok (.aload_n 2, 1) := by decide +kernel
theorem dL_law_517 : decode cL_law 517 = .ok (.invokevirtual 60, 3) := by decide +kernel
theorem dL_law_520 : decode cL_law 520 = .ok (.if_icmp .eq 751, 3) := by decide +kernel
theorem dL_law_523 : decode cL_law 523 = .ok (.iconst 0, 1) := by decide +kernel
theorem dL_law_524 : decode cL_law 524 = .ok (.ireturn, 1) := by decide +kernel
theorem dL_law_525 : decode cL_law 525 = .ok (.aload_n 1, 1) := by decide +kernel
theorem dL_law_526 : decode cL_law 526 = .ok (.aload_n 0, 1) := by decide +kernel
theorem dL_law_527 : decode cL_law 527 = .ok (.iload_n 3, 1) := by decide +kernel
theorem dL_law_528 : decode cL_law 528 = .ok (.iconst 1, 1) := by decide +kernel
theorem dL_law_529 : decode cL_law 529 = .ok (.iadd, 1) := by decide +kernel
theorem dL_law_530 : decode cL_law 530 = .ok (.iaload, 1) := by decide +kernel
theorem dL_law_531 : decode cL_law 531 = .ok (.aload_n 0, 1) := by decide +kernel
theorem dL_law_532 : decode cL_law 532 = .ok (.iload_n 3, 1) := by decide +kernel
theorem dL_law_533 : decode cL_law 533 = .ok (.iconst 2, 1) := by decide +kernel
theorem dL_law_534 : decode cL_law 534 = .ok (.iadd, 1) := by decide +kernel
theorem dL_law_535 : decode cL_law 535 = .ok (.iaload, 1) := by decide +kernel
theorem dL_law_536 : decode cL_law 536 = .ok (.aload_n 0, 1) := by decide +kernel
theorem dL_law_537 : decode cL_law 537 = .ok (.iload_n 3, 1) := by decide +kernel
theorem dL_law_538 : decode cL_law 538 = .ok (.iconst 3, 1) := by decide +kernel
theorem dL_law_539 : decode cL_law 539 = .ok (.iadd, 1) := by decide +kernel
theorem dL_law_540 : decode cL_law 540 = .ok (.iaload, 1) := by decide +kernel
theorem dL_law_541 : decode cL_law 541 = .ok (.aload_n 0, 1) := by decide +kernel
theorem dL_law_542 : decode cL_law 542 = .ok (.iload_n 3, 1) := by decide +kernel
theorem dL_law_543 : decode cL_law 543 = .ok (.iconst 4, 1) := by decide +kernel
theorem dL_law_544 : decode cL_law 544 = .ok (.iadd, 1) := by decide +kernel
theorem dL_law_545 : decode cL_law 545 = .ok (.iaload, 1) := by decide +kernel
theorem dL_law_546 : decode cL_law 546 = .ok (.invokevirtual 61, 3) := by decide +kernel
theorem dL_law_549 : decode cL_law 549 = .ok (.aload_n 2, 1) := by decide +kernel
theorem dL_law_550 : decode cL_law 550 = .ok (.aload_n 0, 1) := by decide +kernel
theorem dL_law_551 : decode cL_law 551 = .ok (.iload_n 3, 1) := by decide +kernel
theorem dL_law_552 : decode cL_law 552 = .ok (.iconst 1, 1) := by decide +kernel
theorem dL_law_553 : decode cL_law 553 = .ok (.iadd, 1) := by decide +kernel
theorem dL_law_554 : decode cL_law 554 = .ok (.iaload, 1) := by decide +kernel
theorem dL_law_555 : decode cL_law 555 = .ok (.aload_n 0, 1) := by decide +kernel
theorem dL_law_556 : decode cL_law 556 = .ok (.iload_n 3, 1) := by decide +kernel
theorem dL_law_557 : decode cL_law 557 = .ok (.iconst 2, 1) := by decide +kernel
theorem dL_law_558 : decode cL_law 558 = .ok (.iadd, 1) := by decide +kernel
theorem dL_law_559 : decode cL_law 559 = .ok (.iaload, 1) := by decide +kernel
theorem dL_law_560 : decode cL_law 560 = .ok (.aload_n 0, 1) := by decide +kernel
theorem dL_law_561 : decode cL_law 561 = .ok (.iload_n 3, 1) := by decide +kernel
theorem dL_law_562 : decode cL_law 562 = .ok (.iconst 3, 1) := by decide +kernel
theorem dL_law_563 : decode cL_law 563 = .ok (.iadd, 1) := by decide +kernel
theorem dL_law_564 : decode cL_law 564 = .ok (.iaload, 1) := by decide +kernel
theorem dL_law_565 : decode cL_law 565 = .ok (.aload_n 0, 1) := by decide +kernel
theorem dL_law_566 : decode cL_law 566 = .ok (.iload_n 3, 1) := by decide +kernel
theorem dL_law_567 : decode cL_law 567 = .ok (.iconst 4, 1) := by decide +kernel
theorem dL_law_568 : decode cL_law 568 = .ok (.iadd, 1) := by decide +kernel
theorem dL_law_569 : decode cL_law 569 = .ok (.iaload, 1) := by decide +kernel
theorem dL_law_570 : decode cL_law 570 = .ok (.invokevirtual 65, 3) := by decide +kernel
theorem dL_law_573 : decode cL_law 573 = .ok (.if_icmp .eq 698, 3) := by decide +kernel
theorem dL_law_576 : decode cL_law 576 = .ok (.iconst 0, 1) := by decide +kernel
theorem dL_law_577 : decode cL_law 577 = .ok (.ireturn, 1) := by decide +kernel
theorem dL_law_578 : decode cL_law 578 = .ok (.aload_n 1, 1) := by decide +kernel
theorem dL_law_579 : decode cL_law 579 = .ok (.aload_n 0, 1) := by decide +kernel
theorem dL_law_580 : decode cL_law 580 = .ok (.iload_n 3, 1) := by decide +kernel
theorem dL_law_581 : decode cL_law 581 = .ok (.iconst 1, 1) := by decide +kernel
theorem dL_law_582 : decode cL_law 582 = .ok (.iadd, 1) := by decide +kernel
theorem dL_law_583 : decode cL_law 583 = .ok (.iaload, 1) := by decide +kernel
theorem dL_law_584 : decode cL_law 584 = .ok (.aload_n 0, 1) := by decide +kernel
theorem dL_law_585 : decode cL_law 585 = .ok (.iload_n 3, 1) := by decide +kernel
theorem dL_law_586 : decode cL_law 586 = .ok (.iconst 2, 1) := by decide +kernel
theorem dL_law_587 : decode cL_law 587 = .ok (.iadd, 1) := by decide +kernel
theorem dL_law_588 : decode cL_law 588 = .ok (.iaload, 1) := by decide +kernel
theorem dL_law_589 : decode cL_law 589 = .ok (.invokevirtual 66, 3) := by decide +kernel
theorem dL_law_592 : decode cL_law 592 = .ok (.aload_n 2, 1) := by decide +kernel
theorem dL_law_593 : decode cL_law 593 = .ok (.aload_n 0, 1) := by decide +kernel
theorem dL_law_594 : decode cL_law 594 = .ok (.iload_n 3, 1) := by decide +kernel
theorem dL_law_595 : decode cL_law 595 = .ok (.iconst 1, 1) := by decide +kernel
theorem dL_law_596 : decode cL_law 596 = .ok (.iadd, 1) := by decide +kernel
theorem dL_law_597 : decode cL_law 597 = .ok (.iaload, 1) := by decide +kernel
theorem dL_law_598 : decode cL_law 598 = .ok (.aload_n 0, 1) := by decide +kernel
theorem dL_law_599 : decode cL_law 599 = .ok (.iload_n 3, 1) := by decide +kernel
theorem dL_law_600 : decode cL_law 600 = .ok (.iconst 2, 1) := by decide +kernel
theorem dL_law_601 : decode cL_law 601 = .ok (.iadd, 1) := by decide +kernel
theorem dL_law_602 : decode cL_law 602 = .ok (.iaload, 1) := by decide +kernel
theorem dL_law_603 : decode cL_law 603 = .ok (.invokevirtual 69, 3) := by decide +kernel
theorem dL_law_606 : decode cL_law 606 = .ok (.if_icmp .eq 665, 3) := by decide +kernel
theorem dL_law_609 : decode cL_law 609 = .ok (.iconst 0, 1) := by decide +kernel
theorem dL_law_610 : decode cL_law 610 = .ok (.ireturn, 1) := by decide +kernel
theorem dL_law_611 : decode cL_law 611 = .ok (.aload_n 1, 1) := by decide +kernel
theorem dL_law_612 : decode cL_law 612 = .ok (.aload_n 0, 1) := by decide +kernel
theorem dL_law_613 : decode cL_law 613 = .ok (.iload_n 3, 1) := by decide +kernel
theorem dL_law_614 : decode cL_law 614 = .ok (.iconst 1, 1) := by decide +kernel
theorem dL_law_615 : decode cL_law 615 = .ok (.iadd, 1) := by decide +kernel
theorem dL_law_616 : decode cL_law 616 = .ok (.iaload, 1) := by decide +kernel
theorem dL_law_617 : decode cL_law 617 = .ok (.invokevirtual 70, 3) := by decide +kernel
theorem dL_law_620 : decode cL_law 620 = .ok (.aload_n 2, 1) := by decide +kernel
theorem dL_law_621 : decode cL_law 621 = .ok (.aload_n 0, 1) := by decide +kernel
theorem dL_law_622 : decode cL_law 622 = .ok (.iload_n 3, 1) := by decide +kernel
theorem dL_law_623 : decode cL_law 623 = .ok (.iconst 1, 1) := by decide +kernel
theorem dL_law_624 : decode cL_law 624 = .ok (.iadd, 1) := by decide +kernel
theorem dL_law_625 : decode cL_law 625 = .ok (.iaload, 1) := by decide +kernel
theorem dL_law_626 : decode cL_law 626 = .ok (.invokevirtual 73, 3) := by decide +kernel
theorem dL_law_629 : decode cL_law 629 = .ok (.if_icmp .eq 642, 3) := by decide +kernel
theorem dL_law_632 : decode cL_law 632 = .ok (.iconst 0, 1) := by decide +kernel
theorem dL_law_633 : decode cL_law 633 = .ok (.ireturn, 1) := by decide +kernel
theorem dL_law_634 : decode cL_law 634 = .ok (.aload_n 1, 1) := by decide +kernel
theorem dL_law_635 : decode cL_law 635 = .ok (.aload_n 0, 1) := by decide +kernel
theorem dL_law_636 : decode cL_law 636 = .ok (.iload_n 3, 1) := by decide +kernel
theorem dL_law_637 : decode cL_law 637 = .ok (.iconst 1, 1) := by decide +kernel
theorem dL_law_638 : decode cL_law 638 = .ok (.iadd, 1) := by decide +kernel
theorem dL_law_639 : decode cL_law 639 = .ok (.iaload, 1) := by decide +kernel
theorem dL_law_640 : decode cL_law 640 = .ok (.aload_n 0, 1) := by decide +kernel
theorem dL_law_641 : decode cL_law 641 = .ok (.iload_n 3, 1) := by decide +kernel
theorem dL_law_642 : decode cL_law 642 = .ok (.iconst 2, 1) := by decide +kernel
theorem dL_law_643 : decode cL_law 643 = .ok (.iadd, 1) := by decide +kernel
theorem dL_law_644 : decode cL_law 644 = .ok (.iaload, 1) := by decide +kernel
theorem dL_law_645 : decode cL_law 645 = .ok (.invokevirtual 74, 3) := by decide +kernel
theorem dL_law_648 : decode cL_law 648 = .ok (.aload_n 2, 1) := by decide +kernel
theorem dL_law_649 : decode cL_law 649 = .ok (.aload_n 0, 1) := by decide +kernel
theorem dL_law_650 : decode cL_law 650 = .ok (.iload_n 3, 1) := by decide +kernel
theorem dL_law_651 : decode cL_law 651 = .ok (.iconst 1, 1) := by decide +kernel
theorem dL_law_652 : decode cL_law 652 = .ok (.iadd, 1) := by decide +kernel
theorem dL_law_653 : decode cL_law 653 = .ok (.iaload, 1) := by decide +kernel
theorem dL_law_654 : decode cL_law 654 = .ok (.aload_n 0, 1) := by decide +kernel
theorem dL_law_655 : decode cL_law 655 = .ok (.iload_n 3, 1) := by decide +kernel
theorem dL_law_656 : decode cL_law 656 = .ok (.iconst 2, 1) := by decide +kernel
theorem dL_law_657 : decode cL_law 657 = .ok (.iadd, 1) := by decide +kernel
theorem dL_law_658 : decode cL_law 658 = .ok (.iaload, 1) := by decide +kernel
theorem dL_law_659 : decode cL_law 659 = .ok (.invokevirtual 77, 3) := by decide +kernel
theorem dL_law_662 : decode cL_law 662 = .ok (.if_icmp .eq 609, 3) := by decide +kernel
theorem dL_law_665 : decode cL_law 665 = .ok (.iconst 0, 1) := by decide +kernel
theorem dL_law_666 : decode cL_law 666 = .ok (.ireturn, 1) := by decide +kernel
theorem dL_law_667 : decode cL_law 667 = .ok (.aload_n 1, 1) := by decide +kernel
theorem dL_law_668 : decode cL_law 668 = .ok (.invokevirtual 78, 3) := by decide +kernel
theorem dL_law_671 : decode cL_law 671 = .ok (.aload_n 2, 1) := by decide +kernel
theorem dL_law_672 : decode cL_law 672 = .ok (.invokevirtual 81, 3) := by decide +kernel
theorem dL_law_675 : decode cL_law 675 = .ok (.if_icmp .eq 596, 3) := by decide +kernel
theorem dL_law_678 : decode cL_law 678 = .ok (.iconst 0, 1) := by decide +kernel
theorem dL_law_679 : decode cL_law 679 = .ok (.ireturn, 1) := by decide +kernel
theorem dL_law_680 : decode cL_law 680 = .ok (.aload_n 1, 1) := by decide +kernel
theorem dL_law_681 : decode cL_law 681 = .ok (.invokevirtual 82, 3) := by decide +kernel
theorem dL_law_684 : decode cL_law 684 = .ok (.aload_n 2, 1) := by decide +kernel
theorem dL_law_685 : decode cL_law 685 = .ok (.invokevirtual 85, 3) := by decide +kernel
theorem dL_law_688 : decode cL_law 688 = .ok (.if_icmp .eq 583, 3) := by decide +kernel
theorem dL_law_691 : decode cL_law 691 = .ok (.iconst 0, 1) := by decide +kernel
theorem dL_law_692 : decode cL_law 692 = .ok (.ireturn, 1) := by decide +kernel
theorem dL_law_693 : decode cL_law 693 = .ok (.aload_n 1, 1) := by decide +kernel
theorem dL_law_694 : decode cL_law 694 = .ok (.invokevirtual 86, 3) := by decide +kernel
theorem dL_law_697 : decode cL_law 697 = .ok (.aload_n 2, 1) := by decide +kernel
theorem dL_law_698 : decode cL_law 698 = .ok (.invokevirtual 89, 3) := by decide +kernel
theorem dL_law_701 : decode cL_law 701 = .ok (.if_icmp .eq 570, 3) := by decide +kernel
theorem dL_law_704 : decode cL_law 704 = .ok (.iconst 0, 1) := by decide +kernel
theorem dL_law_705 : decode cL_law 705 = .ok (.ireturn, 1) := by decide +kernel
theorem dL_law_706 : decode cL_law 706 = .ok (.aload_n 1, 1) := by decide +kernel
theorem dL_law_707 : decode cL_law 707 = .ok (.aload_n 0, 1) := by decide +kernel
theorem dL_law_708 : decode cL_law 708 = .ok (.iload_n 3, 1) := by decide +kernel
theorem dL_law_709 : decode cL_law 709 = .ok (.iconst 1, 1) := by decide +kernel
theorem dL_law_710 : decode cL_law 710 = .ok (.iadd, 1) := by decide +kernel
theorem dL_law_711 : decode cL_law 711 = .ok (.iaload, 1) := by decide +kernel
theorem dL_law_712 : decode cL_law 712 = .ok (.invokevirtual 90, 3) := by decide +kernel
theorem dL_law_715 : decode cL_law 715 = .ok (.aload_n 2, 1) := by decide +kernel
theorem dL_law_716 : decode cL_law 716 = .ok (.aload_n 0, 1) := by decide +kernel
theorem dL_law_717 : decode cL_law 717 = .ok (.iload_n 3, 1) := by decide +kernel
theorem dL_law_718 : decode cL_law 718 = .ok (.iconst 1, 1) := by decide +kernel
theorem dL_law_719 : decode cL_law 719 = .ok (.iadd, 1) := by decide +kernel
theorem dL_law_720 : decode cL_law 720 = .ok (.iaload, 1) := by decide +kernel
theorem dL_law_721 : decode cL_law 721 = .ok (.invokevirtual 93, 3) := by decide +kernel
theorem dL_law_724 : decode cL_law 724 = .ok (.if_icmp .eq 547, 3) := by decide +kernel
theorem dL_law_727 : decode cL_law 727 = .ok (.iconst 0, 1) := by decide +kernel
theorem dL_law_728 : decode cL_law 728 = .ok (.ireturn, 1) := by decide +kernel
theorem dL_law_729 : decode cL_law 729 = .ok (.aload_n 1, 1) := by decide +kernel
theorem dL_law_730 : decode cL_law 730 = .ok (.aload_n 0, 1) := by decide +kernel
theorem dL_law_731 : decode cL_law 731 = .ok (.iload_n 3, 1) := by decide +kernel
theorem dL_law_732 : decode cL_law 732 = .ok (.iconst 1, 1) := by decide +kernel
theorem dL_law_733 : decode cL_law 733 = .ok (.iadd, 1) := by decide +kernel
theorem dL_law_734 : decode cL_law 734 = .ok (.iaload, 1) := by decide +kernel
theorem dL_law_735 : decode cL_law 735 = .ok (.aload_n 0, 1) := by decide +kernel
theorem dL_law_736 : decode cL_law 736 = .ok (.iload_n 3, 1) := by decide +kernel
theorem dL_law_737 : decode cL_law 737 = .ok (.iconst 2, 1) := by decide +kernel
theorem dL_law_738 : decode cL_law 738 = .ok (.iadd, 1) := by decide +kernel
theorem dL_law_739 : decode cL_law 739 = .ok (.iaload, 1) := by decide +kernel
theorem dL_law_740 : decode cL_law 740 = .ok (.invokevirtual 94, 3) := by decide +kernel
theorem dL_law_743 : decode cL_law 743 = .ok (.aload_n 2, 1) := by decide +kernel
theorem dL_law_744 : decode cL_law 744 = .ok (.aload_n 0, 1) := by decide +kernel
theorem dL_law_745 : decode cL_law 745 = .ok (.iload_n 3, 1) := by decide +kernel
theorem dL_law_746 : decode cL_law 746 = .ok (.iconst 1, 1) := by decide +kernel
theorem dL_law_747 : decode cL_law 747 = .ok (.iadd, 1) := by decide +kernel
theorem dL_law_748 : decode cL_law 748 = .ok (.iaload, 1) := by decide +kernel
theorem dL_law_749 : decode cL_law 749 = .ok (.aload_n 0, 1) := by decide +kernel
theorem dL_law_750 : decode cL_law 750 = .ok (.iload_n 3, 1) := by decide +kernel
theorem dL_law_751 : decode cL_law 751 = .ok (.iconst 2, 1) := by decide +kernel
theorem dL_law_752 : decode cL_law 752 = .ok (.iadd, 1) := by decide +kernel
theorem dL_law_753 : decode cL_law 753 = .ok (.iaload, 1) := by decide +kernel
theorem dL_law_754 : decode cL_law 754 = .ok (.invokevirtual 97, 3) := by decide +kernel
theorem dL_law_757 : decode cL_law 757 = .ok (.if_icmp .eq 514, 3) := by decide +kernel
theorem dL_law_760 : decode cL_law 760 = .ok (.iconst 0, 1) := by decide +kernel
theorem dL_law_761 : decode cL_law 761 = .ok (.ireturn, 1) := by decide +kernel
theorem dL_law_762 : decode cL_law 762 = .ok (.aload_n 1, 1) := by decide +kernel
theorem dL_law_763 : decode cL_law 763 = .ok (.aload_n 0, 1) := by decide +kernel
theorem dL_law_764 : decode cL_law 764 = .ok (.iload_n 3, 1) := by decide +kernel
theorem dL_law_765 : decode cL_law 765 = .ok (.iconst 1, 1) := by decide +kernel
theorem dL_law_766 : decode cL_law 766 = .ok (.iadd, 1) := by decide +kernel
theorem dL_law_767 : decode cL_law 767 = .ok (.iaload, 1) := by decide +kernel
theorem dL_law_768 : decode cL_law 768 = .ok (.aload_n 0, 1) := by decide +kernel
theorem dL_law_769 : decode cL_law 769 = .ok (.iload_n 3, 1) := by decide +kernel
theorem dL_law_770 : decode cL_law 770 = .ok (.iconst 2, 1) := by decide +kernel
theorem dL_law_771 : decode cL_law 771 = .ok (.iadd, 1) := by decide +kernel
theorem dL_law_772 : decode cL_law 772 = .ok (.iaload, 1) := by decide +kernel
theorem dL_law_773 : decode cL_law 773 = .ok (.invokevirtual 98, 3) := by decide +kernel
theorem dL_law_776 : decode cL_law 776 = .ok (.aload_n 2, 1) := by decide +kernel
theorem dL_law_777 : decode cL_law 777 = .ok (.aload_n 0, 1) := by decide +kernel
theorem dL_law_778 : decode cL_law 778 = .ok (.iload_n 3, 1) := by decide +kernel
theorem dL_law_779 : decode cL_law 779 = .ok (.iconst 1, 1) := by decide +kernel
theorem dL_law_780 : decode cL_law 780 = .ok (.iadd, 1) := by decide +kernel
theorem dL_law_781 : decode cL_law 781 = .ok (.iaload, 1) := by decide +kernel
theorem dL_law_782 : decode cL_law 782 = .ok (.aload_n 0, 1) := by decide +kernel
theorem dL_law_783 : decode cL_law 783 = .ok (.iload_n 3, 1) := by decide +kernel
theorem dL_law_784 : decode cL_law 784 = .ok (.iconst 2, 1) := by decide +kernel
theorem dL_law_785 : decode cL_law 785 = .ok (.iadd, 1) := by decide +kernel
theorem dL_law_786 : decode cL_law 786 = .ok (.iaload, 1) := by decide +kernel
theorem dL_law_787 : decode cL_law 787 = .ok (.invokevirtual 101, 3) := by decide +kernel
theorem dL_law_790 : decode cL_law 790 = .ok (.if_icmp .eq 481, 3) := by decide +kernel
theorem dL_law_793 : decode cL_law 793 = .ok (.iconst 0, 1) := by decide +kernel
theorem dL_law_794 : decode cL_law 794 = .ok (.ireturn, 1) := by decide +kernel
theorem dL_law_795 : decode cL_law 795 = .ok (.aload_n 1, 1) := by decide +kernel
theorem dL_law_796 : decode cL_law 796 = .ok (.aload_n 0, 1) := by decide +kernel
theorem dL_law_797 : decode cL_law 797 = .ok (.iload_n 3, 1) := by decide +kernel
theorem dL_law_798 : decode cL_law 798 = .ok (.iconst 1, 1) := by decide +kernel
theorem dL_law_799 : decode cL_law 799 = .ok (.iadd, 1) := by decide +kernel
theorem dL_law_800 : decode cL_law 800 = .ok (.iaload, 1) := by decide +kernel
theorem dL_law_801 : decode cL_law 801 = .ok (.aload_n 0, 1) := by decide +kernel
theorem dL_law_802 : decode cL_law 802 = .ok (.iload_n 3, 1) := by decide +kernel
theorem dL_law_803 : decode cL_law 803 = .ok (.iconst 2, 1) := by decide +kernel
theorem dL_law_804 : decode cL_law 804 = .ok (.iadd, 1) := by decide +kernel
theorem dL_law_805 : decode cL_law 805 = .ok (.iaload, 1) := by decide +kernel
theorem dL_law_806 : decode cL_law 806 = .ok (.aload_n 0, 1) := by decide +kernel
theorem dL_law_807 : decode cL_law 807 = .ok (.iload_n 3, 1) := by decide +kernel
theorem dL_law_808 : decode cL_law 808 = .ok (.iconst 3, 1) := by decide +kernel
theorem dL_law_809 : decode cL_law 809 = .ok (.iadd, 1) := by decide +kernel
theorem dL_law_810 : decode cL_law 810 = .ok (.iaload, 1) := by decide +kernel
theorem dL_law_811 : decode cL_law 811 = .ok (.invokevirtual 102, 3) := by decide +kernel
theorem dL_law_814 : decode cL_law 814 = .ok (.aload_n 2, 1) := by decide +kernel
theorem dL_law_815 : decode cL_law 815 = .ok (.aload_n 0, 1) := by decide +kernel
theorem dL_law_816 : decode cL_law 816 = .ok (.iload_n 3, 1) := by decide +kernel
theorem dL_law_817 : decode cL_law 817 = .ok (.iconst 1, 1) := by decide +kernel
theorem dL_law_818 : decode cL_law 818 = .ok (.iadd, 1) := by decide +kernel
theorem dL_law_819 : decode cL_law 819 = .ok (.iaload, 1) := by decide +kernel
theorem dL_law_820 : decode cL_law 820 = .ok (.aload_n 0, 1) := by decide +kernel
theorem dL_law_821 : decode cL_law 821 = .ok (.iload_n 3, 1) := by decide +kernel
theorem dL_law_822 : decode cL_law 822 = .ok (.iconst 2, 1) := by decide +kernel
theorem dL_law_823 : decode cL_law 823 = .ok (.iadd, 1) := by decide +kernel
theorem dL_law_824 : decode cL_law 824 = .ok (.iaload, 1) := by decide +kernel
theorem dL_law_825 : decode cL_law 825 = .ok (.aload_n 0, 1) := by decide +kernel
theorem dL_law_826 : decode cL_law 826 = .ok (.iload_n 3, 1) := by decide +kernel
theorem dL_law_827 : decode cL_law 827 = .ok (.iconst 3, 1) := by decide +kernel
theorem dL_law_828 : decode cL_law 828 = .ok (.iadd, 1) := by decide +kernel
theorem dL_law_829 : decode cL_law 829 = .ok (.iaload, 1) := by decide +kernel
theorem dL_law_830 : decode cL_law 830 = .ok (.invokevirtual 105, 3) := by decide +kernel
theorem dL_law_833 : decode cL_law 833 = .ok (.if_icmp .eq 438, 3) := by decide +kernel
theorem dL_law_836 : decode cL_law 836 = .ok (.iconst 0, 1) := by decide +kernel
theorem dL_law_837 : decode cL_law 837 = .ok (.ireturn, 1) := by decide +kernel
theorem dL_law_838 : decode cL_law 838 = .ok (.aload_n 1, 1) := by decide +kernel
theorem dL_law_839 : decode cL_law 839 = .ok (.aload_n 0, 1) := by decide +kernel
theorem dL_law_840 : decode cL_law 840 = .ok (.iload_n 3, 1) := by decide +kernel
theorem dL_law_841 : decode cL_law 841 = .ok (.iconst 1, 1) := by decide +kernel
theorem dL_law_842 : decode cL_law 842 = .ok (.iadd, 1) := by decide +kernel
theorem dL_law_843 : decode cL_law 843 = .ok (.iaload, 1) := by decide +kernel
theorem dL_law_844 : decode cL_law 844 = .ok (.aload_n 0, 1) := by decide +kernel
theorem dL_law_845 : decode cL_law 845 = .ok (.iload_n 3, 1) := by decide +kernel
theorem dL_law_846 : decode cL_law 846 = .ok (.iconst 2, 1) := by decide +kernel
theorem dL_law_847 : decode cL_law 847 = .ok (.iadd, 1) := by decide +kernel
theorem dL_law_848 : decode cL_law 848 = .ok (.iaload, 1) := by decide +kernel
theorem dL_law_849 : decode cL_law 849 = .ok (.aload_n 0, 1) := by decide +kernel
theorem dL_law_850 : decode cL_law 850 = .ok (.iload_n 3, 1) := by decide +kernel
theorem dL_law_851 : decode cL_law 851 = .ok (.iconst 3, 1) := by decide +kernel
theorem dL_law_852 : decode cL_law 852 = .ok (.iadd, 1) := by decide +kernel
theorem dL_law_853 : decode cL_law 853 = .ok (.iaload, 1) := by decide +kernel
theorem dL_law_854 : decode cL_law 854 = .ok (.invokevirtual 106, 3) := by decide +kernel
theorem dL_law_857 : decode cL_law 857 = .ok (.aload_n 2, 1) := by decide +kernel
theorem dL_law_858 : decode cL_law 858 = .ok (.aload_n 0, 1) := by decide +kernel
theorem dL_law_859 : decode cL_law 859 = .ok (.iload_n 3, 1) := by decide +kernel
theorem dL_law_860 : decode cL_law 860 = .ok (.iconst 1, 1) := by decide +kernel
theorem dL_law_861 : decode cL_law 861 = .ok (.iadd, 1) := by decide +kernel
theorem dL_law_862 : decode cL_law 862 = .ok (.iaload, 1) := by decide +kernel
theorem dL_law_863 : decode cL_law 863 = .ok (.aload_n 0, 1) := by decide +kernel
theorem dL_law_864 : decode cL_law 864 = .ok (.iload_n 3, 1) := by decide +kernel
theorem dL_law_865 : decode cL_law 865 = .ok (.iconst 2, 1) := by decide +kernel
theorem dL_law_866 : decode cL_law 866 = .ok (.iadd, 1) := by decide +kernel
theorem dL_law_867 : decode cL_law 867 = .ok (.iaload, 1) := by decide +kernel
theorem dL_law_868 : decode cL_law 868 = .ok (.aload_n 0, 1) := by decide +kernel
theorem dL_law_869 : decode cL_law 869 = .ok (.iload_n 3, 1) := by decide +kernel
theorem dL_law_870 : decode cL_law 870 = .ok (.iconst 3, 1) := by decide +kernel
theorem dL_law_871 : decode cL_law 871 = .ok (.iadd, 1) := by decide +kernel
theorem dL_law_872 : decode cL_law 872 = .ok (.iaload, 1) := by decide +kernel
theorem dL_law_873 : decode cL_law 873 = .ok (.invokevirtual 109, 3) := by decide +kernel
theorem dL_law_876 : decode cL_law 876 = .ok (.if_icmp .eq 395, 3) := by decide +kernel
theorem dL_law_879 : decode cL_law 879 = .ok (.iconst 0, 1) := by decide +kernel
theorem dL_law_880 : decode cL_law 880 = .ok (.ireturn, 1) := by decide +kernel
theorem dL_law_881 : decode cL_law 881 = .ok (.aload_n 1, 1) := by decide +kernel
theorem dL_law_882 : decode cL_law 882 = .ok (.aload_n 0, 1) := by decide +kernel
theorem dL_law_883 : decode cL_law 883 = .ok (.iload_n 3, 1) := by decide +kernel
theorem dL_law_884 : decode cL_law 884 = .ok (.iconst 1, 1) := by decide +kernel
theorem dL_law_885 : decode cL_law 885 = .ok (.iadd, 1) := by decide +kernel
theorem dL_law_886 : decode cL_law 886 = .ok (.iaload, 1) := by decide +kernel
theorem dL_law_887 : decode cL_law 887 = .ok (.aload_n 0, 1) := by decide +kernel
theorem dL_law_888 : decode cL_law 888 = .ok (.iload_n 3, 1) := by decide +kernel
theorem dL_law_889 : decode cL_law 889 = .ok (.iconst 2, 1) := by decide +kernel
theorem dL_law_890 : decode cL_law 890 = .ok (.iadd, 1) := by decide +kernel
theorem dL_law_891 : decode cL_law 891 = .ok (.iaload, 1) := by decide +kernel
theorem dL_law_892 : decode cL_law 892 = .ok (.invokevirtual 110, 3) := by decide +kernel
theorem dL_law_895 : decode cL_law 895 = .ok (.aload_n 2, 1) := by decide +kernel
theorem dL_law_896 : decode cL_law 896 = .ok (.aload_n 0, 1) := by decide +kernel
theorem dL_law_897 : decode cL_law 897 = .ok (.iload_n 3, 1) := by decide +kernel
theorem dL_law_898 : decode cL_law 898 = .ok (.iconst 1, 1) := by decide +kernel
theorem dL_law_899 : decode cL_law 899 = .ok (.iadd, 1) := by decide +kernel
theorem dL_law_900 : decode cL_law 900 = .ok (.iaload, 1) := by decide +kernel
theorem dL_law_901 : decode cL_law 901 = .ok (.aload_n 0, 1) := by decide +kernel
theorem dL_law_902 : decode cL_law 902 = .ok (.iload_n 3, 1) := by decide +kernel
theorem dL_law_903 : decode cL_law 903 = .ok (.iconst 2, 1) := by decide +kernel
theorem dL_law_904 : decode cL_law 904 = .ok (.iadd, 1) := by decide +kernel
theorem dL_law_905 : decode cL_law 905 = .ok (.iaload, 1) := by decide +kernel
theorem dL_law_906 : decode cL_law 906 = .ok (.invokevirtual 113, 3) := by decide +kernel
theorem dL_law_909 : decode cL_law 909 = .ok (.if_icmp .eq 362, 3) := by decide +kernel
theorem dL_law_912 : decode cL_law 912 = .ok (.iconst 0, 1) := by decide +kernel
theorem dL_law_913 : decode cL_law 913 = .ok (.ireturn, 1) := by decide +kernel
theorem dL_law_914 : decode cL_law 914 = .ok (.aload_n 1, 1) := by decide +kernel
theorem dL_law_915 : decode cL_law 915 = .ok (.aload_n 0, 1) := by decide +kernel
theorem dL_law_916 : decode cL_law 916 = .ok (.iload_n 3, 1) := by decide +kernel
theorem dL_law_917 : decode cL_law 917 = .ok (.iconst 1, 1) := by decide +kernel
theorem dL_law_918 : decode cL_law 918 = .ok (.iadd, 1) := by decide +kernel
theorem dL_law_919 : decode cL_law 919 = .ok (.iaload, 1) := by decide +kernel
theorem dL_law_920 : decode cL_law 920 = .ok (.aload_n 0, 1) := by decide +kernel
theorem dL_law_921 : decode cL_law 921 = .ok (.iload_n 3, 1) := by decide +kernel
theorem dL_law_922 : decode cL_law 922 = .ok (.iconst 2, 1) := by decide +kernel
theorem dL_law_923 : decode cL_law 923 = .ok (.iadd, 1) := by decide +kernel
theorem dL_law_924 : decode cL_law 924 = .ok (.iaload, 1) := by decide +kernel
theorem dL_law_925 : decode cL_law 925 = .ok (.invokevirtual 114, 3) := by decide +kernel
theorem dL_law_928 : decode cL_law 928 = .ok (.aload_n 2, 1) := by decide +kernel
theorem dL_law_929 : decode cL_law 929 = .ok (.aload_n 0, 1) := by decide +kernel
theorem dL_law_930 : decode cL_law 930 = .ok (.iload_n 3, 1) := by decide +kernel
theorem dL_law_931 : decode cL_law 931 = .ok (.iconst 1, 1) := by decide +kernel
theorem dL_law_932 : decode cL_law 932 = .ok (.iadd, 1) := by decide +kernel
theorem dL_law_933 : decode cL_law 933 = .ok (.iaload, 1) := by decide +kernel
theorem dL_law_934 : decode cL_law 934 = .ok (.aload_n 0, 1) := by decide +kernel
theorem dL_law_935 : decode cL_law 935 = .ok (.iload_n 3, 1) := by decide +kernel
theorem dL_law_936 : decode cL_law 936 = .ok (.iconst 2, 1) := by decide +kernel
theorem dL_law_937 : decode cL_law 937 = .ok (.iadd, 1) := by decide +kernel
theorem dL_law_938 : decode cL_law 938 = .ok (.iaload, 1) := by decide +kernel
theorem dL_law_939 : decode cL_law 939 = .ok (.invokevirtual 117, 3) := by decide +kernel
theorem dL_law_942 : decode cL_law 942 = .ok (.if_icmp .eq 329, 3) := by decide +kernel
theorem dL_law_945 : decode cL_law 945 = .ok (.iconst 0, 1) := by decide +kernel
theorem dL_law_946 : decode cL_law 946 = .ok (.ireturn, 1) := by decide +kernel
theorem dL_law_947 : decode cL_law 947 = .ok (.aload_n 1, 1) := by decide +kernel
theorem dL_law_948 : decode cL_law 948 = .ok (.aload_n 0, 1) := by decide +kernel
theorem dL_law_949 : decode cL_law 949 = .ok (.iload_n 3, 1) := by decide +kernel
theorem dL_law_950 : decode cL_law 950 = .ok (.iconst 1, 1) := by decide +kernel
theorem dL_law_951 : decode cL_law 951 = .ok (.iadd, 1) := by decide +kernel
theorem dL_law_952 : decode cL_law 952 = .ok (.iaload, 1) := by decide +kernel
theorem dL_law_953 : decode cL_law 953 = .ok (.aload_n 0, 1) := by decide +kernel
theorem dL_law_954 : decode cL_law 954 = .ok (.iload_n 3, 1) := by decide +kernel
theorem dL_law_955 : decode cL_law 955 = .ok (.iconst 2, 1) := by decide +kernel
theorem dL_law_956 : decode cL_law 956 = .ok (.iadd, 1) := by decide +kernel
theorem dL_law_957 : decode cL_law 957 = .ok (.iaload, 1) := by decide +kernel
theorem dL_law_958 : decode cL_law 958 = .ok (.invokevirtual 118, 3) := by decide +kernel
theorem dL_law_961 : decode cL_law 961 = .ok (.aload_n 2, 1) := by decide +kernel
theorem dL_law_962 : decode cL_law 962 = .ok (.aload_n 0, 1) := by decide +kernel
theorem dL_law_963 : decode cL_law 963 = .ok (.iload_n 3, 1) := by decide +kernel
theorem dL_law_964 : decode cL_law 964 = .ok (.iconst 1, 1) := by decide +kernel
theorem dL_law_965 : decode cL_law 965 = .ok (.iadd, 1) := by decide +kernel
theorem dL_law_966 : decode cL_law 966 = .ok (.iaload, 1) := by decide +kernel
theorem dL_law_967 : decode cL_law 967 = .ok (.aload_n 0, 1) := by decide +kernel
theorem dL_law_968 : decode cL_law 968 = .ok (.iload_n 3, 1) := by decide +kernel
theorem dL_law_969 : decode cL_law 969 = .ok (.iconst 2, 1) := by decide +kernel
theorem dL_law_970 : decode cL_law 970 = .ok (.iadd, 1) := by decide +kernel
theorem dL_law_971 : decode cL_law 971 = .ok (.iaload, 1) := by decide +kernel
theorem dL_law_972 : decode cL_law 972 = .ok (.invokevirtual 121, 3) := by decide +kernel
theorem dL_law_975 : decode cL_law 975 = .ok (.if_icmp .eq 296, 3) := by decide +kernel
theorem dL_law_978 : decode cL_law 978 = .ok (.iconst 0, 1) := by decide +kernel
theorem dL_law_979 : decode cL_law 979 = .ok (.ireturn, 1) := by decide +kernel
theorem dL_law_980 : decode cL_law 980 = .ok (.aload_n 1, 1) := by decide +kernel
theorem dL_law_981 : decode cL_law 981 = .ok (.aload_n 0, 1) := by decide +kernel
theorem dL_law_982 : decode cL_law 982 = .ok (.iload_n 3, 1) := by decide +kernel
theorem dL_law_983 : decode cL_law 983 = .ok (.iconst 1, 1) := by decide +kernel
theorem dL_law_984 : decode cL_law 984 = .ok (.iadd, 1) := by decide +kernel
theorem dL_law_985 : decode cL_law 985 = .ok (.iaload, 1) := by decide +kernel
theorem dL_law_986 : decode cL_law 986 = .ok (.invokevirtual 122, 3) := by decide +kernel
theorem dL_law_989 : decode cL_law 989 = .ok (.aload_n 2, 1) := by decide +kernel
theorem dL_law_990 : decode cL_law 990 = .ok (.aload_n 0, 1) := by decide +kernel
theorem dL_law_991 : decode cL_law 991 = .ok (.iload_n 3, 1) := by decide +kernel
theorem dL_law_992 : decode cL_law 992 = .ok (.iconst 1, 1) := by decide +kernel
theorem dL_law_993 : decode cL_law 993 = .ok (.iadd, 1) := by decide +kernel
theorem dL_law_994 : decode cL_law 994 = .ok (.iaload, 1) := by decide +kernel
theorem dL_law_995 : decode cL_law 995 = .ok (.invokevirtual 125, 3) := by decide +kernel
theorem dL_law_998 : decode cL_law 998 = .ok (.if_icmp .eq 273, 3) := by decide +kernel
theorem dL_law_1001 : decode cL_law 1001 = .ok (.iconst 0, 1) := by decide +kernel
theorem dL_law_1002 : decode cL_law 1002 = .ok (.ireturn, 1) := by decide +kernel
theorem dL_law_1003 : decode cL_law 1003 = .ok (.aload_n 1, 1) := by decide +kernel
theorem dL_law_1004 : decode cL_law 1004 = .ok (.aload_n 0, 1) := by decide +kernel
theorem dL_law_1005 : decode cL_law 1005 = .ok (.iload_n 3, 1) := by decide +kernel
theorem dL_law_1006 : decode cL_law 1006 = .ok (.iconst 1, 1) := by decide +kernel
theorem dL_law_1007 : decode cL_law 1007 = .ok (.iadd, 1) := by decide +kernel
theorem dL_law_1008 : decode cL_law 1008 = .ok (.iaload, 1) := by decide +kernel
theorem dL_law_1009 : decode cL_law 1009 = .ok (.aload_n 0, 1) := by decide +kernel
theorem dL_law_1010 : decode cL_law 1010 = .ok (.iload_n 3, 1) := by decide +kernel
theorem dL_law_1011 : decode cL_law 1011 = .ok (.iconst 2, 1) := by decide +kernel
theorem dL_law_1012 : decode cL_law 1012 = .ok (.iadd, 1) := by decide +kernel
theorem dL_law_1013 : decode cL_law 1013 = .ok (.iaload, 1) := by decide +kernel
theorem dL_law_1014 : decode cL_law 1014 = .ok (.invokevirtual 126, 3) := by decide +kernel
theorem dL_law_1017 : decode cL_law 1017 = .ok (.aload_n 2, 1) := by decide +kernel
theorem dL_law_1018 : decode cL_law 1018 = .ok (.aload_n 0, 1) := by decide +kernel
theorem dL_law_1019 : decode cL_law 1019 = .ok (.iload_n 3, 1) := by decide +kernel
theorem dL_law_1020 : decode cL_law 1020 = .ok (.iconst 1, 1) := by decide +kernel
theorem dL_law_1021 : decode cL_law 1021 = .ok (.iadd, 1) := by decide +kernel
theorem dL_law_1022 : decode cL_law 1022 = .ok (.iaload, 1) := by decide +kernel
theorem dL_law_1023 : decode cL_law 1023 = .ok (.aload_n 0, 1) := by decide +kernel
theorem dL_law_1024 : decode cL_law 1024 = .ok (.iload_n 3, 1) := by decide +kernel
theorem dL_law_1025 : decode cL_law 1025 = .ok (.iconst 2, 1) := by decide +kernel
theorem dL_law_1026 : decode cL_law 1026 = .ok (.iadd, 1) := by decide +kernel
theorem dL_law_1027 : decode cL_law 1027 = .ok (.iaload, 1) := by decide +kernel
theorem dL_law_1028 : decode cL_law 1028 = .ok (.invokevirtual 129, 3) := by decide +kernel
theorem dL_law_1031 : decode cL_law 1031 = .ok (.if_icmp .eq 240, 3) := by decide +kernel
theorem dL_law_1034 : decode cL_law 1034 = .ok (.iconst 0, 1) := by decide +kernel
theorem dL_law_1035 : decode cL_law 1035 = .ok (.ireturn, 1) := by decide +kernel
theorem dL_law_1036 : decode cL_law 1036 = .ok (.aload_n 1, 1) := by decide +kernel
theorem dL_law_1037 : decode cL_law 1037 = .ok (.aload_n 0, 1) := by decide +kernel
theorem dL_law_1038 : decode cL_law 1038 = .ok (.iload_n 3, 1) := by decide +kernel
theorem dL_law_1039 : decode cL_law 1039 = .ok (.iconst 1, 1) := by decide +kernel
theorem dL_law_1040 : decode cL_law 1040 = .ok (.iadd, 1) := by decide +kernel
theorem dL_law_1041 : decode cL_law 1041 = .ok (.iaload, 1) := by decide +kernel
theorem dL_law_1042 : decode cL_law 1042 = .ok (.invokevirtual 130, 3) := by decide +kernel
theorem dL_law_1045 : decode cL_law 1045 = .ok (.aload_n 2, 1) := by decide +kernel
theorem dL_law_1046 : decode cL_law 1046 = .ok (.aload_n 0, 1) := by decide +kernel
theorem dL_law_1047 : decode cL_law 1047 = .ok (.iload_n 3, 1) := by decide +kernel
theorem dL_law_1048 : decode cL_law 1048 = .ok (.iconst 1, 1) := by decide +kernel
theorem dL_law_1049 : decode cL_law 1049 = .ok (.iadd, 1) := by decide +kernel
theorem dL_law_1050 : decode cL_law 1050 = .ok (.iaload, 1) := by decide +kernel
theorem dL_law_1051 : decode cL_law 1051 = .ok (.invokevirtual 133, 3) := by decide +kernel
theorem dL_law_1054 : decode cL_law 1054 = .ok (.if_icmp .eq 217, 3) := by decide +kernel
theorem dL_law_1057 : decode cL_law 1057 = .ok (.iconst 0, 1) := by decide +kernel
theorem dL_law_1058 : decode cL_law 1058 = .ok (.ireturn, 1) := by decide +kernel
theorem dL_law_1059 : decode cL_law 1059 = .ok (.aload_n 1, 1) := by decide +kernel
theorem dL_law_1060 : decode cL_law 1060 = .ok (.aload_n 0, 1) := by decide +kernel
theorem dL_law_1061 : decode cL_law 1061 = .ok (.iload_n 3, 1) := by decide +kernel
theorem dL_law_1062 : decode cL_law 1062 = .ok (.iconst 1, 1) := by decide +kernel
theorem dL_law_1063 : decode cL_law 1063 = .ok (.iadd, 1) := by decide +kernel
theorem dL_law_1064 : decode cL_law 1064 = .ok (.iaload, 1) := by decide +kernel
theorem dL_law_1065 : decode cL_law 1065 = .ok (.aload_n 0, 1) := by decide +kernel
theorem dL_law_1066 : decode cL_law 1066 = .ok (.iload_n 3, 1) := by decide +kernel
theorem dL_law_1067 : decode cL_law 1067 = .ok (.iconst 2, 1) := by decide +kernel
theorem dL_law_1068 : decode cL_law 1068 = .ok (.iadd, 1) := by decide +kernel
theorem dL_law_1069 : decode cL_law 1069 = .ok (.iaload, 1) := by decide +kernel
theorem dL_law_1070 : decode cL_law 1070 = .ok (.aload_n 0, 1) := by decide +kernel
theorem dL_law_1071 : decode cL_law 1071 = .ok (.iload_n 3, 1) := by decide +kernel
theorem dL_law_1072 : decode cL_law 1072 = .ok (.iconst 3, 1) := by decide +kernel
theorem dL_law_1073 : decode cL_law 1073 = .ok (.iadd, 1) := by decide +kernel
theorem dL_law_1074 : decode cL_law 1074 = .ok (.iaload, 1) := by decide +kernel
theorem dL_law_1075 : decode cL_law 1075 = .ok (.invokevirtual 134, 3) := by decide +kernel
theorem dL_law_1078 : decode cL_law 1078 = .ok (.aload_n 2, 1) := by decide +kernel
theorem dL_law_1079 : decode cL_law 1079 = .ok (.aload_n 0, 1) := by decide +kernel
theorem dL_law_1080 : decode cL_law 1080 = .ok (.iload_n 3, 1) := by decide +kernel
theorem dL_law_1081 : decode cL_law 1081 = .ok (.iconst 1, 1) := by decide +kernel
theorem dL_law_1082 : decode cL_law 1082 = .ok (.iadd, 1) := by decide +kernel
theorem dL_law_1083 : decode cL_law 1083 = .ok (.iaload, 1) := by decide +kernel
theorem dL_law_1084 : decode cL_law 1084 = .ok (.aload_n 0, 1) := by decide +kernel
theorem dL_law_1085 : decode cL_law 1085 = .ok (.iload_n 3, 1) := by decide +kernel
theorem dL_law_1086 : decode cL_law 1086 = .ok (.iconst 2, 1) := by decide +kernel
theorem dL_law_1087 : decode cL_law 1087 = .ok (.iadd, 1) := by decide +kernel
theorem dL_law_1088 : decode cL_law 1088 = .ok (.iaload, 1) := by decide +kernel
theorem dL_law_1089 : decode cL_law 1089 = .ok (.aload_n 0, 1) := by decide +kernel
theorem dL_law_1090 : decode cL_law 1090 = .ok (.iload_n 3, 1) := by decide +kernel
theorem dL_law_1091 : decode cL_law 1091 = .ok (.iconst 3, 1) := by decide +kernel
theorem dL_law_1092 : decode cL_law 1092 = .ok (.iadd, 1) := by decide +kernel
theorem dL_law_1093 : decode cL_law 1093 = .ok (.iaload, 1) := by decide +kernel
theorem dL_law_1094 : decode cL_law 1094 = .ok (.invokevirtual 137, 3) := by decide +kernel
theorem dL_law_1097 : decode cL_law 1097 = .ok (.if_icmp .eq 174, 3) := by decide +kernel
theorem dL_law_1100 : decode cL_law 1100 = .ok (.iconst 0, 1) := by decide +kernel
theorem dL_law_1101 : decode cL_law 1101 = .ok (.ireturn, 1) := by decide +kernel
theorem dL_law_1102 : decode cL_law 1102 = .ok (.aload_n 1, 1) := by decide +kernel
theorem dL_law_1103 : decode cL_law 1103 = .ok (.aload_n 0, 1) := by decide +kernel
theorem dL_law_1104 : decode cL_law 1104 = .ok (.iload_n 3, 1) := by decide +kernel
theorem dL_law_1105 : decode cL_law 1105 = .ok (.iconst 1, 1) := by decide +kernel
theorem dL_law_1106 : decode cL_law 1106 = .ok (.iadd, 1) := by decide +kernel
theorem dL_law_1107 : decode cL_law 1107 = .ok (.iaload, 1) := by decide +kernel
theorem dL_law_1108 : decode cL_law 1108 = .ok (.aload_n 0, 1) := by decide +kernel
theorem dL_law_1109 : decode cL_law 1109 = .ok (.iload_n 3, 1) := by decide +kernel
theorem dL_law_1110 : decode cL_law 1110 = .ok (.iconst 2, 1) := by decide +kernel
theorem dL_law_1111 : decode cL_law 1111 = .ok (.iadd, 1) := by decide +kernel
theorem dL_law_1112 : decode cL_law 1112 = .ok (.iaload, 1) := by decide +kernel
theorem dL_law_1113 : decode cL_law 1113 = .ok (.invokevirtual 138, 3) := by decide +kernel
theorem dL_law_1116 : decode cL_law 1116 = .ok (.aload_n 2, 1) := by decide +kernel
theorem dL_law_1117 : decode cL_law 1117 = .ok (.aload_n 0, 1) := by decide +kernel
theorem dL_law_1118 : decode cL_law 1118 = .ok (.iload_n 3, 1) := by decide +kernel
theorem dL_law_1119 : decode cL_law 1119 = .ok (.iconst 1, 1) := by decide +kernel
theorem dL_law_1120 : decode cL_law 1120 = .ok (.iadd, 1) := by decide +kernel
theorem dL_law_1121 : decode cL_law 1121 = .ok (.iaload, 1) := by decide +kernel
theorem dL_law_1122 : decode cL_law 1122 = .ok (.aload_n 0, 1) := by decide +kernel
theorem dL_law_1123 : decode cL_law 1123 = .ok (.iload_n 3, 1) := by decide +kernel
theorem dL_law_1124 : decode cL_law 1124 = .ok (.iconst 2, 1) := by decide +kernel
theorem dL_law_1125 : decode cL_law 1125 = .ok (.iadd, 1) := by decide +kernel
theorem dL_law_1126 : decode cL_law 1126 = .ok (.iaload, 1) := by decide +kernel
theorem dL_law_1127 : decode cL_law 1127 = .ok (.invokevirtual 142, 3) := by decide +kernel
theorem dL_law_1130 : decode cL_law 1130 = .ok (.lcmp, 1) := by decide +kernel
theorem dL_law_1131 : decode cL_law 1131 = .ok (.ifCond .eq 140, 3) := by decide +kernel
theorem dL_law_1134 : decode cL_law 1134 = .ok (.iconst 0, 1) := by decide +kernel
theorem dL_law_1135 : decode cL_law 1135 = .ok (.ireturn, 1) := by decide +kernel
theorem dL_law_1136 : decode cL_law 1136 = .ok (.aload_n 1, 1) := by decide +kernel
theorem dL_law_1137 : decode cL_law 1137 = .ok (.aload_n 0, 1) := by decide +kernel
theorem dL_law_1138 : decode cL_law 1138 = .ok (.iload_n 3, 1) := by decide +kernel
theorem dL_law_1139 : decode cL_law 1139 = .ok (.iconst 1, 1) := by decide +kernel
theorem dL_law_1140 : decode cL_law 1140 = .ok (.iadd, 1) := by decide +kernel
theorem dL_law_1141 : decode cL_law 1141 = .ok (.iaload, 1) := by decide +kernel
theorem dL_law_1142 : decode cL_law 1142 = .ok (.aload_n 0, 1) := by decide +kernel
theorem dL_law_1143 : decode cL_law 1143 = .ok (.iload_n 3, 1) := by decide +kernel
theorem dL_law_1144 : decode cL_law 1144 = .ok (.iconst 2, 1) := by decide +kernel
theorem dL_law_1145 : decode cL_law 1145 = .ok (.iadd, 1) := by decide +kernel
theorem dL_law_1146 : decode cL_law 1146 = .ok (.iaload, 1) := by decide +kernel
theorem dL_law_1147 : decode cL_law 1147 = .ok (.aload_n 0, 1) := by decide +kernel
theorem dL_law_1148 : decode cL_law 1148 = .ok (.iload_n 3, 1) := by decide +kernel
theorem dL_law_1149 : decode cL_law 1149 = .ok (.iconst 3, 1) := by decide +kernel
theorem dL_law_1150 : decode cL_law 1150 = .ok (.iadd, 1) := by decide +kernel
theorem dL_law_1151 : decode cL_law 1151 = .ok (.iaload, 1) := by decide +kernel
theorem dL_law_1152 : decode cL_law 1152 = .ok (.aload_n 0, 1) := by decide +kernel
theorem dL_law_1153 : decode cL_law 1153 = .ok (.iload_n 3, 1) := by decide +kernel
theorem dL_law_1154 : decode cL_law 1154 = .ok (.iconst 4, 1) := by decide +kernel
theorem dL_law_1155 : decode cL_law 1155 = .ok (.iadd, 1) := by decide +kernel
theorem dL_law_1156 : decode cL_law 1156 = .ok (.iaload, 1) := by decide +kernel
theorem dL_law_1157 : decode cL_law 1157 = .ok (.aload_n 0, 1) := by decide +kernel
theorem dL_law_1158 : decode cL_law 1158 = .ok (.iload_n 3, 1) := by decide +kernel
theorem dL_law_1159 : decode cL_law 1159 = .ok (.iconst 5, 1) := by decide +kernel
theorem dL_law_1160 : decode cL_law 1160 = .ok (.iadd, 1) := by decide +kernel
theorem dL_law_1161 : decode cL_law 1161 = .ok (.iaload, 1) := by decide +kernel
theorem dL_law_1162 : decode cL_law 1162 = .ok (.invokevirtual 143, 3) := by decide +kernel
theorem dL_law_1165 : decode cL_law 1165 = .ok (.aload_n 2, 1) := by decide +kernel
theorem dL_law_1166 : decode cL_law 1166 = .ok (.aload_n 0, 1) := by decide +kernel
theorem dL_law_1167 : decode cL_law 1167 = .ok (.iload_n 3, 1) := by decide +kernel
theorem dL_law_1168 : decode cL_law 1168 = .ok (.iconst 1, 1) := by decide +kernel
theorem dL_law_1169 : decode cL_law 1169 = .ok (.iadd, 1) := by decide +kernel
theorem dL_law_1170 : decode cL_law 1170 = .ok (.iaload, 1) := by decide +kernel
theorem dL_law_1171 : decode cL_law 1171 = .ok (.aload_n 0, 1) := by decide +kernel
theorem dL_law_1172 : decode cL_law 1172 = .ok (.iload_n 3, 1) := by decide +kernel
theorem dL_law_1173 : decode cL_law 1173 = .ok (.iconst 2, 1) := by decide +kernel
theorem dL_law_1174 : decode cL_law 1174 = .ok (.iadd, 1) := by decide +kernel
theorem dL_law_1175 : decode cL_law 1175 = .ok (.iaload, 1) := by decide +kernel
theorem dL_law_1176 : decode cL_law 1176 = .ok (.aload_n 0, 1) := by decide +kernel
theorem dL_law_1177 : decode cL_law 1177 = .ok (.iload_n 3, 1) := by decide +kernel
theorem dL_law_1178 : decode cL_law 1178 = .ok (.iconst 3, 1) := by decide +kernel
theorem dL_law_1179 : decode cL_law 1179 = .ok (.iadd, 1) := by decide +kernel
theorem dL_law_1180 : decode cL_law 1180 = .ok (.iaload, 1) := by decide +kernel
theorem dL_law_1181 : decode cL_law 1181 = .ok (.aload_n 0, 1) := by decide +kernel
theorem dL_law_1182 : decode cL_law 1182 = .ok (.iload_n 3, 1) := by decide +kernel
theorem dL_law_1183 : decode cL_law 1183 = .ok (.iconst 4, 1) := by decide +kernel
theorem dL_law_1184 : decode cL_law 1184 = .ok (.iadd, 1) := by decide +kernel
theorem dL_law_1185 : decode cL_law 1185 = .ok (.iaload, 1) := by decide +kernel
theorem dL_law_1186 : decode cL_law 1186 = .ok (.aload_n 0, 1) := by decide +kernel
theorem dL_law_1187 : decode cL_law 1187 = .ok (.iload_n 3, 1) := by decide +kernel
theorem dL_law_1188 : decode cL_law 1188 = .ok (.iconst 5, 1) := by decide +kernel
theorem dL_law_1189 : decode cL_law 1189 = .ok (.iadd, 1) := by decide +kernel
theorem dL_law_1190 : decode cL_law 1190 = .ok (.iaload, 1) := by decide +kernel
theorem dL_law_1191 : decode cL_law 1191 = .ok (.invokevirtual 147, 3) := by decide +kernel
theorem dL_law_1194 : decode cL_law 1194 = .ok (.if_icmp .eq 77, 3) := by decide +kernel
theorem dL_law_1197 : decode cL_law 1197 = .ok (.iconst 0, 1) := by decide +kernel
theorem dL_law_1198 : decode cL_law 1198 = .ok (.ireturn, 1) := by decide +kernel
theorem dL_law_1199 : decode cL_law 1199 = .ok (.aload_n 1, 1) := by decide +kernel
theorem dL_law_1200 : decode cL_law 1200 = .ok (.aload_n 0, 1) := by decide +kernel
theorem dL_law_1201 : decode cL_law 1201 = .ok (.iload_n 3, 1) := by decide +kernel
theorem dL_law_1202 : decode cL_law 1202 = .ok (.iconst 1, 1) := by decide +kernel
theorem dL_law_1203 : decode cL_law 1203 = .ok (.iadd, 1) := by decide +kernel
theorem dL_law_1204 : decode cL_law 1204 = .ok (.iaload, 1) := by decide +kernel
theorem dL_law_1205 : decode cL_law 1205 = .ok (.invokevirtual 148, 3) := by decide +kernel
theorem dL_law_1208 : decode cL_law 1208 = .ok (.aload_n 2, 1) := by decide +kernel
theorem dL_law_1209 : decode cL_law 1209 = .ok (.aload_n 0, 1) := by decide +kernel
theorem dL_law_1210 : decode cL_law 1210 = .ok (.iload_n 3, 1) := by decide +kernel
theorem dL_law_1211 : decode cL_law 1211 = .ok (.iconst 1, 1) := by decide +kernel
theorem dL_law_1212 : decode cL_law 1212 = .ok (.iadd, 1) := by decide +kernel
theorem dL_law_1213 : decode cL_law 1213 = .ok (.iaload, 1) := by decide +kernel
theorem dL_law_1214 : decode cL_law 1214 = .ok (.invokevirtual 151, 3) := by decide +kernel
theorem dL_law_1217 : decode cL_law 1217 = .ok (.if_icmp .eq 54, 3) := by decide +kernel
theorem dL_law_1220 : decode cL_law 1220 = .ok (.iconst 0, 1) := by decide +kernel
theorem dL_law_1221 : decode cL_law 1221 = .ok (.ireturn, 1) := by decide +kernel
theorem dL_law_1222 : decode cL_law 1222 = .ok (.aload_n 1, 1) := by decide +kernel
theorem dL_law_1223 : decode cL_law 1223 = .ok (.invokevirtual 152, 3) := by decide +kernel
theorem dL_law_1226 : decode cL_law 1226 = .ok (.aload_n 2, 1) := by decide +kernel
theorem dL_law_1227 : decode cL_law 1227 = .ok (.invokevirtual 155, 3) := by decide +kernel
theorem dL_law_1230 : decode cL_law 1230 = .ok (.if_icmp .eq 41, 3) := by decide +kernel
theorem dL_law_1233 : decode cL_law 1233 = .ok (.iconst 0, 1) := by decide +kernel
theorem dL_law_1234 : decode cL_law 1234 = .ok (.ireturn, 1) := by decide +kernel
theorem dL_law_1235 : decode cL_law 1235 = .ok (.aload_n 1, 1) := by decide +kernel
theorem dL_law_1236 : decode cL_law 1236 = .ok (.invokevirtual 156, 3) := by decide +kernel
theorem dL_law_1239 : decode cL_law 1239 = .ok (.aload_n 2, 1) := by decide +kernel
theorem dL_law_1240 : decode cL_law 1240 = .ok (.invokevirtual 159, 3) := by decide +kernel
theorem dL_law_1243 : decode cL_law 1243 = .ok (.if_icmp .eq 28, 3) := by decide +kernel
theorem dL_law_1246 : decode cL_law 1246 = .ok (.iconst 0, 1) := by decide +kernel
theorem dL_law_1247 : decode cL_law 1247 = .ok (.ireturn, 1) := by decide +kernel
theorem dL_law_1248 : decode cL_law 1248 = .ok (.aload_n 1, 1) := by decide +kernel
theorem dL_law_1249 : decode cL_law 1249 = .ok (.aload_n 0, 1) := by decide +kernel
theorem dL_law_1250 : decode cL_law 1250 = .ok (.iload_n 3, 1) := by decide +kernel
theorem dL_law_1251 : decode cL_law 1251 = .ok (.iconst 1, 1) := by decide +kernel
theorem dL_law_1252 : decode cL_law 1252 = .ok (.iadd, 1) := by decide +kernel
theorem dL_law_1253 : decode cL_law 1253 = .ok (.iaload, 1) := by decide +kernel
theorem dL_law_1254 : decode cL_law 1254 = .ok (.invokevirtual 160, 3) := by decide +kernel
theorem dL_law_1257 : decode cL_law 1257 = .ok (.aload_n 2, 1) := by decide +kernel
theorem dL_law_1258 : decode cL_law 1258 = .ok (.aload_n 0, 1) := by decide +kernel
theorem dL_law_1259 : decode cL_law 1259 = .ok (.iload_n 3, 1) := by decide +kernel
theorem dL_law_1260 : decode cL_law 1260 = .ok (.iconst 1, 1) := by decide +kernel
theorem dL_law_1261 : decode cL_law 1261 = .ok (.iadd, 1) := by decide +kernel
theorem dL_law_1262 : decode cL_law 1262 = .ok (.iaload, 1) := by decide +kernel
theorem dL_law_1263 : decode cL_law 1263 = .ok (.invokevirtual 163, 3) := by decide +kernel
theorem dL_law_1266 : decode cL_law 1266 = .ok (.if_icmp .eq 5, 3) := by decide +kernel
theorem dL_law_1269 : decode cL_law 1269 = .ok (.iconst 0, 1) := by decide +kernel
theorem dL_law_1270 : decode cL_law 1270 = .ok (.ireturn, 1) := by decide +kernel
theorem dL_law_1271 : decode cL_law 1271 = .ok (.iinc 3 6, 3) := by decide +kernel
theorem dL_law_1274 : decode cL_law 1274 = .ok (.goto (-1256), 3) := by decide +kernel
theorem dL_law_1277 : decode cL_law 1277 = .ok (.iconst 1, 1) := by decide +kernel
theorem dL_law_1278 : decode cL_law 1278 = .ok (.ireturn, 1) := by decide +kernel
