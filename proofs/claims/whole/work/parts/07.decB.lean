theorem dX7_init_0 : decode cX7_init 0 = .ok (.aload_n 0, 1) := by decide +kernel
theorem dX7_init_1 : decode cX7_init 1 = .ok (.invokespecial 1, 3) := by decide +kernel
theorem dX7_init_4 : decode cX7_init 4 = .ok (.aload_n 0, 1) := by decide +kernel
theorem dX7_init_5 : decode cX7_init 5 = .ok (.new 7, 3) := by decide +kernel
theorem dX7_init_8 : decode cX7_init 8 = .ok (.dup, 1) := by decide +kernel
theorem dX7_init_9 : decode cX7_init 9 = .ok (.invokespecial 9, 3) := by decide +kernel
theorem dX7_init_12 : decode cX7_init 12 = .ok (.putfield 10, 3) := by decide +kernel
theorem dX7_init_15 : decode cX7_init 15 = .ok (.aload_n 0, 1) := by decide +kernel
theorem dX7_init_16 : decode cX7_init 16 = .ok (.new 16, 3) := by decide +kernel
theorem dX7_init_19 : decode cX7_init 19 = .ok (.dup, 1) := by decide +kernel
theorem dX7_init_20 : decode cX7_init 20 = .ok (.aload_n 0, 1) := by decide +kernel
theorem dX7_init_21 : decode cX7_init 21 = .ok (.getfield 10, 3) := by decide +kernel
theorem dX7_init_24 : decode cX7_init 24 = .ok (.invokespecial 18, 3) := by decide +kernel
theorem dX7_init_27 : decode cX7_init 27 = .ok (.putfield 21, 3) := by decide +kernel
theorem dX7_init_30 : decode cX7_init 30 = .ok (.aload_n 0, 1) := by decide +kernel
theorem dX7_init_31 : decode cX7_init 31 = .ok (.bipush 6, 2) := by decide +kernel
theorem dX7_init_33 : decode cX7_init 33 = .ok (.anewarray 25, 3) := by decide +kernel
theorem dX7_init_36 : decode cX7_init 36 = .ok (.putfield 27, 3) := by decide +kernel
theorem dX7_init_39 : decode cX7_init 39 = .ok (.aload_n 0, 1) := by decide +kernel
theorem dX7_init_40 : decode cX7_init 40 = .ok (.iconst 4, 1) := by decide +kernel
theorem dX7_init_41 : decode cX7_init 41 = .ok (.anewarray 31, 3) := by decide +kernel
theorem dX7_init_44 : decode cX7_init 44 = .ok (.putfield 33, 3) := by decide +kernel
theorem dX7_init_47 : decode cX7_init 47 = .ok (.iconst 0, 1) := by decide +kernel
theorem dX7_init_48 : decode cX7_init 48 = .ok (.istore_n 1, 1) := by decide +kernel
theorem dX7_init_49 : decode cX7_init 49 = .ok (.iload_n 1, 1) := by decide +kernel
theorem dX7_init_50 : decode cX7_init 50 = .ok (.bipush 6, 2) := by decide +kernel
theorem dX7_init_52 : decode cX7_init 52 = .ok (.if_icmp .ge 23, 3) := by decide +kernel
theorem dX7_init_55 : decode cX7_init 55 = .ok (.aload_n 0, 1) := by decide +kernel
theorem dX7_init_56 : decode cX7_init 56 = .ok (.getfield 27, 3) := by decide +kernel
theorem dX7_init_59 : decode cX7_init 59 = .ok (.iload_n 1, 1) := by decide +kernel
theorem dX7_init_60 : decode cX7_init 60 = .ok (.new 25, 3) := by decide +kernel
theorem dX7_init_63 : decode cX7_init 63 = .ok (.dup, 1) := by decide +kernel
theorem dX7_init_64 : decode cX7_init 64 = .ok (.iload_n 1, 1) := by decide +kernel
theorem dX7_init_65 : decode cX7_init 65 = .ok (.invokespecial 37, 3) := by decide +kernel
theorem dX7_init_68 : decode cX7_init 68 = .ok (.aastore, 1) := by decide +kernel
theorem dX7_init_69 : decode cX7_init 69 = .ok (.iinc 1 1, 3) := by decide +kernel
theorem dX7_init_72 : decode cX7_init 72 = .ok (.goto (-23), 3) := by decide +kernel
theorem dX7_init_75 : decode cX7_init 75 = .ok (.iconst 0, 1) := by decide +kernel
theorem dX7_init_76 : decode cX7_init 76 = .ok (.istore_n 1, 1) := by decide +kernel
theorem dX7_init_77 : decode cX7_init 77 = .ok (.iload_n 1, 1) := by decide +kernel
theorem dX7_init_78 : decode cX7_init 78 = .ok (.iconst 4, 1) := by decide +kernel
theorem dX7_init_79 : decode cX7_init 79 = .ok (.if_icmp .ge 22, 3) := by decide +kernel
theorem dX7_init_82 : decode cX7_init 82 = .ok (.aload_n 0, 1) := by decide +kernel
theorem dX7_init_83 : decode cX7_init 83 = .ok (.getfield 33, 3) := by decide +kernel
theorem dX7_init_86 : decode cX7_init 86 = .ok (.iload_n 1, 1) := by decide +kernel
theorem dX7_init_87 : decode cX7_init 87 = .ok (.new 31, 3) := by decide +kernel
theorem dX7_init_90 : decode cX7_init 90 = .ok (.dup, 1) := by decide +kernel
theorem dX7_init_91 : decode cX7_init 91 = .ok (.invokespecial 40, 3) := by decide +kernel
theorem dX7_init_94 : decode cX7_init 94 = .ok (.aastore, 1) := by decide +kernel
theorem dX7_init_95 : decode cX7_init 95 = .ok (.iinc 1 1, 3) := by decide +kernel
theorem dX7_init_98 : decode cX7_init 98 = .ok (.goto (-21), 3) := by decide +kernel
theorem dX7_init_101 : decode cX7_init 101 = .ok (.iconst 0, 1) := by decide +kernel
theorem dX7_init_102 : decode cX7_init 102 = .ok (.istore_n 1, 1) := by decide +kernel
theorem dX7_init_103 : decode cX7_init 103 = .ok (.iload_n 1, 1) := by decide +kernel
theorem dX7_init_104 : decode cX7_init 104 = .ok (.ldc 41, 2) := by decide +kernel
theorem dX7_init_106 : decode cX7_init 106 = .ok (.invokevirtual 43, 3) := by decide +kernel
theorem dX7_init_109 : decode cX7_init 109 = .ok (.if_icmp .ge 23, 3) := by decide +kernel
theorem dX7_init_112 : decode cX7_init 112 = .ok (.aload_n 0, 1) := by decide +kernel
theorem dX7_init_113 : decode cX7_init 113 = .ok (.getfield 10, 3) := by decide +kernel
theorem dX7_init_116 : decode cX7_init 116 = .ok (.ldc 41, 2) := by decide +kernel
theorem dX7_init_118 : decode cX7_init 118 = .ok (.iload_n 1, 1) := by decide +kernel
theorem dX7_init_119 : decode cX7_init 119 = .ok (.invokevirtual 49, 3) := by decide +kernel
theorem dX7_init_122 : decode cX7_init 122 = .ok (.invokevirtual 53, 3) := by decide +kernel
theorem dX7_init_125 : decode cX7_init 125 = .ok (.pop, 1) := by decide +kernel
theorem dX7_init_126 : decode cX7_init 126 = .ok (.iinc 1 1, 3) := by decide +kernel
theorem dX7_init_129 : decode cX7_init 129 = .ok (.goto (-26), 3) := by decide +kernel
theorem dX7_init_132 : decode cX7_init 132 = .ok (.aload_n 0, 1) := by decide +kernel
theorem dX7_init_133 : decode cX7_init 133 = .ok (.getfield 21, 3) := by decide +kernel
theorem dX7_init_136 : decode cX7_init 136 = .ok (.aload_n 0, 1) := by decide +kernel
theorem dX7_init_137 : decode cX7_init 137 = .ok (.getfield 27, 3) := by decide +kernel
theorem dX7_init_140 : decode cX7_init 140 = .ok (.iconst 0, 1) := by decide +kernel
theorem dX7_init_141 : decode cX7_init 141 = .ok (.aaload, 1) := by decide +kernel
theorem dX7_init_142 : decode cX7_init 142 = .ok (.invokevirtual 57, 3) := by decide +kernel
theorem dX7_init_145 : decode cX7_init 145 = .ok (.pop, 1) := by decide +kernel
theorem dX7_init_146 : decode cX7_init 146 = .ok (.aload_n 0, 1) := by decide +kernel
theorem dX7_init_147 : decode cX7_init 147 = .ok (.getfield 10, 3) := by decide +kernel
theorem dX7_init_150 : decode cX7_init 150 = .ok (.invokevirtual 61, 3) := by decide +kernel
theorem dX7_init_153 : decode cX7_init 153 = .ok (.aload_n 0, 1) := by decide +kernel
theorem dX7_init_154 : decode cX7_init 154 = .ok (.iconst 1, 1) := by decide +kernel
theorem dX7_init_155 : decode cX7_init 155 = .ok (.putfield 64, 3) := by decide +kernel
theorem dX7_init_158 : decode cX7_init 158 = .ok (.aload_n 0, 1) := by decide +kernel
theorem dX7_init_159 : decode cX7_init 159 = .ok (.new 68, 3) := by decide +kernel
theorem dX7_init_162 : decode cX7_init 162 = .ok (.dup, 1) := by decide +kernel
theorem dX7_init_163 : decode cX7_init 163 = .ok (.aload_n 0, 1) := by decide +kernel
theorem dX7_init_164 : decode cX7_init 164 = .ok (.getfield 27, 3) := by decide +kernel
theorem dX7_init_167 : decode cX7_init 167 = .ok (.iconst 0, 1) := by decide +kernel
theorem dX7_init_168 : decode cX7_init 168 = .ok (.aaload, 1) := by decide +kernel
theorem dX7_init_169 : decode cX7_init 169 = .ok (.invokespecial 70, 3) := by decide +kernel
theorem dX7_init_172 : decode cX7_init 172 = .ok (.putfield 73, 3) := by decide +kernel
theorem dX7_init_175 : decode cX7_init 175 = .ok (.aload_n 0, 1) := by decide +kernel
theorem dX7_init_176 : decode cX7_init 176 = .ok (.new 68, 3) := by decide +kernel
theorem dX7_init_179 : decode cX7_init 179 = .ok (.dup, 1) := by decide +kernel
theorem dX7_init_180 : decode cX7_init 180 = .ok (.aload_n 0, 1) := by decide +kernel
theorem dX7_init_181 : decode cX7_init 181 = .ok (.getfield 27, 3) := by decide +kernel
theorem dX7_init_184 : decode cX7_init 184 = .ok (.iconst 0, 1) := by decide +kernel
theorem dX7_init_185 : decode cX7_init 185 = .ok (.aaload, 1) := by decide +kernel
theorem dX7_init_186 : decode cX7_init 186 = .ok (.invokespecial 70, 3) := by decide +kernel
theorem dX7_init_189 : decode cX7_init 189 = .ok (.putfield 77, 3) := by decide +kernel
theorem dX7_init_192 : decode cX7_init 192 = .ok (.aload_n 0, 1) := by decide +kernel
theorem dX7_init_193 : decode cX7_init 193 = .ok (.new 68, 3) := by decide +kernel
theorem dX7_init_196 : decode cX7_init 196 = .ok (.dup, 1) := by decide +kernel
theorem dX7_init_197 : decode cX7_init 197 = .ok (.aload_n 0, 1) := by decide +kernel
theorem dX7_init_198 : decode cX7_init 198 = .ok (.getfield 27, 3) := by decide +kernel
theorem dX7_init_201 : decode cX7_init 201 = .ok (.iconst 0, 1) := by decide +kernel
theorem dX7_init_202 : decode cX7_init 202 = .ok (.aaload, 1) := by decide +kernel
theorem dX7_init_203 : decode cX7_init 203 = .ok (.invokespecial 70, 3) := by decide +kernel
theorem dX7_init_206 : decode cX7_init 206 = .ok (.putfield 80, 3) := by decide +kernel
theorem dX7_init_209 : decode cX7_init 209 = .ok (.aload_n 0, 1) := by decide +kernel
theorem dX7_init_210 : decode cX7_init 210 = .ok (.new 83, 3) := by decide +kernel
theorem dX7_init_213 : decode cX7_init 213 = .ok (.dup, 1) := by decide +kernel
theorem dX7_init_214 : decode cX7_init 214 = .ok (.aload_n 0, 1) := by decide +kernel
theorem dX7_init_215 : decode cX7_init 215 = .ok (.getfield 77, 3) := by decide +kernel
theorem dX7_init_218 : decode cX7_init 218 = .ok (.invokespecial 85, 3) := by decide +kernel
theorem dX7_init_221 : decode cX7_init 221 = .ok (.putfield 88, 3) := by decide +kernel
theorem dX7_init_224 : decode cX7_init 224 = .ok (.return_, 1) := by decide +kernel
theorem dX7_set_0 : decode cX7_set 0 = .ok (.iload_n 3, 1) := by decide +kernel
theorem dX7_set_1 : decode cX7_set 1 = .ok (.ifCond .lt 11, 3) := by decide +kernel
theorem dX7_set_4 : decode cX7_set 4 = .ok (.iload_n 3, 1) := by decide +kernel
theorem dX7_set_5 : decode cX7_set 5 = .ok (.iload_n 1, 1) := by decide +kernel
theorem dX7_set_6 : decode cX7_set 6 = .ok (.invokestatic 92, 3) := by decide +kernel
theorem dX7_set_9 : decode cX7_set 9 = .ok (.if_icmp .lt 6, 3) := by decide +kernel
theorem dX7_set_12 : decode cX7_set 12 = .ok (.bipush (-2), 2) := by decide +kernel
theorem dX7_set_14 : decode cX7_set 14 = .ok (.ireturn, 1) := by decide +kernel
theorem dX7_set_15 : decode cX7_set 15 = .ok (.aload_n 0, 1) := by decide +kernel
theorem dX7_set_16 : decode cX7_set 16 = .ok (.iload_n 2, 1) := by decide +kernel
theorem dX7_set_17 : decode cX7_set 17 = .ok (.iload_n 1, 1) := by decide +kernel
theorem dX7_set_18 : decode cX7_set 18 = .ok (.invokevirtual 96, 3) := by decide +kernel
theorem dX7_set_21 : decode cX7_set 21 = .ok (.istore 4, 2) := by decide +kernel
theorem dX7_set_23 : decode cX7_set 23 = .ok (.iload 4, 2) := by decide +kernel
theorem dX7_set_25 : decode cX7_set 25 = .ok (.bipush (-2), 2) := by decide +kernel
theorem dX7_set_27 : decode cX7_set 27 = .ok (.if_icmp .ne 6, 3) := by decide +kernel
theorem dX7_set_30 : decode cX7_set 30 = .ok (.bipush (-2), 2) := by decide +kernel
theorem dX7_set_32 : decode cX7_set 32 = .ok (.ireturn, 1) := by decide +kernel
theorem dX7_set_33 : decode cX7_set 33 = .ok (.iload_n 1, 1) := by decide +kernel
theorem dX7_set_34 : decode cX7_set 34 = .ok (.ifCond .ne 14, 3) := by decide +kernel
theorem dX7_set_37 : decode cX7_set 37 = .ok (.aload_n 0, 1) := by decide +kernel
theorem dX7_set_38 : decode cX7_set 38 = .ok (.getfield 73, 3) := by decide +kernel
theorem dX7_set_41 : decode cX7_set 41 = .ok (.iload_n 3, 1) := by decide +kernel
theorem dX7_set_42 : decode cX7_set 42 = .ok (.putfield 100, 3) := by decide +kernel
theorem dX7_set_45 : decode cX7_set 45 = .ok (.goto 32, 3) := by decide +kernel
theorem dX7_set_48 : decode cX7_set 48 = .ok (.iload_n 1, 1) := by decide +kernel
theorem dX7_set_49 : decode cX7_set 49 = .ok (.iconst 1, 1) := by decide +kernel
theorem dX7_set_50 : decode cX7_set 50 = .ok (.if_icmp .ne 14, 3) := by decide +kernel
theorem dX7_set_53 : decode cX7_set 53 = .ok (.aload_n 0, 1) := by decide +kernel
theorem dX7_set_54 : decode cX7_set 54 = .ok (.getfield 73, 3) := by decide +kernel
theorem dX7_set_57 : decode cX7_set 57 = .ok (.iload_n 3, 1) := by decide +kernel
theorem dX7_set_58 : decode cX7_set 58 = .ok (.putfield 103, 3) := by decide +kernel
theorem dX7_set_61 : decode cX7_set 61 = .ok (.goto 16, 3) := by decide +kernel
theorem dX7_set_64 : decode cX7_set 64 = .ok (.aload_n 0, 1) := by decide +kernel
theorem dX7_set_65 : decode cX7_set 65 = .ok (.getfield 73, 3) := by decide +kernel
theorem dX7_set_68 : decode cX7_set 68 = .ok (.iload_n 2, 1) := by decide +kernel
theorem dX7_set_69 : decode cX7_set 69 = .ok (.invokevirtual 106, 3) := by decide +kernel
theorem dX7_set_72 : decode cX7_set 72 = .ok (.iload_n 1, 1) := by decide +kernel
theorem dX7_set_73 : decode cX7_set 73 = .ok (.iload_n 3, 1) := by decide +kernel
theorem dX7_set_74 : decode cX7_set 74 = .ok (.invokestatic 110, 3) := by decide +kernel
theorem dX7_set_77 : decode cX7_set 77 = .ok (.iload 4, 2) := by decide +kernel
theorem dX7_set_79 : decode cX7_set 79 = .ok (.ireturn, 1) := by decide +kernel
theorem dX7_fort_0 : decode cX7_fort 0 = .ok (.iload_n 1, 1) := by decide +kernel
theorem dX7_fort_1 : decode cX7_fort 1 = .ok (.iload_n 2, 1) := by decide +kernel
theorem dX7_fort_2 : decode cX7_fort 2 = .ok (.iload_n 3, 1) := by decide +kernel
theorem dX7_fort_3 : decode cX7_fort 3 = .ok (.invokestatic 114, 3) := by decide +kernel
theorem dX7_fort_6 : decode cX7_fort 6 = .ok (.ifCond .ne 6, 3) := by decide +kernel
theorem dX7_fort_9 : decode cX7_fort 9 = .ok (.bipush (-2), 2) := by decide +kernel
theorem dX7_fort_11 : decode cX7_fort 11 = .ok (.ireturn, 1) := by decide +kernel
theorem dX7_fort_12 : decode cX7_fort 12 = .ok (.aload_n 0, 1) := by decide +kernel
theorem dX7_fort_13 : decode cX7_fort 13 = .ok (.getfield 73, 3) := by decide +kernel
theorem dX7_fort_16 : decode cX7_fort 16 = .ok (.iload_n 1, 1) := by decide +kernel
theorem dX7_fort_17 : decode cX7_fort 17 = .ok (.iload_n 2, 1) := by decide +kernel
theorem dX7_fort_18 : decode cX7_fort 18 = .ok (.iload_n 3, 1) := by decide +kernel
theorem dX7_fort_19 : decode cX7_fort 19 = .ok (.invokevirtual 118, 3) := by decide +kernel
theorem dX7_fort_22 : decode cX7_fort 22 = .ok (.ireturn, 1) := by decide +kernel
theorem dX7_told_0 : decode cX7_told 0 = .ok (.iload_n 2, 1) := by decide +kernel
theorem dX7_told_1 : decode cX7_told 1 = .ok (.ifCond .ne 11, 3) := by decide +kernel
theorem dX7_told_4 : decode cX7_told 4 = .ok (.aload_n 0, 1) := by decide +kernel
theorem dX7_told_5 : decode cX7_told 5 = .ok (.getfield 73, 3) := by decide +kernel
theorem dX7_told_8 : decode cX7_told 8 = .ok (.getfield 100, 3) := by decide +kernel
theorem dX7_told_11 : decode cX7_told 11 = .ok (.ireturn, 1) := by decide +kernel
theorem dX7_told_12 : decode cX7_told 12 = .ok (.iload_n 2, 1) := by decide +kernel
theorem dX7_told_13 : decode cX7_told 13 = .ok (.iconst 1, 1) := by decide +kernel
theorem dX7_told_14 : decode cX7_told 14 = .ok (.if_icmp .ne 11, 3) := by decide +kernel
theorem dX7_told_17 : decode cX7_told 17 = .ok (.aload_n 0, 1) := by decide +kernel
theorem dX7_told_18 : decode cX7_told 18 = .ok (.getfield 73, 3) := by decide +kernel
theorem dX7_told_21 : decode cX7_told 21 = .ok (.getfield 103, 3) := by decide +kernel
theorem dX7_told_24 : decode cX7_told 24 = .ok (.ireturn, 1) := by decide +kernel
theorem dX7_told_25 : decode cX7_told 25 = .ok (.aload_n 0, 1) := by decide +kernel
theorem dX7_told_26 : decode cX7_told 26 = .ok (.getfield 73, 3) := by decide +kernel
theorem dX7_told_29 : decode cX7_told 29 = .ok (.iload_n 1, 1) := by decide +kernel
theorem dX7_told_30 : decode cX7_told 30 = .ok (.invokevirtual 106, 3) := by decide +kernel
theorem dX7_told_33 : decode cX7_told 33 = .ok (.astore_n 3, 1) := by decide +kernel
theorem dX7_told_34 : decode cX7_told 34 = .ok (.aload_n 3, 1) := by decide +kernel
theorem dX7_told_35 : decode cX7_told 35 = .ok (.ifnonnull 6, 3) := by decide +kernel
theorem dX7_told_38 : decode cX7_told 38 = .ok (.bipush (-2), 2) := by decide +kernel
theorem dX7_told_40 : decode cX7_told 40 = .ok (.ireturn, 1) := by decide +kernel
theorem dX7_told_41 : decode cX7_told 41 = .ok (.iload_n 2, 1) := by decide +kernel
theorem dX7_told_42 : decode cX7_told 42 = .ok (.tableswitch 98 2 9 #[46, 51, 56, 61, 66, 71, 80, 89], 46) := by decide +kernel
theorem dX7_told_88 : decode cX7_told 88 = .ok (.aload_n 3, 1) := by decide +kernel
theorem dX7_told_89 : decode cX7_told 89 = .ok (.getfield 121, 3) := by decide +kernel
theorem dX7_told_92 : decode cX7_told 92 = .ok (.ireturn, 1) := by decide +kernel
theorem dX7_told_93 : decode cX7_told 93 = .ok (.aload_n 3, 1) := by decide +kernel
theorem dX7_told_94 : decode cX7_told 94 = .ok (.getfield 126, 3) := by decide +kernel
theorem dX7_told_97 : decode cX7_told 97 = .ok (.ireturn, 1) := by decide +kernel
theorem dX7_told_98 : decode cX7_told 98 = .ok (.aload_n 3, 1) := by decide +kernel
theorem dX7_told_99 : decode cX7_told 99 = .ok (.getfield 129, 3) := by decide +kernel
theorem dX7_told_102 : decode cX7_told 102 = .ok (.ireturn, 1) := by decide +kernel
theorem dX7_told_103 : decode cX7_told 103 = .ok (.aload_n 3, 1) := by decide +kernel
theorem dX7_told_104 : decode cX7_told 104 = .ok (.getfield 132, 3) := by decide +kernel
theorem dX7_told_107 : decode cX7_told 107 = .ok (.ireturn, 1) := by decide +kernel
theorem dX7_told_108 : decode cX7_told 108 = .ok (.aload_n 3, 1) := by decide +kernel
theorem dX7_told_109 : decode cX7_told 109 = .ok (.getfield 135, 3) := by decide +kernel
theorem dX7_told_112 : decode cX7_told 112 = .ok (.ireturn, 1) := by decide +kernel
theorem dX7_told_113 : decode cX7_told 113 = .ok (.aload_n 0, 1) := by decide +kernel
theorem dX7_told_114 : decode cX7_told 114 = .ok (.getfield 73, 3) := by decide +kernel
theorem dX7_told_117 : decode cX7_told 117 = .ok (.aload_n 3, 1) := by decide +kernel
theorem dX7_told_118 : decode cX7_told 118 = .ok (.invokevirtual 138, 3) := by decide +kernel
theorem dX7_told_121 : decode cX7_told 121 = .ok (.ireturn, 1) := by decide +kernel
theorem dX7_told_122 : decode cX7_told 122 = .ok (.aload_n 0, 1) := by decide +kernel
theorem dX7_told_123 : decode cX7_told 123 = .ok (.getfield 73, 3) := by decide +kernel
theorem dX7_told_126 : decode cX7_told 126 = .ok (.aload_n 3, 1) := by decide +kernel
theorem dX7_told_127 : decode cX7_told 127 = .ok (.invokevirtual 142, 3) := by decide +kernel
theorem dX7_told_130 : decode cX7_told 130 = .ok (.ireturn, 1) := by decide +kernel
theorem dX7_told_131 : decode cX7_told 131 = .ok (.aload_n 0, 1) := by decide +kernel
theorem dX7_told_132 : decode cX7_told 132 = .ok (.getfield 73, 3) := by decide +kernel
theorem dX7_told_135 : decode cX7_told 135 = .ok (.aload_n 3, 1) := by decide +kernel
theorem dX7_told_136 : decode cX7_told 136 = .ok (.invokevirtual 145, 3) := by decide +kernel
theorem dX7_told_139 : decode cX7_told 139 = .ok (.ireturn, 1) := by decide +kernel
theorem dX7_told_140 : decode cX7_told 140 = .ok (.bipush (-2), 2) := by decide +kernel
theorem dX7_told_142 : decode cX7_told 142 = .ok (.ireturn, 1) := by decide +kernel
theorem dX7_bound_0 : decode cX7_bound 0 = .ok (.iload_n 0, 1) := by decide +kernel
theorem dX7_bound_1 : decode cX7_bound 1 = .ok (.tableswitch 57 0 5 #[39, 42, 46, 49, 52, 54], 39) := by decide +kernel
theorem dX7_bound_40 : decode cX7_bound 40 = .ok (.bipush 10, 2) := by decide +kernel
theorem dX7_bound_42 : decode cX7_bound 42 = .ok (.ireturn, 1) := by decide +kernel
theorem dX7_bound_43 : decode cX7_bound 43 = .ok (.sipush 1000, 3) := by decide +kernel
theorem dX7_bound_46 : decode cX7_bound 46 = .ok (.ireturn, 1) := by decide +kernel
theorem dX7_bound_47 : decode cX7_bound 47 = .ok (.bipush 10, 2) := by decide +kernel
theorem dX7_bound_49 : decode cX7_bound 49 = .ok (.ireturn, 1) := by decide +kernel
theorem dX7_bound_50 : decode cX7_bound 50 = .ok (.bipush 16, 2) := by decide +kernel
theorem dX7_bound_52 : decode cX7_bound 52 = .ok (.ireturn, 1) := by decide +kernel
theorem dX7_bound_53 : decode cX7_bound 53 = .ok (.iconst 2, 1) := by decide +kernel
theorem dX7_bound_54 : decode cX7_bound 54 = .ok (.ireturn, 1) := by decide +kernel
theorem dX7_bound_55 : decode cX7_bound 55 = .ok (.bipush 100, 2) := by decide +kernel
theorem dX7_bound_57 : decode cX7_bound 57 = .ok (.ireturn, 1) := by decide +kernel
theorem dX7_bound_58 : decode cX7_bound 58 = .ok (.iconst 0, 1) := by decide +kernel
theorem dX7_bound_59 : decode cX7_bound 59 = .ok (.ireturn, 1) := by decide +kernel
theorem dX7_change_0 : decode cX7_change 0 = .ok (.aload_n 0, 1) := by decide +kernel
theorem dX7_change_1 : decode cX7_change 1 = .ok (.ifnonnull 4, 3) := by decide +kernel
theorem dX7_change_4 : decode cX7_change 4 = .ok (.return_, 1) := by decide +kernel
theorem dX7_change_5 : decode cX7_change 5 = .ok (.iload_n 1, 1) := by decide +kernel
theorem dX7_change_6 : decode cX7_change 6 = .ok (.tableswitch 62 2 5 #[30, 38, 46, 54], 30) := by decide +kernel
theorem dX7_change_36 : decode cX7_change 36 = .ok (.aload_n 0, 1) := by decide +kernel
theorem dX7_change_37 : decode cX7_change 37 = .ok (.iload_n 2, 1) := by decide +kernel
theorem dX7_change_38 : decode cX7_change 38 = .ok (.putfield 121, 3) := by decide +kernel
theorem dX7_change_41 : decode cX7_change 41 = .ok (.goto 27, 3) := by decide +kernel
theorem dX7_change_44 : decode cX7_change 44 = .ok (.aload_n 0, 1) := by decide +kernel
theorem dX7_change_45 : decode cX7_change 45 = .ok (.iload_n 2, 1) := by decide +kernel
theorem dX7_change_46 : decode cX7_change 46 = .ok (.putfield 126, 3) := by decide +kernel
theorem dX7_change_49 : decode cX7_change 49 = .ok (.goto 19, 3) := by decide +kernel
theorem dX7_change_52 : decode cX7_change 52 = .ok (.aload_n 0, 1) := by decide +kernel
theorem dX7_change_53 : decode cX7_change 53 = .ok (.iload_n 2, 1) := by decide +kernel
theorem dX7_change_54 : decode cX7_change 54 = .ok (.putfield 129, 3) := by decide +kernel
theorem dX7_change_57 : decode cX7_change 57 = .ok (.goto 11, 3) := by decide +kernel
theorem dX7_change_60 : decode cX7_change 60 = .ok (.aload_n 0, 1) := by decide +kernel
theorem dX7_change_61 : decode cX7_change 61 = .ok (.iload_n 2, 1) := by decide +kernel
theorem dX7_change_62 : decode cX7_change 62 = .ok (.putfield 132, 3) := by decide +kernel
theorem dX7_change_65 : decode cX7_change 65 = .ok (.goto 3, 3) := by decide +kernel
theorem dX7_change_68 : decode cX7_change 68 = .ok (.return_, 1) := by decide +kernel
theorem dX7_feed_0 : decode cX7_feed 0 = .ok (.iload_n 1, 1) := by decide +kernel
theorem dX7_feed_1 : decode cX7_feed 1 = .ok (.ifCond .lt 10, 3) := by decide +kernel
theorem dX7_feed_4 : decode cX7_feed 4 = .ok (.iload_n 1, 1) := by decide +kernel
theorem dX7_feed_5 : decode cX7_feed 5 = .ok (.sipush 255, 3) := by decide +kernel
theorem dX7_feed_8 : decode cX7_feed 8 = .ok (.if_icmp .le 6, 3) := by decide +kernel
theorem dX7_feed_11 : decode cX7_feed 11 = .ok (.bipush (-2), 2) := by decide +kernel
theorem dX7_feed_13 : decode cX7_feed 13 = .ok (.ireturn, 1) := by decide +kernel
theorem dX7_feed_14 : decode cX7_feed 14 = .ok (.aload_n 0, 1) := by decide +kernel
theorem dX7_feed_15 : decode cX7_feed 15 = .ok (.getfield 10, 3) := by decide +kernel
theorem dX7_feed_18 : decode cX7_feed 18 = .ok (.iload_n 1, 1) := by decide +kernel
theorem dX7_feed_19 : decode cX7_feed 19 = .ok (.invokevirtual 53, 3) := by decide +kernel
theorem dX7_feed_22 : decode cX7_feed 22 = .ok (.ifCond .eq 13, 3) := by decide +kernel
theorem dX7_feed_25 : decode cX7_feed 25 = .ok (.aload_n 0, 1) := by decide +kernel
theorem dX7_feed_26 : decode cX7_feed 26 = .ok (.getfield 10, 3) := by decide +kernel
theorem dX7_feed_29 : decode cX7_feed 29 = .ok (.getfield 148, 3) := by decide +kernel
theorem dX7_feed_32 : decode cX7_feed 32 = .ok (.goto 5, 3) := by decide +kernel
theorem dX7_feed_35 : decode cX7_feed 35 = .ok (.bipush (-4), 2) := by decide +kernel
theorem dX7_feed_37 : decode cX7_feed 37 = .ok (.ireturn, 1) := by decide +kernel
theorem dX7_text_0 : decode cX7_text 0 = .ok (.aload_n 0, 1) := by decide +kernel
theorem dX7_text_1 : decode cX7_text 1 = .ok (.getfield 64, 3) := by decide +kernel
theorem dX7_text_4 : decode cX7_text 4 = .ok (.ifCond .lt 12, 3) := by decide +kernel
theorem dX7_text_7 : decode cX7_text 7 = .ok (.aload_n 0, 1) := by decide +kernel
theorem dX7_text_8 : decode cX7_text 8 = .ok (.getfield 64, 3) := by decide +kernel
theorem dX7_text_11 : decode cX7_text 11 = .ok (.bipush 6, 2) := by decide +kernel
theorem dX7_text_13 : decode cX7_text 13 = .ok (.if_icmp .lt 6, 3) := by decide +kernel
theorem dX7_text_16 : decode cX7_text 16 = .ok (.bipush (-4), 2) := by decide +kernel
theorem dX7_text_18 : decode cX7_text 18 = .ok (.ireturn, 1) := by decide +kernel
theorem dX7_text_19 : decode cX7_text 19 = .ok (.aload_n 0, 1) := by decide +kernel
theorem dX7_text_20 : decode cX7_text 20 = .ok (.getfield 21, 3) := by decide +kernel
theorem dX7_text_23 : decode cX7_text 23 = .ok (.aload_n 0, 1) := by decide +kernel
theorem dX7_text_24 : decode cX7_text 24 = .ok (.getfield 27, 3) := by decide +kernel
theorem dX7_text_27 : decode cX7_text 27 = .ok (.aload_n 0, 1) := by decide +kernel
theorem dX7_text_28 : decode cX7_text 28 = .ok (.getfield 64, 3) := by decide +kernel
theorem dX7_text_31 : decode cX7_text 31 = .ok (.aaload, 1) := by decide +kernel
theorem dX7_text_32 : decode cX7_text 32 = .ok (.invokevirtual 57, 3) := by decide +kernel
theorem dX7_text_35 : decode cX7_text 35 = .ok (.istore_n 1, 1) := by decide +kernel
theorem dX7_text_36 : decode cX7_text 36 = .ok (.aload_n 0, 1) := by decide +kernel
theorem dX7_text_37 : decode cX7_text 37 = .ok (.getfield 10, 3) := by decide +kernel
theorem dX7_text_40 : decode cX7_text 40 = .ok (.invokevirtual 61, 3) := by decide +kernel
theorem dX7_text_43 : decode cX7_text 43 = .ok (.iload_n 1, 1) := by decide +kernel
theorem dX7_text_44 : decode cX7_text 44 = .ok (.iconst (-1), 1) := by decide +kernel
theorem dX7_text_45 : decode cX7_text 45 = .ok (.if_icmp .eq 8, 3) := by decide +kernel
theorem dX7_text_48 : decode cX7_text 48 = .ok (.bipush (-100), 2) := by decide +kernel
theorem dX7_text_50 : decode cX7_text 50 = .ok (.iload_n 1, 1) := by decide +kernel
theorem dX7_text_51 : decode cX7_text 51 = .ok (.isub, 1) := by decide +kernel
theorem dX7_text_52 : decode cX7_text 52 = .ok (.ireturn, 1) := by decide +kernel
theorem dX7_text_53 : decode cX7_text 53 = .ok (.aload_n 0, 1) := by decide +kernel
theorem dX7_text_54 : decode cX7_text 54 = .ok (.dup, 1) := by decide +kernel
theorem dX7_text_55 : decode cX7_text 55 = .ok (.getfield 64, 3) := by decide +kernel
theorem dX7_text_58 : decode cX7_text 58 = .ok (.iconst 1, 1) := by decide +kernel
theorem dX7_text_59 : decode cX7_text 59 = .ok (.iadd, 1) := by decide +kernel
theorem dX7_text_60 : decode cX7_text 60 = .ok (.putfield 64, 3) := by decide +kernel
theorem dX7_text_63 : decode cX7_text 63 = .ok (.aload_n 0, 1) := by decide +kernel
theorem dX7_text_64 : decode cX7_text 64 = .ok (.getfield 64, 3) := by decide +kernel
theorem dX7_text_67 : decode cX7_text 67 = .ok (.iconst 1, 1) := by decide +kernel
theorem dX7_text_68 : decode cX7_text 68 = .ok (.isub, 1) := by decide +kernel
theorem dX7_text_69 : decode cX7_text 69 = .ok (.ireturn, 1) := by decide +kernel
theorem dX7_force_0 : decode cX7_force 0 = .ok (.iload_n 1, 1) := by decide +kernel
theorem dX7_force_1 : decode cX7_force 1 = .ok (.ifCond .lt 17, 3) := by decide +kernel
theorem dX7_force_4 : decode cX7_force 4 = .ok (.iload_n 1, 1) := by decide +kernel
theorem dX7_force_5 : decode cX7_force 5 = .ok (.aload_n 0, 1) := by decide +kernel
theorem dX7_force_6 : decode cX7_force 6 = .ok (.getfield 64, 3) := by decide +kernel
theorem dX7_force_9 : decode cX7_force 9 = .ok (.if_icmp .ge 9, 3) := by decide +kernel
theorem dX7_force_12 : decode cX7_force 12 = .ok (.iload_n 1, 1) := by decide +kernel
theorem dX7_force_13 : decode cX7_force 13 = .ok (.bipush 6, 2) := by decide +kernel
theorem dX7_force_15 : decode cX7_force 15 = .ok (.if_icmp .lt 6, 3) := by decide +kernel
theorem dX7_force_18 : decode cX7_force 18 = .ok (.bipush (-2), 2) := by decide +kernel
theorem dX7_force_20 : decode cX7_force 20 = .ok (.ireturn, 1) := by decide +kernel
theorem dX7_force_21 : decode cX7_force 21 = .ok (.aload_n 0, 1) := by decide +kernel
theorem dX7_force_22 : decode cX7_force 22 = .ok (.getfield 73, 3) := by decide +kernel
theorem dX7_force_25 : decode cX7_force 25 = .ok (.getfield 151, 3) := by decide +kernel
theorem dX7_force_28 : decode cX7_force 28 = .ok (.getfield 155, 3) := by decide +kernel
theorem dX7_force_31 : decode cX7_force 31 = .ok (.istore_n 2, 1) := by decide +kernel
theorem dX7_force_32 : decode cX7_force 32 = .ok (.aload_n 0, 1) := by decide +kernel
theorem dX7_force_33 : decode cX7_force 33 = .ok (.getfield 73, 3) := by decide +kernel
theorem dX7_force_36 : decode cX7_force 36 = .ok (.aload_n 0, 1) := by decide +kernel
theorem dX7_force_37 : decode cX7_force 37 = .ok (.getfield 27, 3) := by decide +kernel
theorem dX7_force_40 : decode cX7_force 40 = .ok (.iload_n 1, 1) := by decide +kernel
theorem dX7_force_41 : decode cX7_force 41 = .ok (.aaload, 1) := by decide +kernel
theorem dX7_force_42 : decode cX7_force 42 = .ok (.putfield 151, 3) := by decide +kernel
theorem dX7_force_45 : decode cX7_force 45 = .ok (.iload_n 2, 1) := by decide +kernel
theorem dX7_force_46 : decode cX7_force 46 = .ok (.ireturn, 1) := by decide +kernel
theorem dX7_wave_0 : decode cX7_wave 0 = .ok (.aload_n 0, 1) := by decide +kernel
theorem dX7_wave_1 : decode cX7_wave 1 = .ok (.getfield 73, 3) := by decide +kernel
theorem dX7_wave_4 : decode cX7_wave 4 = .ok (.getfield 103, 3) := by decide +kernel
theorem dX7_wave_7 : decode cX7_wave 7 = .ok (.sipush 999, 3) := by decide +kernel
theorem dX7_wave_10 : decode cX7_wave 10 = .ok (.if_icmp .lt 6, 3) := by decide +kernel
theorem dX7_wave_13 : decode cX7_wave 13 = .ok (.bipush (-3), 2) := by decide +kernel
theorem dX7_wave_15 : decode cX7_wave 15 = .ok (.ireturn, 1) := by decide +kernel
theorem dX7_wave_16 : decode cX7_wave 16 = .ok (.aload_n 0, 1) := by decide +kernel
theorem dX7_wave_17 : decode cX7_wave 17 = .ok (.getfield 73, 3) := by decide +kernel
theorem dX7_wave_20 : decode cX7_wave 20 = .ok (.invokevirtual 158, 3) := by decide +kernel
theorem dX7_wave_23 : decode cX7_wave 23 = .ok (.aload_n 0, 1) := by decide +kernel
theorem dX7_wave_24 : decode cX7_wave 24 = .ok (.getfield 73, 3) := by decide +kernel
theorem dX7_wave_27 : decode cX7_wave 27 = .ok (.invokevirtual 161, 3) := by decide +kernel
theorem dX7_wave_30 : decode cX7_wave 30 = .ok (.ireturn, 1) := by decide +kernel
theorem dX7_spade_0 : decode cX7_spade 0 = .ok (.aload_n 0, 1) := by decide +kernel
theorem dX7_spade_1 : decode cX7_spade 1 = .ok (.getfield 73, 3) := by decide +kernel
theorem dX7_spade_4 : decode cX7_spade 4 = .ok (.iload_n 1, 1) := by decide +kernel
theorem dX7_spade_5 : decode cX7_spade 5 = .ok (.invokevirtual 106, 3) := by decide +kernel
theorem dX7_spade_8 : decode cX7_spade 8 = .ok (.astore_n 2, 1) := by decide +kernel
theorem dX7_spade_9 : decode cX7_spade 9 = .ok (.aload_n 2, 1) := by decide +kernel
theorem dX7_spade_10 : decode cX7_spade 10 = .ok (.ifnonnull 6, 3) := by decide +kernel
theorem dX7_spade_13 : decode cX7_spade 13 = .ok (.bipush (-2), 2) := by decide +kernel
theorem dX7_spade_15 : decode cX7_spade 15 = .ok (.ireturn, 1) := by decide +kernel
theorem dX7_spade_16 : decode cX7_spade 16 = .ok (.aload_n 0, 1) := by decide +kernel
theorem dX7_spade_17 : decode cX7_spade 17 = .ok (.getfield 73, 3) := by decide +kernel
theorem dX7_spade_20 : decode cX7_spade 20 = .ok (.aload_n 2, 1) := by decide +kernel
theorem dX7_spade_21 : decode cX7_spade 21 = .ok (.invokevirtual 164, 3) := by decide +kernel
theorem dX7_spade_24 : decode cX7_spade 24 = .ok (.aload_n 2, 1) := by decide +kernel
theorem dX7_spade_25 : decode cX7_spade 25 = .ok (.getfield 132, 3) := by decide +kernel
theorem dX7_spade_28 : decode cX7_spade 28 = .ok (.ireturn, 1) := by decide +kernel
theorem dX7_run_0 : decode cX7_run 0 = .ok (.iload_n 1, 1) := by decide +kernel
theorem dX7_run_1 : decode cX7_run 1 = .ok (.invokestatic 168, 3) := by decide +kernel
theorem dX7_run_4 : decode cX7_run 4 = .ok (.ifCond .eq 11, 3) := by decide +kernel
theorem dX7_run_7 : decode cX7_run 7 = .ok (.aload_n 0, 1) := by decide +kernel
theorem dX7_run_8 : decode cX7_run 8 = .ok (.iload_n 2, 1) := by decide +kernel
theorem dX7_run_9 : decode cX7_run 9 = .ok (.invokevirtual 171, 3) := by decide +kernel
theorem dX7_run_12 : decode cX7_run 12 = .ok (.ifCond .ne 6, 3) := by decide +kernel
theorem dX7_run_15 : decode cX7_run 15 = .ok (.ldc 174, 2) := by decide +kernel
theorem dX7_run_17 : decode cX7_run 17 = .ok (.ireturn, 1) := by decide +kernel
theorem dX7_run_18 : decode cX7_run 18 = .ok (.aload_n 0, 1) := by decide +kernel
theorem dX7_run_19 : decode cX7_run 19 = .ok (.invokevirtual 175, 3) := by decide +kernel
theorem dX7_run_22 : decode cX7_run 22 = .ok (.iload_n 1, 1) := by decide +kernel
theorem dX7_run_23 : decode cX7_run 23 = .ok (.invokevirtual 179, 3) := by decide +kernel
theorem dX7_run_26 : decode cX7_run 26 = .ok (.aload_n 0, 1) := by decide +kernel
theorem dX7_run_27 : decode cX7_run 27 = .ok (.iload_n 2, 1) := by decide +kernel
theorem dX7_run_28 : decode cX7_run 28 = .ok (.invokevirtual 182, 3) := by decide +kernel
theorem dX7_run_31 : decode cX7_run 31 = .ok (.ireturn, 1) := by decide +kernel
theorem dX7_plan_0 : decode cX7_plan 0 = .ok (.aload_n 0, 1) := by decide +kernel
theorem dX7_plan_1 : decode cX7_plan 1 = .ok (.iload_n 1, 1) := by decide +kernel
theorem dX7_plan_2 : decode cX7_plan 2 = .ok (.invokevirtual 185, 3) := by decide +kernel
theorem dX7_plan_5 : decode cX7_plan 5 = .ok (.astore_n 3, 1) := by decide +kernel
theorem dX7_plan_6 : decode cX7_plan 6 = .ok (.aload_n 3, 1) := by decide +kernel
theorem dX7_plan_7 : decode cX7_plan 7 = .ok (.ifnull 26, 3) := by decide +kernel
theorem dX7_plan_10 : decode cX7_plan 10 = .ok (.aload_n 0, 1) := by decide +kernel
theorem dX7_plan_11 : decode cX7_plan 11 = .ok (.iload_n 2, 1) := by decide +kernel
theorem dX7_plan_12 : decode cX7_plan 12 = .ok (.invokevirtual 171, 3) := by decide +kernel
theorem dX7_plan_15 : decode cX7_plan 15 = .ok (.ifCond .eq 18, 3) := by decide +kernel
theorem dX7_plan_18 : decode cX7_plan 18 = .ok (.aload_n 3, 1) := by decide +kernel
theorem dX7_plan_19 : decode cX7_plan 19 = .ok (.invokevirtual 189, 3) := by decide +kernel
theorem dX7_plan_22 : decode cX7_plan 22 = .ok (.ifCond .ne 11, 3) := by decide +kernel
theorem dX7_plan_25 : decode cX7_plan 25 = .ok (.aload_n 0, 1) := by decide +kernel
theorem dX7_plan_26 : decode cX7_plan 26 = .ok (.aload_n 3, 1) := by decide +kernel
theorem dX7_plan_27 : decode cX7_plan 27 = .ok (.invokevirtual 193, 3) := by decide +kernel
theorem dX7_plan_30 : decode cX7_plan 30 = .ok (.ifCond .ne 6, 3) := by decide +kernel
theorem dX7_plan_33 : decode cX7_plan 33 = .ok (.ldc 174, 2) := by decide +kernel
theorem dX7_plan_35 : decode cX7_plan 35 = .ok (.ireturn, 1) := by decide +kernel
theorem dX7_plan_36 : decode cX7_plan 36 = .ok (.aload_n 0, 1) := by decide +kernel
theorem dX7_plan_37 : decode cX7_plan 37 = .ok (.invokevirtual 175, 3) := by decide +kernel
theorem dX7_plan_40 : decode cX7_plan 40 = .ok (.pop, 1) := by decide +kernel
theorem dX7_plan_41 : decode cX7_plan 41 = .ok (.iconst 0, 1) := by decide +kernel
theorem dX7_plan_42 : decode cX7_plan 42 = .ok (.istore 4, 2) := by decide +kernel
theorem dX7_plan_44 : decode cX7_plan 44 = .ok (.iload 4, 2) := by decide +kernel
theorem dX7_plan_46 : decode cX7_plan 46 = .ok (.aload_n 3, 1) := by decide +kernel
theorem dX7_plan_47 : decode cX7_plan 47 = .ok (.getfield 197, 3) := by decide +kernel
theorem dX7_plan_50 : decode cX7_plan 50 = .ok (.if_icmp .ge 45, 3) := by decide +kernel
theorem dX7_plan_53 : decode cX7_plan 53 = .ok (.aload_n 0, 1) := by decide +kernel
theorem dX7_plan_54 : decode cX7_plan 54 = .ok (.getfield 77, 3) := by decide +kernel
theorem dX7_plan_57 : decode cX7_plan 57 = .ok (.aload_n 3, 1) := by decide +kernel
theorem dX7_plan_58 : decode cX7_plan 58 = .ok (.iload 4, 2) := by decide +kernel
theorem dX7_plan_60 : decode cX7_plan 60 = .ok (.invokevirtual 198, 3) := by decide +kernel
theorem dX7_plan_63 : decode cX7_plan 63 = .ok (.invokevirtual 106, 3) := by decide +kernel
theorem dX7_plan_66 : decode cX7_plan 66 = .ok (.astore 5, 2) := by decide +kernel
theorem dX7_plan_68 : decode cX7_plan 68 = .ok (.aload 5, 2) := by decide +kernel
theorem dX7_plan_70 : decode cX7_plan 70 = .ok (.ifnull 12, 3) := by decide +kernel
theorem dX7_plan_73 : decode cX7_plan 73 = .ok (.aload_n 0, 1) := by decide +kernel
theorem dX7_plan_74 : decode cX7_plan 74 = .ok (.getfield 77, 3) := by decide +kernel
theorem dX7_plan_77 : decode cX7_plan 77 = .ok (.aload 5, 2) := by decide +kernel
theorem dX7_plan_79 : decode cX7_plan 79 = .ok (.invokevirtual 164, 3) := by decide +kernel
theorem dX7_plan_82 : decode cX7_plan 82 = .ok (.aload_n 0, 1) := by decide +kernel
theorem dX7_plan_83 : decode cX7_plan 83 = .ok (.getfield 77, 3) := by decide +kernel
theorem dX7_plan_86 : decode cX7_plan 86 = .ok (.invokevirtual 158, 3) := by decide +kernel
theorem dX7_plan_89 : decode cX7_plan 89 = .ok (.iinc 4 1, 3) := by decide +kernel
theorem dX7_plan_92 : decode cX7_plan 92 = .ok (.goto (-48), 3) := by decide +kernel
theorem dX7_plan_95 : decode cX7_plan 95 = .ok (.aload_n 0, 1) := by decide +kernel
theorem dX7_plan_96 : decode cX7_plan 96 = .ok (.iload_n 2, 1) := by decide +kernel
theorem dX7_plan_97 : decode cX7_plan 97 = .ok (.invokevirtual 182, 3) := by decide +kernel
theorem dX7_plan_100 : decode cX7_plan 100 = .ok (.ireturn, 1) := by decide +kernel
theorem dX7_isPlan_0 : decode cX7_isPlan 0 = .ok (.iconst 0, 1) := by decide +kernel
theorem dX7_isPlan_1 : decode cX7_isPlan 1 = .ok (.istore_n 2, 1) := by decide +kernel
theorem dX7_isPlan_2 : decode cX7_isPlan 2 = .ok (.iload_n 2, 1) := by decide +kernel
theorem dX7_isPlan_3 : decode cX7_isPlan 3 = .ok (.aload_n 1, 1) := by decide +kernel
theorem dX7_isPlan_4 : decode cX7_isPlan 4 = .ok (.getfield 197, 3) := by decide +kernel
theorem dX7_isPlan_7 : decode cX7_isPlan 7 = .ok (.if_icmp .ge 33, 3) := by decide +kernel
theorem dX7_isPlan_10 : decode cX7_isPlan 10 = .ok (.aload_n 1, 1) := by decide +kernel
theorem dX7_isPlan_11 : decode cX7_isPlan 11 = .ok (.iload_n 2, 1) := by decide +kernel
theorem dX7_isPlan_12 : decode cX7_isPlan 12 = .ok (.invokevirtual 198, 3) := by decide +kernel
theorem dX7_isPlan_15 : decode cX7_isPlan 15 = .ok (.istore_n 3, 1) := by decide +kernel
theorem dX7_isPlan_16 : decode cX7_isPlan 16 = .ok (.iload_n 3, 1) := by decide +kernel
theorem dX7_isPlan_17 : decode cX7_isPlan 17 = .ok (.iconst (-1), 1) := by decide +kernel
theorem dX7_isPlan_18 : decode cX7_isPlan 18 = .ok (.if_icmp .eq 16, 3) := by decide +kernel
theorem dX7_isPlan_21 : decode cX7_isPlan 21 = .ok (.aload_n 0, 1) := by decide +kernel
theorem dX7_isPlan_22 : decode cX7_isPlan 22 = .ok (.getfield 73, 3) := by decide +kernel
theorem dX7_isPlan_25 : decode cX7_isPlan 25 = .ok (.iload_n 3, 1) := by decide +kernel
theorem dX7_isPlan_26 : decode cX7_isPlan 26 = .ok (.invokevirtual 106, 3) := by decide +kernel
theorem dX7_isPlan_29 : decode cX7_isPlan 29 = .ok (.ifnonnull 5, 3) := by decide +kernel
theorem dX7_isPlan_32 : decode cX7_isPlan 32 = .ok (.iconst 0, 1) := by decide +kernel
theorem dX7_isPlan_33 : decode cX7_isPlan 33 = .ok (.ireturn, 1) := by decide +kernel
theorem dX7_isPlan_34 : decode cX7_isPlan 34 = .ok (.iinc 2 1, 3) := by decide +kernel
theorem dX7_isPlan_37 : decode cX7_isPlan 37 = .ok (.goto (-35), 3) := by decide +kernel
theorem dX7_isPlan_40 : decode cX7_isPlan 40 = .ok (.iconst 1, 1) := by decide +kernel
theorem dX7_isPlan_41 : decode cX7_isPlan 41 = .ok (.ireturn, 1) := by decide +kernel
theorem dX7_isAhead_0 : decode cX7_isAhead 0 = .ok (.iload_n 0, 1) := by decide +kernel
theorem dX7_isAhead_1 : decode cX7_isAhead 1 = .ok (.ifCond .lt 13, 3) := by decide +kernel
theorem dX7_isAhead_4 : decode cX7_isAhead 4 = .ok (.iload_n 0, 1) := by decide +kernel
theorem dX7_isAhead_5 : decode cX7_isAhead 5 = .ok (.bipush 40, 2) := by decide +kernel
theorem dX7_isAhead_7 : decode cX7_isAhead 7 = .ok (.if_icmp .gt 7, 3) := by decide +kernel
theorem dX7_isAhead_10 : decode cX7_isAhead 10 = .ok (.iconst 1, 1) := by decide +kernel
theorem dX7_isAhead_11 : decode cX7_isAhead 11 = .ok (.goto 4, 3) := by decide +kernel
theorem dX7_isAhead_14 : decode cX7_isAhead 14 = .ok (.iconst 0, 1) := by decide +kernel
theorem dX7_isAhead_15 : decode cX7_isAhead 15 = .ok (.ireturn, 1) := by decide +kernel
theorem dX7_isView_0 : decode cX7_isView 0 = .ok (.iload_n 1, 1) := by decide +kernel
theorem dX7_isView_1 : decode cX7_isView 1 = .ok (.ifCond .lt 8, 3) := by decide +kernel
theorem dX7_isView_4 : decode cX7_isView 4 = .ok (.iload_n 1, 1) := by decide +kernel
theorem dX7_isView_5 : decode cX7_isView 5 = .ok (.iconst 2, 1) := by decide +kernel
theorem dX7_isView_6 : decode cX7_isView 6 = .ok (.if_icmp .le 17, 3) := by decide +kernel
theorem dX7_isView_9 : decode cX7_isView 9 = .ok (.aload_n 0, 1) := by decide +kernel
theorem dX7_isView_10 : decode cX7_isView 10 = .ok (.getfield 73, 3) := by decide +kernel
theorem dX7_isView_13 : decode cX7_isView 13 = .ok (.iload_n 1, 1) := by decide +kernel
theorem dX7_isView_14 : decode cX7_isView 14 = .ok (.bipush 10, 2) := by decide +kernel
theorem dX7_isView_16 : decode cX7_isView 16 = .ok (.isub, 1) := by decide +kernel
theorem dX7_isView_17 : decode cX7_isView 17 = .ok (.invokevirtual 106, 3) := by decide +kernel
theorem dX7_isView_20 : decode cX7_isView 20 = .ok (.ifnull 7, 3) := by decide +kernel
theorem dX7_isView_23 : decode cX7_isView 23 = .ok (.iconst 1, 1) := by decide +kernel
theorem dX7_isView_24 : decode cX7_isView 24 = .ok (.goto 4, 3) := by decide +kernel
theorem dX7_isView_27 : decode cX7_isView 27 = .ok (.iconst 0, 1) := by decide +kernel
theorem dX7_isView_28 : decode cX7_isView 28 = .ok (.ireturn, 1) := by decide +kernel
theorem dX7_view_0 : decode cX7_view 0 = .ok (.iload_n 1, 1) := by decide +kernel
theorem dX7_view_1 : decode cX7_view 1 = .ok (.tableswitch 52 0 2 #[27, 35, 43], 27) := by decide +kernel
theorem dX7_view_28 : decode cX7_view 28 = .ok (.aload_n 0, 1) := by decide +kernel
theorem dX7_view_29 : decode cX7_view 29 = .ok (.getfield 77, 3) := by decide +kernel
theorem dX7_view_32 : decode cX7_view 32 = .ok (.invokevirtual 161, 3) := by decide +kernel
theorem dX7_view_35 : decode cX7_view 35 = .ok (.ireturn, 1) := by decide +kernel
theorem dX7_view_36 : decode cX7_view 36 = .ok (.aload_n 0, 1) := by decide +kernel
theorem dX7_view_37 : decode cX7_view 37 = .ok (.getfield 77, 3) := by decide +kernel
theorem dX7_view_40 : decode cX7_view 40 = .ok (.invokevirtual 201, 3) := by decide +kernel
theorem dX7_view_43 : decode cX7_view 43 = .ok (.ireturn, 1) := by decide +kernel
theorem dX7_view_44 : decode cX7_view 44 = .ok (.aload_n 0, 1) := by decide +kernel
theorem dX7_view_45 : decode cX7_view 45 = .ok (.getfield 77, 3) := by decide +kernel
theorem dX7_view_48 : decode cX7_view 48 = .ok (.iconst 0, 1) := by decide +kernel
theorem dX7_view_49 : decode cX7_view 49 = .ok (.invokevirtual 204, 3) := by decide +kernel
theorem dX7_view_52 : decode cX7_view 52 = .ok (.ireturn, 1) := by decide +kernel
theorem dX7_view_53 : decode cX7_view 53 = .ok (.aload_n 0, 1) := by decide +kernel
theorem dX7_view_54 : decode cX7_view 54 = .ok (.getfield 77, 3) := by decide +kernel
theorem dX7_view_57 : decode cX7_view 57 = .ok (.iload_n 1, 1) := by decide +kernel
theorem dX7_view_58 : decode cX7_view 58 = .ok (.bipush 10, 2) := by decide +kernel
theorem dX7_view_60 : decode cX7_view 60 = .ok (.isub, 1) := by decide +kernel
theorem dX7_view_61 : decode cX7_view 61 = .ok (.invokevirtual 106, 3) := by decide +kernel
theorem dX7_view_64 : decode cX7_view 64 = .ok (.astore_n 2, 1) := by decide +kernel
theorem dX7_view_65 : decode cX7_view 65 = .ok (.aload_n 2, 1) := by decide +kernel
theorem dX7_view_66 : decode cX7_view 66 = .ok (.ifnonnull 8, 3) := by decide +kernel
theorem dX7_view_69 : decode cX7_view 69 = .ok (.ldc 174, 2) := by decide +kernel
theorem dX7_view_71 : decode cX7_view 71 = .ok (.goto 7, 3) := by decide +kernel
theorem dX7_view_74 : decode cX7_view 74 = .ok (.aload_n 2, 1) := by decide +kernel
theorem dX7_view_75 : decode cX7_view 75 = .ok (.getfield 132, 3) := by decide +kernel
theorem dX7_view_78 : decode cX7_view 78 = .ok (.ireturn, 1) := by decide +kernel
theorem dX7_think_0 : decode cX7_think 0 = .ok (.aload_n 0, 1) := by decide +kernel
theorem dX7_think_1 : decode cX7_think 1 = .ok (.getfield 77, 3) := by decide +kernel
theorem dX7_think_4 : decode cX7_think 4 = .ok (.aload_n 0, 1) := by decide +kernel
theorem dX7_think_5 : decode cX7_think 5 = .ok (.getfield 73, 3) := by decide +kernel
theorem dX7_think_8 : decode cX7_think 8 = .ok (.invokevirtual 207, 3) := by decide +kernel
theorem dX7_think_11 : decode cX7_think 11 = .ok (.aload_n 0, 1) := by decide +kernel
theorem dX7_think_12 : decode cX7_think 12 = .ok (.getfield 77, 3) := by decide +kernel
theorem dX7_think_15 : decode cX7_think 15 = .ok (.areturn, 1) := by decide +kernel
theorem dX7_keeps_0 : decode cX7_keeps 0 = .ok (.aload_n 0, 1) := by decide +kernel
theorem dX7_keeps_1 : decode cX7_keeps 1 = .ok (.invokevirtual 175, 3) := by decide +kernel
theorem dX7_keeps_4 : decode cX7_keeps 4 = .ok (.iload_n 1, 1) := by decide +kernel
theorem dX7_keeps_5 : decode cX7_keeps 5 = .ok (.invokevirtual 106, 3) := by decide +kernel
theorem dX7_keeps_8 : decode cX7_keeps 8 = .ok (.astore_n 3, 1) := by decide +kernel
theorem dX7_keeps_9 : decode cX7_keeps 9 = .ok (.aload_n 3, 1) := by decide +kernel
theorem dX7_keeps_10 : decode cX7_keeps 10 = .ok (.ifnull 10, 3) := by decide +kernel
theorem dX7_keeps_13 : decode cX7_keeps 13 = .ok (.iload_n 2, 1) := by decide +kernel
theorem dX7_keeps_14 : decode cX7_keeps 14 = .ok (.invokestatic 168, 3) := by decide +kernel
theorem dX7_keeps_17 : decode cX7_keeps 17 = .ok (.ifCond .ne 6, 3) := by decide +kernel
theorem dX7_keeps_20 : decode cX7_keeps 20 = .ok (.bipush (-2), 2) := by decide +kernel
theorem dX7_keeps_22 : decode cX7_keeps 22 = .ok (.ireturn, 1) := by decide +kernel
theorem dX7_keeps_23 : decode cX7_keeps 23 = .ok (.aload_n 3, 1) := by decide +kernel
theorem dX7_keeps_24 : decode cX7_keeps 24 = .ok (.getfield 132, 3) := by decide +kernel
theorem dX7_keeps_27 : decode cX7_keeps 27 = .ok (.istore 4, 2) := by decide +kernel
theorem dX7_keeps_29 : decode cX7_keeps 29 = .ok (.iconst 0, 1) := by decide +kernel
theorem dX7_keeps_30 : decode cX7_keeps 30 = .ok (.istore 5, 2) := by decide +kernel
theorem dX7_keeps_32 : decode cX7_keeps 32 = .ok (.iload 4, 2) := by decide +kernel
theorem dX7_keeps_34 : decode cX7_keeps 34 = .ok (.iload 5, 2) := by decide +kernel
theorem dX7_keeps_36 : decode cX7_keeps 36 = .ok (.iadd, 1) := by decide +kernel
theorem dX7_keeps_37 : decode cX7_keeps 37 = .ok (.bipush 100, 2) := by decide +kernel
theorem dX7_keeps_39 : decode cX7_keeps 39 = .ok (.if_icmp .ge 41, 3) := by decide +kernel
theorem dX7_keeps_42 : decode cX7_keeps 42 = .ok (.aload_n 0, 1) := by decide +kernel
theorem dX7_keeps_43 : decode cX7_keeps 43 = .ok (.invokevirtual 175, 3) := by decide +kernel
theorem dX7_keeps_46 : decode cX7_keeps 46 = .ok (.pop, 1) := by decide +kernel
theorem dX7_keeps_47 : decode cX7_keeps 47 = .ok (.aload_n 3, 1) := by decide +kernel
theorem dX7_keeps_48 : decode cX7_keeps 48 = .ok (.iload 4, 2) := by decide +kernel
theorem dX7_keeps_50 : decode cX7_keeps 50 = .ok (.iload 5, 2) := by decide +kernel
theorem dX7_keeps_52 : decode cX7_keeps 52 = .ok (.iadd, 1) := by decide +kernel
theorem dX7_keeps_53 : decode cX7_keeps 53 = .ok (.putfield 132, 3) := by decide +kernel
theorem dX7_keeps_56 : decode cX7_keeps 56 = .ok (.aload_n 0, 1) := by decide +kernel
theorem dX7_keeps_57 : decode cX7_keeps 57 = .ok (.getfield 77, 3) := by decide +kernel
theorem dX7_keeps_60 : decode cX7_keeps 60 = .ok (.iload_n 2, 1) := by decide +kernel
theorem dX7_keeps_61 : decode cX7_keeps 61 = .ok (.invokevirtual 179, 3) := by decide +kernel
theorem dX7_keeps_64 : decode cX7_keeps 64 = .ok (.aload_n 3, 1) := by decide +kernel
theorem dX7_keeps_65 : decode cX7_keeps 65 = .ok (.invokevirtual 210, 3) := by decide +kernel
theorem dX7_keeps_68 : decode cX7_keeps 68 = .ok (.ifCond .eq 6, 3) := by decide +kernel
theorem dX7_keeps_71 : decode cX7_keeps 71 = .ok (.iload 5, 2) := by decide +kernel
theorem dX7_keeps_73 : decode cX7_keeps 73 = .ok (.ireturn, 1) := by decide +kernel
theorem dX7_keeps_74 : decode cX7_keeps 74 = .ok (.iinc 5 1, 3) := by decide +kernel
theorem dX7_keeps_77 : decode cX7_keeps 77 = .ok (.goto (-45), 3) := by decide +kernel
theorem dX7_keeps_80 : decode cX7_keeps 80 = .ok (.iconst (-1), 1) := by decide +kernel
theorem dX7_keeps_81 : decode cX7_keeps 81 = .ok (.ireturn, 1) := by decide +kernel
theorem dX7_best_0 : decode cX7_best 0 = .ok (.aload_n 0, 1) := by decide +kernel
theorem dX7_best_1 : decode cX7_best 1 = .ok (.invokevirtual 175, 3) := by decide +kernel
theorem dX7_best_4 : decode cX7_best 4 = .ok (.iload_n 1, 1) := by decide +kernel
theorem dX7_best_5 : decode cX7_best 5 = .ok (.invokevirtual 106, 3) := by decide +kernel
theorem dX7_best_8 : decode cX7_best 8 = .ok (.astore 4, 2) := by decide +kernel
theorem dX7_best_10 : decode cX7_best 10 = .ok (.aload 4, 2) := by decide +kernel
theorem dX7_best_12 : decode cX7_best 12 = .ok (.ifnull 17, 3) := by decide +kernel
theorem dX7_best_15 : decode cX7_best 15 = .ok (.iload_n 2, 1) := by decide +kernel
theorem dX7_best_16 : decode cX7_best 16 = .ok (.invokestatic 168, 3) := by decide +kernel
theorem dX7_best_19 : decode cX7_best 19 = .ok (.ifCond .eq 10, 3) := by decide +kernel
theorem dX7_best_22 : decode cX7_best 22 = .ok (.iload_n 3, 1) := by decide +kernel
theorem dX7_best_23 : decode cX7_best 23 = .ok (.invokestatic 213, 3) := by decide +kernel
theorem dX7_best_26 : decode cX7_best 26 = .ok (.ifCond .ne 6, 3) := by decide +kernel
theorem dX7_best_29 : decode cX7_best 29 = .ok (.bipush (-2), 2) := by decide +kernel
theorem dX7_best_31 : decode cX7_best 31 = .ok (.ireturn, 1) := by decide +kernel
theorem dX7_best_32 : decode cX7_best 32 = .ok (.iconst 0, 1) := by decide +kernel
theorem dX7_best_33 : decode cX7_best 33 = .ok (.istore 5, 2) := by decide +kernel
theorem dX7_best_35 : decode cX7_best 35 = .ok (.iconst (-1), 1) := by decide +kernel
theorem dX7_best_36 : decode cX7_best 36 = .ok (.istore 6, 2) := by decide +kernel
theorem dX7_best_38 : decode cX7_best 38 = .ok (.iconst 0, 1) := by decide +kernel
theorem dX7_best_39 : decode cX7_best 39 = .ok (.istore 7, 2) := by decide +kernel
theorem dX7_best_41 : decode cX7_best 41 = .ok (.iload 7, 2) := by decide +kernel
theorem dX7_best_43 : decode cX7_best 43 = .ok (.bipush 16, 2) := by decide +kernel
theorem dX7_best_45 : decode cX7_best 45 = .ok (.if_icmp .ge 50, 3) := by decide +kernel
theorem dX7_best_48 : decode cX7_best 48 = .ok (.aload_n 0, 1) := by decide +kernel
theorem dX7_best_49 : decode cX7_best 49 = .ok (.invokevirtual 175, 3) := by decide +kernel
theorem dX7_best_52 : decode cX7_best 52 = .ok (.pop, 1) := by decide +kernel
theorem dX7_best_53 : decode cX7_best 53 = .ok (.aload 4, 2) := by decide +kernel
theorem dX7_best_55 : decode cX7_best 55 = .ok (.iload 7, 2) := by decide +kernel
theorem dX7_best_57 : decode cX7_best 57 = .ok (.putfield 126, 3) := by decide +kernel
theorem dX7_best_60 : decode cX7_best 60 = .ok (.aload_n 0, 1) := by decide +kernel
theorem dX7_best_61 : decode cX7_best 61 = .ok (.getfield 77, 3) := by decide +kernel
theorem dX7_best_64 : decode cX7_best 64 = .ok (.iload_n 2, 1) := by decide +kernel
theorem dX7_best_65 : decode cX7_best 65 = .ok (.invokevirtual 179, 3) := by decide +kernel
theorem dX7_best_68 : decode cX7_best 68 = .ok (.aload 4, 2) := by decide +kernel
theorem dX7_best_70 : decode cX7_best 70 = .ok (.getfield 132, 3) := by decide +kernel
theorem dX7_best_73 : decode cX7_best 73 = .ok (.iload 6, 2) := by decide +kernel
theorem dX7_best_75 : decode cX7_best 75 = .ok (.if_icmp .le 14, 3) := by decide +kernel
theorem dX7_best_78 : decode cX7_best 78 = .ok (.aload 4, 2) := by decide +kernel
theorem dX7_best_80 : decode cX7_best 80 = .ok (.getfield 132, 3) := by decide +kernel
theorem dX7_best_83 : decode cX7_best 83 = .ok (.istore 6, 2) := by decide +kernel
theorem dX7_best_85 : decode cX7_best 85 = .ok (.iload 7, 2) := by decide +kernel
theorem dX7_best_87 : decode cX7_best 87 = .ok (.istore 5, 2) := by decide +kernel
theorem dX7_best_89 : decode cX7_best 89 = .ok (.iinc 7 1, 3) := by decide +kernel
theorem dX7_best_92 : decode cX7_best 92 = .ok (.goto (-51), 3) := by decide +kernel
theorem dX7_best_95 : decode cX7_best 95 = .ok (.iload_n 3, 1) := by decide +kernel
theorem dX7_best_96 : decode cX7_best 96 = .ok (.ifCond .ne 8, 3) := by decide +kernel
theorem dX7_best_99 : decode cX7_best 99 = .ok (.iload 5, 2) := by decide +kernel
theorem dX7_best_101 : decode cX7_best 101 = .ok (.goto 5, 3) := by decide +kernel
theorem dX7_best_104 : decode cX7_best 104 = .ok (.iload 6, 2) := by decide +kernel
theorem dX7_best_106 : decode cX7_best 106 = .ok (.ireturn, 1) := by decide +kernel
theorem dX7_matters_0 : decode cX7_matters 0 = .ok (.aload_n 0, 1) := by decide +kernel
theorem dX7_matters_1 : decode cX7_matters 1 = .ok (.invokevirtual 175, 3) := by decide +kernel
theorem dX7_matters_4 : decode cX7_matters 4 = .ok (.iload_n 1, 1) := by decide +kernel
theorem dX7_matters_5 : decode cX7_matters 5 = .ok (.invokevirtual 106, 3) := by decide +kernel
theorem dX7_matters_8 : decode cX7_matters 8 = .ok (.astore 4, 2) := by decide +kernel
theorem dX7_matters_10 : decode cX7_matters 10 = .ok (.aload 4, 2) := by decide +kernel
theorem dX7_matters_12 : decode cX7_matters 12 = .ok (.ifnull 17, 3) := by decide +kernel
theorem dX7_matters_15 : decode cX7_matters 15 = .ok (.iload_n 2, 1) := by decide +kernel
theorem dX7_matters_16 : decode cX7_matters 16 = .ok (.invokestatic 168, 3) := by decide +kernel
theorem dX7_matters_19 : decode cX7_matters 19 = .ok (.ifCond .eq 10, 3) := by decide +kernel
theorem dX7_matters_22 : decode cX7_matters 22 = .ok (.iload_n 3, 1) := by decide +kernel
theorem dX7_matters_23 : decode cX7_matters 23 = .ok (.invokestatic 213, 3) := by decide +kernel
theorem dX7_matters_26 : decode cX7_matters 26 = .ok (.ifCond .ne 6, 3) := by decide +kernel
theorem dX7_matters_29 : decode cX7_matters 29 = .ok (.bipush (-2), 2) := by decide +kernel
theorem dX7_matters_31 : decode cX7_matters 31 = .ok (.ireturn, 1) := by decide +kernel
theorem dX7_matters_32 : decode cX7_matters 32 = .ok (.aload_n 0, 1) := by decide +kernel
theorem dX7_matters_33 : decode cX7_matters 33 = .ok (.getfield 77, 3) := by decide +kernel
theorem dX7_matters_36 : decode cX7_matters 36 = .ok (.iload_n 2, 1) := by decide +kernel
theorem dX7_matters_37 : decode cX7_matters 37 = .ok (.invokevirtual 179, 3) := by decide +kernel
theorem dX7_matters_40 : decode cX7_matters 40 = .ok (.aload 4, 2) := by decide +kernel
theorem dX7_matters_42 : decode cX7_matters 42 = .ok (.getfield 132, 3) := by decide +kernel
theorem dX7_matters_45 : decode cX7_matters 45 = .ok (.istore 5, 2) := by decide +kernel
theorem dX7_matters_47 : decode cX7_matters 47 = .ok (.iconst (-1), 1) := by decide +kernel
theorem dX7_matters_48 : decode cX7_matters 48 = .ok (.istore 6, 2) := by decide +kernel
theorem dX7_matters_50 : decode cX7_matters 50 = .ok (.iconst 0, 1) := by decide +kernel
theorem dX7_matters_51 : decode cX7_matters 51 = .ok (.istore 7, 2) := by decide +kernel
theorem dX7_matters_53 : decode cX7_matters 53 = .ok (.iload 7, 2) := by decide +kernel
theorem dX7_matters_55 : decode cX7_matters 55 = .ok (.aload_n 0, 1) := by decide +kernel
theorem dX7_matters_56 : decode cX7_matters 56 = .ok (.getfield 73, 3) := by decide +kernel
theorem dX7_matters_59 : decode cX7_matters 59 = .ok (.getfield 216, 3) := by decide +kernel
theorem dX7_matters_62 : decode cX7_matters 62 = .ok (.if_icmp .ge 82, 3) := by decide +kernel
theorem dX7_matters_65 : decode cX7_matters 65 = .ok (.aload_n 0, 1) := by decide +kernel
theorem dX7_matters_66 : decode cX7_matters 66 = .ok (.invokevirtual 175, 3) := by decide +kernel
theorem dX7_matters_69 : decode cX7_matters 69 = .ok (.iload 7, 2) := by decide +kernel
theorem dX7_matters_71 : decode cX7_matters 71 = .ok (.invokevirtual 106, 3) := by decide +kernel
theorem dX7_matters_74 : decode cX7_matters 74 = .ok (.astore 8, 2) := by decide +kernel
theorem dX7_matters_76 : decode cX7_matters 76 = .ok (.aload 8, 2) := by decide +kernel
theorem dX7_matters_78 : decode cX7_matters 78 = .ok (.ifnull 60, 3) := by decide +kernel
theorem dX7_matters_81 : decode cX7_matters 81 = .ok (.iload 7, 2) := by decide +kernel
theorem dX7_matters_83 : decode cX7_matters 83 = .ok (.iload_n 1, 1) := by decide +kernel
theorem dX7_matters_84 : decode cX7_matters 84 = .ok (.if_icmp .eq 54, 3) := by decide +kernel
theorem dX7_matters_87 : decode cX7_matters 87 = .ok (.aload 8, 2) := by decide +kernel
theorem dX7_matters_89 : decode cX7_matters 89 = .ok (.getfield 129, 3) := by decide +kernel
theorem dX7_matters_92 : decode cX7_matters 92 = .ok (.aload 4, 2) := by decide +kernel
theorem dX7_matters_94 : decode cX7_matters 94 = .ok (.getfield 129, 3) := by decide +kernel
theorem dX7_matters_97 : decode cX7_matters 97 = .ok (.if_icmp .eq 6, 3) := by decide +kernel
theorem dX7_matters_100 : decode cX7_matters 100 = .ok (.goto 38, 3) := by decide +kernel
theorem dX7_matters_103 : decode cX7_matters 103 = .ok (.aload 8, 2) := by decide +kernel
theorem dX7_matters_105 : decode cX7_matters 105 = .ok (.iconst 0, 1) := by decide +kernel
theorem dX7_matters_106 : decode cX7_matters 106 = .ok (.putfield 132, 3) := by decide +kernel
theorem dX7_matters_109 : decode cX7_matters 109 = .ok (.aload_n 0, 1) := by decide +kernel
theorem dX7_matters_110 : decode cX7_matters 110 = .ok (.getfield 77, 3) := by decide +kernel
theorem dX7_matters_113 : decode cX7_matters 113 = .ok (.iload_n 2, 1) := by decide +kernel
theorem dX7_matters_114 : decode cX7_matters 114 = .ok (.invokevirtual 179, 3) := by decide +kernel
theorem dX7_matters_117 : decode cX7_matters 117 = .ok (.aload 4, 2) := by decide +kernel
theorem dX7_matters_119 : decode cX7_matters 119 = .ok (.getfield 132, 3) := by decide +kernel
theorem dX7_matters_122 : decode cX7_matters 122 = .ok (.iload 5, 2) := by decide +kernel
theorem dX7_matters_124 : decode cX7_matters 124 = .ok (.if_icmp .ge 14, 3) := by decide +kernel
theorem dX7_matters_127 : decode cX7_matters 127 = .ok (.aload 4, 2) := by decide +kernel
theorem dX7_matters_129 : decode cX7_matters 129 = .ok (.getfield 132, 3) := by decide +kernel
theorem dX7_matters_132 : decode cX7_matters 132 = .ok (.istore 5, 2) := by decide +kernel
theorem dX7_matters_134 : decode cX7_matters 134 = .ok (.iload 7, 2) := by decide +kernel
theorem dX7_matters_136 : decode cX7_matters 136 = .ok (.istore 6, 2) := by decide +kernel
theorem dX7_matters_138 : decode cX7_matters 138 = .ok (.iinc 7 1, 3) := by decide +kernel
theorem dX7_matters_141 : decode cX7_matters 141 = .ok (.goto (-88), 3) := by decide +kernel
theorem dX7_matters_144 : decode cX7_matters 144 = .ok (.iload_n 3, 1) := by decide +kernel
theorem dX7_matters_145 : decode cX7_matters 145 = .ok (.ifCond .ne 8, 3) := by decide +kernel
theorem dX7_matters_148 : decode cX7_matters 148 = .ok (.iload 6, 2) := by decide +kernel
theorem dX7_matters_150 : decode cX7_matters 150 = .ok (.goto 5, 3) := by decide +kernel
theorem dX7_matters_153 : decode cX7_matters 153 = .ok (.iload 5, 2) := by decide +kernel
theorem dX7_matters_155 : decode cX7_matters 155 = .ok (.ireturn, 1) := by decide +kernel
theorem dX7_wish_0 : decode cX7_wish 0 = .ok (.iload_n 1, 1) := by decide +kernel
theorem dX7_wish_1 : decode cX7_wish 1 = .ok (.ifCond .lt 22, 3) := by decide +kernel
theorem dX7_wish_4 : decode cX7_wish 4 = .ok (.iload_n 1, 1) := by decide +kernel
theorem dX7_wish_5 : decode cX7_wish 5 = .ok (.iconst 2, 1) := by decide +kernel
theorem dX7_wish_6 : decode cX7_wish 6 = .ok (.if_icmp .ge 17, 3) := by decide +kernel
theorem dX7_wish_9 : decode cX7_wish 9 = .ok (.iload_n 2, 1) := by decide +kernel
theorem dX7_wish_10 : decode cX7_wish 10 = .ok (.invokestatic 168, 3) := by decide +kernel
theorem dX7_wish_13 : decode cX7_wish 13 = .ok (.ifCond .eq 10, 3) := by decide +kernel
theorem dX7_wish_16 : decode cX7_wish 16 = .ok (.iload_n 3, 1) := by decide +kernel
theorem dX7_wish_17 : decode cX7_wish 17 = .ok (.invokestatic 213, 3) := by decide +kernel
theorem dX7_wish_20 : decode cX7_wish 20 = .ok (.ifCond .ne 6, 3) := by decide +kernel
theorem dX7_wish_23 : decode cX7_wish 23 = .ok (.ldc 174, 2) := by decide +kernel
theorem dX7_wish_25 : decode cX7_wish 25 = .ok (.ireturn, 1) := by decide +kernel
theorem dX7_wish_26 : decode cX7_wish 26 = .ok (.aload_n 0, 1) := by decide +kernel
theorem dX7_wish_27 : decode cX7_wish 27 = .ok (.invokevirtual 175, 3) := by decide +kernel
theorem dX7_wish_30 : decode cX7_wish 30 = .ok (.iload_n 2, 1) := by decide +kernel
theorem dX7_wish_31 : decode cX7_wish 31 = .ok (.invokevirtual 179, 3) := by decide +kernel
theorem dX7_wish_34 : decode cX7_wish 34 = .ok (.aload_n 0, 1) := by decide +kernel
theorem dX7_wish_35 : decode cX7_wish 35 = .ok (.getfield 77, 3) := by decide +kernel
theorem dX7_wish_38 : decode cX7_wish 38 = .ok (.iload_n 1, 1) := by decide +kernel
theorem dX7_wish_39 : decode cX7_wish 39 = .ok (.invokevirtual 204, 3) := by decide +kernel
theorem dX7_wish_42 : decode cX7_wish 42 = .ok (.istore 4, 2) := by decide +kernel
theorem dX7_wish_44 : decode cX7_wish 44 = .ok (.iconst (-1), 1) := by decide +kernel
theorem dX7_wish_45 : decode cX7_wish 45 = .ok (.istore 5, 2) := by decide +kernel
theorem dX7_wish_47 : decode cX7_wish 47 = .ok (.iconst 0, 1) := by decide +kernel
theorem dX7_wish_48 : decode cX7_wish 48 = .ok (.istore 6, 2) := by decide +kernel
theorem dX7_wish_50 : decode cX7_wish 50 = .ok (.iload 6, 2) := by decide +kernel
theorem dX7_wish_52 : decode cX7_wish 52 = .ok (.aload_n 0, 1) := by decide +kernel
theorem dX7_wish_53 : decode cX7_wish 53 = .ok (.getfield 73, 3) := by decide +kernel
theorem dX7_wish_56 : decode cX7_wish 56 = .ok (.getfield 216, 3) := by decide +kernel
theorem dX7_wish_59 : decode cX7_wish 59 = .ok (.if_icmp .ge 76, 3) := by decide +kernel
theorem dX7_wish_62 : decode cX7_wish 62 = .ok (.aload_n 0, 1) := by decide +kernel
theorem dX7_wish_63 : decode cX7_wish 63 = .ok (.invokevirtual 175, 3) := by decide +kernel
theorem dX7_wish_66 : decode cX7_wish 66 = .ok (.iload 6, 2) := by decide +kernel
theorem dX7_wish_68 : decode cX7_wish 68 = .ok (.invokevirtual 106, 3) := by decide +kernel
theorem dX7_wish_71 : decode cX7_wish 71 = .ok (.astore 7, 2) := by decide +kernel
theorem dX7_wish_73 : decode cX7_wish 73 = .ok (.aload 7, 2) := by decide +kernel
theorem dX7_wish_75 : decode cX7_wish 75 = .ok (.ifnull 54, 3) := by decide +kernel
theorem dX7_wish_78 : decode cX7_wish 78 = .ok (.aload 7, 2) := by decide +kernel
theorem dX7_wish_80 : decode cX7_wish 80 = .ok (.getfield 129, 3) := by decide +kernel
theorem dX7_wish_83 : decode cX7_wish 83 = .ok (.iload_n 1, 1) := by decide +kernel
theorem dX7_wish_84 : decode cX7_wish 84 = .ok (.if_icmp .ne 6, 3) := by decide +kernel
theorem dX7_wish_87 : decode cX7_wish 87 = .ok (.goto 42, 3) := by decide +kernel
theorem dX7_wish_90 : decode cX7_wish 90 = .ok (.aload 7, 2) := by decide +kernel
theorem dX7_wish_92 : decode cX7_wish 92 = .ok (.iconst 0, 1) := by decide +kernel
theorem dX7_wish_93 : decode cX7_wish 93 = .ok (.putfield 132, 3) := by decide +kernel
theorem dX7_wish_96 : decode cX7_wish 96 = .ok (.aload_n 0, 1) := by decide +kernel
theorem dX7_wish_97 : decode cX7_wish 97 = .ok (.getfield 77, 3) := by decide +kernel
theorem dX7_wish_100 : decode cX7_wish 100 = .ok (.iload_n 2, 1) := by decide +kernel
theorem dX7_wish_101 : decode cX7_wish 101 = .ok (.invokevirtual 179, 3) := by decide +kernel
theorem dX7_wish_104 : decode cX7_wish 104 = .ok (.aload_n 0, 1) := by decide +kernel
theorem dX7_wish_105 : decode cX7_wish 105 = .ok (.getfield 77, 3) := by decide +kernel
theorem dX7_wish_108 : decode cX7_wish 108 = .ok (.iload_n 1, 1) := by decide +kernel
theorem dX7_wish_109 : decode cX7_wish 109 = .ok (.invokevirtual 204, 3) := by decide +kernel
theorem dX7_wish_112 : decode cX7_wish 112 = .ok (.istore 8, 2) := by decide +kernel
theorem dX7_wish_114 : decode cX7_wish 114 = .ok (.iload 8, 2) := by decide +kernel
theorem dX7_wish_116 : decode cX7_wish 116 = .ok (.iload 4, 2) := by decide +kernel
theorem dX7_wish_118 : decode cX7_wish 118 = .ok (.if_icmp .le 11, 3) := by decide +kernel
theorem dX7_wish_121 : decode cX7_wish 121 = .ok (.iload 8, 2) := by decide +kernel
theorem dX7_wish_123 : decode cX7_wish 123 = .ok (.istore 4, 2) := by decide +kernel
theorem dX7_wish_125 : decode cX7_wish 125 = .ok (.iload 6, 2) := by decide +kernel
theorem dX7_wish_127 : decode cX7_wish 127 = .ok (.istore 5, 2) := by decide +kernel
theorem dX7_wish_129 : decode cX7_wish 129 = .ok (.iinc 6 1, 3) := by decide +kernel
theorem dX7_wish_132 : decode cX7_wish 132 = .ok (.goto (-82), 3) := by decide +kernel
theorem dX7_wish_135 : decode cX7_wish 135 = .ok (.iload_n 3, 1) := by decide +kernel
theorem dX7_wish_136 : decode cX7_wish 136 = .ok (.ifCond .ne 8, 3) := by decide +kernel
theorem dX7_wish_139 : decode cX7_wish 139 = .ok (.iload 5, 2) := by decide +kernel
theorem dX7_wish_141 : decode cX7_wish 141 = .ok (.goto 5, 3) := by decide +kernel
theorem dX7_wish_144 : decode cX7_wish 144 = .ok (.iload 4, 2) := by decide +kernel
theorem dX7_wish_146 : decode cX7_wish 146 = .ok (.ireturn, 1) := by decide +kernel
theorem dX7_game_0 : decode cX7_game 0 = .ok (.iload_n 1, 1) := by decide +kernel
theorem dX7_game_1 : decode cX7_game 1 = .ok (.iconst 1, 1) := by decide +kernel
theorem dX7_game_2 : decode cX7_game 2 = .ok (.if_icmp .lt 15, 3) := by decide +kernel
theorem dX7_game_5 : decode cX7_game 5 = .ok (.iload_n 1, 1) := by decide +kernel
theorem dX7_game_6 : decode cX7_game 6 = .ok (.iconst 3, 1) := by decide +kernel
theorem dX7_game_7 : decode cX7_game 7 = .ok (.if_icmp .gt 10, 3) := by decide +kernel
theorem dX7_game_10 : decode cX7_game 10 = .ok (.iload_n 2, 1) := by decide +kernel
theorem dX7_game_11 : decode cX7_game 11 = .ok (.invokestatic 213, 3) := by decide +kernel
theorem dX7_game_14 : decode cX7_game 14 = .ok (.ifCond .ne 6, 3) := by decide +kernel
theorem dX7_game_17 : decode cX7_game 17 = .ok (.ldc 174, 2) := by decide +kernel
theorem dX7_game_19 : decode cX7_game 19 = .ok (.ireturn, 1) := by decide +kernel
theorem dX7_game_20 : decode cX7_game 20 = .ok (.aload_n 0, 1) := by decide +kernel
theorem dX7_game_21 : decode cX7_game 21 = .ok (.invokevirtual 175, 3) := by decide +kernel
theorem dX7_game_24 : decode cX7_game 24 = .ok (.pop, 1) := by decide +kernel
theorem dX7_game_25 : decode cX7_game 25 = .ok (.aload_n 0, 1) := by decide +kernel
theorem dX7_game_26 : decode cX7_game 26 = .ok (.getfield 88, 3) := by decide +kernel
theorem dX7_game_29 : decode cX7_game 29 = .ok (.iload_n 1, 1) := by decide +kernel
theorem dX7_game_30 : decode cX7_game 30 = .ok (.sipush (-1000), 3) := by decide +kernel
theorem dX7_game_33 : decode cX7_game 33 = .ok (.sipush 1000, 3) := by decide +kernel
theorem dX7_game_36 : decode cX7_game 36 = .ok (.invokevirtual 217, 3) := by decide +kernel
theorem dX7_game_39 : decode cX7_game 39 = .ok (.istore_n 3, 1) := by decide +kernel
theorem dX7_game_40 : decode cX7_game 40 = .ok (.iload_n 2, 1) := by decide +kernel
theorem dX7_game_41 : decode cX7_game 41 = .ok (.ifCond .ne 7, 3) := by decide +kernel
theorem dX7_game_44 : decode cX7_game 44 = .ok (.iload_n 3, 1) := by decide +kernel
theorem dX7_game_45 : decode cX7_game 45 = .ok (.goto 10, 3) := by decide +kernel
theorem dX7_game_48 : decode cX7_game 48 = .ok (.aload_n 0, 1) := by decide +kernel
theorem dX7_game_49 : decode cX7_game 49 = .ok (.getfield 88, 3) := by decide +kernel
theorem dX7_game_52 : decode cX7_game 52 = .ok (.getfield 220, 3) := by decide +kernel
theorem dX7_game_55 : decode cX7_game 55 = .ok (.ireturn, 1) := by decide +kernel
theorem dX7_isAnswer_0 : decode cX7_isAnswer 0 = .ok (.iload_n 0, 1) := by decide +kernel
theorem dX7_isAnswer_1 : decode cX7_isAnswer 1 = .ok (.ifCond .eq 8, 3) := by decide +kernel
theorem dX7_isAnswer_4 : decode cX7_isAnswer 4 = .ok (.iload_n 0, 1) := by decide +kernel
theorem dX7_isAnswer_5 : decode cX7_isAnswer 5 = .ok (.iconst 1, 1) := by decide +kernel
theorem dX7_isAnswer_6 : decode cX7_isAnswer 6 = .ok (.if_icmp .ne 7, 3) := by decide +kernel
theorem dX7_isAnswer_9 : decode cX7_isAnswer 9 = .ok (.iconst 1, 1) := by decide +kernel
theorem dX7_isAnswer_10 : decode cX7_isAnswer 10 = .ok (.goto 4, 3) := by decide +kernel
theorem dX7_isAnswer_13 : decode cX7_isAnswer 13 = .ok (.iconst 0, 1) := by decide +kernel
theorem dX7_isAnswer_14 : decode cX7_isAnswer 14 = .ok (.ireturn, 1) := by decide +kernel
theorem dX7_tells_0 : decode cX7_tells 0 = .ok (.aload_n 0, 1) := by decide +kernel
theorem dX7_tells_1 : decode cX7_tells 1 = .ok (.iload_n 1, 1) := by decide +kernel
theorem dX7_tells_2 : decode cX7_tells 2 = .ok (.invokevirtual 185, 3) := by decide +kernel
theorem dX7_tells_5 : decode cX7_tells 5 = .ok (.astore 4, 2) := by decide +kernel
theorem dX7_tells_7 : decode cX7_tells 7 = .ok (.aload_n 0, 1) := by decide +kernel
theorem dX7_tells_8 : decode cX7_tells 8 = .ok (.invokevirtual 175, 3) := by decide +kernel
theorem dX7_tells_11 : decode cX7_tells 11 = .ok (.iload_n 2, 1) := by decide +kernel
theorem dX7_tells_12 : decode cX7_tells 12 = .ok (.invokevirtual 106, 3) := by decide +kernel
theorem dX7_tells_15 : decode cX7_tells 15 = .ok (.astore 5, 2) := by decide +kernel
theorem dX7_tells_17 : decode cX7_tells 17 = .ok (.aload 4, 2) := by decide +kernel
theorem dX7_tells_19 : decode cX7_tells 19 = .ok (.ifnull 17, 3) := by decide +kernel
theorem dX7_tells_22 : decode cX7_tells 22 = .ok (.aload 5, 2) := by decide +kernel
theorem dX7_tells_24 : decode cX7_tells 24 = .ok (.ifnull 12, 3) := by decide +kernel
theorem dX7_tells_27 : decode cX7_tells 27 = .ok (.iload_n 3, 1) := by decide +kernel
theorem dX7_tells_28 : decode cX7_tells 28 = .ok (.ifCond .lt 8, 3) := by decide +kernel
theorem dX7_tells_31 : decode cX7_tells 31 = .ok (.iload_n 3, 1) := by decide +kernel
theorem dX7_tells_32 : decode cX7_tells 32 = .ok (.iconst 5, 1) := by decide +kernel
theorem dX7_tells_33 : decode cX7_tells 33 = .ok (.if_icmp .le 6, 3) := by decide +kernel
theorem dX7_tells_36 : decode cX7_tells 36 = .ok (.bipush (-2), 2) := by decide +kernel
theorem dX7_tells_38 : decode cX7_tells 38 = .ok (.ireturn, 1) := by decide +kernel
theorem dX7_tells_39 : decode cX7_tells 39 = .ok (.aload 4, 2) := by decide +kernel
theorem dX7_tells_41 : decode cX7_tells 41 = .ok (.invokevirtual 189, 3) := by decide +kernel
theorem dX7_tells_44 : decode cX7_tells 44 = .ok (.ifCond .eq 6, 3) := by decide +kernel
theorem dX7_tells_47 : decode cX7_tells 47 = .ok (.bipush (-11), 2) := by decide +kernel
theorem dX7_tells_49 : decode cX7_tells 49 = .ok (.ireturn, 1) := by decide +kernel
theorem dX7_tells_50 : decode cX7_tells 50 = .ok (.iload_n 3, 1) := by decide +kernel
theorem dX7_tells_51 : decode cX7_tells 51 = .ok (.ifCond .ne 12, 3) := by decide +kernel
theorem dX7_tells_54 : decode cX7_tells 54 = .ok (.aload_n 0, 1) := by decide +kernel
theorem dX7_tells_55 : decode cX7_tells 55 = .ok (.aload 4, 2) := by decide +kernel
theorem dX7_tells_57 : decode cX7_tells 57 = .ok (.aload 5, 2) := by decide +kernel
theorem dX7_tells_59 : decode cX7_tells 59 = .ok (.invokevirtual 223, 3) := by decide +kernel
theorem dX7_tells_62 : decode cX7_tells 62 = .ok (.ireturn, 1) := by decide +kernel
theorem dX7_tells_63 : decode cX7_tells 63 = .ok (.iconst 0, 1) := by decide +kernel
theorem dX7_tells_64 : decode cX7_tells 64 = .ok (.istore 6, 2) := by decide +kernel
theorem dX7_tells_66 : decode cX7_tells 66 = .ok (.aload_n 0, 1) := by decide +kernel
theorem dX7_tells_67 : decode cX7_tells 67 = .ok (.iload_n 3, 1) := by decide +kernel
theorem dX7_tells_68 : decode cX7_tells 68 = .ok (.invokevirtual 227, 3) := by decide +kernel
theorem dX7_tells_71 : decode cX7_tells 71 = .ok (.istore 7, 2) := by decide +kernel
theorem dX7_tells_73 : decode cX7_tells 73 = .ok (.iconst 0, 1) := by decide +kernel
theorem dX7_tells_74 : decode cX7_tells 74 = .ok (.istore 8, 2) := by decide +kernel
theorem dX7_tells_76 : decode cX7_tells 76 = .ok (.iload 8, 2) := by decide +kernel
theorem dX7_tells_78 : decode cX7_tells 78 = .ok (.iload 7, 2) := by decide +kernel
theorem dX7_tells_80 : decode cX7_tells 80 = .ok (.if_icmp .ge 44, 3) := by decide +kernel
theorem dX7_tells_83 : decode cX7_tells 83 = .ok (.aload_n 0, 1) := by decide +kernel
theorem dX7_tells_84 : decode cX7_tells 84 = .ok (.invokevirtual 175, 3) := by decide +kernel
theorem dX7_tells_87 : decode cX7_tells 87 = .ok (.pop, 1) := by decide +kernel
theorem dX7_tells_88 : decode cX7_tells 88 = .ok (.aload_n 0, 1) := by decide +kernel
theorem dX7_tells_89 : decode cX7_tells 89 = .ok (.aload 5, 2) := by decide +kernel
theorem dX7_tells_91 : decode cX7_tells 91 = .ok (.iload_n 3, 1) := by decide +kernel
theorem dX7_tells_92 : decode cX7_tells 92 = .ok (.iload 8, 2) := by decide +kernel
theorem dX7_tells_94 : decode cX7_tells 94 = .ok (.invokevirtual 230, 3) := by decide +kernel
theorem dX7_tells_97 : decode cX7_tells 97 = .ok (.aload_n 0, 1) := by decide +kernel
theorem dX7_tells_98 : decode cX7_tells 98 = .ok (.aload 4, 2) := by decide +kernel
theorem dX7_tells_100 : decode cX7_tells 100 = .ok (.aload 5, 2) := by decide +kernel
theorem dX7_tells_102 : decode cX7_tells 102 = .ok (.invokevirtual 223, 3) := by decide +kernel
theorem dX7_tells_105 : decode cX7_tells 105 = .ok (.iconst (-1), 1) := by decide +kernel
theorem dX7_tells_106 : decode cX7_tells 106 = .ok (.if_icmp .ne 12, 3) := by decide +kernel
theorem dX7_tells_109 : decode cX7_tells 109 = .ok (.iload 6, 2) := by decide +kernel
theorem dX7_tells_111 : decode cX7_tells 111 = .ok (.iconst 1, 1) := by decide +kernel
theorem dX7_tells_112 : decode cX7_tells 112 = .ok (.iload 8, 2) := by decide +kernel
theorem dX7_tells_114 : decode cX7_tells 114 = .ok (.ishl, 1) := by decide +kernel
theorem dX7_tells_115 : decode cX7_tells 115 = .ok (.ior, 1) := by decide +kernel
theorem dX7_tells_116 : decode cX7_tells 116 = .ok (.istore 6, 2) := by decide +kernel
theorem dX7_tells_118 : decode cX7_tells 118 = .ok (.iinc 8 1, 3) := by decide +kernel
theorem dX7_tells_121 : decode cX7_tells 121 = .ok (.goto (-45), 3) := by decide +kernel
theorem dX7_tells_124 : decode cX7_tells 124 = .ok (.iload 6, 2) := by decide +kernel
theorem dX7_tells_126 : decode cX7_tells 126 = .ok (.ireturn, 1) := by decide +kernel
theorem dX7_choicesOf_0 : decode cX7_choicesOf 0 = .ok (.iload_n 1, 1) := by decide +kernel
theorem dX7_choicesOf_1 : decode cX7_choicesOf 1 = .ok (.tableswitch 43 1 4 #[31, 34, 37, 40], 31) := by decide +kernel
theorem dX7_choicesOf_32 : decode cX7_choicesOf 32 = .ok (.bipush 6, 2) := by decide +kernel
theorem dX7_choicesOf_34 : decode cX7_choicesOf 34 = .ok (.ireturn, 1) := by decide +kernel
theorem dX7_choicesOf_35 : decode cX7_choicesOf 35 = .ok (.bipush 10, 2) := by decide +kernel
theorem dX7_choicesOf_37 : decode cX7_choicesOf 37 = .ok (.ireturn, 1) := by decide +kernel
theorem dX7_choicesOf_38 : decode cX7_choicesOf 38 = .ok (.bipush 10, 2) := by decide +kernel
theorem dX7_choicesOf_40 : decode cX7_choicesOf 40 = .ok (.ireturn, 1) := by decide +kernel
theorem dX7_choicesOf_41 : decode cX7_choicesOf 41 = .ok (.bipush 16, 2) := by decide +kernel
theorem dX7_choicesOf_43 : decode cX7_choicesOf 43 = .ok (.ireturn, 1) := by decide +kernel
theorem dX7_choicesOf_44 : decode cX7_choicesOf 44 = .ok (.aload_n 0, 1) := by decide +kernel
theorem dX7_choicesOf_45 : decode cX7_choicesOf 45 = .ok (.getfield 64, 3) := by decide +kernel
theorem dX7_choicesOf_48 : decode cX7_choicesOf 48 = .ok (.ireturn, 1) := by decide +kernel
theorem dX7_suppose_0 : decode cX7_suppose 0 = .ok (.iload_n 2, 1) := by decide +kernel
theorem dX7_suppose_1 : decode cX7_suppose 1 = .ok (.tableswitch 66 1 4 #[31, 39, 47, 58], 31) := by decide +kernel
theorem dX7_suppose_32 : decode cX7_suppose 32 = .ok (.aload_n 1, 1) := by decide +kernel
theorem dX7_suppose_33 : decode cX7_suppose 33 = .ok (.iload_n 3, 1) := by decide +kernel
theorem dX7_suppose_34 : decode cX7_suppose 34 = .ok (.putfield 135, 3) := by decide +kernel
theorem dX7_suppose_37 : decode cX7_suppose 37 = .ok (.goto 53, 3) := by decide +kernel
theorem dX7_suppose_40 : decode cX7_suppose 40 = .ok (.aload_n 1, 1) := by decide +kernel
theorem dX7_suppose_41 : decode cX7_suppose 41 = .ok (.iload_n 3, 1) := by decide +kernel
theorem dX7_suppose_42 : decode cX7_suppose 42 = .ok (.putfield 121, 3) := by decide +kernel
theorem dX7_suppose_45 : decode cX7_suppose 45 = .ok (.goto 45, 3) := by decide +kernel
theorem dX7_suppose_48 : decode cX7_suppose 48 = .ok (.aload_n 0, 1) := by decide +kernel
theorem dX7_suppose_49 : decode cX7_suppose 49 = .ok (.getfield 77, 3) := by decide +kernel
theorem dX7_suppose_52 : decode cX7_suppose 52 = .ok (.iload_n 3, 1) := by decide +kernel
theorem dX7_suppose_53 : decode cX7_suppose 53 = .ok (.putfield 100, 3) := by decide +kernel
theorem dX7_suppose_56 : decode cX7_suppose 56 = .ok (.goto 34, 3) := by decide +kernel
theorem dX7_suppose_59 : decode cX7_suppose 59 = .ok (.aload_n 1, 1) := by decide +kernel
theorem dX7_suppose_60 : decode cX7_suppose 60 = .ok (.iload_n 3, 1) := by decide +kernel
theorem dX7_suppose_61 : decode cX7_suppose 61 = .ok (.putfield 126, 3) := by decide +kernel
theorem dX7_suppose_64 : decode cX7_suppose 64 = .ok (.goto 26, 3) := by decide +kernel
theorem dX7_suppose_67 : decode cX7_suppose 67 = .ok (.iload_n 3, 1) := by decide +kernel
theorem dX7_suppose_68 : decode cX7_suppose 68 = .ok (.ifCond .lt 22, 3) := by decide +kernel
theorem dX7_suppose_71 : decode cX7_suppose 71 = .ok (.iload_n 3, 1) := by decide +kernel
theorem dX7_suppose_72 : decode cX7_suppose 72 = .ok (.bipush 6, 2) := by decide +kernel
theorem dX7_suppose_74 : decode cX7_suppose 74 = .ok (.if_icmp .ge 16, 3) := by decide +kernel
theorem dX7_suppose_77 : decode cX7_suppose 77 = .ok (.aload_n 0, 1) := by decide +kernel
theorem dX7_suppose_78 : decode cX7_suppose 78 = .ok (.getfield 77, 3) := by decide +kernel
theorem dX7_suppose_81 : decode cX7_suppose 81 = .ok (.aload_n 0, 1) := by decide +kernel
theorem dX7_suppose_82 : decode cX7_suppose 82 = .ok (.getfield 27, 3) := by decide +kernel
theorem dX7_suppose_85 : decode cX7_suppose 85 = .ok (.iload_n 3, 1) := by decide +kernel
theorem dX7_suppose_86 : decode cX7_suppose 86 = .ok (.aaload, 1) := by decide +kernel
theorem dX7_suppose_87 : decode cX7_suppose 87 = .ok (.putfield 151, 3) := by decide +kernel
theorem dX7_suppose_90 : decode cX7_suppose 90 = .ok (.return_, 1) := by decide +kernel
theorem dX7_firstOther_0 : decode cX7_firstOther 0 = .ok (.iconst 0, 1) := by decide +kernel
theorem dX7_firstOther_1 : decode cX7_firstOther 1 = .ok (.istore_n 3, 1) := by decide +kernel
theorem dX7_firstOther_2 : decode cX7_firstOther 2 = .ok (.iload_n 3, 1) := by decide +kernel
theorem dX7_firstOther_3 : decode cX7_firstOther 3 = .ok (.aload_n 1, 1) := by decide +kernel
theorem dX7_firstOther_4 : decode cX7_firstOther 4 = .ok (.getfield 197, 3) := by decide +kernel
theorem dX7_firstOther_7 : decode cX7_firstOther 7 = .ok (.if_icmp .ge 30, 3) := by decide +kernel
theorem dX7_firstOther_10 : decode cX7_firstOther 10 = .ok (.aload_n 0, 1) := by decide +kernel
theorem dX7_firstOther_11 : decode cX7_firstOther 11 = .ok (.getfield 77, 3) := by decide +kernel
theorem dX7_firstOther_14 : decode cX7_firstOther 14 = .ok (.invokevirtual 158, 3) := by decide +kernel
theorem dX7_firstOther_17 : decode cX7_firstOther 17 = .ok (.aload_n 2, 1) := by decide +kernel
theorem dX7_firstOther_18 : decode cX7_firstOther 18 = .ok (.getfield 132, 3) := by decide +kernel
theorem dX7_firstOther_21 : decode cX7_firstOther 21 = .ok (.aload_n 1, 1) := by decide +kernel
theorem dX7_firstOther_22 : decode cX7_firstOther 22 = .ok (.iload_n 3, 1) := by decide +kernel
theorem dX7_firstOther_23 : decode cX7_firstOther 23 = .ok (.invokevirtual 198, 3) := by decide +kernel
theorem dX7_firstOther_26 : decode cX7_firstOther 26 = .ok (.if_icmp .eq 5, 3) := by decide +kernel
theorem dX7_firstOther_29 : decode cX7_firstOther 29 = .ok (.iload_n 3, 1) := by decide +kernel
theorem dX7_firstOther_30 : decode cX7_firstOther 30 = .ok (.ireturn, 1) := by decide +kernel
theorem dX7_firstOther_31 : decode cX7_firstOther 31 = .ok (.iinc 3 1, 3) := by decide +kernel
theorem dX7_firstOther_34 : decode cX7_firstOther 34 = .ok (.goto (-32), 3) := by decide +kernel
theorem dX7_firstOther_37 : decode cX7_firstOther 37 = .ok (.iconst (-1), 1) := by decide +kernel
theorem dX7_firstOther_38 : decode cX7_firstOther 38 = .ok (.ireturn, 1) := by decide +kernel
theorem dX7_film_0 : decode cX7_film 0 = .ok (.aload_n 0, 1) := by decide +kernel
theorem dX7_film_1 : decode cX7_film 1 = .ok (.iload_n 1, 1) := by decide +kernel
theorem dX7_film_2 : decode cX7_film 2 = .ok (.invokevirtual 185, 3) := by decide +kernel
theorem dX7_film_5 : decode cX7_film 5 = .ok (.astore 4, 2) := by decide +kernel
theorem dX7_film_7 : decode cX7_film 7 = .ok (.aload_n 0, 1) := by decide +kernel
theorem dX7_film_8 : decode cX7_film 8 = .ok (.invokevirtual 175, 3) := by decide +kernel
theorem dX7_film_11 : decode cX7_film 11 = .ok (.iload_n 2, 1) := by decide +kernel
theorem dX7_film_12 : decode cX7_film 12 = .ok (.invokevirtual 106, 3) := by decide +kernel
theorem dX7_film_15 : decode cX7_film 15 = .ok (.astore 5, 2) := by decide +kernel
theorem dX7_film_17 : decode cX7_film 17 = .ok (.aload 4, 2) := by decide +kernel
theorem dX7_film_19 : decode cX7_film 19 = .ok (.ifnull 15, 3) := by decide +kernel
theorem dX7_film_22 : decode cX7_film 22 = .ok (.aload 5, 2) := by decide +kernel
theorem dX7_film_24 : decode cX7_film 24 = .ok (.ifnull 10, 3) := by decide +kernel
theorem dX7_film_27 : decode cX7_film 27 = .ok (.iload_n 3, 1) := by decide +kernel
theorem dX7_film_28 : decode cX7_film 28 = .ok (.invokestatic 168, 3) := by decide +kernel
theorem dX7_film_31 : decode cX7_film 31 = .ok (.ifCond .ne 6, 3) := by decide +kernel
theorem dX7_film_34 : decode cX7_film 34 = .ok (.bipush (-2), 2) := by decide +kernel
theorem dX7_film_36 : decode cX7_film 36 = .ok (.ireturn, 1) := by decide +kernel
theorem dX7_film_37 : decode cX7_film 37 = .ok (.aload 4, 2) := by decide +kernel
theorem dX7_film_39 : decode cX7_film 39 = .ok (.iconst 0, 1) := by decide +kernel
theorem dX7_film_40 : decode cX7_film 40 = .ok (.iload_n 3, 1) := by decide +kernel
theorem dX7_film_41 : decode cX7_film 41 = .ok (.invokevirtual 233, 3) := by decide +kernel
theorem dX7_film_44 : decode cX7_film 44 = .ok (.iconst 0, 1) := by decide +kernel
theorem dX7_film_45 : decode cX7_film 45 = .ok (.istore 6, 2) := by decide +kernel
theorem dX7_film_47 : decode cX7_film 47 = .ok (.iload 6, 2) := by decide +kernel
theorem dX7_film_49 : decode cX7_film 49 = .ok (.iload_n 3, 1) := by decide +kernel
theorem dX7_film_50 : decode cX7_film 50 = .ok (.if_icmp .ge 29, 3) := by decide +kernel
theorem dX7_film_53 : decode cX7_film 53 = .ok (.aload_n 0, 1) := by decide +kernel
theorem dX7_film_54 : decode cX7_film 54 = .ok (.getfield 77, 3) := by decide +kernel
theorem dX7_film_57 : decode cX7_film 57 = .ok (.invokevirtual 158, 3) := by decide +kernel
theorem dX7_film_60 : decode cX7_film 60 = .ok (.aload 4, 2) := by decide +kernel
theorem dX7_film_62 : decode cX7_film 62 = .ok (.iload 6, 2) := by decide +kernel
theorem dX7_film_64 : decode cX7_film 64 = .ok (.aload 5, 2) := by decide +kernel
theorem dX7_film_66 : decode cX7_film 66 = .ok (.getfield 132, 3) := by decide +kernel
theorem dX7_film_69 : decode cX7_film 69 = .ok (.invokevirtual 237, 3) := by decide +kernel
theorem dX7_film_72 : decode cX7_film 72 = .ok (.pop, 1) := by decide +kernel
theorem dX7_film_73 : decode cX7_film 73 = .ok (.iinc 6 1, 3) := by decide +kernel
theorem dX7_film_76 : decode cX7_film 76 = .ok (.goto (-29), 3) := by decide +kernel
theorem dX7_film_79 : decode cX7_film 79 = .ok (.iload_n 3, 1) := by decide +kernel
theorem dX7_film_80 : decode cX7_film 80 = .ok (.ireturn, 1) := by decide +kernel
theorem dX7_drawn_0 : decode cX7_drawn 0 = .ok (.iload_n 2, 1) := by decide +kernel
theorem dX7_drawn_1 : decode cX7_drawn 1 = .ok (.invokestatic 168, 3) := by decide +kernel
theorem dX7_drawn_4 : decode cX7_drawn 4 = .ok (.ifCond .ne 6, 3) := by decide +kernel
theorem dX7_drawn_7 : decode cX7_drawn 7 = .ok (.bipush (-2), 2) := by decide +kernel
theorem dX7_drawn_9 : decode cX7_drawn 9 = .ok (.ireturn, 1) := by decide +kernel
theorem dX7_drawn_10 : decode cX7_drawn 10 = .ok (.aload_n 0, 1) := by decide +kernel
theorem dX7_drawn_11 : decode cX7_drawn 11 = .ok (.iload_n 1, 1) := by decide +kernel
theorem dX7_drawn_12 : decode cX7_drawn 12 = .ok (.iload_n 2, 1) := by decide +kernel
theorem dX7_drawn_13 : decode cX7_drawn 13 = .ok (.invokevirtual 241, 3) := by decide +kernel
theorem dX7_drawn_16 : decode cX7_drawn 16 = .ok (.aload_n 0, 1) := by decide +kernel
theorem dX7_drawn_17 : decode cX7_drawn 17 = .ok (.getfield 77, 3) := by decide +kernel
theorem dX7_drawn_20 : decode cX7_drawn 20 = .ok (.invokevirtual 161, 3) := by decide +kernel
theorem dX7_drawn_23 : decode cX7_drawn 23 = .ok (.ireturn, 1) := by decide +kernel
theorem dX7_chance_0 : decode cX7_chance 0 = .ok (.iload_n 2, 1) := by decide +kernel
theorem dX7_chance_1 : decode cX7_chance 1 = .ok (.iconst 1, 1) := by decide +kernel
theorem dX7_chance_2 : decode cX7_chance 2 = .ok (.if_icmp .lt 24, 3) := by decide +kernel
theorem dX7_chance_5 : decode cX7_chance 5 = .ok (.iload_n 2, 1) := by decide +kernel
theorem dX7_chance_6 : decode cX7_chance 6 = .ok (.bipush 20, 2) := by decide +kernel
theorem dX7_chance_8 : decode cX7_chance 8 = .ok (.if_icmp .gt 18, 3) := by decide +kernel
theorem dX7_chance_11 : decode cX7_chance 11 = .ok (.iload_n 3, 1) := by decide +kernel
theorem dX7_chance_12 : decode cX7_chance 12 = .ok (.invokestatic 168, 3) := by decide +kernel
theorem dX7_chance_15 : decode cX7_chance 15 = .ok (.ifCond .eq 11, 3) := by decide +kernel
theorem dX7_chance_18 : decode cX7_chance 18 = .ok (.iload 4, 2) := by decide +kernel
theorem dX7_chance_20 : decode cX7_chance 20 = .ok (.invokestatic 213, 3) := by decide +kernel
theorem dX7_chance_23 : decode cX7_chance 23 = .ok (.ifCond .ne 7, 3) := by decide +kernel
theorem dX7_chance_26 : decode cX7_chance 26 = .ok (.ldc2_w 244, 3) := by decide +kernel
theorem dX7_chance_29 : decode cX7_chance 29 = .ok (.lreturn, 1) := by decide +kernel
theorem dX7_chance_30 : decode cX7_chance 30 = .ok (.iconst 0, 1) := by decide +kernel
theorem dX7_chance_31 : decode cX7_chance 31 = .ok (.istore 5, 2) := by decide +kernel
theorem dX7_chance_33 : decode cX7_chance 33 = .ok (.iconst 0, 1) := by decide +kernel
theorem dX7_chance_34 : decode cX7_chance 34 = .ok (.istore 6, 2) := by decide +kernel
theorem dX7_chance_36 : decode cX7_chance 36 = .ok (.iload 6, 2) := by decide +kernel
theorem dX7_chance_38 : decode cX7_chance 38 = .ok (.iload_n 2, 1) := by decide +kernel
theorem dX7_chance_39 : decode cX7_chance 39 = .ok (.if_icmp .ge 31, 3) := by decide +kernel
theorem dX7_chance_42 : decode cX7_chance 42 = .ok (.aload_n 0, 1) := by decide +kernel
theorem dX7_chance_43 : decode cX7_chance 43 = .ok (.iload_n 1, 1) := by decide +kernel
theorem dX7_chance_44 : decode cX7_chance 44 = .ok (.iload 6, 2) := by decide +kernel
theorem dX7_chance_46 : decode cX7_chance 46 = .ok (.iadd, 1) := by decide +kernel
theorem dX7_chance_47 : decode cX7_chance 47 = .ok (.iload_n 3, 1) := by decide +kernel
theorem dX7_chance_48 : decode cX7_chance 48 = .ok (.invokevirtual 241, 3) := by decide +kernel
theorem dX7_chance_51 : decode cX7_chance 51 = .ok (.aload_n 0, 1) := by decide +kernel
theorem dX7_chance_52 : decode cX7_chance 52 = .ok (.getfield 77, 3) := by decide +kernel
theorem dX7_chance_55 : decode cX7_chance 55 = .ok (.invokevirtual 201, 3) := by decide +kernel
theorem dX7_chance_58 : decode cX7_chance 58 = .ok (.ifCond .ne 6, 3) := by decide +kernel
theorem dX7_chance_61 : decode cX7_chance 61 = .ok (.iinc 5 1, 3) := by decide +kernel
theorem dX7_chance_64 : decode cX7_chance 64 = .ok (.iinc 6 1, 3) := by decide +kernel
theorem dX7_chance_67 : decode cX7_chance 67 = .ok (.goto (-31), 3) := by decide +kernel
theorem dX7_chance_70 : decode cX7_chance 70 = .ok (.iload 5, 2) := by decide +kernel
theorem dX7_chance_72 : decode cX7_chance 72 = .ok (.iload_n 2, 1) := by decide +kernel
theorem dX7_chance_73 : decode cX7_chance 73 = .ok (.invokestatic 246, 3) := by decide +kernel
theorem dX7_chance_76 : decode cX7_chance 76 = .ok (.istore 6, 2) := by decide +kernel
theorem dX7_chance_78 : decode cX7_chance 78 = .ok (.iload 6, 2) := by decide +kernel
theorem dX7_chance_80 : decode cX7_chance 80 = .ok (.iconst 1, 1) := by decide +kernel
theorem dX7_chance_81 : decode cX7_chance 81 = .ok (.if_icmp .ge 7, 3) := by decide +kernel
theorem dX7_chance_84 : decode cX7_chance 84 = .ok (.ldc2_w 244, 3) := by decide +kernel
theorem dX7_chance_87 : decode cX7_chance 87 = .ok (.lreturn, 1) := by decide +kernel
theorem dX7_chance_88 : decode cX7_chance 88 = .ok (.iload 4, 2) := by decide +kernel
theorem dX7_chance_90 : decode cX7_chance 90 = .ok (.ifCond .ne 12, 3) := by decide +kernel
theorem dX7_chance_93 : decode cX7_chance 93 = .ok (.iload 5, 2) := by decide +kernel
theorem dX7_chance_95 : decode cX7_chance 95 = .ok (.iload 6, 2) := by decide +kernel
theorem dX7_chance_97 : decode cX7_chance 97 = .ok (.idiv, 1) := by decide +kernel
theorem dX7_chance_98 : decode cX7_chance 98 = .ok (.i2l, 1) := by decide +kernel
theorem dX7_chance_99 : decode cX7_chance 99 = .ok (.goto 8, 3) := by decide +kernel
theorem dX7_chance_102 : decode cX7_chance 102 = .ok (.iload_n 2, 1) := by decide +kernel
theorem dX7_chance_103 : decode cX7_chance 103 = .ok (.iload 6, 2) := by decide +kernel
theorem dX7_chance_105 : decode cX7_chance 105 = .ok (.idiv, 1) := by decide +kernel
theorem dX7_chance_106 : decode cX7_chance 106 = .ok (.i2l, 1) := by decide +kernel
theorem dX7_chance_107 : decode cX7_chance 107 = .ok (.lreturn, 1) := by decide +kernel
theorem dX7_passDrawn_0 : decode cX7_passDrawn 0 = .ok (.aload_n 0, 1) := by decide +kernel
theorem dX7_passDrawn_1 : decode cX7_passDrawn 1 = .ok (.invokevirtual 175, 3) := by decide +kernel
theorem dX7_passDrawn_4 : decode cX7_passDrawn 4 = .ok (.pop, 1) := by decide +kernel
theorem dX7_passDrawn_5 : decode cX7_passDrawn 5 = .ok (.iload_n 1, 1) := by decide +kernel
theorem dX7_passDrawn_6 : decode cX7_passDrawn 6 = .ok (.istore_n 3, 1) := by decide +kernel
theorem dX7_passDrawn_7 : decode cX7_passDrawn 7 = .ok (.iconst 0, 1) := by decide +kernel
theorem dX7_passDrawn_8 : decode cX7_passDrawn 8 = .ok (.istore 4, 2) := by decide +kernel
theorem dX7_passDrawn_10 : decode cX7_passDrawn 10 = .ok (.iload 4, 2) := by decide +kernel
theorem dX7_passDrawn_12 : decode cX7_passDrawn 12 = .ok (.iload_n 2, 1) := by decide +kernel
theorem dX7_passDrawn_13 : decode cX7_passDrawn 13 = .ok (.if_icmp .ge 39, 3) := by decide +kernel
theorem dX7_passDrawn_16 : decode cX7_passDrawn 16 = .ok (.iload_n 3, 1) := by decide +kernel
theorem dX7_passDrawn_17 : decode cX7_passDrawn 17 = .ok (.ldc 249, 2) := by decide +kernel
theorem dX7_passDrawn_19 : decode cX7_passDrawn 19 = .ok (.imul, 1) := by decide +kernel
theorem dX7_passDrawn_20 : decode cX7_passDrawn 20 = .ok (.sipush 12345, 3) := by decide +kernel
theorem dX7_passDrawn_23 : decode cX7_passDrawn 23 = .ok (.iadd, 1) := by decide +kernel
theorem dX7_passDrawn_24 : decode cX7_passDrawn 24 = .ok (.istore_n 3, 1) := by decide +kernel
theorem dX7_passDrawn_25 : decode cX7_passDrawn 25 = .ok (.aload_n 0, 1) := by decide +kernel
theorem dX7_passDrawn_26 : decode cX7_passDrawn 26 = .ok (.getfield 77, 3) := by decide +kernel
theorem dX7_passDrawn_29 : decode cX7_passDrawn 29 = .ok (.iload_n 3, 1) := by decide +kernel
theorem dX7_passDrawn_30 : decode cX7_passDrawn 30 = .ok (.bipush 9, 2) := by decide +kernel
theorem dX7_passDrawn_32 : decode cX7_passDrawn 32 = .ok (.iushr, 1) := by decide +kernel
theorem dX7_passDrawn_33 : decode cX7_passDrawn 33 = .ok (.bipush 10, 2) := by decide +kernel
theorem dX7_passDrawn_35 : decode cX7_passDrawn 35 = .ok (.irem, 1) := by decide +kernel
theorem dX7_passDrawn_36 : decode cX7_passDrawn 36 = .ok (.putfield 100, 3) := by decide +kernel
theorem dX7_passDrawn_39 : decode cX7_passDrawn 39 = .ok (.aload_n 0, 1) := by decide +kernel
theorem dX7_passDrawn_40 : decode cX7_passDrawn 40 = .ok (.getfield 77, 3) := by decide +kernel
theorem dX7_passDrawn_43 : decode cX7_passDrawn 43 = .ok (.invokevirtual 158, 3) := by decide +kernel
theorem dX7_passDrawn_46 : decode cX7_passDrawn 46 = .ok (.iinc 4 1, 3) := by decide +kernel
theorem dX7_passDrawn_49 : decode cX7_passDrawn 49 = .ok (.goto (-39), 3) := by decide +kernel
theorem dX7_passDrawn_52 : decode cX7_passDrawn 52 = .ok (.return_, 1) := by decide +kernel
theorem dX7_commonDivisor_0 : decode cX7_commonDivisor 0 = .ok (.iload_n 1, 1) := by decide +kernel
theorem dX7_commonDivisor_1 : decode cX7_commonDivisor 1 = .ok (.istore_n 2, 1) := by decide +kernel
theorem dX7_commonDivisor_2 : decode cX7_commonDivisor 2 = .ok (.iload_n 2, 1) := by decide +kernel
theorem dX7_commonDivisor_3 : decode cX7_commonDivisor 3 = .ok (.iconst 1, 1) := by decide +kernel
theorem dX7_commonDivisor_4 : decode cX7_commonDivisor 4 = .ok (.if_icmp .le 23, 3) := by decide +kernel
theorem dX7_commonDivisor_7 : decode cX7_commonDivisor 7 = .ok (.iload_n 0, 1) := by decide +kernel
theorem dX7_commonDivisor_8 : decode cX7_commonDivisor 8 = .ok (.iload_n 2, 1) := by decide +kernel
theorem dX7_commonDivisor_9 : decode cX7_commonDivisor 9 = .ok (.irem, 1) := by decide +kernel
theorem dX7_commonDivisor_10 : decode cX7_commonDivisor 10 = .ok (.ifCond .ne 11, 3) := by decide +kernel
theorem dX7_commonDivisor_13 : decode cX7_commonDivisor 13 = .ok (.iload_n 1, 1) := by decide +kernel
theorem dX7_commonDivisor_14 : decode cX7_commonDivisor 14 = .ok (.iload_n 2, 1) := by decide +kernel
theorem dX7_commonDivisor_15 : decode cX7_commonDivisor 15 = .ok (.irem, 1) := by decide +kernel
theorem dX7_commonDivisor_16 : decode cX7_commonDivisor 16 = .ok (.ifCond .ne 5, 3) := by decide +kernel
theorem dX7_commonDivisor_19 : decode cX7_commonDivisor 19 = .ok (.iload_n 2, 1) := by decide +kernel
theorem dX7_commonDivisor_20 : decode cX7_commonDivisor 20 = .ok (.ireturn, 1) := by decide +kernel
theorem dX7_commonDivisor_21 : decode cX7_commonDivisor 21 = .ok (.iinc 2 (-1), 3) := by decide +kernel
theorem dX7_commonDivisor_24 : decode cX7_commonDivisor 24 = .ok (.goto (-22), 3) := by decide +kernel
theorem dX7_commonDivisor_27 : decode cX7_commonDivisor 27 = .ok (.iconst 1, 1) := by decide +kernel
theorem dX7_commonDivisor_28 : decode cX7_commonDivisor 28 = .ok (.ireturn, 1) := by decide +kernel
theorem dX7_image_0 : decode cX7_image 0 = .ok (.aload_n 0, 1) := by decide +kernel
theorem dX7_image_1 : decode cX7_image 1 = .ok (.getfield 80, 3) := by decide +kernel
theorem dX7_image_4 : decode cX7_image 4 = .ok (.aload_n 0, 1) := by decide +kernel
theorem dX7_image_5 : decode cX7_image 5 = .ok (.getfield 73, 3) := by decide +kernel
theorem dX7_image_8 : decode cX7_image 8 = .ok (.invokevirtual 207, 3) := by decide +kernel
theorem dX7_image_11 : decode cX7_image 11 = .ok (.aload_n 0, 1) := by decide +kernel
theorem dX7_image_12 : decode cX7_image 12 = .ok (.iconst 1, 1) := by decide +kernel
theorem dX7_image_13 : decode cX7_image 13 = .ok (.putfield 250, 3) := by decide +kernel
theorem dX7_image_16 : decode cX7_image 16 = .ok (.aload_n 0, 1) := by decide +kernel
theorem dX7_image_17 : decode cX7_image 17 = .ok (.getfield 73, 3) := by decide +kernel
theorem dX7_image_20 : decode cX7_image 20 = .ok (.getfield 216, 3) := by decide +kernel
theorem dX7_image_23 : decode cX7_image 23 = .ok (.ireturn, 1) := by decide +kernel
theorem dX7_back_0 : decode cX7_back 0 = .ok (.aload_n 0, 1) := by decide +kernel
theorem dX7_back_1 : decode cX7_back 1 = .ok (.getfield 250, 3) := by decide +kernel
theorem dX7_back_4 : decode cX7_back 4 = .ok (.ifCond .ne 6, 3) := by decide +kernel
theorem dX7_back_7 : decode cX7_back 7 = .ok (.bipush (-3), 2) := by decide +kernel
theorem dX7_back_9 : decode cX7_back 9 = .ok (.ireturn, 1) := by decide +kernel
theorem dX7_back_10 : decode cX7_back 10 = .ok (.aload_n 0, 1) := by decide +kernel
theorem dX7_back_11 : decode cX7_back 11 = .ok (.getfield 73, 3) := by decide +kernel
theorem dX7_back_14 : decode cX7_back 14 = .ok (.aload_n 0, 1) := by decide +kernel
theorem dX7_back_15 : decode cX7_back 15 = .ok (.getfield 80, 3) := by decide +kernel
theorem dX7_back_18 : decode cX7_back 18 = .ok (.invokevirtual 207, 3) := by decide +kernel
theorem dX7_back_21 : decode cX7_back 21 = .ok (.aload_n 0, 1) := by decide +kernel
theorem dX7_back_22 : decode cX7_back 22 = .ok (.getfield 73, 3) := by decide +kernel
theorem dX7_back_25 : decode cX7_back 25 = .ok (.getfield 216, 3) := by decide +kernel
theorem dX7_back_28 : decode cX7_back 28 = .ok (.ireturn, 1) := by decide +kernel
theorem dX7_count_0 : decode cX7_count 0 = .ok (.iload_n 1, 1) := by decide +kernel
theorem dX7_count_1 : decode cX7_count 1 = .ok (.tableswitch 90 0 5 #[39, 47, 58, 66, 71, 79], 39) := by decide +kernel
theorem dX7_count_40 : decode cX7_count 40 = .ok (.aload_n 0, 1) := by decide +kernel
theorem dX7_count_41 : decode cX7_count 41 = .ok (.getfield 73, 3) := by decide +kernel
theorem dX7_count_44 : decode cX7_count 44 = .ok (.getfield 216, 3) := by decide +kernel
theorem dX7_count_47 : decode cX7_count 47 = .ok (.ireturn, 1) := by decide +kernel
theorem dX7_count_48 : decode cX7_count 48 = .ok (.aload_n 0, 1) := by decide +kernel
theorem dX7_count_49 : decode cX7_count 49 = .ok (.getfield 73, 3) := by decide +kernel
theorem dX7_count_52 : decode cX7_count 52 = .ok (.invokevirtual 161, 3) := by decide +kernel
theorem dX7_count_55 : decode cX7_count 55 = .ok (.invokestatic 254, 3) := by decide +kernel
theorem dX7_count_58 : decode cX7_count 58 = .ok (.ireturn, 1) := by decide +kernel
theorem dX7_count_59 : decode cX7_count 59 = .ok (.aload_n 0, 1) := by decide +kernel
theorem dX7_count_60 : decode cX7_count 60 = .ok (.getfield 73, 3) := by decide +kernel
theorem dX7_count_63 : decode cX7_count 63 = .ok (.getfield 103, 3) := by decide +kernel
theorem dX7_count_66 : decode cX7_count 66 = .ok (.ireturn, 1) := by decide +kernel
theorem dX7_count_67 : decode cX7_count 67 = .ok (.aload_n 0, 1) := by decide +kernel
theorem dX7_count_68 : decode cX7_count 68 = .ok (.getfield 64, 3) := by decide +kernel
theorem dX7_count_71 : decode cX7_count 71 = .ok (.ireturn, 1) := by decide +kernel
theorem dX7_count_72 : decode cX7_count 72 = .ok (.aload_n 0, 1) := by decide +kernel
theorem dX7_count_73 : decode cX7_count 73 = .ok (.getfield 10, 3) := by decide +kernel
theorem dX7_count_76 : decode cX7_count 76 = .ok (.getfield 148, 3) := by decide +kernel
theorem dX7_count_79 : decode cX7_count 79 = .ok (.ireturn, 1) := by decide +kernel
theorem dX7_count_80 : decode cX7_count 80 = .ok (.aload_n 0, 1) := by decide +kernel
theorem dX7_count_81 : decode cX7_count 81 = .ok (.getfield 73, 3) := by decide +kernel
theorem dX7_count_84 : decode cX7_count 84 = .ok (.getfield 151, 3) := by decide +kernel
theorem dX7_count_87 : decode cX7_count 87 = .ok (.getfield 155, 3) := by decide +kernel
theorem dX7_count_90 : decode cX7_count 90 = .ok (.ireturn, 1) := by decide +kernel
theorem dX7_count_91 : decode cX7_count 91 = .ok (.bipush (-2), 2) := by decide +kernel
theorem dX7_count_93 : decode cX7_count 93 = .ok (.ireturn, 1) := by decide +kernel
theorem dX7_sheet_0 : decode cX7_sheet 0 = .ok (.aload_n 0, 1) := by decide +kernel
theorem dX7_sheet_1 : decode cX7_sheet 1 = .ok (.iload_n 1, 1) := by decide +kernel
theorem dX7_sheet_2 : decode cX7_sheet 2 = .ok (.invokevirtual 185, 3) := by decide +kernel
theorem dX7_sheet_5 : decode cX7_sheet 5 = .ok (.astore 4, 2) := by decide +kernel
theorem dX7_sheet_7 : decode cX7_sheet 7 = .ok (.aload 4, 2) := by decide +kernel
theorem dX7_sheet_9 : decode cX7_sheet 9 = .ok (.ifnull 13, 3) := by decide +kernel
theorem dX7_sheet_12 : decode cX7_sheet 12 = .ok (.iload_n 2, 1) := by decide +kernel
theorem dX7_sheet_13 : decode cX7_sheet 13 = .ok (.iconst (-1), 1) := by decide +kernel
theorem dX7_sheet_14 : decode cX7_sheet 14 = .ok (.if_icmp .lt 8, 3) := by decide +kernel
theorem dX7_sheet_17 : decode cX7_sheet 17 = .ok (.iload_n 2, 1) := by decide +kernel
theorem dX7_sheet_18 : decode cX7_sheet 18 = .ok (.iconst 3, 1) := by decide +kernel
theorem dX7_sheet_19 : decode cX7_sheet 19 = .ok (.if_icmp .lt 6, 3) := by decide +kernel
theorem dX7_sheet_22 : decode cX7_sheet 22 = .ok (.bipush (-2), 2) := by decide +kernel
theorem dX7_sheet_24 : decode cX7_sheet 24 = .ok (.ireturn, 1) := by decide +kernel
theorem dX7_sheet_25 : decode cX7_sheet 25 = .ok (.iload_n 2, 1) := by decide +kernel
theorem dX7_sheet_26 : decode cX7_sheet 26 = .ok (.iconst (-1), 1) := by decide +kernel
theorem dX7_sheet_27 : decode cX7_sheet 27 = .ok (.if_icmp .ne 12, 3) := by decide +kernel
theorem dX7_sheet_30 : decode cX7_sheet 30 = .ok (.aload 4, 2) := by decide +kernel
theorem dX7_sheet_32 : decode cX7_sheet 32 = .ok (.iconst (-1), 1) := by decide +kernel
theorem dX7_sheet_33 : decode cX7_sheet 33 = .ok (.iconst 0, 1) := by decide +kernel
theorem dX7_sheet_34 : decode cX7_sheet 34 = .ok (.invokevirtual 233, 3) := by decide +kernel
theorem dX7_sheet_37 : decode cX7_sheet 37 = .ok (.iconst 1, 1) := by decide +kernel
theorem dX7_sheet_38 : decode cX7_sheet 38 = .ok (.ireturn, 1) := by decide +kernel
theorem dX7_sheet_39 : decode cX7_sheet 39 = .ok (.iload_n 3, 1) := by decide +kernel
theorem dX7_sheet_40 : decode cX7_sheet 40 = .ok (.bipush 40, 2) := by decide +kernel
theorem dX7_sheet_42 : decode cX7_sheet 42 = .ok (.if_icmp .le 6, 3) := by decide +kernel
theorem dX7_sheet_45 : decode cX7_sheet 45 = .ok (.bipush (-2), 2) := by decide +kernel
theorem dX7_sheet_47 : decode cX7_sheet 47 = .ok (.ireturn, 1) := by decide +kernel
theorem dX7_sheet_48 : decode cX7_sheet 48 = .ok (.iload_n 3, 1) := by decide +kernel
theorem dX7_sheet_49 : decode cX7_sheet 49 = .ok (.ifCond .ge 6, 3) := by decide +kernel
theorem dX7_sheet_52 : decode cX7_sheet 52 = .ok (.bipush (-14), 2) := by decide +kernel
theorem dX7_sheet_54 : decode cX7_sheet 54 = .ok (.ireturn, 1) := by decide +kernel
theorem dX7_sheet_55 : decode cX7_sheet 55 = .ok (.aload 4, 2) := by decide +kernel
theorem dX7_sheet_57 : decode cX7_sheet 57 = .ok (.iload_n 2, 1) := by decide +kernel
theorem dX7_sheet_58 : decode cX7_sheet 58 = .ok (.iload_n 3, 1) := by decide +kernel
theorem dX7_sheet_59 : decode cX7_sheet 59 = .ok (.invokevirtual 233, 3) := by decide +kernel
theorem dX7_sheet_62 : decode cX7_sheet 62 = .ok (.iconst 1, 1) := by decide +kernel
theorem dX7_sheet_63 : decode cX7_sheet 63 = .ok (.ireturn, 1) := by decide +kernel
theorem dX7_cell_0 : decode cX7_cell 0 = .ok (.aload_n 0, 1) := by decide +kernel
theorem dX7_cell_1 : decode cX7_cell 1 = .ok (.iload_n 1, 1) := by decide +kernel
theorem dX7_cell_2 : decode cX7_cell 2 = .ok (.invokevirtual 185, 3) := by decide +kernel
theorem dX7_cell_5 : decode cX7_cell 5 = .ok (.astore 4, 2) := by decide +kernel
theorem dX7_cell_7 : decode cX7_cell 7 = .ok (.aload 4, 2) := by decide +kernel
theorem dX7_cell_9 : decode cX7_cell 9 = .ok (.ifnonnull 6, 3) := by decide +kernel
theorem dX7_cell_12 : decode cX7_cell 12 = .ok (.bipush (-2), 2) := by decide +kernel
theorem dX7_cell_14 : decode cX7_cell 14 = .ok (.ireturn, 1) := by decide +kernel
theorem dX7_cell_15 : decode cX7_cell 15 = .ok (.aload 4, 2) := by decide +kernel
theorem dX7_cell_17 : decode cX7_cell 17 = .ok (.invokevirtual 189, 3) := by decide +kernel
theorem dX7_cell_20 : decode cX7_cell 20 = .ok (.ifCond .eq 6, 3) := by decide +kernel
theorem dX7_cell_23 : decode cX7_cell 23 = .ok (.bipush (-11), 2) := by decide +kernel
theorem dX7_cell_25 : decode cX7_cell 25 = .ok (.ireturn, 1) := by decide +kernel
theorem dX7_cell_26 : decode cX7_cell 26 = .ok (.aload 4, 2) := by decide +kernel
theorem dX7_cell_28 : decode cX7_cell 28 = .ok (.iload_n 2, 1) := by decide +kernel
theorem dX7_cell_29 : decode cX7_cell 29 = .ok (.iload_n 3, 1) := by decide +kernel
theorem dX7_cell_30 : decode cX7_cell 30 = .ok (.invokevirtual 237, 3) := by decide +kernel
theorem dX7_cell_33 : decode cX7_cell 33 = .ok (.ifCond .eq 7, 3) := by decide +kernel
theorem dX7_cell_36 : decode cX7_cell 36 = .ok (.iconst 1, 1) := by decide +kernel
theorem dX7_cell_37 : decode cX7_cell 37 = .ok (.goto 5, 3) := by decide +kernel
theorem dX7_cell_40 : decode cX7_cell 40 = .ok (.bipush (-12), 2) := by decide +kernel
theorem dX7_cell_42 : decode cX7_cell 42 = .ok (.ireturn, 1) := by decide +kernel
theorem dX7_copy_0 : decode cX7_copy 0 = .ok (.aload_n 0, 1) := by decide +kernel
theorem dX7_copy_1 : decode cX7_copy 1 = .ok (.iload_n 1, 1) := by decide +kernel
theorem dX7_copy_2 : decode cX7_copy 2 = .ok (.invokevirtual 185, 3) := by decide +kernel
theorem dX7_copy_5 : decode cX7_copy 5 = .ok (.astore 6, 2) := by decide +kernel
theorem dX7_copy_7 : decode cX7_copy 7 = .ok (.aload_n 0, 1) := by decide +kernel
theorem dX7_copy_8 : decode cX7_copy 8 = .ok (.iload_n 3, 1) := by decide +kernel
theorem dX7_copy_9 : decode cX7_copy 9 = .ok (.invokevirtual 185, 3) := by decide +kernel
theorem dX7_copy_12 : decode cX7_copy 12 = .ok (.astore 7, 2) := by decide +kernel
theorem dX7_copy_14 : decode cX7_copy 14 = .ok (.aload 6, 2) := by decide +kernel
theorem dX7_copy_16 : decode cX7_copy 16 = .ok (.ifnull 8, 3) := by decide +kernel
theorem dX7_copy_19 : decode cX7_copy 19 = .ok (.aload 7, 2) := by decide +kernel
theorem dX7_copy_21 : decode cX7_copy 21 = .ok (.ifnonnull 6, 3) := by decide +kernel
theorem dX7_copy_24 : decode cX7_copy 24 = .ok (.bipush (-2), 2) := by decide +kernel
theorem dX7_copy_26 : decode cX7_copy 26 = .ok (.ireturn, 1) := by decide +kernel
theorem dX7_copy_27 : decode cX7_copy 27 = .ok (.aload 6, 2) := by decide +kernel
theorem dX7_copy_29 : decode cX7_copy 29 = .ok (.invokevirtual 189, 3) := by decide +kernel
theorem dX7_copy_32 : decode cX7_copy 32 = .ok (.ifCond .ne 11, 3) := by decide +kernel
theorem dX7_copy_35 : decode cX7_copy 35 = .ok (.aload 7, 2) := by decide +kernel
theorem dX7_copy_37 : decode cX7_copy 37 = .ok (.invokevirtual 189, 3) := by decide +kernel
theorem dX7_copy_40 : decode cX7_copy 40 = .ok (.ifCond .eq 6, 3) := by decide +kernel
theorem dX7_copy_43 : decode cX7_copy 43 = .ok (.bipush (-11), 2) := by decide +kernel
theorem dX7_copy_45 : decode cX7_copy 45 = .ok (.ireturn, 1) := by decide +kernel
theorem dX7_copy_46 : decode cX7_copy 46 = .ok (.aload 6, 2) := by decide +kernel
theorem dX7_copy_48 : decode cX7_copy 48 = .ok (.getfield 259, 3) := by decide +kernel
theorem dX7_copy_51 : decode cX7_copy 51 = .ok (.aload 7, 2) := by decide +kernel
theorem dX7_copy_53 : decode cX7_copy 53 = .ok (.getfield 259, 3) := by decide +kernel
theorem dX7_copy_56 : decode cX7_copy 56 = .ok (.if_icmp .eq 6, 3) := by decide +kernel
theorem dX7_copy_59 : decode cX7_copy 59 = .ok (.bipush (-13), 2) := by decide +kernel
theorem dX7_copy_61 : decode cX7_copy 61 = .ok (.ireturn, 1) := by decide +kernel
theorem dX7_copy_62 : decode cX7_copy 62 = .ok (.aload 6, 2) := by decide +kernel
theorem dX7_copy_64 : decode cX7_copy 64 = .ok (.iload_n 2, 1) := by decide +kernel
theorem dX7_copy_65 : decode cX7_copy 65 = .ok (.iload 5, 2) := by decide +kernel
theorem dX7_copy_67 : decode cX7_copy 67 = .ok (.invokevirtual 262, 3) := by decide +kernel
theorem dX7_copy_70 : decode cX7_copy 70 = .ok (.ifCond .eq 15, 3) := by decide +kernel
theorem dX7_copy_73 : decode cX7_copy 73 = .ok (.aload 7, 2) := by decide +kernel
theorem dX7_copy_75 : decode cX7_copy 75 = .ok (.iload 4, 2) := by decide +kernel
theorem dX7_copy_77 : decode cX7_copy 77 = .ok (.iload 5, 2) := by decide +kernel
theorem dX7_copy_79 : decode cX7_copy 79 = .ok (.invokevirtual 262, 3) := by decide +kernel
theorem dX7_copy_82 : decode cX7_copy 82 = .ok (.ifCond .ne 6, 3) := by decide +kernel
theorem dX7_copy_85 : decode cX7_copy 85 = .ok (.bipush (-12), 2) := by decide +kernel
theorem dX7_copy_87 : decode cX7_copy 87 = .ok (.ireturn, 1) := by decide +kernel
theorem dX7_copy_88 : decode cX7_copy 88 = .ok (.aload 6, 2) := by decide +kernel
theorem dX7_copy_90 : decode cX7_copy 90 = .ok (.getfield 265, 3) := by decide +kernel
theorem dX7_copy_93 : decode cX7_copy 93 = .ok (.iload_n 2, 1) := by decide +kernel
theorem dX7_copy_94 : decode cX7_copy 94 = .ok (.aload 7, 2) := by decide +kernel
theorem dX7_copy_96 : decode cX7_copy 96 = .ok (.getfield 265, 3) := by decide +kernel
theorem dX7_copy_99 : decode cX7_copy 99 = .ok (.iload 4, 2) := by decide +kernel
theorem dX7_copy_101 : decode cX7_copy 101 = .ok (.iload 5, 2) := by decide +kernel
theorem dX7_copy_103 : decode cX7_copy 103 = .ok (.invokestatic 269, 3) := by decide +kernel
theorem dX7_copy_106 : decode cX7_copy 106 = .ok (.iload 5, 2) := by decide +kernel
theorem dX7_copy_108 : decode cX7_copy 108 = .ok (.ireturn, 1) := by decide +kernel
theorem dX7_forts_0 : decode cX7_forts 0 = .ok (.aload_n 0, 1) := by decide +kernel
theorem dX7_forts_1 : decode cX7_forts 1 = .ok (.iload_n 1, 1) := by decide +kernel
theorem dX7_forts_2 : decode cX7_forts 2 = .ok (.invokevirtual 185, 3) := by decide +kernel
theorem dX7_forts_5 : decode cX7_forts 5 = .ok (.astore 5, 2) := by decide +kernel
theorem dX7_forts_7 : decode cX7_forts 7 = .ok (.aload 5, 2) := by decide +kernel
theorem dX7_forts_9 : decode cX7_forts 9 = .ok (.ifnull 24, 3) := by decide +kernel
theorem dX7_forts_12 : decode cX7_forts 12 = .ok (.iload_n 2, 1) := by decide +kernel
theorem dX7_forts_13 : decode cX7_forts 13 = .ok (.ifCond .lt 20, 3) := by decide +kernel
theorem dX7_forts_16 : decode cX7_forts 16 = .ok (.iload_n 2, 1) := by decide +kernel
theorem dX7_forts_17 : decode cX7_forts 17 = .ok (.iconst 3, 1) := by decide +kernel
theorem dX7_forts_18 : decode cX7_forts 18 = .ok (.if_icmp .ge 15, 3) := by decide +kernel
theorem dX7_forts_21 : decode cX7_forts 21 = .ok (.iload 4, 2) := by decide +kernel
theorem dX7_forts_23 : decode cX7_forts 23 = .ok (.ifCond .lt 10, 3) := by decide +kernel
theorem dX7_forts_26 : decode cX7_forts 26 = .ok (.iload 4, 2) := by decide +kernel
theorem dX7_forts_28 : decode cX7_forts 28 = .ok (.bipush 8, 2) := by decide +kernel
theorem dX7_forts_30 : decode cX7_forts 30 = .ok (.if_icmp .le 6, 3) := by decide +kernel
theorem dX7_forts_33 : decode cX7_forts 33 = .ok (.bipush (-2), 2) := by decide +kernel
theorem dX7_forts_35 : decode cX7_forts 35 = .ok (.ireturn, 1) := by decide +kernel
theorem dX7_forts_36 : decode cX7_forts 36 = .ok (.aload 5, 2) := by decide +kernel
theorem dX7_forts_38 : decode cX7_forts 38 = .ok (.invokevirtual 189, 3) := by decide +kernel
theorem dX7_forts_41 : decode cX7_forts 41 = .ok (.ifCond .ne 15, 3) := by decide +kernel
theorem dX7_forts_44 : decode cX7_forts 44 = .ok (.aload 5, 2) := by decide +kernel
theorem dX7_forts_46 : decode cX7_forts 46 = .ok (.getfield 259, 3) := by decide +kernel
theorem dX7_forts_49 : decode cX7_forts 49 = .ok (.iload_n 2, 1) := by decide +kernel
theorem dX7_forts_50 : decode cX7_forts 50 = .ok (.if_icmp .eq 6, 3) := by decide +kernel
theorem dX7_forts_53 : decode cX7_forts 53 = .ok (.bipush (-13), 2) := by decide +kernel
theorem dX7_forts_55 : decode cX7_forts 55 = .ok (.ireturn, 1) := by decide +kernel
theorem dX7_forts_56 : decode cX7_forts 56 = .ok (.aload 5, 2) := by decide +kernel
theorem dX7_forts_58 : decode cX7_forts 58 = .ok (.invokevirtual 189, 3) := by decide +kernel
theorem dX7_forts_61 : decode cX7_forts 61 = .ok (.ifCond .eq 6, 3) := by decide +kernel
theorem dX7_forts_64 : decode cX7_forts 64 = .ok (.bipush (-11), 2) := by decide +kernel
theorem dX7_forts_66 : decode cX7_forts 66 = .ok (.ireturn, 1) := by decide +kernel
theorem dX7_forts_67 : decode cX7_forts 67 = .ok (.iconst 0, 1) := by decide +kernel
theorem dX7_forts_68 : decode cX7_forts 68 = .ok (.istore 6, 2) := by decide +kernel
theorem dX7_forts_70 : decode cX7_forts 70 = .ok (.iload_n 3, 1) := by decide +kernel
theorem dX7_forts_71 : decode cX7_forts 71 = .ok (.istore 7, 2) := by decide +kernel
theorem dX7_forts_73 : decode cX7_forts 73 = .ok (.iconst 0, 1) := by decide +kernel
theorem dX7_forts_74 : decode cX7_forts 74 = .ok (.istore 8, 2) := by decide +kernel
theorem dX7_forts_76 : decode cX7_forts 76 = .ok (.iload 8, 2) := by decide +kernel
theorem dX7_forts_78 : decode cX7_forts 78 = .ok (.iload 4, 2) := by decide +kernel
theorem dX7_forts_80 : decode cX7_forts 80 = .ok (.if_icmp .ge 61, 3) := by decide +kernel
theorem dX7_forts_83 : decode cX7_forts 83 = .ok (.aload 5, 2) := by decide +kernel
theorem dX7_forts_85 : decode cX7_forts 85 = .ok (.iload 7, 2) := by decide +kernel
theorem dX7_forts_87 : decode cX7_forts 87 = .ok (.iconst 3, 1) := by decide +kernel
theorem dX7_forts_88 : decode cX7_forts 88 = .ok (.invokevirtual 262, 3) := by decide +kernel
theorem dX7_forts_91 : decode cX7_forts 91 = .ok (.ifCond .ne 6, 3) := by decide +kernel
theorem dX7_forts_94 : decode cX7_forts 94 = .ok (.bipush (-12), 2) := by decide +kernel
theorem dX7_forts_96 : decode cX7_forts 96 = .ok (.ireturn, 1) := by decide +kernel
theorem dX7_forts_97 : decode cX7_forts 97 = .ok (.aload_n 0, 1) := by decide +kernel
theorem dX7_forts_98 : decode cX7_forts 98 = .ok (.aload 5, 2) := by decide +kernel
theorem dX7_forts_100 : decode cX7_forts 100 = .ok (.iload 7, 2) := by decide +kernel
theorem dX7_forts_102 : decode cX7_forts 102 = .ok (.invokevirtual 198, 3) := by decide +kernel
theorem dX7_forts_105 : decode cX7_forts 105 = .ok (.aload 5, 2) := by decide +kernel
theorem dX7_forts_107 : decode cX7_forts 107 = .ok (.iload 7, 2) := by decide +kernel
theorem dX7_forts_109 : decode cX7_forts 109 = .ok (.iconst 1, 1) := by decide +kernel
theorem dX7_forts_110 : decode cX7_forts 110 = .ok (.iadd, 1) := by decide +kernel
theorem dX7_forts_111 : decode cX7_forts 111 = .ok (.invokevirtual 198, 3) := by decide +kernel
theorem dX7_forts_114 : decode cX7_forts 114 = .ok (.aload 5, 2) := by decide +kernel
theorem dX7_forts_116 : decode cX7_forts 116 = .ok (.iload 7, 2) := by decide +kernel
theorem dX7_forts_118 : decode cX7_forts 118 = .ok (.iconst 2, 1) := by decide +kernel
theorem dX7_forts_119 : decode cX7_forts 119 = .ok (.iadd, 1) := by decide +kernel
theorem dX7_forts_120 : decode cX7_forts 120 = .ok (.invokevirtual 198, 3) := by decide +kernel
theorem dX7_forts_123 : decode cX7_forts 123 = .ok (.invokevirtual 275, 3) := by decide +kernel
theorem dX7_forts_126 : decode cX7_forts 126 = .ok (.ifCond .lt 6, 3) := by decide +kernel
theorem dX7_forts_129 : decode cX7_forts 129 = .ok (.iinc 6 1, 3) := by decide +kernel
theorem dX7_forts_132 : decode cX7_forts 132 = .ok (.iinc 7 3, 3) := by decide +kernel
theorem dX7_forts_135 : decode cX7_forts 135 = .ok (.iinc 8 1, 3) := by decide +kernel
theorem dX7_forts_138 : decode cX7_forts 138 = .ok (.goto (-62), 3) := by decide +kernel
theorem dX7_forts_141 : decode cX7_forts 141 = .ok (.iload 6, 2) := by decide +kernel
theorem dX7_forts_143 : decode cX7_forts 143 = .ok (.ireturn, 1) := by decide +kernel
theorem dX7_taken_0 : decode cX7_taken 0 = .ok (.iload_n 2, 1) := by decide +kernel
theorem dX7_taken_1 : decode cX7_taken 1 = .ok (.ifCond .lt 9, 3) := by decide +kernel
theorem dX7_taken_4 : decode cX7_taken 4 = .ok (.iload_n 2, 1) := by decide +kernel
theorem dX7_taken_5 : decode cX7_taken 5 = .ok (.bipush 6, 2) := by decide +kernel
theorem dX7_taken_7 : decode cX7_taken 7 = .ok (.if_icmp .lt 6, 3) := by decide +kernel
theorem dX7_taken_10 : decode cX7_taken 10 = .ok (.bipush (-2), 2) := by decide +kernel
theorem dX7_taken_12 : decode cX7_taken 12 = .ok (.ireturn, 1) := by decide +kernel
theorem dX7_taken_13 : decode cX7_taken 13 = .ok (.aload_n 0, 1) := by decide +kernel
theorem dX7_taken_14 : decode cX7_taken 14 = .ok (.getfield 73, 3) := by decide +kernel
theorem dX7_taken_17 : decode cX7_taken 17 = .ok (.iload_n 1, 1) := by decide +kernel
theorem dX7_taken_18 : decode cX7_taken 18 = .ok (.invokevirtual 106, 3) := by decide +kernel
theorem dX7_taken_21 : decode cX7_taken 21 = .ok (.astore_n 3, 1) := by decide +kernel
theorem dX7_taken_22 : decode cX7_taken 22 = .ok (.aload_n 3, 1) := by decide +kernel
theorem dX7_taken_23 : decode cX7_taken 23 = .ok (.ifnonnull 6, 3) := by decide +kernel
theorem dX7_taken_26 : decode cX7_taken 26 = .ok (.bipush (-11), 2) := by decide +kernel
theorem dX7_taken_28 : decode cX7_taken 28 = .ok (.ireturn, 1) := by decide +kernel
theorem dX7_taken_29 : decode cX7_taken 29 = .ok (.aload_n 3, 1) := by decide +kernel
theorem dX7_taken_30 : decode cX7_taken 30 = .ok (.iload_n 2, 1) := by decide +kernel
theorem dX7_taken_31 : decode cX7_taken 31 = .ok (.invokevirtual 278, 3) := by decide +kernel
theorem dX7_taken_34 : decode cX7_taken 34 = .ok (.ifCond .eq 10, 3) := by decide +kernel
theorem dX7_taken_37 : decode cX7_taken 37 = .ok (.aload_n 3, 1) := by decide +kernel
theorem dX7_taken_38 : decode cX7_taken 38 = .ok (.getfield 121, 3) := by decide +kernel
theorem dX7_taken_41 : decode cX7_taken 41 = .ok (.goto 5, 3) := by decide +kernel
theorem dX7_taken_44 : decode cX7_taken 44 = .ok (.bipush (-13), 2) := by decide +kernel
theorem dX7_taken_46 : decode cX7_taken 46 = .ok (.ireturn, 1) := by decide +kernel
theorem dX7_sheetAt_0 : decode cX7_sheetAt 0 = .ok (.iload_n 1, 1) := by decide +kernel
theorem dX7_sheetAt_1 : decode cX7_sheetAt 1 = .ok (.ifCond .lt 17, 3) := by decide +kernel
theorem dX7_sheetAt_4 : decode cX7_sheetAt 4 = .ok (.iload_n 1, 1) := by decide +kernel
theorem dX7_sheetAt_5 : decode cX7_sheetAt 5 = .ok (.iconst 4, 1) := by decide +kernel
theorem dX7_sheetAt_6 : decode cX7_sheetAt 6 = .ok (.if_icmp .ge 12, 3) := by decide +kernel
theorem dX7_sheetAt_9 : decode cX7_sheetAt 9 = .ok (.aload_n 0, 1) := by decide +kernel
theorem dX7_sheetAt_10 : decode cX7_sheetAt 10 = .ok (.getfield 33, 3) := by decide +kernel
theorem dX7_sheetAt_13 : decode cX7_sheetAt 13 = .ok (.iload_n 1, 1) := by decide +kernel
theorem dX7_sheetAt_14 : decode cX7_sheetAt 14 = .ok (.aaload, 1) := by decide +kernel
theorem dX7_sheetAt_15 : decode cX7_sheetAt 15 = .ok (.goto 4, 3) := by decide +kernel
theorem dX7_sheetAt_18 : decode cX7_sheetAt 18 = .ok (.aconst_null, 1) := by decide +kernel
theorem dX7_sheetAt_19 : decode cX7_sheetAt 19 = .ok (.areturn, 1) := by decide +kernel
