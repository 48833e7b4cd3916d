theorem dX8_init_0 : decode cX8_init 0 = .ok (.aload_n 0, 1) := by decide +kernel
theorem dX8_init_1 : decode cX8_init 1 = .ok (.invokespecial 1, 3) := by decide +kernel
theorem dX8_init_4 : decode cX8_init 4 = .ok (.aload_n 0, 1) := by decide +kernel
theorem dX8_init_5 : decode cX8_init 5 = .ok (.bipush 8, 2) := by decide +kernel
theorem dX8_init_7 : decode cX8_init 7 = .ok (.newarray .int, 2) := by decide +kernel
theorem dX8_init_9 : decode cX8_init 9 = .ok (.putfield 7, 3) := by decide +kernel
theorem dX8_init_12 : decode cX8_init 12 = .ok (.aload_n 0, 1) := by decide +kernel
theorem dX8_init_13 : decode cX8_init 13 = .ok (.bipush 8, 2) := by decide +kernel
theorem dX8_init_15 : decode cX8_init 15 = .ok (.newarray .int, 2) := by decide +kernel
theorem dX8_init_17 : decode cX8_init 17 = .ok (.putfield 13, 3) := by decide +kernel
theorem dX8_init_20 : decode cX8_init 20 = .ok (.aload_n 0, 1) := by decide +kernel
theorem dX8_init_21 : decode cX8_init 21 = .ok (.bipush 8, 2) := by decide +kernel
theorem dX8_init_23 : decode cX8_init 23 = .ok (.newarray .int, 2) := by decide +kernel
theorem dX8_init_25 : decode cX8_init 25 = .ok (.putfield 16, 3) := by decide +kernel
theorem dX8_init_28 : decode cX8_init 28 = .ok (.aload_n 0, 1) := by decide +kernel
theorem dX8_init_29 : decode cX8_init 29 = .ok (.bipush 8, 2) := by decide +kernel
theorem dX8_init_31 : decode cX8_init 31 = .ok (.newarray .int, 2) := by decide +kernel
theorem dX8_init_33 : decode cX8_init 33 = .ok (.putfield 19, 3) := by decide +kernel
theorem dX8_init_36 : decode cX8_init 36 = .ok (.aload_n 0, 1) := by decide +kernel
theorem dX8_init_37 : decode cX8_init 37 = .ok (.bipush 8, 2) := by decide +kernel
theorem dX8_init_39 : decode cX8_init 39 = .ok (.newarray .int, 2) := by decide +kernel
theorem dX8_init_41 : decode cX8_init 41 = .ok (.putfield 22, 3) := by decide +kernel
theorem dX8_init_44 : decode cX8_init 44 = .ok (.aload_n 0, 1) := by decide +kernel
theorem dX8_init_45 : decode cX8_init 45 = .ok (.sipush 160, 3) := by decide +kernel
theorem dX8_init_48 : decode cX8_init 48 = .ok (.newarray .int, 2) := by decide +kernel
theorem dX8_init_50 : decode cX8_init 50 = .ok (.putfield 25, 3) := by decide +kernel
theorem dX8_init_53 : decode cX8_init 53 = .ok (.aload_n 0, 1) := by decide +kernel
theorem dX8_init_54 : decode cX8_init 54 = .ok (.bipush 18, 2) := by decide +kernel
theorem dX8_init_56 : decode cX8_init 56 = .ok (.newarray .int, 2) := by decide +kernel
theorem dX8_init_58 : decode cX8_init 58 = .ok (.putfield 28, 3) := by decide +kernel
theorem dX8_init_61 : decode cX8_init 61 = .ok (.aload_n 0, 1) := by decide +kernel
theorem dX8_init_62 : decode cX8_init 62 = .ok (.bipush 18, 2) := by decide +kernel
theorem dX8_init_64 : decode cX8_init 64 = .ok (.newarray .int, 2) := by decide +kernel
theorem dX8_init_66 : decode cX8_init 66 = .ok (.putfield 31, 3) := by decide +kernel
theorem dX8_init_69 : decode cX8_init 69 = .ok (.aload_n 0, 1) := by decide +kernel
theorem dX8_init_70 : decode cX8_init 70 = .ok (.sipush 3000, 3) := by decide +kernel
theorem dX8_init_73 : decode cX8_init 73 = .ok (.newarray .int, 2) := by decide +kernel
theorem dX8_init_75 : decode cX8_init 75 = .ok (.putfield 34, 3) := by decide +kernel
theorem dX8_init_78 : decode cX8_init 78 = .ok (.aload_n 0, 1) := by decide +kernel
theorem dX8_init_79 : decode cX8_init 79 = .ok (.sipush 200, 3) := by decide +kernel
theorem dX8_init_82 : decode cX8_init 82 = .ok (.newarray .int, 2) := by decide +kernel
theorem dX8_init_84 : decode cX8_init 84 = .ok (.putfield 37, 3) := by decide +kernel
theorem dX8_init_87 : decode cX8_init 87 = .ok (.aload_n 0, 1) := by decide +kernel
theorem dX8_init_88 : decode cX8_init 88 = .ok (.bipush 8, 2) := by decide +kernel
theorem dX8_init_90 : decode cX8_init 90 = .ok (.newarray .int, 2) := by decide +kernel
theorem dX8_init_92 : decode cX8_init 92 = .ok (.putfield 40, 3) := by decide +kernel
theorem dX8_init_95 : decode cX8_init 95 = .ok (.aload_n 0, 1) := by decide +kernel
theorem dX8_init_96 : decode cX8_init 96 = .ok (.bipush 56, 2) := by decide +kernel
theorem dX8_init_98 : decode cX8_init 98 = .ok (.newarray .int, 2) := by decide +kernel
theorem dX8_init_100 : decode cX8_init 100 = .ok (.putfield 43, 3) := by decide +kernel
theorem dX8_init_103 : decode cX8_init 103 = .ok (.aload_n 0, 1) := by decide +kernel
theorem dX8_init_104 : decode cX8_init 104 = .ok (.bipush 8, 2) := by decide +kernel
theorem dX8_init_106 : decode cX8_init 106 = .ok (.newarray .int, 2) := by decide +kernel
theorem dX8_init_108 : decode cX8_init 108 = .ok (.putfield 46, 3) := by decide +kernel
theorem dX8_init_111 : decode cX8_init 111 = .ok (.aload_n 0, 1) := by decide +kernel
theorem dX8_init_112 : decode cX8_init 112 = .ok (.bipush 35, 2) := by decide +kernel
theorem dX8_init_114 : decode cX8_init 114 = .ok (.newarray .int, 2) := by decide +kernel
theorem dX8_init_116 : decode cX8_init 116 = .ok (.putfield 49, 3) := by decide +kernel
theorem dX8_init_119 : decode cX8_init 119 = .ok (.aload_n 0, 1) := by decide +kernel
theorem dX8_init_120 : decode cX8_init 120 = .ok (.iconst 4, 1) := by decide +kernel
theorem dX8_init_121 : decode cX8_init 121 = .ok (.newarray .int, 2) := by decide +kernel
theorem dX8_init_123 : decode cX8_init 123 = .ok (.putfield 52, 3) := by decide +kernel
theorem dX8_init_126 : decode cX8_init 126 = .ok (.aload_n 0, 1) := by decide +kernel
theorem dX8_init_127 : decode cX8_init 127 = .ok (.iconst 4, 1) := by decide +kernel
theorem dX8_init_128 : decode cX8_init 128 = .ok (.newarray .int, 2) := by decide +kernel
theorem dX8_init_130 : decode cX8_init 130 = .ok (.putfield 55, 3) := by decide +kernel
theorem dX8_init_133 : decode cX8_init 133 = .ok (.aload_n 0, 1) := by decide +kernel
theorem dX8_init_134 : decode cX8_init 134 = .ok (.sipush 160, 3) := by decide +kernel
theorem dX8_init_137 : decode cX8_init 137 = .ok (.newarray .int, 2) := by decide +kernel
theorem dX8_init_139 : decode cX8_init 139 = .ok (.putfield 58, 3) := by decide +kernel
theorem dX8_init_142 : decode cX8_init 142 = .ok (.iconst 0, 1) := by decide +kernel
theorem dX8_init_143 : decode cX8_init 143 = .ok (.istore_n 1, 1) := by decide +kernel
theorem dX8_init_144 : decode cX8_init 144 = .ok (.iload_n 1, 1) := by decide +kernel
theorem dX8_init_145 : decode cX8_init 145 = .ok (.iconst 4, 1) := by decide +kernel
theorem dX8_init_146 : decode cX8_init 146 = .ok (.if_icmp .ge 16, 3) := by decide +kernel
theorem dX8_init_149 : decode cX8_init 149 = .ok (.aload_n 0, 1) := by decide +kernel
theorem dX8_init_150 : decode cX8_init 150 = .ok (.getfield 52, 3) := by decide +kernel
theorem dX8_init_153 : decode cX8_init 153 = .ok (.iload_n 1, 1) := by decide +kernel
theorem dX8_init_154 : decode cX8_init 154 = .ok (.iconst (-1), 1) := by decide +kernel
theorem dX8_init_155 : decode cX8_init 155 = .ok (.iastore, 1) := by decide +kernel
theorem dX8_init_156 : decode cX8_init 156 = .ok (.iinc 1 1, 3) := by decide +kernel
theorem dX8_init_159 : decode cX8_init 159 = .ok (.goto (-15), 3) := by decide +kernel
theorem dX8_init_162 : decode cX8_init 162 = .ok (.ldc 61, 2) := by decide +kernel
theorem dX8_init_164 : decode cX8_init 164 = .ok (.astore_n 1, 1) := by decide +kernel
theorem dX8_init_165 : decode cX8_init 165 = .ok (.iconst 0, 1) := by decide +kernel
theorem dX8_init_166 : decode cX8_init 166 = .ok (.istore_n 2, 1) := by decide +kernel
theorem dX8_init_167 : decode cX8_init 167 = .ok (.iload_n 2, 1) := by decide +kernel
theorem dX8_init_168 : decode cX8_init 168 = .ok (.aload_n 1, 1) := by decide +kernel
theorem dX8_init_169 : decode cX8_init 169 = .ok (.invokevirtual 63, 3) := by decide +kernel
theorem dX8_init_172 : decode cX8_init 172 = .ok (.if_icmp .ge 20, 3) := by decide +kernel
theorem dX8_init_175 : decode cX8_init 175 = .ok (.aload_n 0, 1) := by decide +kernel
theorem dX8_init_176 : decode cX8_init 176 = .ok (.getfield 25, 3) := by decide +kernel
theorem dX8_init_179 : decode cX8_init 179 = .ok (.iload_n 2, 1) := by decide +kernel
theorem dX8_init_180 : decode cX8_init 180 = .ok (.aload_n 1, 1) := by decide +kernel
theorem dX8_init_181 : decode cX8_init 181 = .ok (.iload_n 2, 1) := by decide +kernel
theorem dX8_init_182 : decode cX8_init 182 = .ok (.invokevirtual 68, 3) := by decide +kernel
theorem dX8_init_185 : decode cX8_init 185 = .ok (.iastore, 1) := by decide +kernel
theorem dX8_init_186 : decode cX8_init 186 = .ok (.iinc 2 1, 3) := by decide +kernel
theorem dX8_init_189 : decode cX8_init 189 = .ok (.goto (-22), 3) := by decide +kernel
theorem dX8_init_192 : decode cX8_init 192 = .ok (.aload_n 0, 1) := by decide +kernel
theorem dX8_init_193 : decode cX8_init 193 = .ok (.aload_n 1, 1) := by decide +kernel
theorem dX8_init_194 : decode cX8_init 194 = .ok (.invokevirtual 63, 3) := by decide +kernel
theorem dX8_init_197 : decode cX8_init 197 = .ok (.putfield 72, 3) := by decide +kernel
theorem dX8_init_200 : decode cX8_init 200 = .ok (.aload_n 0, 1) := by decide +kernel
theorem dX8_init_201 : decode cX8_init 201 = .ok (.invokevirtual 76, 3) := by decide +kernel
theorem dX8_init_204 : decode cX8_init 204 = .ok (.pop, 1) := by decide +kernel
theorem dX8_init_205 : decode cX8_init 205 = .ok (.return_, 1) := by decide +kernel
theorem dX8_within_0 : decode cX8_within 0 = .ok (.iload_n 0, 1) := by decide +kernel
theorem dX8_within_1 : decode cX8_within 1 = .ok (.iload_n 1, 1) := by decide +kernel
theorem dX8_within_2 : decode cX8_within 2 = .ok (.if_icmp .lt 12, 3) := by decide +kernel
theorem dX8_within_5 : decode cX8_within 5 = .ok (.iload_n 0, 1) := by decide +kernel
theorem dX8_within_6 : decode cX8_within 6 = .ok (.iload_n 2, 1) := by decide +kernel
theorem dX8_within_7 : decode cX8_within 7 = .ok (.if_icmp .gt 7, 3) := by decide +kernel
theorem dX8_within_10 : decode cX8_within 10 = .ok (.iconst 1, 1) := by decide +kernel
theorem dX8_within_11 : decode cX8_within 11 = .ok (.goto 4, 3) := by decide +kernel
theorem dX8_within_14 : decode cX8_within 14 = .ok (.iconst 0, 1) := by decide +kernel
theorem dX8_within_15 : decode cX8_within 15 = .ok (.ireturn, 1) := by decide +kernel
theorem dX8_isFort_0 : decode cX8_isFort 0 = .ok (.iload_n 1, 1) := by decide +kernel
theorem dX8_isFort_1 : decode cX8_isFort 1 = .ok (.iconst 0, 1) := by decide +kernel
theorem dX8_isFort_2 : decode cX8_isFort 2 = .ok (.aload_n 0, 1) := by decide +kernel
theorem dX8_isFort_3 : decode cX8_isFort 3 = .ok (.getfield 79, 3) := by decide +kernel
theorem dX8_isFort_6 : decode cX8_isFort 6 = .ok (.iconst 1, 1) := by decide +kernel
theorem dX8_isFort_7 : decode cX8_isFort 7 = .ok (.isub, 1) := by decide +kernel
theorem dX8_isFort_8 : decode cX8_isFort 8 = .ok (.invokestatic 82, 3) := by decide +kernel
theorem dX8_isFort_11 : decode cX8_isFort 11 = .ok (.ireturn, 1) := by decide +kernel
theorem dX8_isWaves_0 : decode cX8_isWaves 0 = .ok (.iload_n 0, 1) := by decide +kernel
theorem dX8_isWaves_1 : decode cX8_isWaves 1 = .ok (.iconst 0, 1) := by decide +kernel
theorem dX8_isWaves_2 : decode cX8_isWaves 2 = .ok (.bipush 40, 2) := by decide +kernel
theorem dX8_isWaves_4 : decode cX8_isWaves 4 = .ok (.invokestatic 82, 3) := by decide +kernel
theorem dX8_isWaves_7 : decode cX8_isWaves 7 = .ok (.ireturn, 1) := by decide +kernel
theorem dX8_isSheet_0 : decode cX8_isSheet 0 = .ok (.iload_n 0, 1) := by decide +kernel
theorem dX8_isSheet_1 : decode cX8_isSheet 1 = .ok (.iconst 0, 1) := by decide +kernel
theorem dX8_isSheet_2 : decode cX8_isSheet 2 = .ok (.iconst 3, 1) := by decide +kernel
theorem dX8_isSheet_3 : decode cX8_isSheet 3 = .ok (.invokestatic 82, 3) := by decide +kernel
theorem dX8_isSheet_6 : decode cX8_isSheet 6 = .ok (.ireturn, 1) := by decide +kernel
theorem dX8_most_0 : decode cX8_most 0 = .ok (.iload_n 0, 1) := by decide +kernel
theorem dX8_most_1 : decode cX8_most 1 = .ok (.tableswitch 47 1 5 #[35, 47, 39, 42, 44], 35) := by decide +kernel
theorem dX8_most_36 : decode cX8_most 36 = .ok (.sipush 999, 3) := by decide +kernel
theorem dX8_most_39 : decode cX8_most 39 = .ok (.ireturn, 1) := by decide +kernel
theorem dX8_most_40 : decode cX8_most 40 = .ok (.bipush 15, 2) := by decide +kernel
theorem dX8_most_42 : decode cX8_most 42 = .ok (.ireturn, 1) := by decide +kernel
theorem dX8_most_43 : decode cX8_most 43 = .ok (.iconst 1, 1) := by decide +kernel
theorem dX8_most_44 : decode cX8_most 44 = .ok (.ireturn, 1) := by decide +kernel
theorem dX8_most_45 : decode cX8_most 45 = .ok (.bipush 99, 2) := by decide +kernel
theorem dX8_most_47 : decode cX8_most 47 = .ok (.ireturn, 1) := by decide +kernel
theorem dX8_most_48 : decode cX8_most 48 = .ok (.bipush 9, 2) := by decide +kernel
theorem dX8_most_50 : decode cX8_most 50 = .ok (.ireturn, 1) := by decide +kernel
theorem dX8_get_0 : decode cX8_get 0 = .ok (.iload_n 2, 1) := by decide +kernel
theorem dX8_get_1 : decode cX8_get 1 = .ok (.tableswitch 108 0 8 #[51, 56, 61, 68, 75, 82, 89, 96, 102], 51) := by decide +kernel
theorem dX8_get_52 : decode cX8_get 52 = .ok (.aload_n 0, 1) := by decide +kernel
theorem dX8_get_53 : decode cX8_get 53 = .ok (.getfield 86, 3) := by decide +kernel
theorem dX8_get_56 : decode cX8_get 56 = .ok (.ireturn, 1) := by decide +kernel
theorem dX8_get_57 : decode cX8_get 57 = .ok (.aload_n 0, 1) := by decide +kernel
theorem dX8_get_58 : decode cX8_get 58 = .ok (.getfield 89, 3) := by decide +kernel
theorem dX8_get_61 : decode cX8_get 61 = .ok (.ireturn, 1) := by decide +kernel
theorem dX8_get_62 : decode cX8_get 62 = .ok (.aload_n 0, 1) := by decide +kernel
theorem dX8_get_63 : decode cX8_get 63 = .ok (.getfield 13, 3) := by decide +kernel
theorem dX8_get_66 : decode cX8_get 66 = .ok (.iload_n 1, 1) := by decide +kernel
theorem dX8_get_67 : decode cX8_get 67 = .ok (.iaload, 1) := by decide +kernel
theorem dX8_get_68 : decode cX8_get 68 = .ok (.ireturn, 1) := by decide +kernel
theorem dX8_get_69 : decode cX8_get 69 = .ok (.aload_n 0, 1) := by decide +kernel
theorem dX8_get_70 : decode cX8_get 70 = .ok (.getfield 16, 3) := by decide +kernel
theorem dX8_get_73 : decode cX8_get 73 = .ok (.iload_n 1, 1) := by decide +kernel
theorem dX8_get_74 : decode cX8_get 74 = .ok (.iaload, 1) := by decide +kernel
theorem dX8_get_75 : decode cX8_get 75 = .ok (.ireturn, 1) := by decide +kernel
theorem dX8_get_76 : decode cX8_get 76 = .ok (.aload_n 0, 1) := by decide +kernel
theorem dX8_get_77 : decode cX8_get 77 = .ok (.getfield 19, 3) := by decide +kernel
theorem dX8_get_80 : decode cX8_get 80 = .ok (.iload_n 1, 1) := by decide +kernel
theorem dX8_get_81 : decode cX8_get 81 = .ok (.iaload, 1) := by decide +kernel
theorem dX8_get_82 : decode cX8_get 82 = .ok (.ireturn, 1) := by decide +kernel
theorem dX8_get_83 : decode cX8_get 83 = .ok (.aload_n 0, 1) := by decide +kernel
theorem dX8_get_84 : decode cX8_get 84 = .ok (.getfield 22, 3) := by decide +kernel
theorem dX8_get_87 : decode cX8_get 87 = .ok (.iload_n 1, 1) := by decide +kernel
theorem dX8_get_88 : decode cX8_get 88 = .ok (.iaload, 1) := by decide +kernel
theorem dX8_get_89 : decode cX8_get 89 = .ok (.ireturn, 1) := by decide +kernel
theorem dX8_get_90 : decode cX8_get 90 = .ok (.aload_n 0, 1) := by decide +kernel
theorem dX8_get_91 : decode cX8_get 91 = .ok (.getfield 7, 3) := by decide +kernel
theorem dX8_get_94 : decode cX8_get 94 = .ok (.iload_n 1, 1) := by decide +kernel
theorem dX8_get_95 : decode cX8_get 95 = .ok (.iaload, 1) := by decide +kernel
theorem dX8_get_96 : decode cX8_get 96 = .ok (.ireturn, 1) := by decide +kernel
theorem dX8_get_97 : decode cX8_get 97 = .ok (.aload_n 0, 1) := by decide +kernel
theorem dX8_get_98 : decode cX8_get 98 = .ok (.iload_n 1, 1) := by decide +kernel
theorem dX8_get_99 : decode cX8_get 99 = .ok (.invokevirtual 92, 3) := by decide +kernel
theorem dX8_get_102 : decode cX8_get 102 = .ok (.ireturn, 1) := by decide +kernel
theorem dX8_get_103 : decode cX8_get 103 = .ok (.aload_n 0, 1) := by decide +kernel
theorem dX8_get_104 : decode cX8_get 104 = .ok (.iload_n 1, 1) := by decide +kernel
theorem dX8_get_105 : decode cX8_get 105 = .ok (.invokevirtual 96, 3) := by decide +kernel
theorem dX8_get_108 : decode cX8_get 108 = .ok (.ireturn, 1) := by decide +kernel
theorem dX8_get_109 : decode cX8_get 109 = .ok (.aload_n 0, 1) := by decide +kernel
theorem dX8_get_110 : decode cX8_get 110 = .ok (.iload_n 1, 1) := by decide +kernel
theorem dX8_get_111 : decode cX8_get 111 = .ok (.invokevirtual 99, 3) := by decide +kernel
theorem dX8_get_114 : decode cX8_get 114 = .ok (.ireturn, 1) := by decide +kernel
theorem dX8_put_0 : decode cX8_put 0 = .ok (.iload_n 1, 1) := by decide +kernel
theorem dX8_put_1 : decode cX8_put 1 = .ok (.tableswitch 71 0 4 #[35, 41, 47, 55, 63], 35) := by decide +kernel
theorem dX8_put_36 : decode cX8_put 36 = .ok (.aload_n 0, 1) := by decide +kernel
theorem dX8_put_37 : decode cX8_put 37 = .ok (.iload_n 3, 1) := by decide +kernel
theorem dX8_put_38 : decode cX8_put 38 = .ok (.putfield 86, 3) := by decide +kernel
theorem dX8_put_41 : decode cX8_put 41 = .ok (.return_, 1) := by decide +kernel
theorem dX8_put_42 : decode cX8_put 42 = .ok (.aload_n 0, 1) := by decide +kernel
theorem dX8_put_43 : decode cX8_put 43 = .ok (.iload_n 3, 1) := by decide +kernel
theorem dX8_put_44 : decode cX8_put 44 = .ok (.putfield 89, 3) := by decide +kernel
theorem dX8_put_47 : decode cX8_put 47 = .ok (.return_, 1) := by decide +kernel
theorem dX8_put_48 : decode cX8_put 48 = .ok (.aload_n 0, 1) := by decide +kernel
theorem dX8_put_49 : decode cX8_put 49 = .ok (.getfield 13, 3) := by decide +kernel
theorem dX8_put_52 : decode cX8_put 52 = .ok (.iload_n 2, 1) := by decide +kernel
theorem dX8_put_53 : decode cX8_put 53 = .ok (.iload_n 3, 1) := by decide +kernel
theorem dX8_put_54 : decode cX8_put 54 = .ok (.iastore, 1) := by decide +kernel
theorem dX8_put_55 : decode cX8_put 55 = .ok (.return_, 1) := by decide +kernel
theorem dX8_put_56 : decode cX8_put 56 = .ok (.aload_n 0, 1) := by decide +kernel
theorem dX8_put_57 : decode cX8_put 57 = .ok (.getfield 16, 3) := by decide +kernel
theorem dX8_put_60 : decode cX8_put 60 = .ok (.iload_n 2, 1) := by decide +kernel
theorem dX8_put_61 : decode cX8_put 61 = .ok (.iload_n 3, 1) := by decide +kernel
theorem dX8_put_62 : decode cX8_put 62 = .ok (.iastore, 1) := by decide +kernel
theorem dX8_put_63 : decode cX8_put 63 = .ok (.return_, 1) := by decide +kernel
theorem dX8_put_64 : decode cX8_put 64 = .ok (.aload_n 0, 1) := by decide +kernel
theorem dX8_put_65 : decode cX8_put 65 = .ok (.getfield 19, 3) := by decide +kernel
theorem dX8_put_68 : decode cX8_put 68 = .ok (.iload_n 2, 1) := by decide +kernel
theorem dX8_put_69 : decode cX8_put 69 = .ok (.iload_n 3, 1) := by decide +kernel
theorem dX8_put_70 : decode cX8_put 70 = .ok (.iastore, 1) := by decide +kernel
theorem dX8_put_71 : decode cX8_put 71 = .ok (.return_, 1) := by decide +kernel
theorem dX8_put_72 : decode cX8_put 72 = .ok (.aload_n 0, 1) := by decide +kernel
theorem dX8_put_73 : decode cX8_put 73 = .ok (.getfield 22, 3) := by decide +kernel
theorem dX8_put_76 : decode cX8_put 76 = .ok (.iload_n 2, 1) := by decide +kernel
theorem dX8_put_77 : decode cX8_put 77 = .ok (.iload_n 3, 1) := by decide +kernel
theorem dX8_put_78 : decode cX8_put 78 = .ok (.iastore, 1) := by decide +kernel
theorem dX8_put_79 : decode cX8_put 79 = .ok (.return_, 1) := by decide +kernel
theorem dX8_set_0 : decode cX8_set 0 = .ok (.iload_n 1, 1) := by decide +kernel
theorem dX8_set_1 : decode cX8_set 1 = .ok (.iconst 0, 1) := by decide +kernel
theorem dX8_set_2 : decode cX8_set 2 = .ok (.iconst 5, 1) := by decide +kernel
theorem dX8_set_3 : decode cX8_set 3 = .ok (.invokestatic 82, 3) := by decide +kernel
theorem dX8_set_6 : decode cX8_set 6 = .ok (.ifCond .eq 28, 3) := by decide +kernel
theorem dX8_set_9 : decode cX8_set 9 = .ok (.iload_n 1, 1) := by decide +kernel
theorem dX8_set_10 : decode cX8_set 10 = .ok (.iconst 1, 1) := by decide +kernel
theorem dX8_set_11 : decode cX8_set 11 = .ok (.if_icmp .le 11, 3) := by decide +kernel
theorem dX8_set_14 : decode cX8_set 14 = .ok (.aload_n 0, 1) := by decide +kernel
theorem dX8_set_15 : decode cX8_set 15 = .ok (.iload_n 2, 1) := by decide +kernel
theorem dX8_set_16 : decode cX8_set 16 = .ok (.invokevirtual 102, 3) := by decide +kernel
theorem dX8_set_19 : decode cX8_set 19 = .ok (.ifCond .eq 15, 3) := by decide +kernel
theorem dX8_set_22 : decode cX8_set 22 = .ok (.iload_n 3, 1) := by decide +kernel
theorem dX8_set_23 : decode cX8_set 23 = .ok (.iconst 0, 1) := by decide +kernel
theorem dX8_set_24 : decode cX8_set 24 = .ok (.iload_n 1, 1) := by decide +kernel
theorem dX8_set_25 : decode cX8_set 25 = .ok (.invokestatic 106, 3) := by decide +kernel
theorem dX8_set_28 : decode cX8_set 28 = .ok (.invokestatic 82, 3) := by decide +kernel
theorem dX8_set_31 : decode cX8_set 31 = .ok (.ifCond .ne 6, 3) := by decide +kernel
theorem dX8_set_34 : decode cX8_set 34 = .ok (.bipush (-2), 2) := by decide +kernel
theorem dX8_set_36 : decode cX8_set 36 = .ok (.ireturn, 1) := by decide +kernel
theorem dX8_set_37 : decode cX8_set 37 = .ok (.aload_n 0, 1) := by decide +kernel
theorem dX8_set_38 : decode cX8_set 38 = .ok (.iload_n 2, 1) := by decide +kernel
theorem dX8_set_39 : decode cX8_set 39 = .ok (.iload_n 1, 1) := by decide +kernel
theorem dX8_set_40 : decode cX8_set 40 = .ok (.invokevirtual 109, 3) := by decide +kernel
theorem dX8_set_43 : decode cX8_set 43 = .ok (.istore 4, 2) := by decide +kernel
theorem dX8_set_45 : decode cX8_set 45 = .ok (.aload_n 0, 1) := by decide +kernel
theorem dX8_set_46 : decode cX8_set 46 = .ok (.iload_n 1, 1) := by decide +kernel
theorem dX8_set_47 : decode cX8_set 47 = .ok (.iload_n 2, 1) := by decide +kernel
theorem dX8_set_48 : decode cX8_set 48 = .ok (.iload_n 3, 1) := by decide +kernel
theorem dX8_set_49 : decode cX8_set 49 = .ok (.invokevirtual 113, 3) := by decide +kernel
theorem dX8_set_52 : decode cX8_set 52 = .ok (.iload 4, 2) := by decide +kernel
theorem dX8_set_54 : decode cX8_set 54 = .ok (.ireturn, 1) := by decide +kernel
theorem dX8_fort_0 : decode cX8_fort 0 = .ok (.iload_n 1, 1) := by decide +kernel
theorem dX8_fort_1 : decode cX8_fort 1 = .ok (.iconst 0, 1) := by decide +kernel
theorem dX8_fort_2 : decode cX8_fort 2 = .ok (.iconst 5, 1) := by decide +kernel
theorem dX8_fort_3 : decode cX8_fort 3 = .ok (.invokestatic 82, 3) := by decide +kernel
theorem dX8_fort_6 : decode cX8_fort 6 = .ok (.ifCond .eq 23, 3) := by decide +kernel
theorem dX8_fort_9 : decode cX8_fort 9 = .ok (.iload_n 2, 1) := by decide +kernel
theorem dX8_fort_10 : decode cX8_fort 10 = .ok (.iconst 0, 1) := by decide +kernel
theorem dX8_fort_11 : decode cX8_fort 11 = .ok (.bipush 9, 2) := by decide +kernel
theorem dX8_fort_13 : decode cX8_fort 13 = .ok (.invokestatic 82, 3) := by decide +kernel
theorem dX8_fort_16 : decode cX8_fort 16 = .ok (.ifCond .eq 13, 3) := by decide +kernel
theorem dX8_fort_19 : decode cX8_fort 19 = .ok (.iload_n 3, 1) := by decide +kernel
theorem dX8_fort_20 : decode cX8_fort 20 = .ok (.iconst 0, 1) := by decide +kernel
theorem dX8_fort_21 : decode cX8_fort 21 = .ok (.bipush 15, 2) := by decide +kernel
theorem dX8_fort_23 : decode cX8_fort 23 = .ok (.invokestatic 82, 3) := by decide +kernel
theorem dX8_fort_26 : decode cX8_fort 26 = .ok (.ifCond .ne 6, 3) := by decide +kernel
theorem dX8_fort_29 : decode cX8_fort 29 = .ok (.bipush (-2), 2) := by decide +kernel
theorem dX8_fort_31 : decode cX8_fort 31 = .ok (.ireturn, 1) := by decide +kernel
theorem dX8_fort_32 : decode cX8_fort 32 = .ok (.aload_n 0, 1) := by decide +kernel
theorem dX8_fort_33 : decode cX8_fort 33 = .ok (.getfield 79, 3) := by decide +kernel
theorem dX8_fort_36 : decode cX8_fort 36 = .ok (.bipush 8, 2) := by decide +kernel
theorem dX8_fort_38 : decode cX8_fort 38 = .ok (.if_icmp .ne 6, 3) := by decide +kernel
theorem dX8_fort_41 : decode cX8_fort 41 = .ok (.bipush (-4), 2) := by decide +kernel
theorem dX8_fort_43 : decode cX8_fort 43 = .ok (.ireturn, 1) := by decide +kernel
theorem dX8_fort_44 : decode cX8_fort 44 = .ok (.aload_n 0, 1) := by decide +kernel
theorem dX8_fort_45 : decode cX8_fort 45 = .ok (.getfield 7, 3) := by decide +kernel
theorem dX8_fort_48 : decode cX8_fort 48 = .ok (.aload_n 0, 1) := by decide +kernel
theorem dX8_fort_49 : decode cX8_fort 49 = .ok (.getfield 79, 3) := by decide +kernel
theorem dX8_fort_52 : decode cX8_fort 52 = .ok (.iload_n 1, 1) := by decide +kernel
theorem dX8_fort_53 : decode cX8_fort 53 = .ok (.iastore, 1) := by decide +kernel
theorem dX8_fort_54 : decode cX8_fort 54 = .ok (.aload_n 0, 1) := by decide +kernel
theorem dX8_fort_55 : decode cX8_fort 55 = .ok (.getfield 13, 3) := by decide +kernel
theorem dX8_fort_58 : decode cX8_fort 58 = .ok (.aload_n 0, 1) := by decide +kernel
theorem dX8_fort_59 : decode cX8_fort 59 = .ok (.getfield 79, 3) := by decide +kernel
theorem dX8_fort_62 : decode cX8_fort 62 = .ok (.iload_n 2, 1) := by decide +kernel
theorem dX8_fort_63 : decode cX8_fort 63 = .ok (.iastore, 1) := by decide +kernel
theorem dX8_fort_64 : decode cX8_fort 64 = .ok (.aload_n 0, 1) := by decide +kernel
theorem dX8_fort_65 : decode cX8_fort 65 = .ok (.getfield 16, 3) := by decide +kernel
theorem dX8_fort_68 : decode cX8_fort 68 = .ok (.aload_n 0, 1) := by decide +kernel
theorem dX8_fort_69 : decode cX8_fort 69 = .ok (.getfield 79, 3) := by decide +kernel
theorem dX8_fort_72 : decode cX8_fort 72 = .ok (.iload_n 3, 1) := by decide +kernel
theorem dX8_fort_73 : decode cX8_fort 73 = .ok (.iastore, 1) := by decide +kernel
theorem dX8_fort_74 : decode cX8_fort 74 = .ok (.aload_n 0, 1) := by decide +kernel
theorem dX8_fort_75 : decode cX8_fort 75 = .ok (.getfield 19, 3) := by decide +kernel
theorem dX8_fort_78 : decode cX8_fort 78 = .ok (.aload_n 0, 1) := by decide +kernel
theorem dX8_fort_79 : decode cX8_fort 79 = .ok (.getfield 79, 3) := by decide +kernel
theorem dX8_fort_82 : decode cX8_fort 82 = .ok (.iconst 0, 1) := by decide +kernel
theorem dX8_fort_83 : decode cX8_fort 83 = .ok (.iastore, 1) := by decide +kernel
theorem dX8_fort_84 : decode cX8_fort 84 = .ok (.aload_n 0, 1) := by decide +kernel
theorem dX8_fort_85 : decode cX8_fort 85 = .ok (.getfield 22, 3) := by decide +kernel
theorem dX8_fort_88 : decode cX8_fort 88 = .ok (.aload_n 0, 1) := by decide +kernel
theorem dX8_fort_89 : decode cX8_fort 89 = .ok (.getfield 79, 3) := by decide +kernel
theorem dX8_fort_92 : decode cX8_fort 92 = .ok (.bipush 20, 2) := by decide +kernel
theorem dX8_fort_94 : decode cX8_fort 94 = .ok (.iastore, 1) := by decide +kernel
theorem dX8_fort_95 : decode cX8_fort 95 = .ok (.aload_n 0, 1) := by decide +kernel
theorem dX8_fort_96 : decode cX8_fort 96 = .ok (.dup, 1) := by decide +kernel
theorem dX8_fort_97 : decode cX8_fort 97 = .ok (.getfield 79, 3) := by decide +kernel
theorem dX8_fort_100 : decode cX8_fort 100 = .ok (.dup_x1, 1) := by decide +kernel
theorem dX8_fort_101 : decode cX8_fort 101 = .ok (.iconst 1, 1) := by decide +kernel
theorem dX8_fort_102 : decode cX8_fort 102 = .ok (.iadd, 1) := by decide +kernel
theorem dX8_fort_103 : decode cX8_fort 103 = .ok (.putfield 79, 3) := by decide +kernel
theorem dX8_fort_106 : decode cX8_fort 106 = .ok (.ireturn, 1) := by decide +kernel
theorem dX8_told_0 : decode cX8_told 0 = .ok (.iload_n 2, 1) := by decide +kernel
theorem dX8_told_1 : decode cX8_told 1 = .ok (.iconst 0, 1) := by decide +kernel
theorem dX8_told_2 : decode cX8_told 2 = .ok (.bipush 9, 2) := by decide +kernel
theorem dX8_told_4 : decode cX8_told 4 = .ok (.invokestatic 82, 3) := by decide +kernel
theorem dX8_told_7 : decode cX8_told 7 = .ok (.ifCond .eq 25, 3) := by decide +kernel
theorem dX8_told_10 : decode cX8_told 10 = .ok (.iload_n 2, 1) := by decide +kernel
theorem dX8_told_11 : decode cX8_told 11 = .ok (.iconst 2, 1) := by decide +kernel
theorem dX8_told_12 : decode cX8_told 12 = .ok (.if_icmp .lt 11, 3) := by decide +kernel
theorem dX8_told_15 : decode cX8_told 15 = .ok (.aload_n 0, 1) := by decide +kernel
theorem dX8_told_16 : decode cX8_told 16 = .ok (.iload_n 1, 1) := by decide +kernel
theorem dX8_told_17 : decode cX8_told 17 = .ok (.invokevirtual 102, 3) := by decide +kernel
theorem dX8_told_20 : decode cX8_told 20 = .ok (.ifCond .eq 12, 3) := by decide +kernel
theorem dX8_told_23 : decode cX8_told 23 = .ok (.aload_n 0, 1) := by decide +kernel
theorem dX8_told_24 : decode cX8_told 24 = .ok (.iload_n 1, 1) := by decide +kernel
theorem dX8_told_25 : decode cX8_told 25 = .ok (.iload_n 2, 1) := by decide +kernel
theorem dX8_told_26 : decode cX8_told 26 = .ok (.invokevirtual 109, 3) := by decide +kernel
theorem dX8_told_29 : decode cX8_told 29 = .ok (.goto 5, 3) := by decide +kernel
theorem dX8_told_32 : decode cX8_told 32 = .ok (.bipush (-2), 2) := by decide +kernel
theorem dX8_told_34 : decode cX8_told 34 = .ok (.ireturn, 1) := by decide +kernel
theorem dX8_feed_0 : decode cX8_feed 0 = .ok (.iload_n 1, 1) := by decide +kernel
theorem dX8_feed_1 : decode cX8_feed 1 = .ok (.iconst 0, 1) := by decide +kernel
theorem dX8_feed_2 : decode cX8_feed 2 = .ok (.sipush 255, 3) := by decide +kernel
theorem dX8_feed_5 : decode cX8_feed 5 = .ok (.invokestatic 82, 3) := by decide +kernel
theorem dX8_feed_8 : decode cX8_feed 8 = .ok (.ifCond .ne 6, 3) := by decide +kernel
theorem dX8_feed_11 : decode cX8_feed 11 = .ok (.bipush (-2), 2) := by decide +kernel
theorem dX8_feed_13 : decode cX8_feed 13 = .ok (.ireturn, 1) := by decide +kernel
theorem dX8_feed_14 : decode cX8_feed 14 = .ok (.aload_n 0, 1) := by decide +kernel
theorem dX8_feed_15 : decode cX8_feed 15 = .ok (.getfield 72, 3) := by decide +kernel
theorem dX8_feed_18 : decode cX8_feed 18 = .ok (.sipush 160, 3) := by decide +kernel
theorem dX8_feed_21 : decode cX8_feed 21 = .ok (.if_icmp .ne 6, 3) := by decide +kernel
theorem dX8_feed_24 : decode cX8_feed 24 = .ok (.bipush (-4), 2) := by decide +kernel
theorem dX8_feed_26 : decode cX8_feed 26 = .ok (.ireturn, 1) := by decide +kernel
theorem dX8_feed_27 : decode cX8_feed 27 = .ok (.aload_n 0, 1) := by decide +kernel
theorem dX8_feed_28 : decode cX8_feed 28 = .ok (.getfield 25, 3) := by decide +kernel
theorem dX8_feed_31 : decode cX8_feed 31 = .ok (.aload_n 0, 1) := by decide +kernel
theorem dX8_feed_32 : decode cX8_feed 32 = .ok (.dup, 1) := by decide +kernel
theorem dX8_feed_33 : decode cX8_feed 33 = .ok (.getfield 72, 3) := by decide +kernel
theorem dX8_feed_36 : decode cX8_feed 36 = .ok (.dup_x1, 1) := by decide +kernel
theorem dX8_feed_37 : decode cX8_feed 37 = .ok (.iconst 1, 1) := by decide +kernel
theorem dX8_feed_38 : decode cX8_feed 38 = .ok (.iadd, 1) := by decide +kernel
theorem dX8_feed_39 : decode cX8_feed 39 = .ok (.putfield 72, 3) := by decide +kernel
theorem dX8_feed_42 : decode cX8_feed 42 = .ok (.iload_n 1, 1) := by decide +kernel
theorem dX8_feed_43 : decode cX8_feed 43 = .ok (.iastore, 1) := by decide +kernel
theorem dX8_feed_44 : decode cX8_feed 44 = .ok (.aload_n 0, 1) := by decide +kernel
theorem dX8_feed_45 : decode cX8_feed 45 = .ok (.getfield 72, 3) := by decide +kernel
theorem dX8_feed_48 : decode cX8_feed 48 = .ok (.ireturn, 1) := by decide +kernel
theorem dX8_isLetter_0 : decode cX8_isLetter 0 = .ok (.iload_n 0, 1) := by decide +kernel
theorem dX8_isLetter_1 : decode cX8_isLetter 1 = .ok (.bipush 97, 2) := by decide +kernel
theorem dX8_isLetter_3 : decode cX8_isLetter 3 = .ok (.if_icmp .lt 13, 3) := by decide +kernel
theorem dX8_isLetter_6 : decode cX8_isLetter 6 = .ok (.iload_n 0, 1) := by decide +kernel
theorem dX8_isLetter_7 : decode cX8_isLetter 7 = .ok (.bipush 122, 2) := by decide +kernel
theorem dX8_isLetter_9 : decode cX8_isLetter 9 = .ok (.if_icmp .gt 7, 3) := by decide +kernel
theorem dX8_isLetter_12 : decode cX8_isLetter 12 = .ok (.iconst 1, 1) := by decide +kernel
theorem dX8_isLetter_13 : decode cX8_isLetter 13 = .ok (.goto 4, 3) := by decide +kernel
theorem dX8_isLetter_16 : decode cX8_isLetter 16 = .ok (.iconst 0, 1) := by decide +kernel
theorem dX8_isLetter_17 : decode cX8_isLetter 17 = .ok (.ireturn, 1) := by decide +kernel
theorem dX8_isDigit_0 : decode cX8_isDigit 0 = .ok (.iload_n 0, 1) := by decide +kernel
theorem dX8_isDigit_1 : decode cX8_isDigit 1 = .ok (.bipush 48, 2) := by decide +kernel
theorem dX8_isDigit_3 : decode cX8_isDigit 3 = .ok (.if_icmp .lt 13, 3) := by decide +kernel
theorem dX8_isDigit_6 : decode cX8_isDigit 6 = .ok (.iload_n 0, 1) := by decide +kernel
theorem dX8_isDigit_7 : decode cX8_isDigit 7 = .ok (.bipush 57, 2) := by decide +kernel
theorem dX8_isDigit_9 : decode cX8_isDigit 9 = .ok (.if_icmp .gt 7, 3) := by decide +kernel
theorem dX8_isDigit_12 : decode cX8_isDigit 12 = .ok (.iconst 1, 1) := by decide +kernel
theorem dX8_isDigit_13 : decode cX8_isDigit 13 = .ok (.goto 4, 3) := by decide +kernel
theorem dX8_isDigit_16 : decode cX8_isDigit 16 = .ok (.iconst 0, 1) := by decide +kernel
theorem dX8_isDigit_17 : decode cX8_isDigit 17 = .ok (.ireturn, 1) := by decide +kernel
theorem dX8_isWord_0 : decode cX8_isWord 0 = .ok (.aload_n 0, 1) := by decide +kernel
theorem dX8_isWord_1 : decode cX8_isWord 1 = .ok (.getfield 117, 3) := by decide +kernel
theorem dX8_isWord_4 : decode cX8_isWord 4 = .ok (.bipush 119, 2) := by decide +kernel
theorem dX8_isWord_6 : decode cX8_isWord 6 = .ok (.if_icmp .ne 19, 3) := by decide +kernel
theorem dX8_isWord_9 : decode cX8_isWord 9 = .ok (.aload_n 0, 1) := by decide +kernel
theorem dX8_isWord_10 : decode cX8_isWord 10 = .ok (.getfield 120, 3) := by decide +kernel
theorem dX8_isWord_13 : decode cX8_isWord 13 = .ok (.aload_n 0, 1) := by decide +kernel
theorem dX8_isWord_14 : decode cX8_isWord 14 = .ok (.getfield 123, 3) := by decide +kernel
theorem dX8_isWord_17 : decode cX8_isWord 17 = .ok (.isub, 1) := by decide +kernel
theorem dX8_isWord_18 : decode cX8_isWord 18 = .ok (.aload_n 1, 1) := by decide +kernel
theorem dX8_isWord_19 : decode cX8_isWord 19 = .ok (.invokevirtual 63, 3) := by decide +kernel
theorem dX8_isWord_22 : decode cX8_isWord 22 = .ok (.if_icmp .eq 5, 3) := by decide +kernel
theorem dX8_isWord_25 : decode cX8_isWord 25 = .ok (.iconst 0, 1) := by decide +kernel
theorem dX8_isWord_26 : decode cX8_isWord 26 = .ok (.ireturn, 1) := by decide +kernel
theorem dX8_isWord_27 : decode cX8_isWord 27 = .ok (.iconst 0, 1) := by decide +kernel
theorem dX8_isWord_28 : decode cX8_isWord 28 = .ok (.istore_n 2, 1) := by decide +kernel
theorem dX8_isWord_29 : decode cX8_isWord 29 = .ok (.iload_n 2, 1) := by decide +kernel
theorem dX8_isWord_30 : decode cX8_isWord 30 = .ok (.aload_n 1, 1) := by decide +kernel
theorem dX8_isWord_31 : decode cX8_isWord 31 = .ok (.invokevirtual 63, 3) := by decide +kernel
theorem dX8_isWord_34 : decode cX8_isWord 34 = .ok (.if_icmp .ge 30, 3) := by decide +kernel
theorem dX8_isWord_37 : decode cX8_isWord 37 = .ok (.aload_n 0, 1) := by decide +kernel
theorem dX8_isWord_38 : decode cX8_isWord 38 = .ok (.getfield 25, 3) := by decide +kernel
theorem dX8_isWord_41 : decode cX8_isWord 41 = .ok (.aload_n 0, 1) := by decide +kernel
theorem dX8_isWord_42 : decode cX8_isWord 42 = .ok (.getfield 123, 3) := by decide +kernel
theorem dX8_isWord_45 : decode cX8_isWord 45 = .ok (.iload_n 2, 1) := by decide +kernel
theorem dX8_isWord_46 : decode cX8_isWord 46 = .ok (.iadd, 1) := by decide +kernel
theorem dX8_isWord_47 : decode cX8_isWord 47 = .ok (.iaload, 1) := by decide +kernel
theorem dX8_isWord_48 : decode cX8_isWord 48 = .ok (.aload_n 1, 1) := by decide +kernel
theorem dX8_isWord_49 : decode cX8_isWord 49 = .ok (.iload_n 2, 1) := by decide +kernel
theorem dX8_isWord_50 : decode cX8_isWord 50 = .ok (.invokevirtual 68, 3) := by decide +kernel
theorem dX8_isWord_53 : decode cX8_isWord 53 = .ok (.if_icmp .eq 5, 3) := by decide +kernel
theorem dX8_isWord_56 : decode cX8_isWord 56 = .ok (.iconst 0, 1) := by decide +kernel
theorem dX8_isWord_57 : decode cX8_isWord 57 = .ok (.ireturn, 1) := by decide +kernel
theorem dX8_isWord_58 : decode cX8_isWord 58 = .ok (.iinc 2 1, 3) := by decide +kernel
theorem dX8_isWord_61 : decode cX8_isWord 61 = .ok (.goto (-32), 3) := by decide +kernel
theorem dX8_isWord_64 : decode cX8_isWord 64 = .ok (.iconst 1, 1) := by decide +kernel
theorem dX8_isWord_65 : decode cX8_isWord 65 = .ok (.ireturn, 1) := by decide +kernel
theorem dX8_name_0 : decode cX8_name 0 = .ok (.iload_n 0, 1) := by decide +kernel
theorem dX8_name_1 : decode cX8_name 1 = .ok (.ifCond .ne 8, 3) := by decide +kernel
theorem dX8_name_4 : decode cX8_name 4 = .ok (.ldc 126, 2) := by decide +kernel
theorem dX8_name_6 : decode cX8_name 6 = .ok (.goto 45, 3) := by decide +kernel
theorem dX8_name_9 : decode cX8_name 9 = .ok (.iload_n 0, 1) := by decide +kernel
theorem dX8_name_10 : decode cX8_name 10 = .ok (.iconst 1, 1) := by decide +kernel
theorem dX8_name_11 : decode cX8_name 11 = .ok (.if_icmp .ne 8, 3) := by decide +kernel
theorem dX8_name_14 : decode cX8_name 14 = .ok (.ldc 127, 2) := by decide +kernel
theorem dX8_name_16 : decode cX8_name 16 = .ok (.goto 35, 3) := by decide +kernel
theorem dX8_name_19 : decode cX8_name 19 = .ok (.iload_n 0, 1) := by decide +kernel
theorem dX8_name_20 : decode cX8_name 20 = .ok (.iconst 2, 1) := by decide +kernel
theorem dX8_name_21 : decode cX8_name 21 = .ok (.if_icmp .ne 8, 3) := by decide +kernel
theorem dX8_name_24 : decode cX8_name 24 = .ok (.ldc 128, 2) := by decide +kernel
theorem dX8_name_26 : decode cX8_name 26 = .ok (.goto 25, 3) := by decide +kernel
theorem dX8_name_29 : decode cX8_name 29 = .ok (.iload_n 0, 1) := by decide +kernel
theorem dX8_name_30 : decode cX8_name 30 = .ok (.iconst 3, 1) := by decide +kernel
theorem dX8_name_31 : decode cX8_name 31 = .ok (.if_icmp .ne 8, 3) := by decide +kernel
theorem dX8_name_34 : decode cX8_name 34 = .ok (.ldc 129, 2) := by decide +kernel
theorem dX8_name_36 : decode cX8_name 36 = .ok (.goto 15, 3) := by decide +kernel
theorem dX8_name_39 : decode cX8_name 39 = .ok (.iload_n 0, 1) := by decide +kernel
theorem dX8_name_40 : decode cX8_name 40 = .ok (.iconst 4, 1) := by decide +kernel
theorem dX8_name_41 : decode cX8_name 41 = .ok (.if_icmp .ne 8, 3) := by decide +kernel
theorem dX8_name_44 : decode cX8_name 44 = .ok (.ldc 130, 2) := by decide +kernel
theorem dX8_name_46 : decode cX8_name 46 = .ok (.goto 5, 3) := by decide +kernel
theorem dX8_name_49 : decode cX8_name 49 = .ok (.ldc 131, 2) := by decide +kernel
theorem dX8_name_51 : decode cX8_name 51 = .ok (.areturn, 1) := by decide +kernel
theorem dX8_named_0 : decode cX8_named 0 = .ok (.iconst 0, 1) := by decide +kernel
theorem dX8_named_1 : decode cX8_named 1 = .ok (.istore_n 1, 1) := by decide +kernel
theorem dX8_named_2 : decode cX8_named 2 = .ok (.iload_n 1, 1) := by decide +kernel
theorem dX8_named_3 : decode cX8_named 3 = .ok (.iconst 5, 1) := by decide +kernel
theorem dX8_named_4 : decode cX8_named 4 = .ok (.if_icmp .gt 22, 3) := by decide +kernel
theorem dX8_named_7 : decode cX8_named 7 = .ok (.aload_n 0, 1) := by decide +kernel
theorem dX8_named_8 : decode cX8_named 8 = .ok (.iload_n 1, 1) := by decide +kernel
theorem dX8_named_9 : decode cX8_named 9 = .ok (.invokestatic 132, 3) := by decide +kernel
theorem dX8_named_12 : decode cX8_named 12 = .ok (.invokevirtual 136, 3) := by decide +kernel
theorem dX8_named_15 : decode cX8_named 15 = .ok (.ifCond .eq 5, 3) := by decide +kernel
theorem dX8_named_18 : decode cX8_named 18 = .ok (.iload_n 1, 1) := by decide +kernel
theorem dX8_named_19 : decode cX8_named 19 = .ok (.ireturn, 1) := by decide +kernel
theorem dX8_named_20 : decode cX8_named 20 = .ok (.iinc 1 1, 3) := by decide +kernel
theorem dX8_named_23 : decode cX8_named 23 = .ok (.goto (-21), 3) := by decide +kernel
theorem dX8_named_26 : decode cX8_named 26 = .ok (.iconst (-1), 1) := by decide +kernel
theorem dX8_named_27 : decode cX8_named 27 = .ok (.ireturn, 1) := by decide +kernel
theorem dX8_next_0 : decode cX8_next 0 = .ok (.aload_n 0, 1) := by decide +kernel
theorem dX8_next_1 : decode cX8_next 1 = .ok (.aload_n 0, 1) := by decide +kernel
theorem dX8_next_2 : decode cX8_next 2 = .ok (.getfield 120, 3) := by decide +kernel
theorem dX8_next_5 : decode cX8_next 5 = .ok (.putfield 123, 3) := by decide +kernel
theorem dX8_next_8 : decode cX8_next 8 = .ok (.aload_n 0, 1) := by decide +kernel
theorem dX8_next_9 : decode cX8_next 9 = .ok (.getfield 123, 3) := by decide +kernel
theorem dX8_next_12 : decode cX8_next 12 = .ok (.aload_n 0, 1) := by decide +kernel
theorem dX8_next_13 : decode cX8_next 13 = .ok (.getfield 72, 3) := by decide +kernel
theorem dX8_next_16 : decode cX8_next 16 = .ok (.if_icmp .ge 44, 3) := by decide +kernel
theorem dX8_next_19 : decode cX8_next 19 = .ok (.aload_n 0, 1) := by decide +kernel
theorem dX8_next_20 : decode cX8_next 20 = .ok (.getfield 25, 3) := by decide +kernel
theorem dX8_next_23 : decode cX8_next 23 = .ok (.aload_n 0, 1) := by decide +kernel
theorem dX8_next_24 : decode cX8_next 24 = .ok (.getfield 123, 3) := by decide +kernel
theorem dX8_next_27 : decode cX8_next 27 = .ok (.iaload, 1) := by decide +kernel
theorem dX8_next_28 : decode cX8_next 28 = .ok (.bipush 32, 2) := by decide +kernel
theorem dX8_next_30 : decode cX8_next 30 = .ok (.if_icmp .eq 17, 3) := by decide +kernel
theorem dX8_next_33 : decode cX8_next 33 = .ok (.aload_n 0, 1) := by decide +kernel
theorem dX8_next_34 : decode cX8_next 34 = .ok (.getfield 25, 3) := by decide +kernel
theorem dX8_next_37 : decode cX8_next 37 = .ok (.aload_n 0, 1) := by decide +kernel
theorem dX8_next_38 : decode cX8_next 38 = .ok (.getfield 123, 3) := by decide +kernel
theorem dX8_next_41 : decode cX8_next 41 = .ok (.iaload, 1) := by decide +kernel
theorem dX8_next_42 : decode cX8_next 42 = .ok (.bipush 10, 2) := by decide +kernel
theorem dX8_next_44 : decode cX8_next 44 = .ok (.if_icmp .ne 16, 3) := by decide +kernel
theorem dX8_next_47 : decode cX8_next 47 = .ok (.aload_n 0, 1) := by decide +kernel
theorem dX8_next_48 : decode cX8_next 48 = .ok (.dup, 1) := by decide +kernel
theorem dX8_next_49 : decode cX8_next 49 = .ok (.getfield 123, 3) := by decide +kernel
theorem dX8_next_52 : decode cX8_next 52 = .ok (.iconst 1, 1) := by decide +kernel
theorem dX8_next_53 : decode cX8_next 53 = .ok (.iadd, 1) := by decide +kernel
theorem dX8_next_54 : decode cX8_next 54 = .ok (.putfield 123, 3) := by decide +kernel
theorem dX8_next_57 : decode cX8_next 57 = .ok (.goto (-49), 3) := by decide +kernel
theorem dX8_next_60 : decode cX8_next 60 = .ok (.aload_n 0, 1) := by decide +kernel
theorem dX8_next_61 : decode cX8_next 61 = .ok (.aload_n 0, 1) := by decide +kernel
theorem dX8_next_62 : decode cX8_next 62 = .ok (.getfield 123, 3) := by decide +kernel
theorem dX8_next_65 : decode cX8_next 65 = .ok (.putfield 120, 3) := by decide +kernel
theorem dX8_next_68 : decode cX8_next 68 = .ok (.aload_n 0, 1) := by decide +kernel
theorem dX8_next_69 : decode cX8_next 69 = .ok (.getfield 123, 3) := by decide +kernel
theorem dX8_next_72 : decode cX8_next 72 = .ok (.aload_n 0, 1) := by decide +kernel
theorem dX8_next_73 : decode cX8_next 73 = .ok (.getfield 72, 3) := by decide +kernel
theorem dX8_next_76 : decode cX8_next 76 = .ok (.if_icmp .ne 10, 3) := by decide +kernel
theorem dX8_next_79 : decode cX8_next 79 = .ok (.aload_n 0, 1) := by decide +kernel
theorem dX8_next_80 : decode cX8_next 80 = .ok (.bipush 101, 2) := by decide +kernel
theorem dX8_next_82 : decode cX8_next 82 = .ok (.putfield 117, 3) := by decide +kernel
theorem dX8_next_85 : decode cX8_next 85 = .ok (.return_, 1) := by decide +kernel
theorem dX8_next_86 : decode cX8_next 86 = .ok (.aload_n 0, 1) := by decide +kernel
theorem dX8_next_87 : decode cX8_next 87 = .ok (.getfield 25, 3) := by decide +kernel
theorem dX8_next_90 : decode cX8_next 90 = .ok (.aload_n 0, 1) := by decide +kernel
theorem dX8_next_91 : decode cX8_next 91 = .ok (.getfield 123, 3) := by decide +kernel
theorem dX8_next_94 : decode cX8_next 94 = .ok (.iaload, 1) := by decide +kernel
theorem dX8_next_95 : decode cX8_next 95 = .ok (.istore_n 1, 1) := by decide +kernel
theorem dX8_next_96 : decode cX8_next 96 = .ok (.iload_n 1, 1) := by decide +kernel
theorem dX8_next_97 : decode cX8_next 97 = .ok (.invokestatic 140, 3) := by decide +kernel
theorem dX8_next_100 : decode cX8_next 100 = .ok (.ifCond .eq 119, 3) := by decide +kernel
theorem dX8_next_103 : decode cX8_next 103 = .ok (.aload_n 0, 1) := by decide +kernel
theorem dX8_next_104 : decode cX8_next 104 = .ok (.getfield 120, 3) := by decide +kernel
theorem dX8_next_107 : decode cX8_next 107 = .ok (.aload_n 0, 1) := by decide +kernel
theorem dX8_next_108 : decode cX8_next 108 = .ok (.getfield 72, 3) := by decide +kernel
theorem dX8_next_111 : decode cX8_next 111 = .ok (.if_icmp .ge 31, 3) := by decide +kernel
theorem dX8_next_114 : decode cX8_next 114 = .ok (.aload_n 0, 1) := by decide +kernel
theorem dX8_next_115 : decode cX8_next 115 = .ok (.getfield 25, 3) := by decide +kernel
theorem dX8_next_118 : decode cX8_next 118 = .ok (.aload_n 0, 1) := by decide +kernel
theorem dX8_next_119 : decode cX8_next 119 = .ok (.getfield 120, 3) := by decide +kernel
theorem dX8_next_122 : decode cX8_next 122 = .ok (.iaload, 1) := by decide +kernel
theorem dX8_next_123 : decode cX8_next 123 = .ok (.invokestatic 140, 3) := by decide +kernel
theorem dX8_next_126 : decode cX8_next 126 = .ok (.ifCond .eq 16, 3) := by decide +kernel
theorem dX8_next_129 : decode cX8_next 129 = .ok (.aload_n 0, 1) := by decide +kernel
theorem dX8_next_130 : decode cX8_next 130 = .ok (.dup, 1) := by decide +kernel
theorem dX8_next_131 : decode cX8_next 131 = .ok (.getfield 120, 3) := by decide +kernel
theorem dX8_next_134 : decode cX8_next 134 = .ok (.iconst 1, 1) := by decide +kernel
theorem dX8_next_135 : decode cX8_next 135 = .ok (.iadd, 1) := by decide +kernel
theorem dX8_next_136 : decode cX8_next 136 = .ok (.putfield 120, 3) := by decide +kernel
theorem dX8_next_139 : decode cX8_next 139 = .ok (.goto (-36), 3) := by decide +kernel
theorem dX8_next_142 : decode cX8_next 142 = .ok (.aload_n 0, 1) := by decide +kernel
theorem dX8_next_143 : decode cX8_next 143 = .ok (.bipush 119, 2) := by decide +kernel
theorem dX8_next_145 : decode cX8_next 145 = .ok (.putfield 117, 3) := by decide +kernel
theorem dX8_next_148 : decode cX8_next 148 = .ok (.aload_n 0, 1) := by decide +kernel
theorem dX8_next_149 : decode cX8_next 149 = .ok (.invokevirtual 143, 3) := by decide +kernel
theorem dX8_next_152 : decode cX8_next 152 = .ok (.iconst (-1), 1) := by decide +kernel
theorem dX8_next_153 : decode cX8_next 153 = .ok (.if_icmp .ne 214, 3) := by decide +kernel
theorem dX8_next_156 : decode cX8_next 156 = .ok (.aload_n 0, 1) := by decide +kernel
theorem dX8_next_157 : decode cX8_next 157 = .ok (.ldc 146, 2) := by decide +kernel
theorem dX8_next_159 : decode cX8_next 159 = .ok (.invokevirtual 136, 3) := by decide +kernel
theorem dX8_next_162 : decode cX8_next 162 = .ok (.ifCond .ne 205, 3) := by decide +kernel
theorem dX8_next_165 : decode cX8_next 165 = .ok (.aload_n 0, 1) := by decide +kernel
theorem dX8_next_166 : decode cX8_next 166 = .ok (.ldc 148, 2) := by decide +kernel
theorem dX8_next_168 : decode cX8_next 168 = .ok (.invokevirtual 136, 3) := by decide +kernel
theorem dX8_next_171 : decode cX8_next 171 = .ok (.ifCond .ne 196, 3) := by decide +kernel
theorem dX8_next_174 : decode cX8_next 174 = .ok (.aload_n 0, 1) := by decide +kernel
theorem dX8_next_175 : decode cX8_next 175 = .ok (.ldc 150, 2) := by decide +kernel
theorem dX8_next_177 : decode cX8_next 177 = .ok (.invokevirtual 136, 3) := by decide +kernel
theorem dX8_next_180 : decode cX8_next 180 = .ok (.ifCond .ne 187, 3) := by decide +kernel
theorem dX8_next_183 : decode cX8_next 183 = .ok (.aload_n 0, 1) := by decide +kernel
theorem dX8_next_184 : decode cX8_next 184 = .ok (.ldc 152, 2) := by decide +kernel
theorem dX8_next_186 : decode cX8_next 186 = .ok (.invokevirtual 136, 3) := by decide +kernel
theorem dX8_next_189 : decode cX8_next 189 = .ok (.ifCond .ne 178, 3) := by decide +kernel
theorem dX8_next_192 : decode cX8_next 192 = .ok (.aload_n 0, 1) := by decide +kernel
theorem dX8_next_193 : decode cX8_next 193 = .ok (.ldc 154, 2) := by decide +kernel
theorem dX8_next_195 : decode cX8_next 195 = .ok (.invokevirtual 136, 3) := by decide +kernel
theorem dX8_next_198 : decode cX8_next 198 = .ok (.ifCond .ne 169, 3) := by decide +kernel
theorem dX8_next_201 : decode cX8_next 201 = .ok (.aload_n 0, 1) := by decide +kernel
theorem dX8_next_202 : decode cX8_next 202 = .ok (.ldc 156, 2) := by decide +kernel
theorem dX8_next_204 : decode cX8_next 204 = .ok (.invokevirtual 136, 3) := by decide +kernel
theorem dX8_next_207 : decode cX8_next 207 = .ok (.ifCond .ne 160, 3) := by decide +kernel
theorem dX8_next_210 : decode cX8_next 210 = .ok (.aload_n 0, 1) := by decide +kernel
theorem dX8_next_211 : decode cX8_next 211 = .ok (.bipush 120, 2) := by decide +kernel
theorem dX8_next_213 : decode cX8_next 213 = .ok (.putfield 117, 3) := by decide +kernel
theorem dX8_next_216 : decode cX8_next 216 = .ok (.goto 151, 3) := by decide +kernel
theorem dX8_next_219 : decode cX8_next 219 = .ok (.iload_n 1, 1) := by decide +kernel
theorem dX8_next_220 : decode cX8_next 220 = .ok (.invokestatic 158, 3) := by decide +kernel
theorem dX8_next_223 : decode cX8_next 223 = .ok (.ifCond .eq 111, 3) := by decide +kernel
theorem dX8_next_226 : decode cX8_next 226 = .ok (.aload_n 0, 1) := by decide +kernel
theorem dX8_next_227 : decode cX8_next 227 = .ok (.iconst 0, 1) := by decide +kernel
theorem dX8_next_228 : decode cX8_next 228 = .ok (.putfield 161, 3) := by decide +kernel
theorem dX8_next_231 : decode cX8_next 231 = .ok (.aload_n 0, 1) := by decide +kernel
theorem dX8_next_232 : decode cX8_next 232 = .ok (.getfield 120, 3) := by decide +kernel
theorem dX8_next_235 : decode cX8_next 235 = .ok (.aload_n 0, 1) := by decide +kernel
theorem dX8_next_236 : decode cX8_next 236 = .ok (.getfield 72, 3) := by decide +kernel
theorem dX8_next_239 : decode cX8_next 239 = .ok (.if_icmp .ge 68, 3) := by decide +kernel
theorem dX8_next_242 : decode cX8_next 242 = .ok (.aload_n 0, 1) := by decide +kernel
theorem dX8_next_243 : decode cX8_next 243 = .ok (.getfield 25, 3) := by decide +kernel
theorem dX8_next_246 : decode cX8_next 246 = .ok (.aload_n 0, 1) := by decide +kernel
theorem dX8_next_247 : decode cX8_next 247 = .ok (.getfield 120, 3) := by decide +kernel
theorem dX8_next_250 : decode cX8_next 250 = .ok (.iaload, 1) := by decide +kernel
theorem dX8_next_251 : decode cX8_next 251 = .ok (.invokestatic 158, 3) := by decide +kernel
theorem dX8_next_254 : decode cX8_next 254 = .ok (.ifCond .eq 53, 3) := by decide +kernel
theorem dX8_next_257 : decode cX8_next 257 = .ok (.aload_n 0, 1) := by decide +kernel
theorem dX8_next_258 : decode cX8_next 258 = .ok (.getfield 120, 3) := by decide +kernel
theorem dX8_next_261 : decode cX8_next 261 = .ok (.aload_n 0, 1) := by decide +kernel
theorem dX8_next_262 : decode cX8_next 262 = .ok (.getfield 123, 3) := by decide +kernel
theorem dX8_next_265 : decode cX8_next 265 = .ok (.isub, 1) := by decide +kernel
theorem dX8_next_266 : decode cX8_next 266 = .ok (.iconst 4, 1) := by decide +kernel
theorem dX8_next_267 : decode cX8_next 267 = .ok (.if_icmp .ge 27, 3) := by decide +kernel
theorem dX8_next_270 : decode cX8_next 270 = .ok (.aload_n 0, 1) := by decide +kernel
theorem dX8_next_271 : decode cX8_next 271 = .ok (.bipush 10, 2) := by decide +kernel
theorem dX8_next_273 : decode cX8_next 273 = .ok (.aload_n 0, 1) := by decide +kernel
theorem dX8_next_274 : decode cX8_next 274 = .ok (.getfield 161, 3) := by decide +kernel
theorem dX8_next_277 : decode cX8_next 277 = .ok (.imul, 1) := by decide +kernel
theorem dX8_next_278 : decode cX8_next 278 = .ok (.aload_n 0, 1) := by decide +kernel
theorem dX8_next_279 : decode cX8_next 279 = .ok (.getfield 25, 3) := by decide +kernel
theorem dX8_next_282 : decode cX8_next 282 = .ok (.aload_n 0, 1) := by decide +kernel
theorem dX8_next_283 : decode cX8_next 283 = .ok (.getfield 120, 3) := by decide +kernel
theorem dX8_next_286 : decode cX8_next 286 = .ok (.iaload, 1) := by decide +kernel
theorem dX8_next_287 : decode cX8_next 287 = .ok (.iadd, 1) := by decide +kernel
theorem dX8_next_288 : decode cX8_next 288 = .ok (.bipush 48, 2) := by decide +kernel
theorem dX8_next_290 : decode cX8_next 290 = .ok (.isub, 1) := by decide +kernel
theorem dX8_next_291 : decode cX8_next 291 = .ok (.putfield 161, 3) := by decide +kernel
theorem dX8_next_294 : decode cX8_next 294 = .ok (.aload_n 0, 1) := by decide +kernel
theorem dX8_next_295 : decode cX8_next 295 = .ok (.dup, 1) := by decide +kernel
theorem dX8_next_296 : decode cX8_next 296 = .ok (.getfield 120, 3) := by decide +kernel
theorem dX8_next_299 : decode cX8_next 299 = .ok (.iconst 1, 1) := by decide +kernel
theorem dX8_next_300 : decode cX8_next 300 = .ok (.iadd, 1) := by decide +kernel
theorem dX8_next_301 : decode cX8_next 301 = .ok (.putfield 120, 3) := by decide +kernel
theorem dX8_next_304 : decode cX8_next 304 = .ok (.goto (-73), 3) := by decide +kernel
theorem dX8_next_307 : decode cX8_next 307 = .ok (.aload_n 0, 1) := by decide +kernel
theorem dX8_next_308 : decode cX8_next 308 = .ok (.aload_n 0, 1) := by decide +kernel
theorem dX8_next_309 : decode cX8_next 309 = .ok (.getfield 120, 3) := by decide +kernel
theorem dX8_next_312 : decode cX8_next 312 = .ok (.aload_n 0, 1) := by decide +kernel
theorem dX8_next_313 : decode cX8_next 313 = .ok (.getfield 123, 3) := by decide +kernel
theorem dX8_next_316 : decode cX8_next 316 = .ok (.isub, 1) := by decide +kernel
theorem dX8_next_317 : decode cX8_next 317 = .ok (.iconst 4, 1) := by decide +kernel
theorem dX8_next_318 : decode cX8_next 318 = .ok (.if_icmp .le 8, 3) := by decide +kernel
theorem dX8_next_321 : decode cX8_next 321 = .ok (.bipush 120, 2) := by decide +kernel
theorem dX8_next_323 : decode cX8_next 323 = .ok (.goto 5, 3) := by decide +kernel
theorem dX8_next_326 : decode cX8_next 326 = .ok (.bipush 48, 2) := by decide +kernel
theorem dX8_next_328 : decode cX8_next 328 = .ok (.putfield 117, 3) := by decide +kernel
theorem dX8_next_331 : decode cX8_next 331 = .ok (.goto 36, 3) := by decide +kernel
theorem dX8_next_334 : decode cX8_next 334 = .ok (.aload_n 0, 1) := by decide +kernel
theorem dX8_next_335 : decode cX8_next 335 = .ok (.dup, 1) := by decide +kernel
theorem dX8_next_336 : decode cX8_next 336 = .ok (.getfield 120, 3) := by decide +kernel
theorem dX8_next_339 : decode cX8_next 339 = .ok (.iconst 1, 1) := by decide +kernel
theorem dX8_next_340 : decode cX8_next 340 = .ok (.iadd, 1) := by decide +kernel
theorem dX8_next_341 : decode cX8_next 341 = .ok (.putfield 120, 3) := by decide +kernel
theorem dX8_next_344 : decode cX8_next 344 = .ok (.aload_n 0, 1) := by decide +kernel
theorem dX8_next_345 : decode cX8_next 345 = .ok (.ldc 164, 2) := by decide +kernel
theorem dX8_next_347 : decode cX8_next 347 = .ok (.iload_n 1, 1) := by decide +kernel
theorem dX8_next_348 : decode cX8_next 348 = .ok (.invokevirtual 166, 3) := by decide +kernel
theorem dX8_next_351 : decode cX8_next 351 = .ok (.ifCond .lt 11, 3) := by decide +kernel
theorem dX8_next_354 : decode cX8_next 354 = .ok (.iload_n 1, 1) := by decide +kernel
theorem dX8_next_355 : decode cX8_next 355 = .ok (.ifCond .le 7, 3) := by decide +kernel
theorem dX8_next_358 : decode cX8_next 358 = .ok (.iload_n 1, 1) := by decide +kernel
theorem dX8_next_359 : decode cX8_next 359 = .ok (.goto 5, 3) := by decide +kernel
theorem dX8_next_362 : decode cX8_next 362 = .ok (.bipush 120, 2) := by decide +kernel
theorem dX8_next_364 : decode cX8_next 364 = .ok (.putfield 117, 3) := by decide +kernel
theorem dX8_next_367 : decode cX8_next 367 = .ok (.return_, 1) := by decide +kernel
theorem dX8_fails_0 : decode cX8_fails 0 = .ok (.aload_n 0, 1) := by decide +kernel
theorem dX8_fails_1 : decode cX8_fails 1 = .ok (.aload_n 0, 1) := by decide +kernel
theorem dX8_fails_2 : decode cX8_fails 2 = .ok (.getfield 123, 3) := by decide +kernel
theorem dX8_fails_5 : decode cX8_fails 5 = .ok (.putfield 169, 3) := by decide +kernel
theorem dX8_fails_8 : decode cX8_fails 8 = .ok (.iconst 0, 1) := by decide +kernel
theorem dX8_fails_9 : decode cX8_fails 9 = .ok (.ireturn, 1) := by decide +kernel
theorem dX8_takes_0 : decode cX8_takes 0 = .ok (.aload_n 0, 1) := by decide +kernel
theorem dX8_takes_1 : decode cX8_takes 1 = .ok (.getfield 117, 3) := by decide +kernel
theorem dX8_takes_4 : decode cX8_takes 4 = .ok (.iload_n 1, 1) := by decide +kernel
theorem dX8_takes_5 : decode cX8_takes 5 = .ok (.if_icmp .eq 8, 3) := by decide +kernel
theorem dX8_takes_8 : decode cX8_takes 8 = .ok (.aload_n 0, 1) := by decide +kernel
theorem dX8_takes_9 : decode cX8_takes 9 = .ok (.invokevirtual 172, 3) := by decide +kernel
theorem dX8_takes_12 : decode cX8_takes 12 = .ok (.ireturn, 1) := by decide +kernel
theorem dX8_takes_13 : decode cX8_takes 13 = .ok (.aload_n 0, 1) := by decide +kernel
theorem dX8_takes_14 : decode cX8_takes 14 = .ok (.invokevirtual 176, 3) := by decide +kernel
theorem dX8_takes_17 : decode cX8_takes 17 = .ok (.iconst 1, 1) := by decide +kernel
theorem dX8_takes_18 : decode cX8_takes 18 = .ok (.ireturn, 1) := by decide +kernel
theorem dX8_takes__0 : decode cX8_takes_ 0 = .ok (.aload_n 0, 1) := by decide +kernel
theorem dX8_takes__1 : decode cX8_takes_ 1 = .ok (.aload_n 1, 1) := by decide +kernel
theorem dX8_takes__2 : decode cX8_takes_ 2 = .ok (.invokevirtual 136, 3) := by decide +kernel
theorem dX8_takes__5 : decode cX8_takes_ 5 = .ok (.ifCond .ne 8, 3) := by decide +kernel
theorem dX8_takes__8 : decode cX8_takes_ 8 = .ok (.aload_n 0, 1) := by decide +kernel
theorem dX8_takes__9 : decode cX8_takes_ 9 = .ok (.invokevirtual 172, 3) := by decide +kernel
theorem dX8_takes__12 : decode cX8_takes_ 12 = .ok (.ireturn, 1) := by decide +kernel
theorem dX8_takes__13 : decode cX8_takes_ 13 = .ok (.aload_n 0, 1) := by decide +kernel
theorem dX8_takes__14 : decode cX8_takes_ 14 = .ok (.invokevirtual 176, 3) := by decide +kernel
theorem dX8_takes__17 : decode cX8_takes_ 17 = .ok (.iconst 1, 1) := by decide +kernel
theorem dX8_takes__18 : decode cX8_takes_ 18 = .ok (.ireturn, 1) := by decide +kernel
theorem dX8_codes_0 : decode cX8_codes 0 = .ok (.aload_n 0, 1) := by decide +kernel
theorem dX8_codes_1 : decode cX8_codes 1 = .ok (.getfield 34, 3) := by decide +kernel
theorem dX8_codes_4 : decode cX8_codes 4 = .ok (.aload_n 0, 1) := by decide +kernel
theorem dX8_codes_5 : decode cX8_codes 5 = .ok (.dup, 1) := by decide +kernel
theorem dX8_codes_6 : decode cX8_codes 6 = .ok (.getfield 179, 3) := by decide +kernel
theorem dX8_codes_9 : decode cX8_codes 9 = .ok (.dup_x1, 1) := by decide +kernel
theorem dX8_codes_10 : decode cX8_codes 10 = .ok (.iconst 1, 1) := by decide +kernel
theorem dX8_codes_11 : decode cX8_codes 11 = .ok (.iadd, 1) := by decide +kernel
theorem dX8_codes_12 : decode cX8_codes 12 = .ok (.putfield 179, 3) := by decide +kernel
theorem dX8_codes_15 : decode cX8_codes 15 = .ok (.iload_n 1, 1) := by decide +kernel
theorem dX8_codes_16 : decode cX8_codes 16 = .ok (.iastore, 1) := by decide +kernel
theorem dX8_codes_17 : decode cX8_codes 17 = .ok (.iconst 1, 1) := by decide +kernel
theorem dX8_codes_18 : decode cX8_codes 18 = .ok (.ireturn, 1) := by decide +kernel
theorem dX8_one_0 : decode cX8_one 0 = .ok (.aload_n 0, 1) := by decide +kernel
theorem dX8_one_1 : decode cX8_one 1 = .ok (.getfield 117, 3) := by decide +kernel
theorem dX8_one_4 : decode cX8_one 4 = .ok (.bipush 119, 2) := by decide +kernel
theorem dX8_one_6 : decode cX8_one 6 = .ok (.if_icmp .ne 10, 3) := by decide +kernel
theorem dX8_one_9 : decode cX8_one 9 = .ok (.aload_n 0, 1) := by decide +kernel
theorem dX8_one_10 : decode cX8_one 10 = .ok (.invokevirtual 143, 3) := by decide +kernel
theorem dX8_one_13 : decode cX8_one 13 = .ok (.goto 4, 3) := by decide +kernel
theorem dX8_one_16 : decode cX8_one 16 = .ok (.iconst (-1), 1) := by decide +kernel
theorem dX8_one_17 : decode cX8_one 17 = .ok (.istore_n 1, 1) := by decide +kernel
theorem dX8_one_18 : decode cX8_one 18 = .ok (.aload_n 0, 1) := by decide +kernel
theorem dX8_one_19 : decode cX8_one 19 = .ok (.getfield 117, 3) := by decide +kernel
theorem dX8_one_22 : decode cX8_one 22 = .ok (.bipush 48, 2) := by decide +kernel
theorem dX8_one_24 : decode cX8_one 24 = .ok (.if_icmp .ne 21, 3) := by decide +kernel
theorem dX8_one_27 : decode cX8_one 27 = .ok (.aload_n 0, 1) := by decide +kernel
theorem dX8_one_28 : decode cX8_one 28 = .ok (.bipush 15, 2) := by decide +kernel
theorem dX8_one_30 : decode cX8_one 30 = .ok (.aload_n 0, 1) := by decide +kernel
theorem dX8_one_31 : decode cX8_one 31 = .ok (.getfield 161, 3) := by decide +kernel
theorem dX8_one_34 : decode cX8_one 34 = .ok (.iadd, 1) := by decide +kernel
theorem dX8_one_35 : decode cX8_one 35 = .ok (.invokevirtual 182, 3) := by decide +kernel
theorem dX8_one_38 : decode cX8_one 38 = .ok (.pop, 1) := by decide +kernel
theorem dX8_one_39 : decode cX8_one 39 = .ok (.aload_n 0, 1) := by decide +kernel
theorem dX8_one_40 : decode cX8_one 40 = .ok (.invokevirtual 176, 3) := by decide +kernel
theorem dX8_one_43 : decode cX8_one 43 = .ok (.iconst 1, 1) := by decide +kernel
theorem dX8_one_44 : decode cX8_one 44 = .ok (.ireturn, 1) := by decide +kernel
theorem dX8_one_45 : decode cX8_one 45 = .ok (.iload_n 1, 1) := by decide +kernel
theorem dX8_one_46 : decode cX8_one 46 = .ok (.iconst (-1), 1) := by decide +kernel
theorem dX8_one_47 : decode cX8_one 47 = .ok (.if_icmp .eq 15, 3) := by decide +kernel
theorem dX8_one_50 : decode cX8_one 50 = .ok (.aload_n 0, 1) := by decide +kernel
theorem dX8_one_51 : decode cX8_one 51 = .ok (.iload_n 1, 1) := by decide +kernel
theorem dX8_one_52 : decode cX8_one 52 = .ok (.invokevirtual 182, 3) := by decide +kernel
theorem dX8_one_55 : decode cX8_one 55 = .ok (.pop, 1) := by decide +kernel
theorem dX8_one_56 : decode cX8_one 56 = .ok (.aload_n 0, 1) := by decide +kernel
theorem dX8_one_57 : decode cX8_one 57 = .ok (.invokevirtual 176, 3) := by decide +kernel
theorem dX8_one_60 : decode cX8_one 60 = .ok (.iconst 1, 1) := by decide +kernel
theorem dX8_one_61 : decode cX8_one 61 = .ok (.ireturn, 1) := by decide +kernel
theorem dX8_one_62 : decode cX8_one 62 = .ok (.aload_n 0, 1) := by decide +kernel
theorem dX8_one_63 : decode cX8_one 63 = .ok (.getfield 117, 3) := by decide +kernel
theorem dX8_one_66 : decode cX8_one 66 = .ok (.bipush 45, 2) := by decide +kernel
theorem dX8_one_68 : decode cX8_one 68 = .ok (.if_icmp .eq 12, 3) := by decide +kernel
theorem dX8_one_71 : decode cX8_one 71 = .ok (.aload_n 0, 1) := by decide +kernel
theorem dX8_one_72 : decode cX8_one 72 = .ok (.getfield 117, 3) := by decide +kernel
theorem dX8_one_75 : decode cX8_one 75 = .ok (.bipush 40, 2) := by decide +kernel
theorem dX8_one_77 : decode cX8_one 77 = .ok (.if_icmp .ne 11, 3) := by decide +kernel
theorem dX8_one_80 : decode cX8_one 80 = .ok (.aload_n 0, 1) := by decide +kernel
theorem dX8_one_81 : decode cX8_one 81 = .ok (.getfield 185, 3) := by decide +kernel
theorem dX8_one_84 : decode cX8_one 84 = .ok (.iconst 5, 1) := by decide +kernel
theorem dX8_one_85 : decode cX8_one 85 = .ok (.if_icmp .ne 8, 3) := by decide +kernel
theorem dX8_one_88 : decode cX8_one 88 = .ok (.aload_n 0, 1) := by decide +kernel
theorem dX8_one_89 : decode cX8_one 89 = .ok (.invokevirtual 172, 3) := by decide +kernel
theorem dX8_one_92 : decode cX8_one 92 = .ok (.ireturn, 1) := by decide +kernel
theorem dX8_one_93 : decode cX8_one 93 = .ok (.aload_n 0, 1) := by decide +kernel
theorem dX8_one_94 : decode cX8_one 94 = .ok (.dup, 1) := by decide +kernel
theorem dX8_one_95 : decode cX8_one 95 = .ok (.getfield 185, 3) := by decide +kernel
theorem dX8_one_98 : decode cX8_one 98 = .ok (.iconst 1, 1) := by decide +kernel
theorem dX8_one_99 : decode cX8_one 99 = .ok (.iadd, 1) := by decide +kernel
theorem dX8_one_100 : decode cX8_one 100 = .ok (.putfield 185, 3) := by decide +kernel
theorem dX8_one_103 : decode cX8_one 103 = .ok (.aload_n 0, 1) := by decide +kernel
theorem dX8_one_104 : decode cX8_one 104 = .ok (.getfield 117, 3) := by decide +kernel
theorem dX8_one_107 : decode cX8_one 107 = .ok (.bipush 45, 2) := by decide +kernel
theorem dX8_one_109 : decode cX8_one 109 = .ok (.if_icmp .ne 7, 3) := by decide +kernel
theorem dX8_one_112 : decode cX8_one 112 = .ok (.iconst 1, 1) := by decide +kernel
theorem dX8_one_113 : decode cX8_one 113 = .ok (.goto 4, 3) := by decide +kernel
theorem dX8_one_116 : decode cX8_one 116 = .ok (.iconst 0, 1) := by decide +kernel
theorem dX8_one_117 : decode cX8_one 117 = .ok (.istore_n 2, 1) := by decide +kernel
theorem dX8_one_118 : decode cX8_one 118 = .ok (.aload_n 0, 1) := by decide +kernel
theorem dX8_one_119 : decode cX8_one 119 = .ok (.invokevirtual 176, 3) := by decide +kernel
theorem dX8_one_122 : decode cX8_one 122 = .ok (.iload_n 2, 1) := by decide +kernel
theorem dX8_one_123 : decode cX8_one 123 = .ok (.ifCond .eq 27, 3) := by decide +kernel
theorem dX8_one_126 : decode cX8_one 126 = .ok (.aload_n 0, 1) := by decide +kernel
theorem dX8_one_127 : decode cX8_one 127 = .ok (.invokevirtual 188, 3) := by decide +kernel
theorem dX8_one_130 : decode cX8_one 130 = .ok (.ifCond .eq 16, 3) := by decide +kernel
theorem dX8_one_133 : decode cX8_one 133 = .ok (.aload_n 0, 1) := by decide +kernel
theorem dX8_one_134 : decode cX8_one 134 = .ok (.bipush 14, 2) := by decide +kernel
theorem dX8_one_136 : decode cX8_one 136 = .ok (.invokevirtual 182, 3) := by decide +kernel
theorem dX8_one_139 : decode cX8_one 139 = .ok (.ifCond .eq 7, 3) := by decide +kernel
theorem dX8_one_142 : decode cX8_one 142 = .ok (.iconst 1, 1) := by decide +kernel
theorem dX8_one_143 : decode cX8_one 143 = .ok (.goto 28, 3) := by decide +kernel
theorem dX8_one_146 : decode cX8_one 146 = .ok (.iconst 0, 1) := by decide +kernel
theorem dX8_one_147 : decode cX8_one 147 = .ok (.goto 24, 3) := by decide +kernel
theorem dX8_one_150 : decode cX8_one 150 = .ok (.aload_n 0, 1) := by decide +kernel
theorem dX8_one_151 : decode cX8_one 151 = .ok (.invokevirtual 191, 3) := by decide +kernel
theorem dX8_one_154 : decode cX8_one 154 = .ok (.ifCond .eq 16, 3) := by decide +kernel
theorem dX8_one_157 : decode cX8_one 157 = .ok (.aload_n 0, 1) := by decide +kernel
theorem dX8_one_158 : decode cX8_one 158 = .ok (.bipush 41, 2) := by decide +kernel
theorem dX8_one_160 : decode cX8_one 160 = .ok (.invokevirtual 194, 3) := by decide +kernel
theorem dX8_one_163 : decode cX8_one 163 = .ok (.ifCond .eq 7, 3) := by decide +kernel
theorem dX8_one_166 : decode cX8_one 166 = .ok (.iconst 1, 1) := by decide +kernel
theorem dX8_one_167 : decode cX8_one 167 = .ok (.goto 4, 3) := by decide +kernel
theorem dX8_one_170 : decode cX8_one 170 = .ok (.iconst 0, 1) := by decide +kernel
theorem dX8_one_171 : decode cX8_one 171 = .ok (.istore_n 3, 1) := by decide +kernel
theorem dX8_one_172 : decode cX8_one 172 = .ok (.aload_n 0, 1) := by decide +kernel
theorem dX8_one_173 : decode cX8_one 173 = .ok (.dup, 1) := by decide +kernel
theorem dX8_one_174 : decode cX8_one 174 = .ok (.getfield 185, 3) := by decide +kernel
theorem dX8_one_177 : decode cX8_one 177 = .ok (.iconst 1, 1) := by decide +kernel
theorem dX8_one_178 : decode cX8_one 178 = .ok (.isub, 1) := by decide +kernel
theorem dX8_one_179 : decode cX8_one 179 = .ok (.putfield 185, 3) := by decide +kernel
theorem dX8_one_182 : decode cX8_one 182 = .ok (.iload_n 3, 1) := by decide +kernel
theorem dX8_one_183 : decode cX8_one 183 = .ok (.ireturn, 1) := by decide +kernel
theorem dX8_term_0 : decode cX8_term 0 = .ok (.aload_n 0, 1) := by decide +kernel
theorem dX8_term_1 : decode cX8_term 1 = .ok (.invokevirtual 188, 3) := by decide +kernel
theorem dX8_term_4 : decode cX8_term 4 = .ok (.ifCond .ne 5, 3) := by decide +kernel
theorem dX8_term_7 : decode cX8_term 7 = .ok (.iconst 0, 1) := by decide +kernel
theorem dX8_term_8 : decode cX8_term 8 = .ok (.ireturn, 1) := by decide +kernel
theorem dX8_term_9 : decode cX8_term 9 = .ok (.aload_n 0, 1) := by decide +kernel
theorem dX8_term_10 : decode cX8_term 10 = .ok (.getfield 117, 3) := by decide +kernel
theorem dX8_term_13 : decode cX8_term 13 = .ok (.bipush 42, 2) := by decide +kernel
theorem dX8_term_15 : decode cX8_term 15 = .ok (.if_icmp .ne 26, 3) := by decide +kernel
theorem dX8_term_18 : decode cX8_term 18 = .ok (.aload_n 0, 1) := by decide +kernel
theorem dX8_term_19 : decode cX8_term 19 = .ok (.invokevirtual 176, 3) := by decide +kernel
theorem dX8_term_22 : decode cX8_term 22 = .ok (.aload_n 0, 1) := by decide +kernel
theorem dX8_term_23 : decode cX8_term 23 = .ok (.invokevirtual 188, 3) := by decide +kernel
theorem dX8_term_26 : decode cX8_term 26 = .ok (.ifCond .ne 5, 3) := by decide +kernel
theorem dX8_term_29 : decode cX8_term 29 = .ok (.iconst 0, 1) := by decide +kernel
theorem dX8_term_30 : decode cX8_term 30 = .ok (.ireturn, 1) := by decide +kernel
theorem dX8_term_31 : decode cX8_term 31 = .ok (.aload_n 0, 1) := by decide +kernel
theorem dX8_term_32 : decode cX8_term 32 = .ok (.bipush 8, 2) := by decide +kernel
theorem dX8_term_34 : decode cX8_term 34 = .ok (.invokevirtual 182, 3) := by decide +kernel
theorem dX8_term_37 : decode cX8_term 37 = .ok (.pop, 1) := by decide +kernel
theorem dX8_term_38 : decode cX8_term 38 = .ok (.goto (-29), 3) := by decide +kernel
theorem dX8_term_41 : decode cX8_term 41 = .ok (.iconst 1, 1) := by decide +kernel
theorem dX8_term_42 : decode cX8_term 42 = .ok (.ireturn, 1) := by decide +kernel
theorem dX8_sum_0 : decode cX8_sum 0 = .ok (.aload_n 0, 1) := by decide +kernel
theorem dX8_sum_1 : decode cX8_sum 1 = .ok (.invokevirtual 197, 3) := by decide +kernel
theorem dX8_sum_4 : decode cX8_sum 4 = .ok (.ifCond .ne 5, 3) := by decide +kernel
theorem dX8_sum_7 : decode cX8_sum 7 = .ok (.iconst 0, 1) := by decide +kernel
theorem dX8_sum_8 : decode cX8_sum 8 = .ok (.ireturn, 1) := by decide +kernel
theorem dX8_sum_9 : decode cX8_sum 9 = .ok (.aload_n 0, 1) := by decide +kernel
theorem dX8_sum_10 : decode cX8_sum 10 = .ok (.getfield 117, 3) := by decide +kernel
theorem dX8_sum_13 : decode cX8_sum 13 = .ok (.bipush 43, 2) := by decide +kernel
theorem dX8_sum_15 : decode cX8_sum 15 = .ok (.if_icmp .eq 12, 3) := by decide +kernel
theorem dX8_sum_18 : decode cX8_sum 18 = .ok (.aload_n 0, 1) := by decide +kernel
theorem dX8_sum_19 : decode cX8_sum 19 = .ok (.getfield 117, 3) := by decide +kernel
theorem dX8_sum_22 : decode cX8_sum 22 = .ok (.bipush 45, 2) := by decide +kernel
theorem dX8_sum_24 : decode cX8_sum 24 = .ok (.if_icmp .ne 42, 3) := by decide +kernel
theorem dX8_sum_27 : decode cX8_sum 27 = .ok (.aload_n 0, 1) := by decide +kernel
theorem dX8_sum_28 : decode cX8_sum 28 = .ok (.getfield 117, 3) := by decide +kernel
theorem dX8_sum_31 : decode cX8_sum 31 = .ok (.bipush 43, 2) := by decide +kernel
theorem dX8_sum_33 : decode cX8_sum 33 = .ok (.if_icmp .ne 8, 3) := by decide +kernel
theorem dX8_sum_36 : decode cX8_sum 36 = .ok (.bipush 6, 2) := by decide +kernel
theorem dX8_sum_38 : decode cX8_sum 38 = .ok (.goto 5, 3) := by decide +kernel
theorem dX8_sum_41 : decode cX8_sum 41 = .ok (.bipush 7, 2) := by decide +kernel
theorem dX8_sum_43 : decode cX8_sum 43 = .ok (.istore_n 1, 1) := by decide +kernel
theorem dX8_sum_44 : decode cX8_sum 44 = .ok (.aload_n 0, 1) := by decide +kernel
theorem dX8_sum_45 : decode cX8_sum 45 = .ok (.invokevirtual 176, 3) := by decide +kernel
theorem dX8_sum_48 : decode cX8_sum 48 = .ok (.aload_n 0, 1) := by decide +kernel
theorem dX8_sum_49 : decode cX8_sum 49 = .ok (.invokevirtual 197, 3) := by decide +kernel
theorem dX8_sum_52 : decode cX8_sum 52 = .ok (.ifCond .ne 5, 3) := by decide +kernel
theorem dX8_sum_55 : decode cX8_sum 55 = .ok (.iconst 0, 1) := by decide +kernel
theorem dX8_sum_56 : decode cX8_sum 56 = .ok (.ireturn, 1) := by decide +kernel
theorem dX8_sum_57 : decode cX8_sum 57 = .ok (.aload_n 0, 1) := by decide +kernel
theorem dX8_sum_58 : decode cX8_sum 58 = .ok (.iload_n 1, 1) := by decide +kernel
theorem dX8_sum_59 : decode cX8_sum 59 = .ok (.invokevirtual 182, 3) := by decide +kernel
theorem dX8_sum_62 : decode cX8_sum 62 = .ok (.pop, 1) := by decide +kernel
theorem dX8_sum_63 : decode cX8_sum 63 = .ok (.goto (-54), 3) := by decide +kernel
theorem dX8_sum_66 : decode cX8_sum 66 = .ok (.iconst 1, 1) := by decide +kernel
theorem dX8_sum_67 : decode cX8_sum 67 = .ok (.ireturn, 1) := by decide +kernel
theorem dX8_no_0 : decode cX8_no 0 = .ok (.aload_n 0, 1) := by decide +kernel
theorem dX8_no_1 : decode cX8_no 1 = .ok (.ldc 156, 2) := by decide +kernel
theorem dX8_no_3 : decode cX8_no 3 = .ok (.invokevirtual 136, 3) := by decide +kernel
theorem dX8_no_6 : decode cX8_no 6 = .ok (.ifCond .eq 64, 3) := by decide +kernel
theorem dX8_no_9 : decode cX8_no 9 = .ok (.aload_n 0, 1) := by decide +kernel
theorem dX8_no_10 : decode cX8_no 10 = .ok (.getfield 185, 3) := by decide +kernel
theorem dX8_no_13 : decode cX8_no 13 = .ok (.iconst 5, 1) := by decide +kernel
theorem dX8_no_14 : decode cX8_no 14 = .ok (.if_icmp .ne 8, 3) := by decide +kernel
theorem dX8_no_17 : decode cX8_no 17 = .ok (.aload_n 0, 1) := by decide +kernel
theorem dX8_no_18 : decode cX8_no 18 = .ok (.invokevirtual 172, 3) := by decide +kernel
theorem dX8_no_21 : decode cX8_no 21 = .ok (.ireturn, 1) := by decide +kernel
theorem dX8_no_22 : decode cX8_no 22 = .ok (.aload_n 0, 1) := by decide +kernel
theorem dX8_no_23 : decode cX8_no 23 = .ok (.dup, 1) := by decide +kernel
theorem dX8_no_24 : decode cX8_no 24 = .ok (.getfield 185, 3) := by decide +kernel
theorem dX8_no_27 : decode cX8_no 27 = .ok (.iconst 1, 1) := by decide +kernel
theorem dX8_no_28 : decode cX8_no 28 = .ok (.iadd, 1) := by decide +kernel
theorem dX8_no_29 : decode cX8_no 29 = .ok (.putfield 185, 3) := by decide +kernel
theorem dX8_no_32 : decode cX8_no 32 = .ok (.aload_n 0, 1) := by decide +kernel
theorem dX8_no_33 : decode cX8_no 33 = .ok (.invokevirtual 176, 3) := by decide +kernel
theorem dX8_no_36 : decode cX8_no 36 = .ok (.aload_n 0, 1) := by decide +kernel
theorem dX8_no_37 : decode cX8_no 37 = .ok (.invokevirtual 200, 3) := by decide +kernel
theorem dX8_no_40 : decode cX8_no 40 = .ok (.ifCond .eq 16, 3) := by decide +kernel
theorem dX8_no_43 : decode cX8_no 43 = .ok (.aload_n 0, 1) := by decide +kernel
theorem dX8_no_44 : decode cX8_no 44 = .ok (.bipush 13, 2) := by decide +kernel
theorem dX8_no_46 : decode cX8_no 46 = .ok (.invokevirtual 182, 3) := by decide +kernel
theorem dX8_no_49 : decode cX8_no 49 = .ok (.ifCond .eq 7, 3) := by decide +kernel
theorem dX8_no_52 : decode cX8_no 52 = .ok (.iconst 1, 1) := by decide +kernel
theorem dX8_no_53 : decode cX8_no 53 = .ok (.goto 4, 3) := by decide +kernel
theorem dX8_no_56 : decode cX8_no 56 = .ok (.iconst 0, 1) := by decide +kernel
theorem dX8_no_57 : decode cX8_no 57 = .ok (.istore_n 1, 1) := by decide +kernel
theorem dX8_no_58 : decode cX8_no 58 = .ok (.aload_n 0, 1) := by decide +kernel
theorem dX8_no_59 : decode cX8_no 59 = .ok (.dup, 1) := by decide +kernel
theorem dX8_no_60 : decode cX8_no 60 = .ok (.getfield 185, 3) := by decide +kernel
theorem dX8_no_63 : decode cX8_no 63 = .ok (.iconst 1, 1) := by decide +kernel
theorem dX8_no_64 : decode cX8_no 64 = .ok (.isub, 1) := by decide +kernel
theorem dX8_no_65 : decode cX8_no 65 = .ok (.putfield 185, 3) := by decide +kernel
theorem dX8_no_68 : decode cX8_no 68 = .ok (.iload_n 1, 1) := by decide +kernel
theorem dX8_no_69 : decode cX8_no 69 = .ok (.ireturn, 1) := by decide +kernel
theorem dX8_no_70 : decode cX8_no 70 = .ok (.aload_n 0, 1) := by decide +kernel
theorem dX8_no_71 : decode cX8_no 71 = .ok (.invokevirtual 203, 3) := by decide +kernel
theorem dX8_no_74 : decode cX8_no 74 = .ok (.ifCond .ne 5, 3) := by decide +kernel
theorem dX8_no_77 : decode cX8_no 77 = .ok (.iconst 0, 1) := by decide +kernel
theorem dX8_no_78 : decode cX8_no 78 = .ok (.ireturn, 1) := by decide +kernel
theorem dX8_no_79 : decode cX8_no 79 = .ok (.aload_n 0, 1) := by decide +kernel
theorem dX8_no_80 : decode cX8_no 80 = .ok (.getfield 117, 3) := by decide +kernel
theorem dX8_no_83 : decode cX8_no 83 = .ok (.bipush 60, 2) := by decide +kernel
theorem dX8_no_85 : decode cX8_no 85 = .ok (.if_icmp .eq 14, 3) := by decide +kernel
theorem dX8_no_88 : decode cX8_no 88 = .ok (.aload_n 0, 1) := by decide +kernel
theorem dX8_no_89 : decode cX8_no 89 = .ok (.getfield 117, 3) := by decide +kernel
theorem dX8_no_92 : decode cX8_no 92 = .ok (.bipush 61, 2) := by decide +kernel
theorem dX8_no_94 : decode cX8_no 94 = .ok (.if_icmp .eq 5, 3) := by decide +kernel
theorem dX8_no_97 : decode cX8_no 97 = .ok (.iconst 1, 1) := by decide +kernel
theorem dX8_no_98 : decode cX8_no 98 = .ok (.ireturn, 1) := by decide +kernel
theorem dX8_no_99 : decode cX8_no 99 = .ok (.aload_n 0, 1) := by decide +kernel
theorem dX8_no_100 : decode cX8_no 100 = .ok (.getfield 117, 3) := by decide +kernel
theorem dX8_no_103 : decode cX8_no 103 = .ok (.bipush 60, 2) := by decide +kernel
theorem dX8_no_105 : decode cX8_no 105 = .ok (.if_icmp .ne 8, 3) := by decide +kernel
theorem dX8_no_108 : decode cX8_no 108 = .ok (.bipush 9, 2) := by decide +kernel
theorem dX8_no_110 : decode cX8_no 110 = .ok (.goto 5, 3) := by decide +kernel
theorem dX8_no_113 : decode cX8_no 113 = .ok (.bipush 10, 2) := by decide +kernel
theorem dX8_no_115 : decode cX8_no 115 = .ok (.istore_n 1, 1) := by decide +kernel
theorem dX8_no_116 : decode cX8_no 116 = .ok (.aload_n 0, 1) := by decide +kernel
theorem dX8_no_117 : decode cX8_no 117 = .ok (.invokevirtual 176, 3) := by decide +kernel
theorem dX8_no_120 : decode cX8_no 120 = .ok (.aload_n 0, 1) := by decide +kernel
theorem dX8_no_121 : decode cX8_no 121 = .ok (.invokevirtual 203, 3) := by decide +kernel
theorem dX8_no_124 : decode cX8_no 124 = .ok (.ifCond .eq 15, 3) := by decide +kernel
theorem dX8_no_127 : decode cX8_no 127 = .ok (.aload_n 0, 1) := by decide +kernel
theorem dX8_no_128 : decode cX8_no 128 = .ok (.iload_n 1, 1) := by decide +kernel
theorem dX8_no_129 : decode cX8_no 129 = .ok (.invokevirtual 182, 3) := by decide +kernel
theorem dX8_no_132 : decode cX8_no 132 = .ok (.ifCond .eq 7, 3) := by decide +kernel
theorem dX8_no_135 : decode cX8_no 135 = .ok (.iconst 1, 1) := by decide +kernel
theorem dX8_no_136 : decode cX8_no 136 = .ok (.goto 4, 3) := by decide +kernel
theorem dX8_no_139 : decode cX8_no 139 = .ok (.iconst 0, 1) := by decide +kernel
theorem dX8_no_140 : decode cX8_no 140 = .ok (.ireturn, 1) := by decide +kernel
theorem dX8_all_0 : decode cX8_all 0 = .ok (.aload_n 0, 1) := by decide +kernel
theorem dX8_all_1 : decode cX8_all 1 = .ok (.invokevirtual 200, 3) := by decide +kernel
theorem dX8_all_4 : decode cX8_all 4 = .ok (.ifCond .ne 5, 3) := by decide +kernel
theorem dX8_all_7 : decode cX8_all 7 = .ok (.iconst 0, 1) := by decide +kernel
theorem dX8_all_8 : decode cX8_all 8 = .ok (.ireturn, 1) := by decide +kernel
theorem dX8_all_9 : decode cX8_all 9 = .ok (.aload_n 0, 1) := by decide +kernel
theorem dX8_all_10 : decode cX8_all 10 = .ok (.ldc 154, 2) := by decide +kernel
theorem dX8_all_12 : decode cX8_all 12 = .ok (.invokevirtual 136, 3) := by decide +kernel
theorem dX8_all_15 : decode cX8_all 15 = .ok (.ifCond .eq 26, 3) := by decide +kernel
theorem dX8_all_18 : decode cX8_all 18 = .ok (.aload_n 0, 1) := by decide +kernel
theorem dX8_all_19 : decode cX8_all 19 = .ok (.invokevirtual 176, 3) := by decide +kernel
theorem dX8_all_22 : decode cX8_all 22 = .ok (.aload_n 0, 1) := by decide +kernel
theorem dX8_all_23 : decode cX8_all 23 = .ok (.invokevirtual 200, 3) := by decide +kernel
theorem dX8_all_26 : decode cX8_all 26 = .ok (.ifCond .ne 5, 3) := by decide +kernel
theorem dX8_all_29 : decode cX8_all 29 = .ok (.iconst 0, 1) := by decide +kernel
theorem dX8_all_30 : decode cX8_all 30 = .ok (.ireturn, 1) := by decide +kernel
theorem dX8_all_31 : decode cX8_all 31 = .ok (.aload_n 0, 1) := by decide +kernel
theorem dX8_all_32 : decode cX8_all 32 = .ok (.bipush 11, 2) := by decide +kernel
theorem dX8_all_34 : decode cX8_all 34 = .ok (.invokevirtual 182, 3) := by decide +kernel
theorem dX8_all_37 : decode cX8_all 37 = .ok (.pop, 1) := by decide +kernel
theorem dX8_all_38 : decode cX8_all 38 = .ok (.goto (-29), 3) := by decide +kernel
theorem dX8_all_41 : decode cX8_all 41 = .ok (.iconst 1, 1) := by decide +kernel
theorem dX8_all_42 : decode cX8_all 42 = .ok (.ireturn, 1) := by decide +kernel
theorem dX8_any_0 : decode cX8_any 0 = .ok (.aload_n 0, 1) := by decide +kernel
theorem dX8_any_1 : decode cX8_any 1 = .ok (.invokevirtual 206, 3) := by decide +kernel
theorem dX8_any_4 : decode cX8_any 4 = .ok (.ifCond .ne 5, 3) := by decide +kernel
theorem dX8_any_7 : decode cX8_any 7 = .ok (.iconst 0, 1) := by decide +kernel
theorem dX8_any_8 : decode cX8_any 8 = .ok (.ireturn, 1) := by decide +kernel
theorem dX8_any_9 : decode cX8_any 9 = .ok (.aload_n 0, 1) := by decide +kernel
theorem dX8_any_10 : decode cX8_any 10 = .ok (.ldc 152, 2) := by decide +kernel
theorem dX8_any_12 : decode cX8_any 12 = .ok (.invokevirtual 136, 3) := by decide +kernel
theorem dX8_any_15 : decode cX8_any 15 = .ok (.ifCond .eq 26, 3) := by decide +kernel
theorem dX8_any_18 : decode cX8_any 18 = .ok (.aload_n 0, 1) := by decide +kernel
theorem dX8_any_19 : decode cX8_any 19 = .ok (.invokevirtual 176, 3) := by decide +kernel
theorem dX8_any_22 : decode cX8_any 22 = .ok (.aload_n 0, 1) := by decide +kernel
theorem dX8_any_23 : decode cX8_any 23 = .ok (.invokevirtual 206, 3) := by decide +kernel
theorem dX8_any_26 : decode cX8_any 26 = .ok (.ifCond .ne 5, 3) := by decide +kernel
theorem dX8_any_29 : decode cX8_any 29 = .ok (.iconst 0, 1) := by decide +kernel
theorem dX8_any_30 : decode cX8_any 30 = .ok (.ireturn, 1) := by decide +kernel
theorem dX8_any_31 : decode cX8_any 31 = .ok (.aload_n 0, 1) := by decide +kernel
theorem dX8_any_32 : decode cX8_any 32 = .ok (.bipush 12, 2) := by decide +kernel
theorem dX8_any_34 : decode cX8_any 34 = .ok (.invokevirtual 182, 3) := by decide +kernel
theorem dX8_any_37 : decode cX8_any 37 = .ok (.pop, 1) := by decide +kernel
theorem dX8_any_38 : decode cX8_any 38 = .ok (.goto (-29), 3) := by decide +kernel
theorem dX8_any_41 : decode cX8_any 41 = .ok (.iconst 1, 1) := by decide +kernel
theorem dX8_any_42 : decode cX8_any 42 = .ok (.ireturn, 1) := by decide +kernel
theorem dX8_part_0 : decode cX8_part 0 = .ok (.aload_n 0, 1) := by decide +kernel
theorem dX8_part_1 : decode cX8_part 1 = .ok (.aload_n 2, 1) := by decide +kernel
theorem dX8_part_2 : decode cX8_part 2 = .ok (.invokevirtual 209, 3) := by decide +kernel
theorem dX8_part_5 : decode cX8_part 5 = .ok (.ifCond .ne 5, 3) := by decide +kernel
theorem dX8_part_8 : decode cX8_part 8 = .ok (.iconst 0, 1) := by decide +kernel
theorem dX8_part_9 : decode cX8_part 9 = .ok (.ireturn, 1) := by decide +kernel
theorem dX8_part_10 : decode cX8_part 10 = .ok (.aload_n 0, 1) := by decide +kernel
theorem dX8_part_11 : decode cX8_part 11 = .ok (.getfield 28, 3) := by decide +kernel
theorem dX8_part_14 : decode cX8_part 14 = .ok (.iload_n 1, 1) := by decide +kernel
theorem dX8_part_15 : decode cX8_part 15 = .ok (.aload_n 0, 1) := by decide +kernel
theorem dX8_part_16 : decode cX8_part 16 = .ok (.getfield 179, 3) := by decide +kernel
theorem dX8_part_19 : decode cX8_part 19 = .ok (.iastore, 1) := by decide +kernel
theorem dX8_part_20 : decode cX8_part 20 = .ok (.aload_n 0, 1) := by decide +kernel
theorem dX8_part_21 : decode cX8_part 21 = .ok (.iconst 0, 1) := by decide +kernel
theorem dX8_part_22 : decode cX8_part 22 = .ok (.putfield 185, 3) := by decide +kernel
theorem dX8_part_25 : decode cX8_part 25 = .ok (.aload_n 0, 1) := by decide +kernel
theorem dX8_part_26 : decode cX8_part 26 = .ok (.invokevirtual 191, 3) := by decide +kernel
theorem dX8_part_29 : decode cX8_part 29 = .ok (.ifCond .ne 5, 3) := by decide +kernel
theorem dX8_part_32 : decode cX8_part 32 = .ok (.iconst 0, 1) := by decide +kernel
theorem dX8_part_33 : decode cX8_part 33 = .ok (.ireturn, 1) := by decide +kernel
theorem dX8_part_34 : decode cX8_part 34 = .ok (.aload_n 0, 1) := by decide +kernel
theorem dX8_part_35 : decode cX8_part 35 = .ok (.getfield 31, 3) := by decide +kernel
theorem dX8_part_38 : decode cX8_part 38 = .ok (.iload_n 1, 1) := by decide +kernel
theorem dX8_part_39 : decode cX8_part 39 = .ok (.aload_n 0, 1) := by decide +kernel
theorem dX8_part_40 : decode cX8_part 40 = .ok (.getfield 179, 3) := by decide +kernel
theorem dX8_part_43 : decode cX8_part 43 = .ok (.aload_n 0, 1) := by decide +kernel
theorem dX8_part_44 : decode cX8_part 44 = .ok (.getfield 28, 3) := by decide +kernel
theorem dX8_part_47 : decode cX8_part 47 = .ok (.iload_n 1, 1) := by decide +kernel
theorem dX8_part_48 : decode cX8_part 48 = .ok (.iaload, 1) := by decide +kernel
theorem dX8_part_49 : decode cX8_part 49 = .ok (.isub, 1) := by decide +kernel
theorem dX8_part_50 : decode cX8_part 50 = .ok (.iastore, 1) := by decide +kernel
theorem dX8_part_51 : decode cX8_part 51 = .ok (.aload_n 0, 1) := by decide +kernel
theorem dX8_part_52 : decode cX8_part 52 = .ok (.bipush 59, 2) := by decide +kernel
theorem dX8_part_54 : decode cX8_part 54 = .ok (.invokevirtual 194, 3) := by decide +kernel
theorem dX8_part_57 : decode cX8_part 57 = .ok (.ireturn, 1) := by decide +kernel
theorem dX8_text_0 : decode cX8_text 0 = .ok (.aload_n 0, 1) := by decide +kernel
theorem dX8_text_1 : decode cX8_text 1 = .ok (.getfield 211, 3) := by decide +kernel
theorem dX8_text_4 : decode cX8_text 4 = .ok (.bipush 6, 2) := by decide +kernel
theorem dX8_text_6 : decode cX8_text 6 = .ok (.if_icmp .ne 6, 3) := by decide +kernel
theorem dX8_text_9 : decode cX8_text 9 = .ok (.bipush (-4), 2) := by decide +kernel
theorem dX8_text_11 : decode cX8_text 11 = .ok (.ireturn, 1) := by decide +kernel
theorem dX8_text_12 : decode cX8_text 12 = .ok (.aload_n 0, 1) := by decide +kernel
theorem dX8_text_13 : decode cX8_text 13 = .ok (.getfield 179, 3) := by decide +kernel
theorem dX8_text_16 : decode cX8_text 16 = .ok (.istore_n 1, 1) := by decide +kernel
theorem dX8_text_17 : decode cX8_text 17 = .ok (.aload_n 0, 1) := by decide +kernel
theorem dX8_text_18 : decode cX8_text 18 = .ok (.iconst 0, 1) := by decide +kernel
theorem dX8_text_19 : decode cX8_text 19 = .ok (.putfield 120, 3) := by decide +kernel
theorem dX8_text_22 : decode cX8_text 22 = .ok (.aload_n 0, 1) := by decide +kernel
theorem dX8_text_23 : decode cX8_text 23 = .ok (.invokevirtual 176, 3) := by decide +kernel
theorem dX8_text_26 : decode cX8_text 26 = .ok (.aload_n 0, 1) := by decide +kernel
theorem dX8_text_27 : decode cX8_text 27 = .ok (.iconst 3, 1) := by decide +kernel
theorem dX8_text_28 : decode cX8_text 28 = .ok (.aload_n 0, 1) := by decide +kernel
theorem dX8_text_29 : decode cX8_text 29 = .ok (.getfield 211, 3) := by decide +kernel
theorem dX8_text_32 : decode cX8_text 32 = .ok (.imul, 1) := by decide +kernel
theorem dX8_text_33 : decode cX8_text 33 = .ok (.ldc 146, 2) := by decide +kernel
theorem dX8_text_35 : decode cX8_text 35 = .ok (.invokevirtual 214, 3) := by decide +kernel
theorem dX8_text_38 : decode cX8_text 38 = .ok (.ifCond .eq 41, 3) := by decide +kernel
theorem dX8_text_41 : decode cX8_text 41 = .ok (.aload_n 0, 1) := by decide +kernel
theorem dX8_text_42 : decode cX8_text 42 = .ok (.iconst 3, 1) := by decide +kernel
theorem dX8_text_43 : decode cX8_text 43 = .ok (.aload_n 0, 1) := by decide +kernel
theorem dX8_text_44 : decode cX8_text 44 = .ok (.getfield 211, 3) := by decide +kernel
theorem dX8_text_47 : decode cX8_text 47 = .ok (.imul, 1) := by decide +kernel
theorem dX8_text_48 : decode cX8_text 48 = .ok (.iconst 1, 1) := by decide +kernel
theorem dX8_text_49 : decode cX8_text 49 = .ok (.iadd, 1) := by decide +kernel
theorem dX8_text_50 : decode cX8_text 50 = .ok (.ldc 148, 2) := by decide +kernel
theorem dX8_text_52 : decode cX8_text 52 = .ok (.invokevirtual 214, 3) := by decide +kernel
theorem dX8_text_55 : decode cX8_text 55 = .ok (.ifCond .eq 24, 3) := by decide +kernel
theorem dX8_text_58 : decode cX8_text 58 = .ok (.aload_n 0, 1) := by decide +kernel
theorem dX8_text_59 : decode cX8_text 59 = .ok (.iconst 3, 1) := by decide +kernel
theorem dX8_text_60 : decode cX8_text 60 = .ok (.aload_n 0, 1) := by decide +kernel
theorem dX8_text_61 : decode cX8_text 61 = .ok (.getfield 211, 3) := by decide +kernel
theorem dX8_text_64 : decode cX8_text 64 = .ok (.imul, 1) := by decide +kernel
theorem dX8_text_65 : decode cX8_text 65 = .ok (.iconst 2, 1) := by decide +kernel
theorem dX8_text_66 : decode cX8_text 66 = .ok (.iadd, 1) := by decide +kernel
theorem dX8_text_67 : decode cX8_text 67 = .ok (.ldc 150, 2) := by decide +kernel
theorem dX8_text_69 : decode cX8_text 69 = .ok (.invokevirtual 214, 3) := by decide +kernel
theorem dX8_text_72 : decode cX8_text 72 = .ok (.ifCond .eq 7, 3) := by decide +kernel
theorem dX8_text_75 : decode cX8_text 75 = .ok (.iconst 1, 1) := by decide +kernel
theorem dX8_text_76 : decode cX8_text 76 = .ok (.goto 4, 3) := by decide +kernel
theorem dX8_text_79 : decode cX8_text 79 = .ok (.iconst 0, 1) := by decide +kernel
theorem dX8_text_80 : decode cX8_text 80 = .ok (.istore_n 2, 1) := by decide +kernel
theorem dX8_text_81 : decode cX8_text 81 = .ok (.iload_n 2, 1) := by decide +kernel
theorem dX8_text_82 : decode cX8_text 82 = .ok (.ifCond .eq 17, 3) := by decide +kernel
theorem dX8_text_85 : decode cX8_text 85 = .ok (.aload_n 0, 1) := by decide +kernel
theorem dX8_text_86 : decode cX8_text 86 = .ok (.getfield 117, 3) := by decide +kernel
theorem dX8_text_89 : decode cX8_text 89 = .ok (.bipush 101, 2) := by decide +kernel
theorem dX8_text_91 : decode cX8_text 91 = .ok (.if_icmp .eq 8, 3) := by decide +kernel
theorem dX8_text_94 : decode cX8_text 94 = .ok (.aload_n 0, 1) := by decide +kernel
theorem dX8_text_95 : decode cX8_text 95 = .ok (.invokevirtual 172, 3) := by decide +kernel
theorem dX8_text_98 : decode cX8_text 98 = .ok (.istore_n 2, 1) := by decide +kernel
theorem dX8_text_99 : decode cX8_text 99 = .ok (.aload_n 0, 1) := by decide +kernel
theorem dX8_text_100 : decode cX8_text 100 = .ok (.iconst 0, 1) := by decide +kernel
theorem dX8_text_101 : decode cX8_text 101 = .ok (.putfield 72, 3) := by decide +kernel
theorem dX8_text_104 : decode cX8_text 104 = .ok (.iload_n 2, 1) := by decide +kernel
theorem dX8_text_105 : decode cX8_text 105 = .ok (.ifCond .eq 15, 3) := by decide +kernel
theorem dX8_text_108 : decode cX8_text 108 = .ok (.aload_n 0, 1) := by decide +kernel
theorem dX8_text_109 : decode cX8_text 109 = .ok (.dup, 1) := by decide +kernel
theorem dX8_text_110 : decode cX8_text 110 = .ok (.getfield 211, 3) := by decide +kernel
theorem dX8_text_113 : decode cX8_text 113 = .ok (.dup_x1, 1) := by decide +kernel
theorem dX8_text_114 : decode cX8_text 114 = .ok (.iconst 1, 1) := by decide +kernel
theorem dX8_text_115 : decode cX8_text 115 = .ok (.iadd, 1) := by decide +kernel
theorem dX8_text_116 : decode cX8_text 116 = .ok (.putfield 211, 3) := by decide +kernel
theorem dX8_text_119 : decode cX8_text 119 = .ok (.ireturn, 1) := by decide +kernel
theorem dX8_text_120 : decode cX8_text 120 = .ok (.aload_n 0, 1) := by decide +kernel
theorem dX8_text_121 : decode cX8_text 121 = .ok (.iload_n 1, 1) := by decide +kernel
theorem dX8_text_122 : decode cX8_text 122 = .ok (.putfield 179, 3) := by decide +kernel
theorem dX8_text_125 : decode cX8_text 125 = .ok (.bipush (-100), 2) := by decide +kernel
theorem dX8_text_127 : decode cX8_text 127 = .ok (.aload_n 0, 1) := by decide +kernel
theorem dX8_text_128 : decode cX8_text 128 = .ok (.getfield 169, 3) := by decide +kernel
theorem dX8_text_131 : decode cX8_text 131 = .ok (.isub, 1) := by decide +kernel
theorem dX8_text_132 : decode cX8_text 132 = .ok (.ireturn, 1) := by decide +kernel
theorem dX8_force_0 : decode cX8_force 0 = .ok (.iload_n 1, 1) := by decide +kernel
theorem dX8_force_1 : decode cX8_force 1 = .ok (.iconst 0, 1) := by decide +kernel
theorem dX8_force_2 : decode cX8_force 2 = .ok (.aload_n 0, 1) := by decide +kernel
theorem dX8_force_3 : decode cX8_force 3 = .ok (.getfield 211, 3) := by decide +kernel
theorem dX8_force_6 : decode cX8_force 6 = .ok (.iconst 1, 1) := by decide +kernel
theorem dX8_force_7 : decode cX8_force 7 = .ok (.isub, 1) := by decide +kernel
theorem dX8_force_8 : decode cX8_force 8 = .ok (.invokestatic 82, 3) := by decide +kernel
theorem dX8_force_11 : decode cX8_force 11 = .ok (.ifCond .ne 6, 3) := by decide +kernel
theorem dX8_force_14 : decode cX8_force 14 = .ok (.bipush (-2), 2) := by decide +kernel
theorem dX8_force_16 : decode cX8_force 16 = .ok (.ireturn, 1) := by decide +kernel
theorem dX8_force_17 : decode cX8_force 17 = .ok (.aload_n 0, 1) := by decide +kernel
theorem dX8_force_18 : decode cX8_force 18 = .ok (.getfield 218, 3) := by decide +kernel
theorem dX8_force_21 : decode cX8_force 21 = .ok (.istore_n 2, 1) := by decide +kernel
theorem dX8_force_22 : decode cX8_force 22 = .ok (.aload_n 0, 1) := by decide +kernel
theorem dX8_force_23 : decode cX8_force 23 = .ok (.iload_n 1, 1) := by decide +kernel
theorem dX8_force_24 : decode cX8_force 24 = .ok (.putfield 218, 3) := by decide +kernel
theorem dX8_force_27 : decode cX8_force 27 = .ok (.iload_n 2, 1) := by decide +kernel
theorem dX8_force_28 : decode cX8_force 28 = .ok (.ireturn, 1) := by decide +kernel
theorem dX8_says_0 : decode cX8_says 0 = .ok (.iconst 0, 1) := by decide +kernel
theorem dX8_says_1 : decode cX8_says 1 = .ok (.istore 4, 2) := by decide +kernel
theorem dX8_says_3 : decode cX8_says 3 = .ok (.aload_n 0, 1) := by decide +kernel
theorem dX8_says_4 : decode cX8_says 4 = .ok (.getfield 28, 3) := by decide +kernel
theorem dX8_says_7 : decode cX8_says 7 = .ok (.iconst 3, 1) := by decide +kernel
theorem dX8_says_8 : decode cX8_says 8 = .ok (.aload_n 0, 1) := by decide +kernel
theorem dX8_says_9 : decode cX8_says 9 = .ok (.getfield 218, 3) := by decide +kernel
theorem dX8_says_12 : decode cX8_says 12 = .ok (.imul, 1) := by decide +kernel
theorem dX8_says_13 : decode cX8_says 13 = .ok (.iload_n 1, 1) := by decide +kernel
theorem dX8_says_14 : decode cX8_says 14 = .ok (.iadd, 1) := by decide +kernel
theorem dX8_says_15 : decode cX8_says 15 = .ok (.iaload, 1) := by decide +kernel
theorem dX8_says_16 : decode cX8_says 16 = .ok (.istore 5, 2) := by decide +kernel
theorem dX8_says_18 : decode cX8_says 18 = .ok (.iload 5, 2) := by decide +kernel
theorem dX8_says_20 : decode cX8_says 20 = .ok (.istore 6, 2) := by decide +kernel
theorem dX8_says_22 : decode cX8_says 22 = .ok (.iload 6, 2) := by decide +kernel
theorem dX8_says_24 : decode cX8_says 24 = .ok (.iload 5, 2) := by decide +kernel
theorem dX8_says_26 : decode cX8_says 26 = .ok (.aload_n 0, 1) := by decide +kernel
theorem dX8_says_27 : decode cX8_says 27 = .ok (.getfield 31, 3) := by decide +kernel
theorem dX8_says_30 : decode cX8_says 30 = .ok (.iconst 3, 1) := by decide +kernel
theorem dX8_says_31 : decode cX8_says 31 = .ok (.aload_n 0, 1) := by decide +kernel
theorem dX8_says_32 : decode cX8_says 32 = .ok (.getfield 218, 3) := by decide +kernel
theorem dX8_says_35 : decode cX8_says 35 = .ok (.imul, 1) := by decide +kernel
theorem dX8_says_36 : decode cX8_says 36 = .ok (.iload_n 1, 1) := by decide +kernel
theorem dX8_says_37 : decode cX8_says 37 = .ok (.iadd, 1) := by decide +kernel
theorem dX8_says_38 : decode cX8_says 38 = .ok (.iaload, 1) := by decide +kernel
theorem dX8_says_39 : decode cX8_says 39 = .ok (.iadd, 1) := by decide +kernel
theorem dX8_says_40 : decode cX8_says 40 = .ok (.if_icmp .ge 230, 3) := by decide +kernel
theorem dX8_says_43 : decode cX8_says 43 = .ok (.aload_n 0, 1) := by decide +kernel
theorem dX8_says_44 : decode cX8_says 44 = .ok (.getfield 34, 3) := by decide +kernel
theorem dX8_says_47 : decode cX8_says 47 = .ok (.iload 6, 2) := by decide +kernel
theorem dX8_says_49 : decode cX8_says 49 = .ok (.iaload, 1) := by decide +kernel
theorem dX8_says_50 : decode cX8_says 50 = .ok (.istore 7, 2) := by decide +kernel
theorem dX8_says_52 : decode cX8_says 52 = .ok (.iload 7, 2) := by decide +kernel
theorem dX8_says_54 : decode cX8_says 54 = .ok (.bipush 15, 2) := by decide +kernel
theorem dX8_says_56 : decode cX8_says 56 = .ok (.if_icmp .ge 9, 3) := by decide +kernel
theorem dX8_says_59 : decode cX8_says 59 = .ok (.iload 7, 2) := by decide +kernel
theorem dX8_says_61 : decode cX8_says 61 = .ok (.iconst 5, 1) := by decide +kernel
theorem dX8_says_62 : decode cX8_says 62 = .ok (.if_icmp .gt 106, 3) := by decide +kernel
theorem dX8_says_65 : decode cX8_says 65 = .ok (.aload_n 0, 1) := by decide +kernel
theorem dX8_says_66 : decode cX8_says 66 = .ok (.getfield 37, 3) := by decide +kernel
theorem dX8_says_69 : decode cX8_says 69 = .ok (.iload 4, 2) := by decide +kernel
theorem dX8_says_71 : decode cX8_says 71 = .ok (.iinc 4 1, 3) := by decide +kernel
theorem dX8_says_74 : decode cX8_says 74 = .ok (.iload 7, 2) := by decide +kernel
theorem dX8_says_76 : decode cX8_says 76 = .ok (.bipush 15, 2) := by decide +kernel
theorem dX8_says_78 : decode cX8_says 78 = .ok (.if_icmp .lt 11, 3) := by decide +kernel
theorem dX8_says_81 : decode cX8_says 81 = .ok (.iload 7, 2) := by decide +kernel
theorem dX8_says_83 : decode cX8_says 83 = .ok (.bipush 15, 2) := by decide +kernel
theorem dX8_says_85 : decode cX8_says 85 = .ok (.isub, 1) := by decide +kernel
theorem dX8_says_86 : decode cX8_says 86 = .ok (.goto 78, 3) := by decide +kernel
theorem dX8_says_89 : decode cX8_says 89 = .ok (.iload 7, 2) := by decide +kernel
theorem dX8_says_91 : decode cX8_says 91 = .ok (.ifCond .ne 10, 3) := by decide +kernel
theorem dX8_says_94 : decode cX8_says 94 = .ok (.aload_n 0, 1) := by decide +kernel
theorem dX8_says_95 : decode cX8_says 95 = .ok (.getfield 89, 3) := by decide +kernel
theorem dX8_says_98 : decode cX8_says 98 = .ok (.goto 66, 3) := by decide +kernel
theorem dX8_says_101 : decode cX8_says 101 = .ok (.iload 7, 2) := by decide +kernel
theorem dX8_says_103 : decode cX8_says 103 = .ok (.iconst 1, 1) := by decide +kernel
theorem dX8_says_104 : decode cX8_says 104 = .ok (.if_icmp .ne 10, 3) := by decide +kernel
theorem dX8_says_107 : decode cX8_says 107 = .ok (.aload_n 0, 1) := by decide +kernel
theorem dX8_says_108 : decode cX8_says 108 = .ok (.getfield 86, 3) := by decide +kernel
theorem dX8_says_111 : decode cX8_says 111 = .ok (.goto 53, 3) := by decide +kernel
theorem dX8_says_114 : decode cX8_says 114 = .ok (.iload 7, 2) := by decide +kernel
theorem dX8_says_116 : decode cX8_says 116 = .ok (.iconst 2, 1) := by decide +kernel
theorem dX8_says_117 : decode cX8_says 117 = .ok (.if_icmp .ne 12, 3) := by decide +kernel
theorem dX8_says_120 : decode cX8_says 120 = .ok (.aload_n 0, 1) := by decide +kernel
theorem dX8_says_121 : decode cX8_says 121 = .ok (.getfield 16, 3) := by decide +kernel
theorem dX8_says_124 : decode cX8_says 124 = .ok (.iload_n 2, 1) := by decide +kernel
theorem dX8_says_125 : decode cX8_says 125 = .ok (.iaload, 1) := by decide +kernel
theorem dX8_says_126 : decode cX8_says 126 = .ok (.goto 38, 3) := by decide +kernel
theorem dX8_says_129 : decode cX8_says 129 = .ok (.iload 7, 2) := by decide +kernel
theorem dX8_says_131 : decode cX8_says 131 = .ok (.iconst 3, 1) := by decide +kernel
theorem dX8_says_132 : decode cX8_says 132 = .ok (.if_icmp .ne 12, 3) := by decide +kernel
theorem dX8_says_135 : decode cX8_says 135 = .ok (.aload_n 0, 1) := by decide +kernel
theorem dX8_says_136 : decode cX8_says 136 = .ok (.getfield 13, 3) := by decide +kernel
theorem dX8_says_139 : decode cX8_says 139 = .ok (.iload_n 2, 1) := by decide +kernel
theorem dX8_says_140 : decode cX8_says 140 = .ok (.iaload, 1) := by decide +kernel
theorem dX8_says_141 : decode cX8_says 141 = .ok (.goto 23, 3) := by decide +kernel
theorem dX8_says_144 : decode cX8_says 144 = .ok (.iload 7, 2) := by decide +kernel
theorem dX8_says_146 : decode cX8_says 146 = .ok (.iconst 4, 1) := by decide +kernel
theorem dX8_says_147 : decode cX8_says 147 = .ok (.if_icmp .ne 12, 3) := by decide +kernel
theorem dX8_says_150 : decode cX8_says 150 = .ok (.aload_n 0, 1) := by decide +kernel
theorem dX8_says_151 : decode cX8_says 151 = .ok (.getfield 22, 3) := by decide +kernel
theorem dX8_says_154 : decode cX8_says 154 = .ok (.iload_n 2, 1) := by decide +kernel
theorem dX8_says_155 : decode cX8_says 155 = .ok (.iaload, 1) := by decide +kernel
theorem dX8_says_156 : decode cX8_says 156 = .ok (.goto 8, 3) := by decide +kernel
theorem dX8_says_159 : decode cX8_says 159 = .ok (.aload_n 0, 1) := by decide +kernel
theorem dX8_says_160 : decode cX8_says 160 = .ok (.iload_n 2, 1) := by decide +kernel
theorem dX8_says_161 : decode cX8_says 161 = .ok (.invokevirtual 99, 3) := by decide +kernel
theorem dX8_says_164 : decode cX8_says 164 = .ok (.iastore, 1) := by decide +kernel
theorem dX8_says_165 : decode cX8_says 165 = .ok (.goto 99, 3) := by decide +kernel
theorem dX8_says_168 : decode cX8_says 168 = .ok (.iload 7, 2) := by decide +kernel
theorem dX8_says_170 : decode cX8_says 170 = .ok (.bipush 13, 2) := by decide +kernel
theorem dX8_says_172 : decode cX8_says 172 = .ok (.if_icmp .eq 10, 3) := by decide +kernel
theorem dX8_says_175 : decode cX8_says 175 = .ok (.iload 7, 2) := by decide +kernel
theorem dX8_says_177 : decode cX8_says 177 = .ok (.bipush 14, 2) := by decide +kernel
theorem dX8_says_179 : decode cX8_says 179 = .ok (.if_icmp .ne 52, 3) := by decide +kernel
theorem dX8_says_182 : decode cX8_says 182 = .ok (.aload_n 0, 1) := by decide +kernel
theorem dX8_says_183 : decode cX8_says 183 = .ok (.getfield 37, 3) := by decide +kernel
theorem dX8_says_186 : decode cX8_says 186 = .ok (.iload 4, 2) := by decide +kernel
theorem dX8_says_188 : decode cX8_says 188 = .ok (.iconst 1, 1) := by decide +kernel
theorem dX8_says_189 : decode cX8_says 189 = .ok (.isub, 1) := by decide +kernel
theorem dX8_says_190 : decode cX8_says 190 = .ok (.iload 7, 2) := by decide +kernel
theorem dX8_says_192 : decode cX8_says 192 = .ok (.bipush 14, 2) := by decide +kernel
theorem dX8_says_194 : decode cX8_says 194 = .ok (.if_icmp .ne 16, 3) := by decide +kernel
theorem dX8_says_197 : decode cX8_says 197 = .ok (.aload_n 0, 1) := by decide +kernel
theorem dX8_says_198 : decode cX8_says 198 = .ok (.getfield 37, 3) := by decide +kernel
theorem dX8_says_201 : decode cX8_says 201 = .ok (.iload 4, 2) := by decide +kernel
theorem dX8_says_203 : decode cX8_says 203 = .ok (.iconst 1, 1) := by decide +kernel
theorem dX8_says_204 : decode cX8_says 204 = .ok (.isub, 1) := by decide +kernel
theorem dX8_says_205 : decode cX8_says 205 = .ok (.iaload, 1) := by decide +kernel
theorem dX8_says_206 : decode cX8_says 206 = .ok (.ineg, 1) := by decide +kernel
theorem dX8_says_207 : decode cX8_says 207 = .ok (.goto 20, 3) := by decide +kernel
theorem dX8_says_210 : decode cX8_says 210 = .ok (.aload_n 0, 1) := by decide +kernel
theorem dX8_says_211 : decode cX8_says 211 = .ok (.getfield 37, 3) := by decide +kernel
theorem dX8_says_214 : decode cX8_says 214 = .ok (.iload 4, 2) := by decide +kernel
theorem dX8_says_216 : decode cX8_says 216 = .ok (.iconst 1, 1) := by decide +kernel
theorem dX8_says_217 : decode cX8_says 217 = .ok (.isub, 1) := by decide +kernel
theorem dX8_says_218 : decode cX8_says 218 = .ok (.iaload, 1) := by decide +kernel
theorem dX8_says_219 : decode cX8_says 219 = .ok (.ifCond .ne 7, 3) := by decide +kernel
theorem dX8_says_222 : decode cX8_says 222 = .ok (.iconst 1, 1) := by decide +kernel
theorem dX8_says_223 : decode cX8_says 223 = .ok (.goto 4, 3) := by decide +kernel
theorem dX8_says_226 : decode cX8_says 226 = .ok (.iconst 0, 1) := by decide +kernel
theorem dX8_says_227 : decode cX8_says 227 = .ok (.iastore, 1) := by decide +kernel
theorem dX8_says_228 : decode cX8_says 228 = .ok (.goto 36, 3) := by decide +kernel
theorem dX8_says_231 : decode cX8_says 231 = .ok (.iinc 4 (-1), 3) := by decide +kernel
theorem dX8_says_234 : decode cX8_says 234 = .ok (.aload_n 0, 1) := by decide +kernel
theorem dX8_says_235 : decode cX8_says 235 = .ok (.getfield 37, 3) := by decide +kernel
theorem dX8_says_238 : decode cX8_says 238 = .ok (.iload 4, 2) := by decide +kernel
theorem dX8_says_240 : decode cX8_says 240 = .ok (.iconst 1, 1) := by decide +kernel
theorem dX8_says_241 : decode cX8_says 241 = .ok (.isub, 1) := by decide +kernel
theorem dX8_says_242 : decode cX8_says 242 = .ok (.iload 7, 2) := by decide +kernel
theorem dX8_says_244 : decode cX8_says 244 = .ok (.aload_n 0, 1) := by decide +kernel
theorem dX8_says_245 : decode cX8_says 245 = .ok (.getfield 37, 3) := by decide +kernel
theorem dX8_says_248 : decode cX8_says 248 = .ok (.iload 4, 2) := by decide +kernel
theorem dX8_says_250 : decode cX8_says 250 = .ok (.iconst 1, 1) := by decide +kernel
theorem dX8_says_251 : decode cX8_says 251 = .ok (.isub, 1) := by decide +kernel
theorem dX8_says_252 : decode cX8_says 252 = .ok (.iaload, 1) := by decide +kernel
theorem dX8_says_253 : decode cX8_says 253 = .ok (.aload_n 0, 1) := by decide +kernel
theorem dX8_says_254 : decode cX8_says 254 = .ok (.getfield 37, 3) := by decide +kernel
theorem dX8_says_257 : decode cX8_says 257 = .ok (.iload 4, 2) := by decide +kernel
theorem dX8_says_259 : decode cX8_says 259 = .ok (.iaload, 1) := by decide +kernel
theorem dX8_says_260 : decode cX8_says 260 = .ok (.invokestatic 221, 3) := by decide +kernel
theorem dX8_says_263 : decode cX8_says 263 = .ok (.iastore, 1) := by decide +kernel
theorem dX8_says_264 : decode cX8_says 264 = .ok (.iinc 6 1, 3) := by decide +kernel
theorem dX8_says_267 : decode cX8_says 267 = .ok (.goto (-245), 3) := by decide +kernel
theorem dX8_says_270 : decode cX8_says 270 = .ok (.iconst 0, 1) := by decide +kernel
theorem dX8_says_271 : decode cX8_says 271 = .ok (.iload_n 3, 1) := by decide +kernel
theorem dX8_says_272 : decode cX8_says 272 = .ok (.aload_n 0, 1) := by decide +kernel
theorem dX8_says_273 : decode cX8_says 273 = .ok (.getfield 37, 3) := by decide +kernel
theorem dX8_says_276 : decode cX8_says 276 = .ok (.iconst 0, 1) := by decide +kernel
theorem dX8_says_277 : decode cX8_says 277 = .ok (.iaload, 1) := by decide +kernel
theorem dX8_says_278 : decode cX8_says 278 = .ok (.invokestatic 225, 3) := by decide +kernel
theorem dX8_says_281 : decode cX8_says 281 = .ok (.invokestatic 230, 3) := by decide +kernel
theorem dX8_says_284 : decode cX8_says 284 = .ok (.ireturn, 1) := by decide +kernel
theorem dX8_both_0 : decode cX8_both 0 = .ok (.iload_n 0, 1) := by decide +kernel
theorem dX8_both_1 : decode cX8_both 1 = .ok (.tableswitch 87 6 11 #[39, 43, 47, 51, 62, 73], 39) := by decide +kernel
theorem dX8_both_40 : decode cX8_both 40 = .ok (.iload_n 1, 1) := by decide +kernel
theorem dX8_both_41 : decode cX8_both 41 = .ok (.iload_n 2, 1) := by decide +kernel
theorem dX8_both_42 : decode cX8_both 42 = .ok (.iadd, 1) := by decide +kernel
theorem dX8_both_43 : decode cX8_both 43 = .ok (.ireturn, 1) := by decide +kernel
theorem dX8_both_44 : decode cX8_both 44 = .ok (.iload_n 1, 1) := by decide +kernel
theorem dX8_both_45 : decode cX8_both 45 = .ok (.iload_n 2, 1) := by decide +kernel
theorem dX8_both_46 : decode cX8_both 46 = .ok (.isub, 1) := by decide +kernel
theorem dX8_both_47 : decode cX8_both 47 = .ok (.ireturn, 1) := by decide +kernel
theorem dX8_both_48 : decode cX8_both 48 = .ok (.iload_n 1, 1) := by decide +kernel
theorem dX8_both_49 : decode cX8_both 49 = .ok (.iload_n 2, 1) := by decide +kernel
theorem dX8_both_50 : decode cX8_both 50 = .ok (.imul, 1) := by decide +kernel
theorem dX8_both_51 : decode cX8_both 51 = .ok (.ireturn, 1) := by decide +kernel
theorem dX8_both_52 : decode cX8_both 52 = .ok (.iload_n 1, 1) := by decide +kernel
theorem dX8_both_53 : decode cX8_both 53 = .ok (.iload_n 2, 1) := by decide +kernel
theorem dX8_both_54 : decode cX8_both 54 = .ok (.if_icmp .ge 7, 3) := by decide +kernel
theorem dX8_both_57 : decode cX8_both 57 = .ok (.iconst 1, 1) := by decide +kernel
theorem dX8_both_58 : decode cX8_both 58 = .ok (.goto 4, 3) := by decide +kernel
theorem dX8_both_61 : decode cX8_both 61 = .ok (.iconst 0, 1) := by decide +kernel
theorem dX8_both_62 : decode cX8_both 62 = .ok (.ireturn, 1) := by decide +kernel
theorem dX8_both_63 : decode cX8_both 63 = .ok (.iload_n 1, 1) := by decide +kernel
theorem dX8_both_64 : decode cX8_both 64 = .ok (.iload_n 2, 1) := by decide +kernel
theorem dX8_both_65 : decode cX8_both 65 = .ok (.if_icmp .ne 7, 3) := by decide +kernel
theorem dX8_both_68 : decode cX8_both 68 = .ok (.iconst 1, 1) := by decide +kernel
theorem dX8_both_69 : decode cX8_both 69 = .ok (.goto 4, 3) := by decide +kernel
theorem dX8_both_72 : decode cX8_both 72 = .ok (.iconst 0, 1) := by decide +kernel
theorem dX8_both_73 : decode cX8_both 73 = .ok (.ireturn, 1) := by decide +kernel
theorem dX8_both_74 : decode cX8_both 74 = .ok (.iload_n 1, 1) := by decide +kernel
theorem dX8_both_75 : decode cX8_both 75 = .ok (.ifCond .eq 11, 3) := by decide +kernel
theorem dX8_both_78 : decode cX8_both 78 = .ok (.iload_n 2, 1) := by decide +kernel
theorem dX8_both_79 : decode cX8_both 79 = .ok (.ifCond .eq 7, 3) := by decide +kernel
theorem dX8_both_82 : decode cX8_both 82 = .ok (.iconst 1, 1) := by decide +kernel
theorem dX8_both_83 : decode cX8_both 83 = .ok (.goto 4, 3) := by decide +kernel
theorem dX8_both_86 : decode cX8_both 86 = .ok (.iconst 0, 1) := by decide +kernel
theorem dX8_both_87 : decode cX8_both 87 = .ok (.ireturn, 1) := by decide +kernel
theorem dX8_both_88 : decode cX8_both 88 = .ok (.iload_n 1, 1) := by decide +kernel
theorem dX8_both_89 : decode cX8_both 89 = .ok (.ifCond .ne 7, 3) := by decide +kernel
theorem dX8_both_92 : decode cX8_both 92 = .ok (.iload_n 2, 1) := by decide +kernel
theorem dX8_both_93 : decode cX8_both 93 = .ok (.ifCond .eq 7, 3) := by decide +kernel
theorem dX8_both_96 : decode cX8_both 96 = .ok (.iconst 1, 1) := by decide +kernel
theorem dX8_both_97 : decode cX8_both 97 = .ok (.goto 4, 3) := by decide +kernel
theorem dX8_both_100 : decode cX8_both 100 = .ok (.iconst 0, 1) := by decide +kernel
theorem dX8_both_101 : decode cX8_both 101 = .ok (.ireturn, 1) := by decide +kernel
theorem dX8_shelter_0 : decode cX8_shelter 0 = .ok (.iconst 0, 1) := by decide +kernel
theorem dX8_shelter_1 : decode cX8_shelter 1 = .ok (.istore_n 2, 1) := by decide +kernel
theorem dX8_shelter_2 : decode cX8_shelter 2 = .ok (.iconst 0, 1) := by decide +kernel
theorem dX8_shelter_3 : decode cX8_shelter 3 = .ok (.istore_n 3, 1) := by decide +kernel
theorem dX8_shelter_4 : decode cX8_shelter 4 = .ok (.iload_n 3, 1) := by decide +kernel
theorem dX8_shelter_5 : decode cX8_shelter 5 = .ok (.aload_n 0, 1) := by decide +kernel
theorem dX8_shelter_6 : decode cX8_shelter 6 = .ok (.getfield 79, 3) := by decide +kernel
theorem dX8_shelter_9 : decode cX8_shelter 9 = .ok (.if_icmp .ge 46, 3) := by decide +kernel
theorem dX8_shelter_12 : decode cX8_shelter 12 = .ok (.aload_n 0, 1) := by decide +kernel
theorem dX8_shelter_13 : decode cX8_shelter 13 = .ok (.getfield 22, 3) := by decide +kernel
theorem dX8_shelter_16 : decode cX8_shelter 16 = .ok (.iload_n 3, 1) := by decide +kernel
theorem dX8_shelter_17 : decode cX8_shelter 17 = .ok (.iaload, 1) := by decide +kernel
theorem dX8_shelter_18 : decode cX8_shelter 18 = .ok (.ifCond .le 31, 3) := by decide +kernel
theorem dX8_shelter_21 : decode cX8_shelter 21 = .ok (.aload_n 0, 1) := by decide +kernel
theorem dX8_shelter_22 : decode cX8_shelter 22 = .ok (.getfield 16, 3) := by decide +kernel
theorem dX8_shelter_25 : decode cX8_shelter 25 = .ok (.iload_n 3, 1) := by decide +kernel
theorem dX8_shelter_26 : decode cX8_shelter 26 = .ok (.iaload, 1) := by decide +kernel
theorem dX8_shelter_27 : decode cX8_shelter 27 = .ok (.aload_n 0, 1) := by decide +kernel
theorem dX8_shelter_28 : decode cX8_shelter 28 = .ok (.getfield 16, 3) := by decide +kernel
theorem dX8_shelter_31 : decode cX8_shelter 31 = .ok (.iload_n 1, 1) := by decide +kernel
theorem dX8_shelter_32 : decode cX8_shelter 32 = .ok (.iaload, 1) := by decide +kernel
theorem dX8_shelter_33 : decode cX8_shelter 33 = .ok (.if_icmp .ge 16, 3) := by decide +kernel
theorem dX8_shelter_36 : decode cX8_shelter 36 = .ok (.aload_n 0, 1) := by decide +kernel
theorem dX8_shelter_37 : decode cX8_shelter 37 = .ok (.getfield 7, 3) := by decide +kernel
theorem dX8_shelter_40 : decode cX8_shelter 40 = .ok (.iload_n 3, 1) := by decide +kernel
theorem dX8_shelter_41 : decode cX8_shelter 41 = .ok (.iaload, 1) := by decide +kernel
theorem dX8_shelter_42 : decode cX8_shelter 42 = .ok (.iconst 2, 1) := by decide +kernel
theorem dX8_shelter_43 : decode cX8_shelter 43 = .ok (.if_icmp .eq 6, 3) := by decide +kernel
theorem dX8_shelter_46 : decode cX8_shelter 46 = .ok (.iinc 2 1, 3) := by decide +kernel
theorem dX8_shelter_49 : decode cX8_shelter 49 = .ok (.iinc 3 1, 3) := by decide +kernel
theorem dX8_shelter_52 : decode cX8_shelter 52 = .ok (.goto (-48), 3) := by decide +kernel
theorem dX8_shelter_55 : decode cX8_shelter 55 = .ok (.iload_n 2, 1) := by decide +kernel
theorem dX8_shelter_56 : decode cX8_shelter 56 = .ok (.ireturn, 1) := by decide +kernel
theorem dX8_loses_0 : decode cX8_loses 0 = .ok (.aload_n 0, 1) := by decide +kernel
theorem dX8_loses_1 : decode cX8_loses 1 = .ok (.iconst 0, 1) := by decide +kernel
theorem dX8_loses_2 : decode cX8_loses 2 = .ok (.iload_n 1, 1) := by decide +kernel
theorem dX8_loses_3 : decode cX8_loses 3 = .ok (.bipush 99, 2) := by decide +kernel
theorem dX8_loses_5 : decode cX8_loses 5 = .ok (.invokevirtual 233, 3) := by decide +kernel
theorem dX8_loses_8 : decode cX8_loses 8 = .ok (.istore_n 2, 1) := by decide +kernel
theorem dX8_loses_9 : decode cX8_loses 9 = .ok (.aload_n 0, 1) := by decide +kernel
theorem dX8_loses_10 : decode cX8_loses 10 = .ok (.getfield 89, 3) := by decide +kernel
theorem dX8_loses_13 : decode cX8_loses 13 = .ok (.aload_n 0, 1) := by decide +kernel
theorem dX8_loses_14 : decode cX8_loses 14 = .ok (.getfield 13, 3) := by decide +kernel
theorem dX8_loses_17 : decode cX8_loses 17 = .ok (.iload_n 1, 1) := by decide +kernel
theorem dX8_loses_18 : decode cX8_loses 18 = .ok (.iaload, 1) := by decide +kernel
theorem dX8_loses_19 : decode cX8_loses 19 = .ok (.iconst 2, 1) := by decide +kernel
theorem dX8_loses_20 : decode cX8_loses 20 = .ok (.iadd, 1) := by decide +kernel
theorem dX8_loses_21 : decode cX8_loses 21 = .ok (.irem, 1) := by decide +kernel
theorem dX8_loses_22 : decode cX8_loses 22 = .ok (.ifCond .ne 7, 3) := by decide +kernel
theorem dX8_loses_25 : decode cX8_loses 25 = .ok (.iconst 0, 1) := by decide +kernel
theorem dX8_loses_26 : decode cX8_loses 26 = .ok (.goto 4, 3) := by decide +kernel
theorem dX8_loses_29 : decode cX8_loses 29 = .ok (.iload_n 2, 1) := by decide +kernel
theorem dX8_loses_30 : decode cX8_loses 30 = .ok (.istore_n 3, 1) := by decide +kernel
theorem dX8_loses_31 : decode cX8_loses 31 = .ok (.aload_n 0, 1) := by decide +kernel
theorem dX8_loses_32 : decode cX8_loses 32 = .ok (.getfield 7, 3) := by decide +kernel
theorem dX8_loses_35 : decode cX8_loses 35 = .ok (.iload_n 1, 1) := by decide +kernel
theorem dX8_loses_36 : decode cX8_loses 36 = .ok (.iaload, 1) := by decide +kernel
theorem dX8_loses_37 : decode cX8_loses 37 = .ok (.tableswitch 69 1 5 #[35, 39, 41, 52, 56], 35) := by decide +kernel
theorem dX8_loses_72 : decode cX8_loses 72 = .ok (.iload_n 2, 1) := by decide +kernel
theorem dX8_loses_73 : decode cX8_loses 73 = .ok (.iconst 2, 1) := by decide +kernel
theorem dX8_loses_74 : decode cX8_loses 74 = .ok (.idiv, 1) := by decide +kernel
theorem dX8_loses_75 : decode cX8_loses 75 = .ok (.ireturn, 1) := by decide +kernel
theorem dX8_loses_76 : decode cX8_loses 76 = .ok (.iload_n 3, 1) := by decide +kernel
theorem dX8_loses_77 : decode cX8_loses 77 = .ok (.ireturn, 1) := by decide +kernel
theorem dX8_loses_78 : decode cX8_loses 78 = .ok (.iload_n 2, 1) := by decide +kernel
theorem dX8_loses_79 : decode cX8_loses 79 = .ok (.iconst 2, 1) := by decide +kernel
theorem dX8_loses_80 : decode cX8_loses 80 = .ok (.idiv, 1) := by decide +kernel
theorem dX8_loses_81 : decode cX8_loses 81 = .ok (.aload_n 0, 1) := by decide +kernel
theorem dX8_loses_82 : decode cX8_loses 82 = .ok (.getfield 13, 3) := by decide +kernel
theorem dX8_loses_85 : decode cX8_loses 85 = .ok (.iload_n 1, 1) := by decide +kernel
theorem dX8_loses_86 : decode cX8_loses 86 = .ok (.iaload, 1) := by decide +kernel
theorem dX8_loses_87 : decode cX8_loses 87 = .ok (.iadd, 1) := by decide +kernel
theorem dX8_loses_88 : decode cX8_loses 88 = .ok (.ireturn, 1) := by decide +kernel
theorem dX8_loses_89 : decode cX8_loses 89 = .ok (.iconst 2, 1) := by decide +kernel
theorem dX8_loses_90 : decode cX8_loses 90 = .ok (.iload_n 3, 1) := by decide +kernel
theorem dX8_loses_91 : decode cX8_loses 91 = .ok (.imul, 1) := by decide +kernel
theorem dX8_loses_92 : decode cX8_loses 92 = .ok (.ireturn, 1) := by decide +kernel
theorem dX8_loses_93 : decode cX8_loses 93 = .ok (.iconst 0, 1) := by decide +kernel
theorem dX8_loses_94 : decode cX8_loses 94 = .ok (.iload_n 2, 1) := by decide +kernel
theorem dX8_loses_95 : decode cX8_loses 95 = .ok (.aload_n 0, 1) := by decide +kernel
theorem dX8_loses_96 : decode cX8_loses 96 = .ok (.getfield 13, 3) := by decide +kernel
theorem dX8_loses_99 : decode cX8_loses 99 = .ok (.iload_n 1, 1) := by decide +kernel
theorem dX8_loses_100 : decode cX8_loses 100 = .ok (.iaload, 1) := by decide +kernel
theorem dX8_loses_101 : decode cX8_loses 101 = .ok (.isub, 1) := by decide +kernel
theorem dX8_loses_102 : decode cX8_loses 102 = .ok (.invokestatic 230, 3) := by decide +kernel
theorem dX8_loses_105 : decode cX8_loses 105 = .ok (.ireturn, 1) := by decide +kernel
theorem dX8_loses_106 : decode cX8_loses 106 = .ok (.iload_n 2, 1) := by decide +kernel
theorem dX8_loses_107 : decode cX8_loses 107 = .ok (.ireturn, 1) := by decide +kernel
theorem dX8_rises_0 : decode cX8_rises 0 = .ok (.aload_n 0, 1) := by decide +kernel
theorem dX8_rises_1 : decode cX8_rises 1 = .ok (.iconst 1, 1) := by decide +kernel
theorem dX8_rises_2 : decode cX8_rises 2 = .ok (.iload_n 1, 1) := by decide +kernel
theorem dX8_rises_3 : decode cX8_rises 3 = .ok (.bipush 20, 2) := by decide +kernel
theorem dX8_rises_5 : decode cX8_rises 5 = .ok (.invokevirtual 233, 3) := by decide +kernel
theorem dX8_rises_8 : decode cX8_rises 8 = .ok (.istore_n 2, 1) := by decide +kernel
theorem dX8_rises_9 : decode cX8_rises 9 = .ok (.aload_n 0, 1) := by decide +kernel
theorem dX8_rises_10 : decode cX8_rises 10 = .ok (.getfield 7, 3) := by decide +kernel
theorem dX8_rises_13 : decode cX8_rises 13 = .ok (.iload_n 1, 1) := by decide +kernel
theorem dX8_rises_14 : decode cX8_rises 14 = .ok (.iaload, 1) := by decide +kernel
theorem dX8_rises_15 : decode cX8_rises 15 = .ok (.tableswitch 43 1 4 #[29, 33, 29, 37], 29) := by decide +kernel
theorem dX8_rises_44 : decode cX8_rises 44 = .ok (.iload_n 2, 1) := by decide +kernel
theorem dX8_rises_45 : decode cX8_rises 45 = .ok (.iconst 1, 1) := by decide +kernel
theorem dX8_rises_46 : decode cX8_rises 46 = .ok (.iadd, 1) := by decide +kernel
theorem dX8_rises_47 : decode cX8_rises 47 = .ok (.ireturn, 1) := by decide +kernel
theorem dX8_rises_48 : decode cX8_rises 48 = .ok (.iload_n 2, 1) := by decide +kernel
theorem dX8_rises_49 : decode cX8_rises 49 = .ok (.iconst 2, 1) := by decide +kernel
theorem dX8_rises_50 : decode cX8_rises 50 = .ok (.idiv, 1) := by decide +kernel
theorem dX8_rises_51 : decode cX8_rises 51 = .ok (.ireturn, 1) := by decide +kernel
theorem dX8_rises_52 : decode cX8_rises 52 = .ok (.iload_n 2, 1) := by decide +kernel
theorem dX8_rises_53 : decode cX8_rises 53 = .ok (.iconst 2, 1) := by decide +kernel
theorem dX8_rises_54 : decode cX8_rises 54 = .ok (.idiv, 1) := by decide +kernel
theorem dX8_rises_55 : decode cX8_rises 55 = .ok (.iconst 1, 1) := by decide +kernel
theorem dX8_rises_56 : decode cX8_rises 56 = .ok (.iadd, 1) := by decide +kernel
theorem dX8_rises_57 : decode cX8_rises 57 = .ok (.ireturn, 1) := by decide +kernel
theorem dX8_rises_58 : decode cX8_rises 58 = .ok (.iload_n 2, 1) := by decide +kernel
theorem dX8_rises_59 : decode cX8_rises 59 = .ok (.ireturn, 1) := by decide +kernel
theorem dX8_standing_0 : decode cX8_standing 0 = .ok (.iconst 0, 1) := by decide +kernel
theorem dX8_standing_1 : decode cX8_standing 1 = .ok (.istore_n 1, 1) := by decide +kernel
theorem dX8_standing_2 : decode cX8_standing 2 = .ok (.iconst 0, 1) := by decide +kernel
theorem dX8_standing_3 : decode cX8_standing 3 = .ok (.istore_n 2, 1) := by decide +kernel
theorem dX8_standing_4 : decode cX8_standing 4 = .ok (.iload_n 2, 1) := by decide +kernel
theorem dX8_standing_5 : decode cX8_standing 5 = .ok (.aload_n 0, 1) := by decide +kernel
theorem dX8_standing_6 : decode cX8_standing 6 = .ok (.getfield 79, 3) := by decide +kernel
theorem dX8_standing_9 : decode cX8_standing 9 = .ok (.if_icmp .ge 24, 3) := by decide +kernel
theorem dX8_standing_12 : decode cX8_standing 12 = .ok (.aload_n 0, 1) := by decide +kernel
theorem dX8_standing_13 : decode cX8_standing 13 = .ok (.getfield 22, 3) := by decide +kernel
theorem dX8_standing_16 : decode cX8_standing 16 = .ok (.iload_n 2, 1) := by decide +kernel
theorem dX8_standing_17 : decode cX8_standing 17 = .ok (.iaload, 1) := by decide +kernel
theorem dX8_standing_18 : decode cX8_standing 18 = .ok (.ifCond .le 9, 3) := by decide +kernel
theorem dX8_standing_21 : decode cX8_standing 21 = .ok (.iload_n 1, 1) := by decide +kernel
theorem dX8_standing_22 : decode cX8_standing 22 = .ok (.iconst 1, 1) := by decide +kernel
theorem dX8_standing_23 : decode cX8_standing 23 = .ok (.iload_n 2, 1) := by decide +kernel
theorem dX8_standing_24 : decode cX8_standing 24 = .ok (.ishl, 1) := by decide +kernel
theorem dX8_standing_25 : decode cX8_standing 25 = .ok (.ior, 1) := by decide +kernel
theorem dX8_standing_26 : decode cX8_standing 26 = .ok (.istore_n 1, 1) := by decide +kernel
theorem dX8_standing_27 : decode cX8_standing 27 = .ok (.iinc 2 1, 3) := by decide +kernel
theorem dX8_standing_30 : decode cX8_standing 30 = .ok (.goto (-26), 3) := by decide +kernel
theorem dX8_standing_33 : decode cX8_standing 33 = .ok (.iload_n 1, 1) := by decide +kernel
theorem dX8_standing_34 : decode cX8_standing 34 = .ok (.ireturn, 1) := by decide +kernel
theorem dX8_comes_0 : decode cX8_comes 0 = .ok (.iconst 0, 1) := by decide +kernel
theorem dX8_comes_1 : decode cX8_comes 1 = .ok (.istore_n 1, 1) := by decide +kernel
theorem dX8_comes_2 : decode cX8_comes 2 = .ok (.iload_n 1, 1) := by decide +kernel
theorem dX8_comes_3 : decode cX8_comes 3 = .ok (.aload_n 0, 1) := by decide +kernel
theorem dX8_comes_4 : decode cX8_comes 4 = .ok (.getfield 79, 3) := by decide +kernel
theorem dX8_comes_7 : decode cX8_comes 7 = .ok (.if_icmp .ge 33, 3) := by decide +kernel
theorem dX8_comes_10 : decode cX8_comes 10 = .ok (.aload_n 0, 1) := by decide +kernel
theorem dX8_comes_11 : decode cX8_comes 11 = .ok (.getfield 46, 3) := by decide +kernel
theorem dX8_comes_14 : decode cX8_comes 14 = .ok (.iload_n 1, 1) := by decide +kernel
theorem dX8_comes_15 : decode cX8_comes 15 = .ok (.aload_n 0, 1) := by decide +kernel
theorem dX8_comes_16 : decode cX8_comes 16 = .ok (.getfield 22, 3) := by decide +kernel
theorem dX8_comes_19 : decode cX8_comes 19 = .ok (.iload_n 1, 1) := by decide +kernel
theorem dX8_comes_20 : decode cX8_comes 20 = .ok (.iaload, 1) := by decide +kernel
theorem dX8_comes_21 : decode cX8_comes 21 = .ok (.ifCond .le 11, 3) := by decide +kernel
theorem dX8_comes_24 : decode cX8_comes 24 = .ok (.aload_n 0, 1) := by decide +kernel
theorem dX8_comes_25 : decode cX8_comes 25 = .ok (.iload_n 1, 1) := by decide +kernel
theorem dX8_comes_26 : decode cX8_comes 26 = .ok (.invokevirtual 92, 3) := by decide +kernel
theorem dX8_comes_29 : decode cX8_comes 29 = .ok (.goto 4, 3) := by decide +kernel
theorem dX8_comes_32 : decode cX8_comes 32 = .ok (.iconst 0, 1) := by decide +kernel
theorem dX8_comes_33 : decode cX8_comes 33 = .ok (.iastore, 1) := by decide +kernel
theorem dX8_comes_34 : decode cX8_comes 34 = .ok (.iinc 1 1, 3) := by decide +kernel
theorem dX8_comes_37 : decode cX8_comes 37 = .ok (.goto (-35), 3) := by decide +kernel
theorem dX8_comes_40 : decode cX8_comes 40 = .ok (.iconst 0, 1) := by decide +kernel
theorem dX8_comes_41 : decode cX8_comes 41 = .ok (.istore_n 1, 1) := by decide +kernel
theorem dX8_comes_42 : decode cX8_comes 42 = .ok (.iload_n 1, 1) := by decide +kernel
theorem dX8_comes_43 : decode cX8_comes 43 = .ok (.aload_n 0, 1) := by decide +kernel
theorem dX8_comes_44 : decode cX8_comes 44 = .ok (.getfield 79, 3) := by decide +kernel
theorem dX8_comes_47 : decode cX8_comes 47 = .ok (.if_icmp .ge 32, 3) := by decide +kernel
theorem dX8_comes_50 : decode cX8_comes 50 = .ok (.aload_n 0, 1) := by decide +kernel
theorem dX8_comes_51 : decode cX8_comes 51 = .ok (.getfield 22, 3) := by decide +kernel
theorem dX8_comes_54 : decode cX8_comes 54 = .ok (.iload_n 1, 1) := by decide +kernel
theorem dX8_comes_55 : decode cX8_comes 55 = .ok (.iconst 0, 1) := by decide +kernel
theorem dX8_comes_56 : decode cX8_comes 56 = .ok (.aload_n 0, 1) := by decide +kernel
theorem dX8_comes_57 : decode cX8_comes 57 = .ok (.getfield 22, 3) := by decide +kernel
theorem dX8_comes_60 : decode cX8_comes 60 = .ok (.iload_n 1, 1) := by decide +kernel
theorem dX8_comes_61 : decode cX8_comes 61 = .ok (.iaload, 1) := by decide +kernel
theorem dX8_comes_62 : decode cX8_comes 62 = .ok (.aload_n 0, 1) := by decide +kernel
theorem dX8_comes_63 : decode cX8_comes 63 = .ok (.getfield 46, 3) := by decide +kernel
theorem dX8_comes_66 : decode cX8_comes 66 = .ok (.iload_n 1, 1) := by decide +kernel
theorem dX8_comes_67 : decode cX8_comes 67 = .ok (.iaload, 1) := by decide +kernel
theorem dX8_comes_68 : decode cX8_comes 68 = .ok (.isub, 1) := by decide +kernel
theorem dX8_comes_69 : decode cX8_comes 69 = .ok (.invokestatic 230, 3) := by decide +kernel
theorem dX8_comes_72 : decode cX8_comes 72 = .ok (.iastore, 1) := by decide +kernel
theorem dX8_comes_73 : decode cX8_comes 73 = .ok (.iinc 1 1, 3) := by decide +kernel
theorem dX8_comes_76 : decode cX8_comes 76 = .ok (.goto (-34), 3) := by decide +kernel
theorem dX8_comes_79 : decode cX8_comes 79 = .ok (.aload_n 0, 1) := by decide +kernel
theorem dX8_comes_80 : decode cX8_comes 80 = .ok (.dup, 1) := by decide +kernel
theorem dX8_comes_81 : decode cX8_comes 81 = .ok (.getfield 89, 3) := by decide +kernel
theorem dX8_comes_84 : decode cX8_comes 84 = .ok (.iconst 1, 1) := by decide +kernel
theorem dX8_comes_85 : decode cX8_comes 85 = .ok (.iadd, 1) := by decide +kernel
theorem dX8_comes_86 : decode cX8_comes 86 = .ok (.putfield 89, 3) := by decide +kernel
theorem dX8_comes_89 : decode cX8_comes 89 = .ok (.return_, 1) := by decide +kernel
theorem dX8_raised_0 : decode cX8_raised 0 = .ok (.aload_n 0, 1) := by decide +kernel
theorem dX8_raised_1 : decode cX8_raised 1 = .ok (.getfield 22, 3) := by decide +kernel
theorem dX8_raised_4 : decode cX8_raised 4 = .ok (.iload_n 1, 1) := by decide +kernel
theorem dX8_raised_5 : decode cX8_raised 5 = .ok (.bipush 99, 2) := by decide +kernel
theorem dX8_raised_7 : decode cX8_raised 7 = .ok (.aload_n 0, 1) := by decide +kernel
theorem dX8_raised_8 : decode cX8_raised 8 = .ok (.getfield 22, 3) := by decide +kernel
theorem dX8_raised_11 : decode cX8_raised 11 = .ok (.iload_n 1, 1) := by decide +kernel
theorem dX8_raised_12 : decode cX8_raised 12 = .ok (.iaload, 1) := by decide +kernel
theorem dX8_raised_13 : decode cX8_raised 13 = .ok (.aload_n 0, 1) := by decide +kernel
theorem dX8_raised_14 : decode cX8_raised 14 = .ok (.iload_n 1, 1) := by decide +kernel
theorem dX8_raised_15 : decode cX8_raised 15 = .ok (.invokevirtual 96, 3) := by decide +kernel
theorem dX8_raised_18 : decode cX8_raised 18 = .ok (.iadd, 1) := by decide +kernel
theorem dX8_raised_19 : decode cX8_raised 19 = .ok (.invokestatic 225, 3) := by decide +kernel
theorem dX8_raised_22 : decode cX8_raised 22 = .ok (.iastore, 1) := by decide +kernel
theorem dX8_raised_23 : decode cX8_raised 23 = .ok (.return_, 1) := by decide +kernel
theorem dX8_wave_0 : decode cX8_wave 0 = .ok (.aload_n 0, 1) := by decide +kernel
theorem dX8_wave_1 : decode cX8_wave 1 = .ok (.getfield 89, 3) := by decide +kernel
theorem dX8_wave_4 : decode cX8_wave 4 = .ok (.sipush 999, 3) := by decide +kernel
theorem dX8_wave_7 : decode cX8_wave 7 = .ok (.if_icmp .ne 6, 3) := by decide +kernel
theorem dX8_wave_10 : decode cX8_wave 10 = .ok (.bipush (-3), 2) := by decide +kernel
theorem dX8_wave_12 : decode cX8_wave 12 = .ok (.ireturn, 1) := by decide +kernel
theorem dX8_wave_13 : decode cX8_wave 13 = .ok (.aload_n 0, 1) := by decide +kernel
theorem dX8_wave_14 : decode cX8_wave 14 = .ok (.invokevirtual 236, 3) := by decide +kernel
theorem dX8_wave_17 : decode cX8_wave 17 = .ok (.aload_n 0, 1) := by decide +kernel
theorem dX8_wave_18 : decode cX8_wave 18 = .ok (.invokevirtual 239, 3) := by decide +kernel
theorem dX8_wave_21 : decode cX8_wave 21 = .ok (.ireturn, 1) := by decide +kernel
theorem dX8_spade_0 : decode cX8_spade 0 = .ok (.aload_n 0, 1) := by decide +kernel
theorem dX8_spade_1 : decode cX8_spade 1 = .ok (.iload_n 1, 1) := by decide +kernel
theorem dX8_spade_2 : decode cX8_spade 2 = .ok (.invokevirtual 102, 3) := by decide +kernel
theorem dX8_spade_5 : decode cX8_spade 5 = .ok (.ifCond .ne 6, 3) := by decide +kernel
theorem dX8_spade_8 : decode cX8_spade 8 = .ok (.bipush (-2), 2) := by decide +kernel
theorem dX8_spade_10 : decode cX8_spade 10 = .ok (.ireturn, 1) := by decide +kernel
theorem dX8_spade_11 : decode cX8_spade 11 = .ok (.aload_n 0, 1) := by decide +kernel
theorem dX8_spade_12 : decode cX8_spade 12 = .ok (.iload_n 1, 1) := by decide +kernel
theorem dX8_spade_13 : decode cX8_spade 13 = .ok (.invokevirtual 242, 3) := by decide +kernel
theorem dX8_spade_16 : decode cX8_spade 16 = .ok (.aload_n 0, 1) := by decide +kernel
theorem dX8_spade_17 : decode cX8_spade 17 = .ok (.getfield 22, 3) := by decide +kernel
theorem dX8_spade_20 : decode cX8_spade 20 = .ok (.iload_n 1, 1) := by decide +kernel
theorem dX8_spade_21 : decode cX8_spade 21 = .ok (.iaload, 1) := by decide +kernel
theorem dX8_spade_22 : decode cX8_spade 22 = .ok (.ireturn, 1) := by decide +kernel
theorem dX8_keep_0 : decode cX8_keep 0 = .ok (.iconst 0, 1) := by decide +kernel
theorem dX8_keep_1 : decode cX8_keep 1 = .ok (.istore_n 1, 1) := by decide +kernel
theorem dX8_keep_2 : decode cX8_keep 2 = .ok (.iload_n 1, 1) := by decide +kernel
theorem dX8_keep_3 : decode cX8_keep 3 = .ok (.bipush 8, 2) := by decide +kernel
theorem dX8_keep_5 : decode cX8_keep 5 = .ok (.if_icmp .ge 21, 3) := by decide +kernel
theorem dX8_keep_8 : decode cX8_keep 8 = .ok (.aload_n 0, 1) := by decide +kernel
theorem dX8_keep_9 : decode cX8_keep 9 = .ok (.getfield 40, 3) := by decide +kernel
theorem dX8_keep_12 : decode cX8_keep 12 = .ok (.iload_n 1, 1) := by decide +kernel
theorem dX8_keep_13 : decode cX8_keep 13 = .ok (.aload_n 0, 1) := by decide +kernel
theorem dX8_keep_14 : decode cX8_keep 14 = .ok (.getfield 22, 3) := by decide +kernel
theorem dX8_keep_17 : decode cX8_keep 17 = .ok (.iload_n 1, 1) := by decide +kernel
theorem dX8_keep_18 : decode cX8_keep 18 = .ok (.iaload, 1) := by decide +kernel
theorem dX8_keep_19 : decode cX8_keep 19 = .ok (.iastore, 1) := by decide +kernel
theorem dX8_keep_20 : decode cX8_keep 20 = .ok (.iinc 1 1, 3) := by decide +kernel
theorem dX8_keep_23 : decode cX8_keep 23 = .ok (.goto (-21), 3) := by decide +kernel
theorem dX8_keep_26 : decode cX8_keep 26 = .ok (.aload_n 0, 1) := by decide +kernel
theorem dX8_keep_27 : decode cX8_keep 27 = .ok (.aload_n 0, 1) := by decide +kernel
theorem dX8_keep_28 : decode cX8_keep 28 = .ok (.getfield 89, 3) := by decide +kernel
theorem dX8_keep_31 : decode cX8_keep 31 = .ok (.putfield 246, 3) := by decide +kernel
theorem dX8_keep_34 : decode cX8_keep 34 = .ok (.aload_n 0, 1) := by decide +kernel
theorem dX8_keep_35 : decode cX8_keep 35 = .ok (.aload_n 0, 1) := by decide +kernel
theorem dX8_keep_36 : decode cX8_keep 36 = .ok (.getfield 86, 3) := by decide +kernel
theorem dX8_keep_39 : decode cX8_keep 39 = .ok (.putfield 249, 3) := by decide +kernel
theorem dX8_keep_42 : decode cX8_keep 42 = .ok (.return_, 1) := by decide +kernel
theorem dX8_again_0 : decode cX8_again 0 = .ok (.iconst 0, 1) := by decide +kernel
theorem dX8_again_1 : decode cX8_again 1 = .ok (.istore_n 1, 1) := by decide +kernel
theorem dX8_again_2 : decode cX8_again 2 = .ok (.iload_n 1, 1) := by decide +kernel
theorem dX8_again_3 : decode cX8_again 3 = .ok (.bipush 8, 2) := by decide +kernel
theorem dX8_again_5 : decode cX8_again 5 = .ok (.if_icmp .ge 21, 3) := by decide +kernel
theorem dX8_again_8 : decode cX8_again 8 = .ok (.aload_n 0, 1) := by decide +kernel
theorem dX8_again_9 : decode cX8_again 9 = .ok (.getfield 22, 3) := by decide +kernel
theorem dX8_again_12 : decode cX8_again 12 = .ok (.iload_n 1, 1) := by decide +kernel
theorem dX8_again_13 : decode cX8_again 13 = .ok (.aload_n 0, 1) := by decide +kernel
theorem dX8_again_14 : decode cX8_again 14 = .ok (.getfield 40, 3) := by decide +kernel
theorem dX8_again_17 : decode cX8_again 17 = .ok (.iload_n 1, 1) := by decide +kernel
theorem dX8_again_18 : decode cX8_again 18 = .ok (.iaload, 1) := by decide +kernel
theorem dX8_again_19 : decode cX8_again 19 = .ok (.iastore, 1) := by decide +kernel
theorem dX8_again_20 : decode cX8_again 20 = .ok (.iinc 1 1, 3) := by decide +kernel
theorem dX8_again_23 : decode cX8_again 23 = .ok (.goto (-21), 3) := by decide +kernel
theorem dX8_again_26 : decode cX8_again 26 = .ok (.aload_n 0, 1) := by decide +kernel
theorem dX8_again_27 : decode cX8_again 27 = .ok (.aload_n 0, 1) := by decide +kernel
theorem dX8_again_28 : decode cX8_again 28 = .ok (.getfield 246, 3) := by decide +kernel
theorem dX8_again_31 : decode cX8_again 31 = .ok (.putfield 89, 3) := by decide +kernel
theorem dX8_again_34 : decode cX8_again 34 = .ok (.aload_n 0, 1) := by decide +kernel
theorem dX8_again_35 : decode cX8_again 35 = .ok (.aload_n 0, 1) := by decide +kernel
theorem dX8_again_36 : decode cX8_again 36 = .ok (.getfield 249, 3) := by decide +kernel
theorem dX8_again_39 : decode cX8_again 39 = .ok (.putfield 86, 3) := by decide +kernel
theorem dX8_again_42 : decode cX8_again 42 = .ok (.return_, 1) := by decide +kernel
theorem dX8_waves_0 : decode cX8_waves 0 = .ok (.iconst 0, 1) := by decide +kernel
theorem dX8_waves_1 : decode cX8_waves 1 = .ok (.istore_n 2, 1) := by decide +kernel
theorem dX8_waves_2 : decode cX8_waves 2 = .ok (.iload_n 2, 1) := by decide +kernel
theorem dX8_waves_3 : decode cX8_waves 3 = .ok (.iload_n 1, 1) := by decide +kernel
theorem dX8_waves_4 : decode cX8_waves 4 = .ok (.if_icmp .ge 13, 3) := by decide +kernel
theorem dX8_waves_7 : decode cX8_waves 7 = .ok (.aload_n 0, 1) := by decide +kernel
theorem dX8_waves_8 : decode cX8_waves 8 = .ok (.invokevirtual 236, 3) := by decide +kernel
theorem dX8_waves_11 : decode cX8_waves 11 = .ok (.iinc 2 1, 3) := by decide +kernel
theorem dX8_waves_14 : decode cX8_waves 14 = .ok (.goto (-12), 3) := by decide +kernel
theorem dX8_waves_17 : decode cX8_waves 17 = .ok (.return_, 1) := by decide +kernel
theorem dX8_bay_0 : decode cX8_bay 0 = .ok (.iconst 0, 1) := by decide +kernel
theorem dX8_bay_1 : decode cX8_bay 1 = .ok (.istore_n 1, 1) := by decide +kernel
theorem dX8_bay_2 : decode cX8_bay 2 = .ok (.iconst 0, 1) := by decide +kernel
theorem dX8_bay_3 : decode cX8_bay 3 = .ok (.istore_n 2, 1) := by decide +kernel
theorem dX8_bay_4 : decode cX8_bay 4 = .ok (.iconst 0, 1) := by decide +kernel
theorem dX8_bay_5 : decode cX8_bay 5 = .ok (.istore_n 3, 1) := by decide +kernel
theorem dX8_bay_6 : decode cX8_bay 6 = .ok (.iload_n 3, 1) := by decide +kernel
theorem dX8_bay_7 : decode cX8_bay 7 = .ok (.aload_n 0, 1) := by decide +kernel
theorem dX8_bay_8 : decode cX8_bay 8 = .ok (.getfield 79, 3) := by decide +kernel
theorem dX8_bay_11 : decode cX8_bay 11 = .ok (.if_icmp .ge 51, 3) := by decide +kernel
theorem dX8_bay_14 : decode cX8_bay 14 = .ok (.aload_n 0, 1) := by decide +kernel
theorem dX8_bay_15 : decode cX8_bay 15 = .ok (.getfield 19, 3) := by decide +kernel
theorem dX8_bay_18 : decode cX8_bay 18 = .ok (.iload_n 3, 1) := by decide +kernel
theorem dX8_bay_19 : decode cX8_bay 19 = .ok (.iaload, 1) := by decide +kernel
theorem dX8_bay_20 : decode cX8_bay 20 = .ok (.ifCond .ne 7, 3) := by decide +kernel
theorem dX8_bay_23 : decode cX8_bay 23 = .ok (.iconst 1, 1) := by decide +kernel
theorem dX8_bay_24 : decode cX8_bay 24 = .ok (.goto 4, 3) := by decide +kernel
theorem dX8_bay_27 : decode cX8_bay 27 = .ok (.iconst (-1), 1) := by decide +kernel
theorem dX8_bay_28 : decode cX8_bay 28 = .ok (.istore 4, 2) := by decide +kernel
theorem dX8_bay_30 : decode cX8_bay 30 = .ok (.aload_n 0, 1) := by decide +kernel
theorem dX8_bay_31 : decode cX8_bay 31 = .ok (.getfield 22, 3) := by decide +kernel
theorem dX8_bay_34 : decode cX8_bay 34 = .ok (.iload_n 3, 1) := by decide +kernel
theorem dX8_bay_35 : decode cX8_bay 35 = .ok (.iaload, 1) := by decide +kernel
theorem dX8_bay_36 : decode cX8_bay 36 = .ok (.ifCond .le 8, 3) := by decide +kernel
theorem dX8_bay_39 : decode cX8_bay 39 = .ok (.iload_n 1, 1) := by decide +kernel
theorem dX8_bay_40 : decode cX8_bay 40 = .ok (.iload 4, 2) := by decide +kernel
theorem dX8_bay_42 : decode cX8_bay 42 = .ok (.iadd, 1) := by decide +kernel
theorem dX8_bay_43 : decode cX8_bay 43 = .ok (.istore_n 1, 1) := by decide +kernel
theorem dX8_bay_44 : decode cX8_bay 44 = .ok (.iload_n 2, 1) := by decide +kernel
theorem dX8_bay_45 : decode cX8_bay 45 = .ok (.iload 4, 2) := by decide +kernel
theorem dX8_bay_47 : decode cX8_bay 47 = .ok (.aload_n 0, 1) := by decide +kernel
theorem dX8_bay_48 : decode cX8_bay 48 = .ok (.getfield 22, 3) := by decide +kernel
theorem dX8_bay_51 : decode cX8_bay 51 = .ok (.iload_n 3, 1) := by decide +kernel
theorem dX8_bay_52 : decode cX8_bay 52 = .ok (.iaload, 1) := by decide +kernel
theorem dX8_bay_53 : decode cX8_bay 53 = .ok (.imul, 1) := by decide +kernel
theorem dX8_bay_54 : decode cX8_bay 54 = .ok (.iadd, 1) := by decide +kernel
theorem dX8_bay_55 : decode cX8_bay 55 = .ok (.istore_n 2, 1) := by decide +kernel
theorem dX8_bay_56 : decode cX8_bay 56 = .ok (.iinc 3 1, 3) := by decide +kernel
theorem dX8_bay_59 : decode cX8_bay 59 = .ok (.goto (-53), 3) := by decide +kernel
theorem dX8_bay_62 : decode cX8_bay 62 = .ok (.iload_n 1, 1) := by decide +kernel
theorem dX8_bay_63 : decode cX8_bay 63 = .ok (.ifCond .eq 7, 3) := by decide +kernel
theorem dX8_bay_66 : decode cX8_bay 66 = .ok (.iload_n 1, 1) := by decide +kernel
theorem dX8_bay_67 : decode cX8_bay 67 = .ok (.goto 4, 3) := by decide +kernel
theorem dX8_bay_70 : decode cX8_bay 70 = .ok (.iload_n 2, 1) := by decide +kernel
theorem dX8_bay_71 : decode cX8_bay 71 = .ok (.istore_n 3, 1) := by decide +kernel
theorem dX8_bay_72 : decode cX8_bay 72 = .ok (.iload_n 3, 1) := by decide +kernel
theorem dX8_bay_73 : decode cX8_bay 73 = .ok (.ifCond .le 7, 3) := by decide +kernel
theorem dX8_bay_76 : decode cX8_bay 76 = .ok (.iconst 0, 1) := by decide +kernel
theorem dX8_bay_77 : decode cX8_bay 77 = .ok (.goto 12, 3) := by decide +kernel
theorem dX8_bay_80 : decode cX8_bay 80 = .ok (.iload_n 3, 1) := by decide +kernel
theorem dX8_bay_81 : decode cX8_bay 81 = .ok (.ifCond .ge 7, 3) := by decide +kernel
theorem dX8_bay_84 : decode cX8_bay 84 = .ok (.iconst 1, 1) := by decide +kernel
theorem dX8_bay_85 : decode cX8_bay 85 = .ok (.goto 4, 3) := by decide +kernel
theorem dX8_bay_88 : decode cX8_bay 88 = .ok (.iconst (-1), 1) := by decide +kernel
theorem dX8_bay_89 : decode cX8_bay 89 = .ok (.ireturn, 1) := by decide +kernel
theorem dX8_valueOf_0 : decode cX8_valueOf 0 = .ok (.iconst 0, 1) := by decide +kernel
theorem dX8_valueOf_1 : decode cX8_valueOf 1 = .ok (.istore_n 2, 1) := by decide +kernel
theorem dX8_valueOf_2 : decode cX8_valueOf 2 = .ok (.iconst 0, 1) := by decide +kernel
theorem dX8_valueOf_3 : decode cX8_valueOf 3 = .ok (.istore_n 3, 1) := by decide +kernel
theorem dX8_valueOf_4 : decode cX8_valueOf 4 = .ok (.iload_n 3, 1) := by decide +kernel
theorem dX8_valueOf_5 : decode cX8_valueOf 5 = .ok (.aload_n 0, 1) := by decide +kernel
theorem dX8_valueOf_6 : decode cX8_valueOf 6 = .ok (.getfield 79, 3) := by decide +kernel
theorem dX8_valueOf_9 : decode cX8_valueOf 9 = .ok (.if_icmp .ge 45, 3) := by decide +kernel
theorem dX8_valueOf_12 : decode cX8_valueOf 12 = .ok (.aload_n 0, 1) := by decide +kernel
theorem dX8_valueOf_13 : decode cX8_valueOf 13 = .ok (.getfield 22, 3) := by decide +kernel
theorem dX8_valueOf_16 : decode cX8_valueOf 16 = .ok (.iload_n 3, 1) := by decide +kernel
theorem dX8_valueOf_17 : decode cX8_valueOf 17 = .ok (.iaload, 1) := by decide +kernel
theorem dX8_valueOf_18 : decode cX8_valueOf 18 = .ok (.ifCond .le 30, 3) := by decide +kernel
theorem dX8_valueOf_21 : decode cX8_valueOf 21 = .ok (.iload_n 2, 1) := by decide +kernel
theorem dX8_valueOf_22 : decode cX8_valueOf 22 = .ok (.aload_n 0, 1) := by decide +kernel
theorem dX8_valueOf_23 : decode cX8_valueOf 23 = .ok (.getfield 19, 3) := by decide +kernel
theorem dX8_valueOf_26 : decode cX8_valueOf 26 = .ok (.iload_n 3, 1) := by decide +kernel
theorem dX8_valueOf_27 : decode cX8_valueOf 27 = .ok (.iaload, 1) := by decide +kernel
theorem dX8_valueOf_28 : decode cX8_valueOf 28 = .ok (.iload_n 1, 1) := by decide +kernel
theorem dX8_valueOf_29 : decode cX8_valueOf 29 = .ok (.if_icmp .ne 7, 3) := by decide +kernel
theorem dX8_valueOf_32 : decode cX8_valueOf 32 = .ok (.iconst 1, 1) := by decide +kernel
theorem dX8_valueOf_33 : decode cX8_valueOf 33 = .ok (.goto 4, 3) := by decide +kernel
theorem dX8_valueOf_36 : decode cX8_valueOf 36 = .ok (.iconst (-1), 1) := by decide +kernel
theorem dX8_valueOf_37 : decode cX8_valueOf 37 = .ok (.aload_n 0, 1) := by decide +kernel
theorem dX8_valueOf_38 : decode cX8_valueOf 38 = .ok (.iconst 2, 1) := by decide +kernel
theorem dX8_valueOf_39 : decode cX8_valueOf 39 = .ok (.iload_n 3, 1) := by decide +kernel
theorem dX8_valueOf_40 : decode cX8_valueOf 40 = .ok (.bipush 99, 2) := by decide +kernel
theorem dX8_valueOf_42 : decode cX8_valueOf 42 = .ok (.invokevirtual 233, 3) := by decide +kernel
theorem dX8_valueOf_45 : decode cX8_valueOf 45 = .ok (.imul, 1) := by decide +kernel
theorem dX8_valueOf_46 : decode cX8_valueOf 46 = .ok (.iadd, 1) := by decide +kernel
theorem dX8_valueOf_47 : decode cX8_valueOf 47 = .ok (.istore_n 2, 1) := by decide +kernel
theorem dX8_valueOf_48 : decode cX8_valueOf 48 = .ok (.iinc 3 1, 3) := by decide +kernel
theorem dX8_valueOf_51 : decode cX8_valueOf 51 = .ok (.goto (-47), 3) := by decide +kernel
theorem dX8_valueOf_54 : decode cX8_valueOf 54 = .ok (.iload_n 2, 1) := by decide +kernel
theorem dX8_valueOf_55 : decode cX8_valueOf 55 = .ok (.ireturn, 1) := by decide +kernel
theorem dX8_isAsked_0 : decode cX8_isAsked 0 = .ok (.iload_n 1, 1) := by decide +kernel
theorem dX8_isAsked_1 : decode cX8_isAsked 1 = .ok (.iconst 0, 1) := by decide +kernel
theorem dX8_isAsked_2 : decode cX8_isAsked 2 = .ok (.iconst 2, 1) := by decide +kernel
theorem dX8_isAsked_3 : decode cX8_isAsked 3 = .ok (.invokestatic 82, 3) := by decide +kernel
theorem dX8_isAsked_6 : decode cX8_isAsked 6 = .ok (.ifCond .ne 14, 3) := by decide +kernel
theorem dX8_isAsked_9 : decode cX8_isAsked 9 = .ok (.aload_n 0, 1) := by decide +kernel
theorem dX8_isAsked_10 : decode cX8_isAsked 10 = .ok (.iload_n 1, 1) := by decide +kernel
theorem dX8_isAsked_11 : decode cX8_isAsked 11 = .ok (.bipush 10, 2) := by decide +kernel
theorem dX8_isAsked_13 : decode cX8_isAsked 13 = .ok (.isub, 1) := by decide +kernel
theorem dX8_isAsked_14 : decode cX8_isAsked 14 = .ok (.invokevirtual 102, 3) := by decide +kernel
theorem dX8_isAsked_17 : decode cX8_isAsked 17 = .ok (.ifCond .eq 7, 3) := by decide +kernel
theorem dX8_isAsked_20 : decode cX8_isAsked 20 = .ok (.iconst 1, 1) := by decide +kernel
theorem dX8_isAsked_21 : decode cX8_isAsked 21 = .ok (.goto 4, 3) := by decide +kernel
theorem dX8_isAsked_24 : decode cX8_isAsked 24 = .ok (.iconst 0, 1) := by decide +kernel
theorem dX8_isAsked_25 : decode cX8_isAsked 25 = .ok (.ireturn, 1) := by decide +kernel
theorem dX8_asked_0 : decode cX8_asked 0 = .ok (.iload_n 1, 1) := by decide +kernel
theorem dX8_asked_1 : decode cX8_asked 1 = .ok (.ifCond .ne 10, 3) := by decide +kernel
theorem dX8_asked_4 : decode cX8_asked 4 = .ok (.aload_n 0, 1) := by decide +kernel
theorem dX8_asked_5 : decode cX8_asked 5 = .ok (.invokevirtual 239, 3) := by decide +kernel
theorem dX8_asked_8 : decode cX8_asked 8 = .ok (.goto 37, 3) := by decide +kernel
theorem dX8_asked_11 : decode cX8_asked 11 = .ok (.iload_n 1, 1) := by decide +kernel
theorem dX8_asked_12 : decode cX8_asked 12 = .ok (.iconst 1, 1) := by decide +kernel
theorem dX8_asked_13 : decode cX8_asked 13 = .ok (.if_icmp .ne 10, 3) := by decide +kernel
theorem dX8_asked_16 : decode cX8_asked 16 = .ok (.aload_n 0, 1) := by decide +kernel
theorem dX8_asked_17 : decode cX8_asked 17 = .ok (.invokevirtual 252, 3) := by decide +kernel
theorem dX8_asked_20 : decode cX8_asked 20 = .ok (.goto 25, 3) := by decide +kernel
theorem dX8_asked_23 : decode cX8_asked 23 = .ok (.iload_n 1, 1) := by decide +kernel
theorem dX8_asked_24 : decode cX8_asked 24 = .ok (.iconst 2, 1) := by decide +kernel
theorem dX8_asked_25 : decode cX8_asked 25 = .ok (.if_icmp .ne 11, 3) := by decide +kernel
theorem dX8_asked_28 : decode cX8_asked 28 = .ok (.aload_n 0, 1) := by decide +kernel
theorem dX8_asked_29 : decode cX8_asked 29 = .ok (.iconst 0, 1) := by decide +kernel
theorem dX8_asked_30 : decode cX8_asked 30 = .ok (.invokevirtual 255, 3) := by decide +kernel
theorem dX8_asked_33 : decode cX8_asked 33 = .ok (.goto 12, 3) := by decide +kernel
theorem dX8_asked_36 : decode cX8_asked 36 = .ok (.aload_n 0, 1) := by decide +kernel
theorem dX8_asked_37 : decode cX8_asked 37 = .ok (.getfield 22, 3) := by decide +kernel
theorem dX8_asked_40 : decode cX8_asked 40 = .ok (.iload_n 1, 1) := by decide +kernel
theorem dX8_asked_41 : decode cX8_asked 41 = .ok (.bipush 10, 2) := by decide +kernel
theorem dX8_asked_43 : decode cX8_asked 43 = .ok (.isub, 1) := by decide +kernel
theorem dX8_asked_44 : decode cX8_asked 44 = .ok (.iaload, 1) := by decide +kernel
theorem dX8_asked_45 : decode cX8_asked 45 = .ok (.ireturn, 1) := by decide +kernel
theorem dX8_run_0 : decode cX8_run 0 = .ok (.iload_n 1, 1) := by decide +kernel
theorem dX8_run_1 : decode cX8_run 1 = .ok (.invokestatic 258, 3) := by decide +kernel
theorem dX8_run_4 : decode cX8_run 4 = .ok (.ifCond .eq 11, 3) := by decide +kernel
theorem dX8_run_7 : decode cX8_run 7 = .ok (.aload_n 0, 1) := by decide +kernel
theorem dX8_run_8 : decode cX8_run 8 = .ok (.iload_n 2, 1) := by decide +kernel
theorem dX8_run_9 : decode cX8_run 9 = .ok (.invokevirtual 261, 3) := by decide +kernel
theorem dX8_run_12 : decode cX8_run 12 = .ok (.ifCond .ne 7, 3) := by decide +kernel
theorem dX8_run_15 : decode cX8_run 15 = .ok (.ldc_w 264, 3) := by decide +kernel
theorem dX8_run_18 : decode cX8_run 18 = .ok (.ireturn, 1) := by decide +kernel
theorem dX8_run_19 : decode cX8_run 19 = .ok (.aload_n 0, 1) := by decide +kernel
theorem dX8_run_20 : decode cX8_run 20 = .ok (.invokevirtual 265, 3) := by decide +kernel
theorem dX8_run_23 : decode cX8_run 23 = .ok (.aload_n 0, 1) := by decide +kernel
theorem dX8_run_24 : decode cX8_run 24 = .ok (.iload_n 1, 1) := by decide +kernel
theorem dX8_run_25 : decode cX8_run 25 = .ok (.invokevirtual 268, 3) := by decide +kernel
theorem dX8_run_28 : decode cX8_run 28 = .ok (.aload_n 0, 1) := by decide +kernel
theorem dX8_run_29 : decode cX8_run 29 = .ok (.iload_n 2, 1) := by decide +kernel
theorem dX8_run_30 : decode cX8_run 30 = .ok (.invokevirtual 271, 3) := by decide +kernel
theorem dX8_run_33 : decode cX8_run 33 = .ok (.istore_n 3, 1) := by decide +kernel
theorem dX8_run_34 : decode cX8_run 34 = .ok (.aload_n 0, 1) := by decide +kernel
theorem dX8_run_35 : decode cX8_run 35 = .ok (.invokevirtual 274, 3) := by decide +kernel
theorem dX8_run_38 : decode cX8_run 38 = .ok (.iload_n 3, 1) := by decide +kernel
theorem dX8_run_39 : decode cX8_run 39 = .ok (.ireturn, 1) := by decide +kernel
theorem dX8_plan_0 : decode cX8_plan 0 = .ok (.iload_n 1, 1) := by decide +kernel
theorem dX8_plan_1 : decode cX8_plan 1 = .ok (.invokestatic 277, 3) := by decide +kernel
theorem dX8_plan_4 : decode cX8_plan 4 = .ok (.ifCond .eq 20, 3) := by decide +kernel
theorem dX8_plan_7 : decode cX8_plan 7 = .ok (.aload_n 0, 1) := by decide +kernel
theorem dX8_plan_8 : decode cX8_plan 8 = .ok (.iload_n 2, 1) := by decide +kernel
theorem dX8_plan_9 : decode cX8_plan 9 = .ok (.invokevirtual 261, 3) := by decide +kernel
theorem dX8_plan_12 : decode cX8_plan 12 = .ok (.ifCond .eq 12, 3) := by decide +kernel
theorem dX8_plan_15 : decode cX8_plan 15 = .ok (.aload_n 0, 1) := by decide +kernel
theorem dX8_plan_16 : decode cX8_plan 16 = .ok (.getfield 52, 3) := by decide +kernel
theorem dX8_plan_19 : decode cX8_plan 19 = .ok (.iload_n 1, 1) := by decide +kernel
theorem dX8_plan_20 : decode cX8_plan 20 = .ok (.iaload, 1) := by decide +kernel
theorem dX8_plan_21 : decode cX8_plan 21 = .ok (.ifCond .ge 7, 3) := by decide +kernel
theorem dX8_plan_24 : decode cX8_plan 24 = .ok (.ldc_w 264, 3) := by decide +kernel
theorem dX8_plan_27 : decode cX8_plan 27 = .ok (.ireturn, 1) := by decide +kernel
theorem dX8_plan_28 : decode cX8_plan 28 = .ok (.iconst 0, 1) := by decide +kernel
theorem dX8_plan_29 : decode cX8_plan 29 = .ok (.istore_n 3, 1) := by decide +kernel
theorem dX8_plan_30 : decode cX8_plan 30 = .ok (.iload_n 3, 1) := by decide +kernel
theorem dX8_plan_31 : decode cX8_plan 31 = .ok (.aload_n 0, 1) := by decide +kernel
theorem dX8_plan_32 : decode cX8_plan 32 = .ok (.getfield 55, 3) := by decide +kernel
theorem dX8_plan_35 : decode cX8_plan 35 = .ok (.iload_n 1, 1) := by decide +kernel
theorem dX8_plan_36 : decode cX8_plan 36 = .ok (.iaload, 1) := by decide +kernel
theorem dX8_plan_37 : decode cX8_plan 37 = .ok (.if_icmp .ge 37, 3) := by decide +kernel
theorem dX8_plan_40 : decode cX8_plan 40 = .ok (.aload_n 0, 1) := by decide +kernel
theorem dX8_plan_41 : decode cX8_plan 41 = .ok (.getfield 58, 3) := by decide +kernel
theorem dX8_plan_44 : decode cX8_plan 44 = .ok (.bipush 40, 2) := by decide +kernel
theorem dX8_plan_46 : decode cX8_plan 46 = .ok (.iload_n 1, 1) := by decide +kernel
theorem dX8_plan_47 : decode cX8_plan 47 = .ok (.imul, 1) := by decide +kernel
theorem dX8_plan_48 : decode cX8_plan 48 = .ok (.iload_n 3, 1) := by decide +kernel
theorem dX8_plan_49 : decode cX8_plan 49 = .ok (.iadd, 1) := by decide +kernel
theorem dX8_plan_50 : decode cX8_plan 50 = .ok (.iaload, 1) := by decide +kernel
theorem dX8_plan_51 : decode cX8_plan 51 = .ok (.iconst (-1), 1) := by decide +kernel
theorem dX8_plan_52 : decode cX8_plan 52 = .ok (.aload_n 0, 1) := by decide +kernel
theorem dX8_plan_53 : decode cX8_plan 53 = .ok (.getfield 79, 3) := by decide +kernel
theorem dX8_plan_56 : decode cX8_plan 56 = .ok (.iconst 1, 1) := by decide +kernel
theorem dX8_plan_57 : decode cX8_plan 57 = .ok (.isub, 1) := by decide +kernel
theorem dX8_plan_58 : decode cX8_plan 58 = .ok (.invokestatic 82, 3) := by decide +kernel
theorem dX8_plan_61 : decode cX8_plan 61 = .ok (.ifCond .ne 7, 3) := by decide +kernel
theorem dX8_plan_64 : decode cX8_plan 64 = .ok (.ldc_w 264, 3) := by decide +kernel
theorem dX8_plan_67 : decode cX8_plan 67 = .ok (.ireturn, 1) := by decide +kernel
theorem dX8_plan_68 : decode cX8_plan 68 = .ok (.iinc 3 1, 3) := by decide +kernel
theorem dX8_plan_71 : decode cX8_plan 71 = .ok (.goto (-41), 3) := by decide +kernel
theorem dX8_plan_74 : decode cX8_plan 74 = .ok (.aload_n 0, 1) := by decide +kernel
theorem dX8_plan_75 : decode cX8_plan 75 = .ok (.invokevirtual 265, 3) := by decide +kernel
theorem dX8_plan_78 : decode cX8_plan 78 = .ok (.iconst 0, 1) := by decide +kernel
theorem dX8_plan_79 : decode cX8_plan 79 = .ok (.istore_n 3, 1) := by decide +kernel
theorem dX8_plan_80 : decode cX8_plan 80 = .ok (.iload_n 3, 1) := by decide +kernel
theorem dX8_plan_81 : decode cX8_plan 81 = .ok (.aload_n 0, 1) := by decide +kernel
theorem dX8_plan_82 : decode cX8_plan 82 = .ok (.getfield 55, 3) := by decide +kernel
theorem dX8_plan_85 : decode cX8_plan 85 = .ok (.iload_n 1, 1) := by decide +kernel
theorem dX8_plan_86 : decode cX8_plan 86 = .ok (.iaload, 1) := by decide +kernel
theorem dX8_plan_87 : decode cX8_plan 87 = .ok (.if_icmp .ge 38, 3) := by decide +kernel
theorem dX8_plan_90 : decode cX8_plan 90 = .ok (.aload_n 0, 1) := by decide +kernel
theorem dX8_plan_91 : decode cX8_plan 91 = .ok (.getfield 58, 3) := by decide +kernel
theorem dX8_plan_94 : decode cX8_plan 94 = .ok (.bipush 40, 2) := by decide +kernel
theorem dX8_plan_96 : decode cX8_plan 96 = .ok (.iload_n 1, 1) := by decide +kernel
theorem dX8_plan_97 : decode cX8_plan 97 = .ok (.imul, 1) := by decide +kernel
theorem dX8_plan_98 : decode cX8_plan 98 = .ok (.iload_n 3, 1) := by decide +kernel
theorem dX8_plan_99 : decode cX8_plan 99 = .ok (.iadd, 1) := by decide +kernel
theorem dX8_plan_100 : decode cX8_plan 100 = .ok (.iaload, 1) := by decide +kernel
theorem dX8_plan_101 : decode cX8_plan 101 = .ok (.istore 4, 2) := by decide +kernel
theorem dX8_plan_103 : decode cX8_plan 103 = .ok (.iload 4, 2) := by decide +kernel
theorem dX8_plan_105 : decode cX8_plan 105 = .ok (.iconst (-1), 1) := by decide +kernel
theorem dX8_plan_106 : decode cX8_plan 106 = .ok (.if_icmp .eq 9, 3) := by decide +kernel
theorem dX8_plan_109 : decode cX8_plan 109 = .ok (.aload_n 0, 1) := by decide +kernel
theorem dX8_plan_110 : decode cX8_plan 110 = .ok (.iload 4, 2) := by decide +kernel
theorem dX8_plan_112 : decode cX8_plan 112 = .ok (.invokevirtual 242, 3) := by decide +kernel
theorem dX8_plan_115 : decode cX8_plan 115 = .ok (.aload_n 0, 1) := by decide +kernel
theorem dX8_plan_116 : decode cX8_plan 116 = .ok (.invokevirtual 236, 3) := by decide +kernel
theorem dX8_plan_119 : decode cX8_plan 119 = .ok (.iinc 3 1, 3) := by decide +kernel
theorem dX8_plan_122 : decode cX8_plan 122 = .ok (.goto (-42), 3) := by decide +kernel
theorem dX8_plan_125 : decode cX8_plan 125 = .ok (.aload_n 0, 1) := by decide +kernel
theorem dX8_plan_126 : decode cX8_plan 126 = .ok (.iload_n 2, 1) := by decide +kernel
theorem dX8_plan_127 : decode cX8_plan 127 = .ok (.invokevirtual 271, 3) := by decide +kernel
theorem dX8_plan_130 : decode cX8_plan 130 = .ok (.istore_n 3, 1) := by decide +kernel
theorem dX8_plan_131 : decode cX8_plan 131 = .ok (.aload_n 0, 1) := by decide +kernel
theorem dX8_plan_132 : decode cX8_plan 132 = .ok (.invokevirtual 274, 3) := by decide +kernel
theorem dX8_plan_135 : decode cX8_plan 135 = .ok (.iload_n 3, 1) := by decide +kernel
theorem dX8_plan_136 : decode cX8_plan 136 = .ok (.ireturn, 1) := by decide +kernel
theorem dX8_heightBehind_0 : decode cX8_heightBehind 0 = .ok (.aload_n 0, 1) := by decide +kernel
theorem dX8_heightBehind_1 : decode cX8_heightBehind 1 = .ok (.invokevirtual 265, 3) := by decide +kernel
theorem dX8_heightBehind_4 : decode cX8_heightBehind 4 = .ok (.aload_n 0, 1) := by decide +kernel
theorem dX8_heightBehind_5 : decode cX8_heightBehind 5 = .ok (.iload_n 2, 1) := by decide +kernel
theorem dX8_heightBehind_6 : decode cX8_heightBehind 6 = .ok (.invokevirtual 268, 3) := by decide +kernel
theorem dX8_heightBehind_9 : decode cX8_heightBehind 9 = .ok (.aload_n 0, 1) := by decide +kernel
theorem dX8_heightBehind_10 : decode cX8_heightBehind 10 = .ok (.getfield 22, 3) := by decide +kernel
theorem dX8_heightBehind_13 : decode cX8_heightBehind 13 = .ok (.iload_n 1, 1) := by decide +kernel
theorem dX8_heightBehind_14 : decode cX8_heightBehind 14 = .ok (.iaload, 1) := by decide +kernel
theorem dX8_heightBehind_15 : decode cX8_heightBehind 15 = .ok (.istore_n 3, 1) := by decide +kernel
theorem dX8_heightBehind_16 : decode cX8_heightBehind 16 = .ok (.aload_n 0, 1) := by decide +kernel
theorem dX8_heightBehind_17 : decode cX8_heightBehind 17 = .ok (.invokevirtual 274, 3) := by decide +kernel
theorem dX8_heightBehind_20 : decode cX8_heightBehind 20 = .ok (.iload_n 3, 1) := by decide +kernel
theorem dX8_heightBehind_21 : decode cX8_heightBehind 21 = .ok (.ireturn, 1) := by decide +kernel
theorem dX8_valueBehind_0 : decode cX8_valueBehind 0 = .ok (.aload_n 0, 1) := by decide +kernel
theorem dX8_valueBehind_1 : decode cX8_valueBehind 1 = .ok (.invokevirtual 265, 3) := by decide +kernel
theorem dX8_valueBehind_4 : decode cX8_valueBehind 4 = .ok (.aload_n 0, 1) := by decide +kernel
theorem dX8_valueBehind_5 : decode cX8_valueBehind 5 = .ok (.iload_n 2, 1) := by decide +kernel
theorem dX8_valueBehind_6 : decode cX8_valueBehind 6 = .ok (.invokevirtual 268, 3) := by decide +kernel
theorem dX8_valueBehind_9 : decode cX8_valueBehind 9 = .ok (.aload_n 0, 1) := by decide +kernel
theorem dX8_valueBehind_10 : decode cX8_valueBehind 10 = .ok (.iload_n 1, 1) := by decide +kernel
theorem dX8_valueBehind_11 : decode cX8_valueBehind 11 = .ok (.invokevirtual 255, 3) := by decide +kernel
theorem dX8_valueBehind_14 : decode cX8_valueBehind 14 = .ok (.istore_n 3, 1) := by decide +kernel
theorem dX8_valueBehind_15 : decode cX8_valueBehind 15 = .ok (.aload_n 0, 1) := by decide +kernel
theorem dX8_valueBehind_16 : decode cX8_valueBehind 16 = .ok (.invokevirtual 274, 3) := by decide +kernel
theorem dX8_valueBehind_19 : decode cX8_valueBehind 19 = .ok (.iload_n 3, 1) := by decide +kernel
theorem dX8_valueBehind_20 : decode cX8_valueBehind 20 = .ok (.ireturn, 1) := by decide +kernel
theorem dX8_keeps_0 : decode cX8_keeps 0 = .ok (.aload_n 0, 1) := by decide +kernel
theorem dX8_keeps_1 : decode cX8_keeps 1 = .ok (.iload_n 1, 1) := by decide +kernel
theorem dX8_keeps_2 : decode cX8_keeps 2 = .ok (.invokevirtual 102, 3) := by decide +kernel
theorem dX8_keeps_5 : decode cX8_keeps 5 = .ok (.ifCond .eq 10, 3) := by decide +kernel
theorem dX8_keeps_8 : decode cX8_keeps 8 = .ok (.iload_n 2, 1) := by decide +kernel
theorem dX8_keeps_9 : decode cX8_keeps 9 = .ok (.invokestatic 258, 3) := by decide +kernel
theorem dX8_keeps_12 : decode cX8_keeps 12 = .ok (.ifCond .ne 6, 3) := by decide +kernel
theorem dX8_keeps_15 : decode cX8_keeps 15 = .ok (.bipush (-2), 2) := by decide +kernel
theorem dX8_keeps_17 : decode cX8_keeps 17 = .ok (.ireturn, 1) := by decide +kernel
theorem dX8_keeps_18 : decode cX8_keeps 18 = .ok (.aload_n 0, 1) := by decide +kernel
theorem dX8_keeps_19 : decode cX8_keeps 19 = .ok (.getfield 22, 3) := by decide +kernel
theorem dX8_keeps_22 : decode cX8_keeps 22 = .ok (.iload_n 1, 1) := by decide +kernel
theorem dX8_keeps_23 : decode cX8_keeps 23 = .ok (.iaload, 1) := by decide +kernel
theorem dX8_keeps_24 : decode cX8_keeps 24 = .ok (.istore_n 3, 1) := by decide +kernel
theorem dX8_keeps_25 : decode cX8_keeps 25 = .ok (.iconst (-1), 1) := by decide +kernel
theorem dX8_keeps_26 : decode cX8_keeps 26 = .ok (.istore 4, 2) := by decide +kernel
theorem dX8_keeps_28 : decode cX8_keeps 28 = .ok (.bipush 99, 2) := by decide +kernel
theorem dX8_keeps_30 : decode cX8_keeps 30 = .ok (.iload_n 3, 1) := by decide +kernel
theorem dX8_keeps_31 : decode cX8_keeps 31 = .ok (.isub, 1) := by decide +kernel
theorem dX8_keeps_32 : decode cX8_keeps 32 = .ok (.istore 5, 2) := by decide +kernel
theorem dX8_keeps_34 : decode cX8_keeps 34 = .ok (.iload 5, 2) := by decide +kernel
theorem dX8_keeps_36 : decode cX8_keeps 36 = .ok (.ifCond .lt 32, 3) := by decide +kernel
theorem dX8_keeps_39 : decode cX8_keeps 39 = .ok (.aload_n 0, 1) := by decide +kernel
theorem dX8_keeps_40 : decode cX8_keeps 40 = .ok (.getfield 22, 3) := by decide +kernel
theorem dX8_keeps_43 : decode cX8_keeps 43 = .ok (.iload_n 1, 1) := by decide +kernel
theorem dX8_keeps_44 : decode cX8_keeps 44 = .ok (.iload_n 3, 1) := by decide +kernel
theorem dX8_keeps_45 : decode cX8_keeps 45 = .ok (.iload 5, 2) := by decide +kernel
theorem dX8_keeps_47 : decode cX8_keeps 47 = .ok (.iadd, 1) := by decide +kernel
theorem dX8_keeps_48 : decode cX8_keeps 48 = .ok (.iastore, 1) := by decide +kernel
theorem dX8_keeps_49 : decode cX8_keeps 49 = .ok (.aload_n 0, 1) := by decide +kernel
theorem dX8_keeps_50 : decode cX8_keeps 50 = .ok (.iload_n 1, 1) := by decide +kernel
theorem dX8_keeps_51 : decode cX8_keeps 51 = .ok (.iload_n 2, 1) := by decide +kernel
theorem dX8_keeps_52 : decode cX8_keeps 52 = .ok (.invokevirtual 280, 3) := by decide +kernel
theorem dX8_keeps_55 : decode cX8_keeps 55 = .ok (.ifCond .le 7, 3) := by decide +kernel
theorem dX8_keeps_58 : decode cX8_keeps 58 = .ok (.iload 5, 2) := by decide +kernel
theorem dX8_keeps_60 : decode cX8_keeps 60 = .ok (.istore 4, 2) := by decide +kernel
theorem dX8_keeps_62 : decode cX8_keeps 62 = .ok (.iinc 5 (-1), 3) := by decide +kernel
theorem dX8_keeps_65 : decode cX8_keeps 65 = .ok (.goto (-31), 3) := by decide +kernel
theorem dX8_keeps_68 : decode cX8_keeps 68 = .ok (.aload_n 0, 1) := by decide +kernel
theorem dX8_keeps_69 : decode cX8_keeps 69 = .ok (.getfield 22, 3) := by decide +kernel
theorem dX8_keeps_72 : decode cX8_keeps 72 = .ok (.iload_n 1, 1) := by decide +kernel
theorem dX8_keeps_73 : decode cX8_keeps 73 = .ok (.iload_n 3, 1) := by decide +kernel
theorem dX8_keeps_74 : decode cX8_keeps 74 = .ok (.iastore, 1) := by decide +kernel
theorem dX8_keeps_75 : decode cX8_keeps 75 = .ok (.iload 4, 2) := by decide +kernel
theorem dX8_keeps_77 : decode cX8_keeps 77 = .ok (.ireturn, 1) := by decide +kernel
theorem dX8_best_0 : decode cX8_best 0 = .ok (.aload_n 0, 1) := by decide +kernel
theorem dX8_best_1 : decode cX8_best 1 = .ok (.iload_n 1, 1) := by decide +kernel
theorem dX8_best_2 : decode cX8_best 2 = .ok (.invokevirtual 102, 3) := by decide +kernel
theorem dX8_best_5 : decode cX8_best 5 = .ok (.ifCond .eq 19, 3) := by decide +kernel
theorem dX8_best_8 : decode cX8_best 8 = .ok (.iload_n 2, 1) := by decide +kernel
theorem dX8_best_9 : decode cX8_best 9 = .ok (.invokestatic 258, 3) := by decide +kernel
theorem dX8_best_12 : decode cX8_best 12 = .ok (.ifCond .eq 12, 3) := by decide +kernel
theorem dX8_best_15 : decode cX8_best 15 = .ok (.iload_n 3, 1) := by decide +kernel
theorem dX8_best_16 : decode cX8_best 16 = .ok (.iconst 0, 1) := by decide +kernel
theorem dX8_best_17 : decode cX8_best 17 = .ok (.iconst 1, 1) := by decide +kernel
theorem dX8_best_18 : decode cX8_best 18 = .ok (.invokestatic 82, 3) := by decide +kernel
theorem dX8_best_21 : decode cX8_best 21 = .ok (.ifCond .ne 6, 3) := by decide +kernel
theorem dX8_best_24 : decode cX8_best 24 = .ok (.bipush (-2), 2) := by decide +kernel
theorem dX8_best_26 : decode cX8_best 26 = .ok (.ireturn, 1) := by decide +kernel
theorem dX8_best_27 : decode cX8_best 27 = .ok (.aload_n 0, 1) := by decide +kernel
theorem dX8_best_28 : decode cX8_best 28 = .ok (.getfield 16, 3) := by decide +kernel
theorem dX8_best_31 : decode cX8_best 31 = .ok (.iload_n 1, 1) := by decide +kernel
theorem dX8_best_32 : decode cX8_best 32 = .ok (.iaload, 1) := by decide +kernel
theorem dX8_best_33 : decode cX8_best 33 = .ok (.istore 4, 2) := by decide +kernel
theorem dX8_best_35 : decode cX8_best 35 = .ok (.iconst 0, 1) := by decide +kernel
theorem dX8_best_36 : decode cX8_best 36 = .ok (.istore 5, 2) := by decide +kernel
theorem dX8_best_38 : decode cX8_best 38 = .ok (.iconst (-1), 1) := by decide +kernel
theorem dX8_best_39 : decode cX8_best 39 = .ok (.istore 6, 2) := by decide +kernel
theorem dX8_best_41 : decode cX8_best 41 = .ok (.iconst 0, 1) := by decide +kernel
theorem dX8_best_42 : decode cX8_best 42 = .ok (.istore 7, 2) := by decide +kernel
theorem dX8_best_44 : decode cX8_best 44 = .ok (.iload 7, 2) := by decide +kernel
theorem dX8_best_46 : decode cX8_best 46 = .ok (.bipush 16, 2) := by decide +kernel
theorem dX8_best_48 : decode cX8_best 48 = .ok (.if_icmp .ge 43, 3) := by decide +kernel
theorem dX8_best_51 : decode cX8_best 51 = .ok (.aload_n 0, 1) := by decide +kernel
theorem dX8_best_52 : decode cX8_best 52 = .ok (.getfield 16, 3) := by decide +kernel
theorem dX8_best_55 : decode cX8_best 55 = .ok (.iload_n 1, 1) := by decide +kernel
theorem dX8_best_56 : decode cX8_best 56 = .ok (.iload 7, 2) := by decide +kernel
theorem dX8_best_58 : decode cX8_best 58 = .ok (.iastore, 1) := by decide +kernel
theorem dX8_best_59 : decode cX8_best 59 = .ok (.aload_n 0, 1) := by decide +kernel
theorem dX8_best_60 : decode cX8_best 60 = .ok (.iload_n 1, 1) := by decide +kernel
theorem dX8_best_61 : decode cX8_best 61 = .ok (.iload_n 2, 1) := by decide +kernel
theorem dX8_best_62 : decode cX8_best 62 = .ok (.invokevirtual 280, 3) := by decide +kernel
theorem dX8_best_65 : decode cX8_best 65 = .ok (.istore 8, 2) := by decide +kernel
theorem dX8_best_67 : decode cX8_best 67 = .ok (.iload 8, 2) := by decide +kernel
theorem dX8_best_69 : decode cX8_best 69 = .ok (.iload 6, 2) := by decide +kernel
theorem dX8_best_71 : decode cX8_best 71 = .ok (.if_icmp .gt 6, 3) := by decide +kernel
theorem dX8_best_74 : decode cX8_best 74 = .ok (.goto 11, 3) := by decide +kernel
theorem dX8_best_77 : decode cX8_best 77 = .ok (.iload 8, 2) := by decide +kernel
theorem dX8_best_79 : decode cX8_best 79 = .ok (.istore 6, 2) := by decide +kernel
theorem dX8_best_81 : decode cX8_best 81 = .ok (.iload 7, 2) := by decide +kernel
theorem dX8_best_83 : decode cX8_best 83 = .ok (.istore 5, 2) := by decide +kernel
theorem dX8_best_85 : decode cX8_best 85 = .ok (.iinc 7 1, 3) := by decide +kernel
theorem dX8_best_88 : decode cX8_best 88 = .ok (.goto (-44), 3) := by decide +kernel
theorem dX8_best_91 : decode cX8_best 91 = .ok (.aload_n 0, 1) := by decide +kernel
theorem dX8_best_92 : decode cX8_best 92 = .ok (.getfield 16, 3) := by decide +kernel
theorem dX8_best_95 : decode cX8_best 95 = .ok (.iload_n 1, 1) := by decide +kernel
theorem dX8_best_96 : decode cX8_best 96 = .ok (.iload 4, 2) := by decide +kernel
theorem dX8_best_98 : decode cX8_best 98 = .ok (.iastore, 1) := by decide +kernel
theorem dX8_best_99 : decode cX8_best 99 = .ok (.iload_n 3, 1) := by decide +kernel
theorem dX8_best_100 : decode cX8_best 100 = .ok (.ifCond .ne 8, 3) := by decide +kernel
theorem dX8_best_103 : decode cX8_best 103 = .ok (.iload 5, 2) := by decide +kernel
theorem dX8_best_105 : decode cX8_best 105 = .ok (.goto 5, 3) := by decide +kernel
theorem dX8_best_108 : decode cX8_best 108 = .ok (.iload 6, 2) := by decide +kernel
theorem dX8_best_110 : decode cX8_best 110 = .ok (.ireturn, 1) := by decide +kernel
theorem dX8_matters_0 : decode cX8_matters 0 = .ok (.aload_n 0, 1) := by decide +kernel
theorem dX8_matters_1 : decode cX8_matters 1 = .ok (.iload_n 1, 1) := by decide +kernel
theorem dX8_matters_2 : decode cX8_matters 2 = .ok (.invokevirtual 102, 3) := by decide +kernel
theorem dX8_matters_5 : decode cX8_matters 5 = .ok (.ifCond .eq 19, 3) := by decide +kernel
theorem dX8_matters_8 : decode cX8_matters 8 = .ok (.iload_n 2, 1) := by decide +kernel
theorem dX8_matters_9 : decode cX8_matters 9 = .ok (.invokestatic 258, 3) := by decide +kernel
theorem dX8_matters_12 : decode cX8_matters 12 = .ok (.ifCond .eq 12, 3) := by decide +kernel
theorem dX8_matters_15 : decode cX8_matters 15 = .ok (.iload_n 3, 1) := by decide +kernel
theorem dX8_matters_16 : decode cX8_matters 16 = .ok (.iconst 0, 1) := by decide +kernel
theorem dX8_matters_17 : decode cX8_matters 17 = .ok (.iconst 1, 1) := by decide +kernel
theorem dX8_matters_18 : decode cX8_matters 18 = .ok (.invokestatic 82, 3) := by decide +kernel
theorem dX8_matters_21 : decode cX8_matters 21 = .ok (.ifCond .ne 6, 3) := by decide +kernel
theorem dX8_matters_24 : decode cX8_matters 24 = .ok (.bipush (-2), 2) := by decide +kernel
theorem dX8_matters_26 : decode cX8_matters 26 = .ok (.ireturn, 1) := by decide +kernel
theorem dX8_matters_27 : decode cX8_matters 27 = .ok (.iconst (-1), 1) := by decide +kernel
theorem dX8_matters_28 : decode cX8_matters 28 = .ok (.istore 4, 2) := by decide +kernel
theorem dX8_matters_30 : decode cX8_matters 30 = .ok (.aload_n 0, 1) := by decide +kernel
theorem dX8_matters_31 : decode cX8_matters 31 = .ok (.iload_n 1, 1) := by decide +kernel
theorem dX8_matters_32 : decode cX8_matters 32 = .ok (.iload_n 2, 1) := by decide +kernel
theorem dX8_matters_33 : decode cX8_matters 33 = .ok (.invokevirtual 280, 3) := by decide +kernel
theorem dX8_matters_36 : decode cX8_matters 36 = .ok (.istore 5, 2) := by decide +kernel
theorem dX8_matters_38 : decode cX8_matters 38 = .ok (.iconst 0, 1) := by decide +kernel
theorem dX8_matters_39 : decode cX8_matters 39 = .ok (.istore 6, 2) := by decide +kernel
theorem dX8_matters_41 : decode cX8_matters 41 = .ok (.iload 6, 2) := by decide +kernel
theorem dX8_matters_43 : decode cX8_matters 43 = .ok (.aload_n 0, 1) := by decide +kernel
theorem dX8_matters_44 : decode cX8_matters 44 = .ok (.getfield 79, 3) := by decide +kernel
theorem dX8_matters_47 : decode cX8_matters 47 = .ok (.if_icmp .ge 86, 3) := by decide +kernel
theorem dX8_matters_50 : decode cX8_matters 50 = .ok (.iload 6, 2) := by decide +kernel
theorem dX8_matters_52 : decode cX8_matters 52 = .ok (.iload_n 1, 1) := by decide +kernel
theorem dX8_matters_53 : decode cX8_matters 53 = .ok (.if_icmp .eq 74, 3) := by decide +kernel
theorem dX8_matters_56 : decode cX8_matters 56 = .ok (.aload_n 0, 1) := by decide +kernel
theorem dX8_matters_57 : decode cX8_matters 57 = .ok (.getfield 19, 3) := by decide +kernel
theorem dX8_matters_60 : decode cX8_matters 60 = .ok (.iload 6, 2) := by decide +kernel
theorem dX8_matters_62 : decode cX8_matters 62 = .ok (.iaload, 1) := by decide +kernel
theorem dX8_matters_63 : decode cX8_matters 63 = .ok (.aload_n 0, 1) := by decide +kernel
theorem dX8_matters_64 : decode cX8_matters 64 = .ok (.getfield 19, 3) := by decide +kernel
theorem dX8_matters_67 : decode cX8_matters 67 = .ok (.iload_n 1, 1) := by decide +kernel
theorem dX8_matters_68 : decode cX8_matters 68 = .ok (.iaload, 1) := by decide +kernel
theorem dX8_matters_69 : decode cX8_matters 69 = .ok (.if_icmp .eq 6, 3) := by decide +kernel
theorem dX8_matters_72 : decode cX8_matters 72 = .ok (.goto 55, 3) := by decide +kernel
theorem dX8_matters_75 : decode cX8_matters 75 = .ok (.aload_n 0, 1) := by decide +kernel
theorem dX8_matters_76 : decode cX8_matters 76 = .ok (.getfield 22, 3) := by decide +kernel
theorem dX8_matters_79 : decode cX8_matters 79 = .ok (.iload 6, 2) := by decide +kernel
theorem dX8_matters_81 : decode cX8_matters 81 = .ok (.iaload, 1) := by decide +kernel
theorem dX8_matters_82 : decode cX8_matters 82 = .ok (.istore 7, 2) := by decide +kernel
theorem dX8_matters_84 : decode cX8_matters 84 = .ok (.aload_n 0, 1) := by decide +kernel
theorem dX8_matters_85 : decode cX8_matters 85 = .ok (.getfield 22, 3) := by decide +kernel
theorem dX8_matters_88 : decode cX8_matters 88 = .ok (.iload 6, 2) := by decide +kernel
theorem dX8_matters_90 : decode cX8_matters 90 = .ok (.iconst 0, 1) := by decide +kernel
theorem dX8_matters_91 : decode cX8_matters 91 = .ok (.iastore, 1) := by decide +kernel
theorem dX8_matters_92 : decode cX8_matters 92 = .ok (.aload_n 0, 1) := by decide +kernel
theorem dX8_matters_93 : decode cX8_matters 93 = .ok (.iload_n 1, 1) := by decide +kernel
theorem dX8_matters_94 : decode cX8_matters 94 = .ok (.iload_n 2, 1) := by decide +kernel
theorem dX8_matters_95 : decode cX8_matters 95 = .ok (.invokevirtual 280, 3) := by decide +kernel
theorem dX8_matters_98 : decode cX8_matters 98 = .ok (.istore 8, 2) := by decide +kernel
theorem dX8_matters_100 : decode cX8_matters 100 = .ok (.aload_n 0, 1) := by decide +kernel
theorem dX8_matters_101 : decode cX8_matters 101 = .ok (.getfield 22, 3) := by decide +kernel
theorem dX8_matters_104 : decode cX8_matters 104 = .ok (.iload 6, 2) := by decide +kernel
theorem dX8_matters_106 : decode cX8_matters 106 = .ok (.iload 7, 2) := by decide +kernel
theorem dX8_matters_108 : decode cX8_matters 108 = .ok (.iastore, 1) := by decide +kernel
theorem dX8_matters_109 : decode cX8_matters 109 = .ok (.iload 8, 2) := by decide +kernel
theorem dX8_matters_111 : decode cX8_matters 111 = .ok (.iload 5, 2) := by decide +kernel
theorem dX8_matters_113 : decode cX8_matters 113 = .ok (.if_icmp .lt 6, 3) := by decide +kernel
theorem dX8_matters_116 : decode cX8_matters 116 = .ok (.goto 11, 3) := by decide +kernel
theorem dX8_matters_119 : decode cX8_matters 119 = .ok (.iload 8, 2) := by decide +kernel
theorem dX8_matters_121 : decode cX8_matters 121 = .ok (.istore 5, 2) := by decide +kernel
theorem dX8_matters_123 : decode cX8_matters 123 = .ok (.iload 6, 2) := by decide +kernel
theorem dX8_matters_125 : decode cX8_matters 125 = .ok (.istore 4, 2) := by decide +kernel
theorem dX8_matters_127 : decode cX8_matters 127 = .ok (.iinc 6 1, 3) := by decide +kernel
theorem dX8_matters_130 : decode cX8_matters 130 = .ok (.goto (-89), 3) := by decide +kernel
theorem dX8_matters_133 : decode cX8_matters 133 = .ok (.iload_n 3, 1) := by decide +kernel
theorem dX8_matters_134 : decode cX8_matters 134 = .ok (.ifCond .ne 8, 3) := by decide +kernel
theorem dX8_matters_137 : decode cX8_matters 137 = .ok (.iload 4, 2) := by decide +kernel
theorem dX8_matters_139 : decode cX8_matters 139 = .ok (.goto 5, 3) := by decide +kernel
theorem dX8_matters_142 : decode cX8_matters 142 = .ok (.iload 5, 2) := by decide +kernel
theorem dX8_matters_144 : decode cX8_matters 144 = .ok (.ireturn, 1) := by decide +kernel
theorem dX8_wish_0 : decode cX8_wish 0 = .ok (.iload_n 1, 1) := by decide +kernel
theorem dX8_wish_1 : decode cX8_wish 1 = .ok (.iconst 0, 1) := by decide +kernel
theorem dX8_wish_2 : decode cX8_wish 2 = .ok (.iconst 1, 1) := by decide +kernel
theorem dX8_wish_3 : decode cX8_wish 3 = .ok (.invokestatic 82, 3) := by decide +kernel
theorem dX8_wish_6 : decode cX8_wish 6 = .ok (.ifCond .eq 19, 3) := by decide +kernel
theorem dX8_wish_9 : decode cX8_wish 9 = .ok (.iload_n 2, 1) := by decide +kernel
theorem dX8_wish_10 : decode cX8_wish 10 = .ok (.invokestatic 258, 3) := by decide +kernel
theorem dX8_wish_13 : decode cX8_wish 13 = .ok (.ifCond .eq 12, 3) := by decide +kernel
theorem dX8_wish_16 : decode cX8_wish 16 = .ok (.iload_n 3, 1) := by decide +kernel
theorem dX8_wish_17 : decode cX8_wish 17 = .ok (.iconst 0, 1) := by decide +kernel
theorem dX8_wish_18 : decode cX8_wish 18 = .ok (.iconst 1, 1) := by decide +kernel
theorem dX8_wish_19 : decode cX8_wish 19 = .ok (.invokestatic 82, 3) := by decide +kernel
theorem dX8_wish_22 : decode cX8_wish 22 = .ok (.ifCond .ne 7, 3) := by decide +kernel
theorem dX8_wish_25 : decode cX8_wish 25 = .ok (.ldc_w 264, 3) := by decide +kernel
theorem dX8_wish_28 : decode cX8_wish 28 = .ok (.ireturn, 1) := by decide +kernel
theorem dX8_wish_29 : decode cX8_wish 29 = .ok (.iconst (-1), 1) := by decide +kernel
theorem dX8_wish_30 : decode cX8_wish 30 = .ok (.istore 4, 2) := by decide +kernel
theorem dX8_wish_32 : decode cX8_wish 32 = .ok (.aload_n 0, 1) := by decide +kernel
theorem dX8_wish_33 : decode cX8_wish 33 = .ok (.iload_n 1, 1) := by decide +kernel
theorem dX8_wish_34 : decode cX8_wish 34 = .ok (.iload_n 2, 1) := by decide +kernel
theorem dX8_wish_35 : decode cX8_wish 35 = .ok (.invokevirtual 283, 3) := by decide +kernel
theorem dX8_wish_38 : decode cX8_wish 38 = .ok (.istore 5, 2) := by decide +kernel
theorem dX8_wish_40 : decode cX8_wish 40 = .ok (.iconst 0, 1) := by decide +kernel
theorem dX8_wish_41 : decode cX8_wish 41 = .ok (.istore 6, 2) := by decide +kernel
theorem dX8_wish_43 : decode cX8_wish 43 = .ok (.iload 6, 2) := by decide +kernel
theorem dX8_wish_45 : decode cX8_wish 45 = .ok (.aload_n 0, 1) := by decide +kernel
theorem dX8_wish_46 : decode cX8_wish 46 = .ok (.getfield 79, 3) := by decide +kernel
theorem dX8_wish_49 : decode cX8_wish 49 = .ok (.if_icmp .ge 75, 3) := by decide +kernel
theorem dX8_wish_52 : decode cX8_wish 52 = .ok (.aload_n 0, 1) := by decide +kernel
theorem dX8_wish_53 : decode cX8_wish 53 = .ok (.getfield 19, 3) := by decide +kernel
theorem dX8_wish_56 : decode cX8_wish 56 = .ok (.iload 6, 2) := by decide +kernel
theorem dX8_wish_58 : decode cX8_wish 58 = .ok (.iaload, 1) := by decide +kernel
theorem dX8_wish_59 : decode cX8_wish 59 = .ok (.iload_n 1, 1) := by decide +kernel
theorem dX8_wish_60 : decode cX8_wish 60 = .ok (.if_icmp .ne 6, 3) := by decide +kernel
theorem dX8_wish_63 : decode cX8_wish 63 = .ok (.goto 55, 3) := by decide +kernel
theorem dX8_wish_66 : decode cX8_wish 66 = .ok (.aload_n 0, 1) := by decide +kernel
theorem dX8_wish_67 : decode cX8_wish 67 = .ok (.getfield 22, 3) := by decide +kernel
theorem dX8_wish_70 : decode cX8_wish 70 = .ok (.iload 6, 2) := by decide +kernel
theorem dX8_wish_72 : decode cX8_wish 72 = .ok (.iaload, 1) := by decide +kernel
theorem dX8_wish_73 : decode cX8_wish 73 = .ok (.istore 7, 2) := by decide +kernel
theorem dX8_wish_75 : decode cX8_wish 75 = .ok (.aload_n 0, 1) := by decide +kernel
theorem dX8_wish_76 : decode cX8_wish 76 = .ok (.getfield 22, 3) := by decide +kernel
theorem dX8_wish_79 : decode cX8_wish 79 = .ok (.iload 6, 2) := by decide +kernel
theorem dX8_wish_81 : decode cX8_wish 81 = .ok (.iconst 0, 1) := by decide +kernel
theorem dX8_wish_82 : decode cX8_wish 82 = .ok (.iastore, 1) := by decide +kernel
theorem dX8_wish_83 : decode cX8_wish 83 = .ok (.aload_n 0, 1) := by decide +kernel
theorem dX8_wish_84 : decode cX8_wish 84 = .ok (.iload_n 1, 1) := by decide +kernel
theorem dX8_wish_85 : decode cX8_wish 85 = .ok (.iload_n 2, 1) := by decide +kernel
theorem dX8_wish_86 : decode cX8_wish 86 = .ok (.invokevirtual 283, 3) := by decide +kernel
theorem dX8_wish_89 : decode cX8_wish 89 = .ok (.istore 8, 2) := by decide +kernel
theorem dX8_wish_91 : decode cX8_wish 91 = .ok (.aload_n 0, 1) := by decide +kernel
theorem dX8_wish_92 : decode cX8_wish 92 = .ok (.getfield 22, 3) := by decide +kernel
theorem dX8_wish_95 : decode cX8_wish 95 = .ok (.iload 6, 2) := by decide +kernel
theorem dX8_wish_97 : decode cX8_wish 97 = .ok (.iload 7, 2) := by decide +kernel
theorem dX8_wish_99 : decode cX8_wish 99 = .ok (.iastore, 1) := by decide +kernel
theorem dX8_wish_100 : decode cX8_wish 100 = .ok (.iload 8, 2) := by decide +kernel
theorem dX8_wish_102 : decode cX8_wish 102 = .ok (.iload 5, 2) := by decide +kernel
theorem dX8_wish_104 : decode cX8_wish 104 = .ok (.if_icmp .gt 6, 3) := by decide +kernel
theorem dX8_wish_107 : decode cX8_wish 107 = .ok (.goto 11, 3) := by decide +kernel
theorem dX8_wish_110 : decode cX8_wish 110 = .ok (.iload 8, 2) := by decide +kernel
theorem dX8_wish_112 : decode cX8_wish 112 = .ok (.istore 5, 2) := by decide +kernel
theorem dX8_wish_114 : decode cX8_wish 114 = .ok (.iload 6, 2) := by decide +kernel
theorem dX8_wish_116 : decode cX8_wish 116 = .ok (.istore 4, 2) := by decide +kernel
theorem dX8_wish_118 : decode cX8_wish 118 = .ok (.iinc 6 1, 3) := by decide +kernel
theorem dX8_wish_121 : decode cX8_wish 121 = .ok (.goto (-78), 3) := by decide +kernel
theorem dX8_wish_124 : decode cX8_wish 124 = .ok (.iload_n 3, 1) := by decide +kernel
theorem dX8_wish_125 : decode cX8_wish 125 = .ok (.ifCond .ne 8, 3) := by decide +kernel
theorem dX8_wish_128 : decode cX8_wish 128 = .ok (.iload 4, 2) := by decide +kernel
theorem dX8_wish_130 : decode cX8_wish 130 = .ok (.goto 5, 3) := by decide +kernel
theorem dX8_wish_133 : decode cX8_wish 133 = .ok (.iload 5, 2) := by decide +kernel
theorem dX8_wish_135 : decode cX8_wish 135 = .ok (.ireturn, 1) := by decide +kernel
theorem dX8_search_0 : decode cX8_search 0 = .ok (.iload_n 1, 1) := by decide +kernel
theorem dX8_search_1 : decode cX8_search 1 = .ok (.ifCond .ne 9, 3) := by decide +kernel
theorem dX8_search_4 : decode cX8_search 4 = .ok (.aload_n 0, 1) := by decide +kernel
theorem dX8_search_5 : decode cX8_search 5 = .ok (.iconst 0, 1) := by decide +kernel
theorem dX8_search_6 : decode cX8_search 6 = .ok (.invokevirtual 255, 3) := by decide +kernel
theorem dX8_search_9 : decode cX8_search 9 = .ok (.ireturn, 1) := by decide +kernel
theorem dX8_search_10 : decode cX8_search 10 = .ok (.iload_n 1, 1) := by decide +kernel
theorem dX8_search_11 : decode cX8_search 11 = .ok (.iconst 2, 1) := by decide +kernel
theorem dX8_search_12 : decode cX8_search 12 = .ok (.irem, 1) := by decide +kernel
theorem dX8_search_13 : decode cX8_search 13 = .ok (.istore_n 2, 1) := by decide +kernel
theorem dX8_search_14 : decode cX8_search 14 = .ok (.iconst (-1), 1) := by decide +kernel
theorem dX8_search_15 : decode cX8_search 15 = .ok (.istore_n 3, 1) := by decide +kernel
theorem dX8_search_16 : decode cX8_search 16 = .ok (.iconst 0, 1) := by decide +kernel
theorem dX8_search_17 : decode cX8_search 17 = .ok (.istore 4, 2) := by decide +kernel
theorem dX8_search_19 : decode cX8_search 19 = .ok (.iconst (-1), 1) := by decide +kernel
theorem dX8_search_20 : decode cX8_search 20 = .ok (.istore 5, 2) := by decide +kernel
theorem dX8_search_22 : decode cX8_search 22 = .ok (.iload 5, 2) := by decide +kernel
theorem dX8_search_24 : decode cX8_search 24 = .ok (.aload_n 0, 1) := by decide +kernel
theorem dX8_search_25 : decode cX8_search 25 = .ok (.getfield 79, 3) := by decide +kernel
theorem dX8_search_28 : decode cX8_search 28 = .ok (.if_icmp .ge 187, 3) := by decide +kernel
theorem dX8_search_31 : decode cX8_search 31 = .ok (.iload 5, 2) := by decide +kernel
theorem dX8_search_33 : decode cX8_search 33 = .ok (.iconst (-1), 1) := by decide +kernel
theorem dX8_search_34 : decode cX8_search 34 = .ok (.if_icmp .eq 17, 3) := by decide +kernel
theorem dX8_search_37 : decode cX8_search 37 = .ok (.aload_n 0, 1) := by decide +kernel
theorem dX8_search_38 : decode cX8_search 38 = .ok (.getfield 19, 3) := by decide +kernel
theorem dX8_search_41 : decode cX8_search 41 = .ok (.iload 5, 2) := by decide +kernel
theorem dX8_search_43 : decode cX8_search 43 = .ok (.iaload, 1) := by decide +kernel
theorem dX8_search_44 : decode cX8_search 44 = .ok (.iload_n 2, 1) := by decide +kernel
theorem dX8_search_45 : decode cX8_search 45 = .ok (.if_icmp .eq 6, 3) := by decide +kernel
theorem dX8_search_48 : decode cX8_search 48 = .ok (.goto 161, 3) := by decide +kernel
theorem dX8_search_51 : decode cX8_search 51 = .ok (.iconst 0, 1) := by decide +kernel
theorem dX8_search_52 : decode cX8_search 52 = .ok (.istore 6, 2) := by decide +kernel
theorem dX8_search_54 : decode cX8_search 54 = .ok (.iload 6, 2) := by decide +kernel
theorem dX8_search_56 : decode cX8_search 56 = .ok (.bipush 8, 2) := by decide +kernel
theorem dX8_search_58 : decode cX8_search 58 = .ok (.if_icmp .ge 31, 3) := by decide +kernel
theorem dX8_search_61 : decode cX8_search 61 = .ok (.aload_n 0, 1) := by decide +kernel
theorem dX8_search_62 : decode cX8_search 62 = .ok (.getfield 43, 3) := by decide +kernel
theorem dX8_search_65 : decode cX8_search 65 = .ok (.bipush 8, 2) := by decide +kernel
theorem dX8_search_67 : decode cX8_search 67 = .ok (.iload_n 1, 1) := by decide +kernel
theorem dX8_search_68 : decode cX8_search 68 = .ok (.imul, 1) := by decide +kernel
theorem dX8_search_69 : decode cX8_search 69 = .ok (.iload 6, 2) := by decide +kernel
theorem dX8_search_71 : decode cX8_search 71 = .ok (.iadd, 1) := by decide +kernel
theorem dX8_search_72 : decode cX8_search 72 = .ok (.bipush 8, 2) := by decide +kernel
theorem dX8_search_74 : decode cX8_search 74 = .ok (.isub, 1) := by decide +kernel
theorem dX8_search_75 : decode cX8_search 75 = .ok (.aload_n 0, 1) := by decide +kernel
theorem dX8_search_76 : decode cX8_search 76 = .ok (.getfield 22, 3) := by decide +kernel
theorem dX8_search_79 : decode cX8_search 79 = .ok (.iload 6, 2) := by decide +kernel
theorem dX8_search_81 : decode cX8_search 81 = .ok (.iaload, 1) := by decide +kernel
theorem dX8_search_82 : decode cX8_search 82 = .ok (.iastore, 1) := by decide +kernel
theorem dX8_search_83 : decode cX8_search 83 = .ok (.iinc 6 1, 3) := by decide +kernel
theorem dX8_search_86 : decode cX8_search 86 = .ok (.goto (-32), 3) := by decide +kernel
theorem dX8_search_89 : decode cX8_search 89 = .ok (.iload 5, 2) := by decide +kernel
theorem dX8_search_91 : decode cX8_search 91 = .ok (.iconst (-1), 1) := by decide +kernel
theorem dX8_search_92 : decode cX8_search 92 = .ok (.if_icmp .eq 9, 3) := by decide +kernel
theorem dX8_search_95 : decode cX8_search 95 = .ok (.aload_n 0, 1) := by decide +kernel
theorem dX8_search_96 : decode cX8_search 96 = .ok (.iload 5, 2) := by decide +kernel
theorem dX8_search_98 : decode cX8_search 98 = .ok (.invokevirtual 242, 3) := by decide +kernel
theorem dX8_search_101 : decode cX8_search 101 = .ok (.iload_n 2, 1) := by decide +kernel
theorem dX8_search_102 : decode cX8_search 102 = .ok (.iconst 1, 1) := by decide +kernel
theorem dX8_search_103 : decode cX8_search 103 = .ok (.if_icmp .ne 7, 3) := by decide +kernel
theorem dX8_search_106 : decode cX8_search 106 = .ok (.aload_n 0, 1) := by decide +kernel
theorem dX8_search_107 : decode cX8_search 107 = .ok (.invokevirtual 236, 3) := by decide +kernel
theorem dX8_search_110 : decode cX8_search 110 = .ok (.aload_n 0, 1) := by decide +kernel
theorem dX8_search_111 : decode cX8_search 111 = .ok (.iload_n 1, 1) := by decide +kernel
theorem dX8_search_112 : decode cX8_search 112 = .ok (.iconst 1, 1) := by decide +kernel
theorem dX8_search_113 : decode cX8_search 113 = .ok (.isub, 1) := by decide +kernel
theorem dX8_search_114 : decode cX8_search 114 = .ok (.invokevirtual 286, 3) := by decide +kernel
theorem dX8_search_117 : decode cX8_search 117 = .ok (.istore 6, 2) := by decide +kernel
theorem dX8_search_119 : decode cX8_search 119 = .ok (.iload_n 2, 1) := by decide +kernel
theorem dX8_search_120 : decode cX8_search 120 = .ok (.iconst 1, 1) := by decide +kernel
theorem dX8_search_121 : decode cX8_search 121 = .ok (.if_icmp .ne 13, 3) := by decide +kernel
theorem dX8_search_124 : decode cX8_search 124 = .ok (.aload_n 0, 1) := by decide +kernel
theorem dX8_search_125 : decode cX8_search 125 = .ok (.dup, 1) := by decide +kernel
theorem dX8_search_126 : decode cX8_search 126 = .ok (.getfield 89, 3) := by decide +kernel
theorem dX8_search_129 : decode cX8_search 129 = .ok (.iconst 1, 1) := by decide +kernel
theorem dX8_search_130 : decode cX8_search 130 = .ok (.isub, 1) := by decide +kernel
theorem dX8_search_131 : decode cX8_search 131 = .ok (.putfield 89, 3) := by decide +kernel
theorem dX8_search_134 : decode cX8_search 134 = .ok (.iconst 0, 1) := by decide +kernel
theorem dX8_search_135 : decode cX8_search 135 = .ok (.istore 7, 2) := by decide +kernel
theorem dX8_search_137 : decode cX8_search 137 = .ok (.iload 7, 2) := by decide +kernel
theorem dX8_search_139 : decode cX8_search 139 = .ok (.bipush 8, 2) := by decide +kernel
theorem dX8_search_141 : decode cX8_search 141 = .ok (.if_icmp .ge 31, 3) := by decide +kernel
theorem dX8_search_144 : decode cX8_search 144 = .ok (.aload_n 0, 1) := by decide +kernel
theorem dX8_search_145 : decode cX8_search 145 = .ok (.getfield 22, 3) := by decide +kernel
theorem dX8_search_148 : decode cX8_search 148 = .ok (.iload 7, 2) := by decide +kernel
theorem dX8_search_150 : decode cX8_search 150 = .ok (.aload_n 0, 1) := by decide +kernel
theorem dX8_search_151 : decode cX8_search 151 = .ok (.getfield 43, 3) := by decide +kernel
theorem dX8_search_154 : decode cX8_search 154 = .ok (.bipush 8, 2) := by decide +kernel
theorem dX8_search_156 : decode cX8_search 156 = .ok (.iload_n 1, 1) := by decide +kernel
theorem dX8_search_157 : decode cX8_search 157 = .ok (.imul, 1) := by decide +kernel
theorem dX8_search_158 : decode cX8_search 158 = .ok (.iload 7, 2) := by decide +kernel
theorem dX8_search_160 : decode cX8_search 160 = .ok (.iadd, 1) := by decide +kernel
theorem dX8_search_161 : decode cX8_search 161 = .ok (.bipush 8, 2) := by decide +kernel
theorem dX8_search_163 : decode cX8_search 163 = .ok (.isub, 1) := by decide +kernel
theorem dX8_search_164 : decode cX8_search 164 = .ok (.iaload, 1) := by decide +kernel
theorem dX8_search_165 : decode cX8_search 165 = .ok (.iastore, 1) := by decide +kernel
theorem dX8_search_166 : decode cX8_search 166 = .ok (.iinc 7 1, 3) := by decide +kernel
theorem dX8_search_169 : decode cX8_search 169 = .ok (.goto (-32), 3) := by decide +kernel
theorem dX8_search_172 : decode cX8_search 172 = .ok (.iload 5, 2) := by decide +kernel
theorem dX8_search_174 : decode cX8_search 174 = .ok (.iconst (-1), 1) := by decide +kernel
theorem dX8_search_175 : decode cX8_search 175 = .ok (.if_icmp .eq 27, 3) := by decide +kernel
theorem dX8_search_178 : decode cX8_search 178 = .ok (.iload_n 2, 1) := by decide +kernel
theorem dX8_search_179 : decode cX8_search 179 = .ok (.ifCond .ne 13, 3) := by decide +kernel
theorem dX8_search_182 : decode cX8_search 182 = .ok (.iload 6, 2) := by decide +kernel
theorem dX8_search_184 : decode cX8_search 184 = .ok (.iload 4, 2) := by decide +kernel
theorem dX8_search_186 : decode cX8_search 186 = .ok (.if_icmp .gt 16, 3) := by decide +kernel
theorem dX8_search_189 : decode cX8_search 189 = .ok (.goto 20, 3) := by decide +kernel
theorem dX8_search_192 : decode cX8_search 192 = .ok (.iload 6, 2) := by decide +kernel
theorem dX8_search_194 : decode cX8_search 194 = .ok (.iload 4, 2) := by decide +kernel
theorem dX8_search_196 : decode cX8_search 196 = .ok (.if_icmp .lt 6, 3) := by decide +kernel
theorem dX8_search_199 : decode cX8_search 199 = .ok (.goto 10, 3) := by decide +kernel
theorem dX8_search_202 : decode cX8_search 202 = .ok (.iload 6, 2) := by decide +kernel
theorem dX8_search_204 : decode cX8_search 204 = .ok (.istore 4, 2) := by decide +kernel
theorem dX8_search_206 : decode cX8_search 206 = .ok (.iload 5, 2) := by decide +kernel
theorem dX8_search_208 : decode cX8_search 208 = .ok (.istore_n 3, 1) := by decide +kernel
theorem dX8_search_209 : decode cX8_search 209 = .ok (.iinc 5 1, 3) := by decide +kernel
theorem dX8_search_212 : decode cX8_search 212 = .ok (.goto (-190), 3) := by decide +kernel
theorem dX8_search_215 : decode cX8_search 215 = .ok (.aload_n 0, 1) := by decide +kernel
theorem dX8_search_216 : decode cX8_search 216 = .ok (.iload_n 3, 1) := by decide +kernel
theorem dX8_search_217 : decode cX8_search 217 = .ok (.putfield 289, 3) := by decide +kernel
theorem dX8_search_220 : decode cX8_search 220 = .ok (.iload 4, 2) := by decide +kernel
theorem dX8_search_222 : decode cX8_search 222 = .ok (.ireturn, 1) := by decide +kernel
theorem dX8_game_0 : decode cX8_game 0 = .ok (.iload_n 1, 1) := by decide +kernel
theorem dX8_game_1 : decode cX8_game 1 = .ok (.iconst 1, 1) := by decide +kernel
theorem dX8_game_2 : decode cX8_game 2 = .ok (.iconst 3, 1) := by decide +kernel
theorem dX8_game_3 : decode cX8_game 3 = .ok (.invokestatic 82, 3) := by decide +kernel
theorem dX8_game_6 : decode cX8_game 6 = .ok (.ifCond .eq 12, 3) := by decide +kernel
theorem dX8_game_9 : decode cX8_game 9 = .ok (.iload_n 2, 1) := by decide +kernel
theorem dX8_game_10 : decode cX8_game 10 = .ok (.iconst 0, 1) := by decide +kernel
theorem dX8_game_11 : decode cX8_game 11 = .ok (.iconst 1, 1) := by decide +kernel
theorem dX8_game_12 : decode cX8_game 12 = .ok (.invokestatic 82, 3) := by decide +kernel
theorem dX8_game_15 : decode cX8_game 15 = .ok (.ifCond .ne 7, 3) := by decide +kernel
theorem dX8_game_18 : decode cX8_game 18 = .ok (.ldc_w 264, 3) := by decide +kernel
theorem dX8_game_21 : decode cX8_game 21 = .ok (.ireturn, 1) := by decide +kernel
theorem dX8_game_22 : decode cX8_game 22 = .ok (.aload_n 0, 1) := by decide +kernel
theorem dX8_game_23 : decode cX8_game 23 = .ok (.iconst 2, 1) := by decide +kernel
theorem dX8_game_24 : decode cX8_game 24 = .ok (.iload_n 1, 1) := by decide +kernel
theorem dX8_game_25 : decode cX8_game 25 = .ok (.imul, 1) := by decide +kernel
theorem dX8_game_26 : decode cX8_game 26 = .ok (.invokevirtual 286, 3) := by decide +kernel
theorem dX8_game_29 : decode cX8_game 29 = .ok (.istore_n 3, 1) := by decide +kernel
theorem dX8_game_30 : decode cX8_game 30 = .ok (.iload_n 2, 1) := by decide +kernel
theorem dX8_game_31 : decode cX8_game 31 = .ok (.ifCond .ne 7, 3) := by decide +kernel
theorem dX8_game_34 : decode cX8_game 34 = .ok (.iload_n 3, 1) := by decide +kernel
theorem dX8_game_35 : decode cX8_game 35 = .ok (.goto 7, 3) := by decide +kernel
theorem dX8_game_38 : decode cX8_game 38 = .ok (.aload_n 0, 1) := by decide +kernel
theorem dX8_game_39 : decode cX8_game 39 = .ok (.getfield 289, 3) := by decide +kernel
theorem dX8_game_42 : decode cX8_game 42 = .ok (.ireturn, 1) := by decide +kernel
theorem dX8_otherwise_0 : decode cX8_otherwise 0 = .ok (.aload_n 0, 1) := by decide +kernel
theorem dX8_otherwise_1 : decode cX8_otherwise 1 = .ok (.invokevirtual 265, 3) := by decide +kernel
theorem dX8_otherwise_4 : decode cX8_otherwise 4 = .ok (.iconst (-1), 1) := by decide +kernel
theorem dX8_otherwise_5 : decode cX8_otherwise 5 = .ok (.istore_n 3, 1) := by decide +kernel
theorem dX8_otherwise_6 : decode cX8_otherwise 6 = .ok (.iconst 0, 1) := by decide +kernel
theorem dX8_otherwise_7 : decode cX8_otherwise 7 = .ok (.istore 4, 2) := by decide +kernel
theorem dX8_otherwise_9 : decode cX8_otherwise 9 = .ok (.iload 4, 2) := by decide +kernel
theorem dX8_otherwise_11 : decode cX8_otherwise 11 = .ok (.aload_n 0, 1) := by decide +kernel
theorem dX8_otherwise_12 : decode cX8_otherwise 12 = .ok (.getfield 55, 3) := by decide +kernel
theorem dX8_otherwise_15 : decode cX8_otherwise 15 = .ok (.iload_n 1, 1) := by decide +kernel
theorem dX8_otherwise_16 : decode cX8_otherwise 16 = .ok (.iaload, 1) := by decide +kernel
theorem dX8_otherwise_17 : decode cX8_otherwise 17 = .ok (.if_icmp .ge 42, 3) := by decide +kernel
theorem dX8_otherwise_20 : decode cX8_otherwise 20 = .ok (.iload_n 3, 1) := by decide +kernel
theorem dX8_otherwise_21 : decode cX8_otherwise 21 = .ok (.iconst (-1), 1) := by decide +kernel
theorem dX8_otherwise_22 : decode cX8_otherwise 22 = .ok (.if_icmp .ne 37, 3) := by decide +kernel
theorem dX8_otherwise_25 : decode cX8_otherwise 25 = .ok (.aload_n 0, 1) := by decide +kernel
theorem dX8_otherwise_26 : decode cX8_otherwise 26 = .ok (.invokevirtual 236, 3) := by decide +kernel
theorem dX8_otherwise_29 : decode cX8_otherwise 29 = .ok (.aload_n 0, 1) := by decide +kernel
theorem dX8_otherwise_30 : decode cX8_otherwise 30 = .ok (.getfield 22, 3) := by decide +kernel
theorem dX8_otherwise_33 : decode cX8_otherwise 33 = .ok (.iload_n 2, 1) := by decide +kernel
theorem dX8_otherwise_34 : decode cX8_otherwise 34 = .ok (.iaload, 1) := by decide +kernel
theorem dX8_otherwise_35 : decode cX8_otherwise 35 = .ok (.aload_n 0, 1) := by decide +kernel
theorem dX8_otherwise_36 : decode cX8_otherwise 36 = .ok (.getfield 58, 3) := by decide +kernel
theorem dX8_otherwise_39 : decode cX8_otherwise 39 = .ok (.bipush 40, 2) := by decide +kernel
theorem dX8_otherwise_41 : decode cX8_otherwise 41 = .ok (.iload_n 1, 1) := by decide +kernel
theorem dX8_otherwise_42 : decode cX8_otherwise 42 = .ok (.imul, 1) := by decide +kernel
theorem dX8_otherwise_43 : decode cX8_otherwise 43 = .ok (.iload 4, 2) := by decide +kernel
theorem dX8_otherwise_45 : decode cX8_otherwise 45 = .ok (.iadd, 1) := by decide +kernel
theorem dX8_otherwise_46 : decode cX8_otherwise 46 = .ok (.iaload, 1) := by decide +kernel
theorem dX8_otherwise_47 : decode cX8_otherwise 47 = .ok (.if_icmp .eq 6, 3) := by decide +kernel
theorem dX8_otherwise_50 : decode cX8_otherwise 50 = .ok (.iload 4, 2) := by decide +kernel
theorem dX8_otherwise_52 : decode cX8_otherwise 52 = .ok (.istore_n 3, 1) := by decide +kernel
theorem dX8_otherwise_53 : decode cX8_otherwise 53 = .ok (.iinc 4 1, 3) := by decide +kernel
theorem dX8_otherwise_56 : decode cX8_otherwise 56 = .ok (.goto (-47), 3) := by decide +kernel
theorem dX8_otherwise_59 : decode cX8_otherwise 59 = .ok (.aload_n 0, 1) := by decide +kernel
theorem dX8_otherwise_60 : decode cX8_otherwise 60 = .ok (.invokevirtual 274, 3) := by decide +kernel
theorem dX8_otherwise_63 : decode cX8_otherwise 63 = .ok (.iload_n 3, 1) := by decide +kernel
theorem dX8_otherwise_64 : decode cX8_otherwise 64 = .ok (.ireturn, 1) := by decide +kernel
theorem dX8_isSo_0 : decode cX8_isSo 0 = .ok (.aload_n 0, 1) := by decide +kernel
theorem dX8_isSo_1 : decode cX8_isSo 1 = .ok (.iload_n 1, 1) := by decide +kernel
theorem dX8_isSo_2 : decode cX8_isSo 2 = .ok (.iload_n 2, 1) := by decide +kernel
theorem dX8_isSo_3 : decode cX8_isSo 3 = .ok (.invokevirtual 292, 3) := by decide +kernel
theorem dX8_isSo_6 : decode cX8_isSo 6 = .ok (.iconst (-1), 1) := by decide +kernel
theorem dX8_isSo_7 : decode cX8_isSo 7 = .ok (.if_icmp .ne 7, 3) := by decide +kernel
theorem dX8_isSo_10 : decode cX8_isSo 10 = .ok (.iconst 1, 1) := by decide +kernel
theorem dX8_isSo_11 : decode cX8_isSo 11 = .ok (.goto 4, 3) := by decide +kernel
theorem dX8_isSo_14 : decode cX8_isSo 14 = .ok (.iconst 0, 1) := by decide +kernel
theorem dX8_isSo_15 : decode cX8_isSo 15 = .ok (.ireturn, 1) := by decide +kernel
theorem dX8_tells_0 : decode cX8_tells 0 = .ok (.iload_n 1, 1) := by decide +kernel
theorem dX8_tells_1 : decode cX8_tells 1 = .ok (.invokestatic 277, 3) := by decide +kernel
theorem dX8_tells_4 : decode cX8_tells 4 = .ok (.ifCond .eq 20, 3) := by decide +kernel
theorem dX8_tells_7 : decode cX8_tells 7 = .ok (.aload_n 0, 1) := by decide +kernel
theorem dX8_tells_8 : decode cX8_tells 8 = .ok (.iload_n 2, 1) := by decide +kernel
theorem dX8_tells_9 : decode cX8_tells 9 = .ok (.invokevirtual 102, 3) := by decide +kernel
theorem dX8_tells_12 : decode cX8_tells 12 = .ok (.ifCond .eq 12, 3) := by decide +kernel
theorem dX8_tells_15 : decode cX8_tells 15 = .ok (.iload_n 3, 1) := by decide +kernel
theorem dX8_tells_16 : decode cX8_tells 16 = .ok (.iconst 0, 1) := by decide +kernel
theorem dX8_tells_17 : decode cX8_tells 17 = .ok (.iconst 5, 1) := by decide +kernel
theorem dX8_tells_18 : decode cX8_tells 18 = .ok (.invokestatic 82, 3) := by decide +kernel
theorem dX8_tells_21 : decode cX8_tells 21 = .ok (.ifCond .ne 6, 3) := by decide +kernel
theorem dX8_tells_24 : decode cX8_tells 24 = .ok (.bipush (-2), 2) := by decide +kernel
theorem dX8_tells_26 : decode cX8_tells 26 = .ok (.ireturn, 1) := by decide +kernel
theorem dX8_tells_27 : decode cX8_tells 27 = .ok (.aload_n 0, 1) := by decide +kernel
theorem dX8_tells_28 : decode cX8_tells 28 = .ok (.getfield 52, 3) := by decide +kernel
theorem dX8_tells_31 : decode cX8_tells 31 = .ok (.iload_n 1, 1) := by decide +kernel
theorem dX8_tells_32 : decode cX8_tells 32 = .ok (.iaload, 1) := by decide +kernel
theorem dX8_tells_33 : decode cX8_tells 33 = .ok (.ifCond .ge 6, 3) := by decide +kernel
theorem dX8_tells_36 : decode cX8_tells 36 = .ok (.bipush (-11), 2) := by decide +kernel
theorem dX8_tells_38 : decode cX8_tells 38 = .ok (.ireturn, 1) := by decide +kernel
theorem dX8_tells_39 : decode cX8_tells 39 = .ok (.iload_n 3, 1) := by decide +kernel
theorem dX8_tells_40 : decode cX8_tells 40 = .ok (.ifCond .ne 7, 3) := by decide +kernel
theorem dX8_tells_43 : decode cX8_tells 43 = .ok (.iconst 0, 1) := by decide +kernel
theorem dX8_tells_44 : decode cX8_tells 44 = .ok (.goto 53, 3) := by decide +kernel
theorem dX8_tells_47 : decode cX8_tells 47 = .ok (.iload_n 3, 1) := by decide +kernel
theorem dX8_tells_48 : decode cX8_tells 48 = .ok (.iconst 1, 1) := by decide +kernel
theorem dX8_tells_49 : decode cX8_tells 49 = .ok (.if_icmp .ne 12, 3) := by decide +kernel
theorem dX8_tells_52 : decode cX8_tells 52 = .ok (.aload_n 0, 1) := by decide +kernel
theorem dX8_tells_53 : decode cX8_tells 53 = .ok (.getfield 7, 3) := by decide +kernel
theorem dX8_tells_56 : decode cX8_tells 56 = .ok (.iload_n 2, 1) := by decide +kernel
theorem dX8_tells_57 : decode cX8_tells 57 = .ok (.iaload, 1) := by decide +kernel
theorem dX8_tells_58 : decode cX8_tells 58 = .ok (.goto 39, 3) := by decide +kernel
theorem dX8_tells_61 : decode cX8_tells 61 = .ok (.iload_n 3, 1) := by decide +kernel
theorem dX8_tells_62 : decode cX8_tells 62 = .ok (.iconst 5, 1) := by decide +kernel
theorem dX8_tells_63 : decode cX8_tells 63 = .ok (.if_icmp .ne 10, 3) := by decide +kernel
theorem dX8_tells_66 : decode cX8_tells 66 = .ok (.aload_n 0, 1) := by decide +kernel
theorem dX8_tells_67 : decode cX8_tells 67 = .ok (.getfield 218, 3) := by decide +kernel
theorem dX8_tells_70 : decode cX8_tells 70 = .ok (.goto 27, 3) := by decide +kernel
theorem dX8_tells_73 : decode cX8_tells 73 = .ok (.aload_n 0, 1) := by decide +kernel
theorem dX8_tells_74 : decode cX8_tells 74 = .ok (.iload_n 2, 1) := by decide +kernel
theorem dX8_tells_75 : decode cX8_tells 75 = .ok (.iload_n 3, 1) := by decide +kernel
theorem dX8_tells_76 : decode cX8_tells 76 = .ok (.iconst 2, 1) := by decide +kernel
theorem dX8_tells_77 : decode cX8_tells 77 = .ok (.if_icmp .ne 7, 3) := by decide +kernel
theorem dX8_tells_80 : decode cX8_tells 80 = .ok (.iconst 2, 1) := by decide +kernel
theorem dX8_tells_81 : decode cX8_tells 81 = .ok (.goto 13, 3) := by decide +kernel
theorem dX8_tells_84 : decode cX8_tells 84 = .ok (.iload_n 3, 1) := by decide +kernel
theorem dX8_tells_85 : decode cX8_tells 85 = .ok (.iconst 3, 1) := by decide +kernel
theorem dX8_tells_86 : decode cX8_tells 86 = .ok (.if_icmp .ne 7, 3) := by decide +kernel
theorem dX8_tells_89 : decode cX8_tells 89 = .ok (.iconst 0, 1) := by decide +kernel
theorem dX8_tells_90 : decode cX8_tells 90 = .ok (.goto 4, 3) := by decide +kernel
theorem dX8_tells_93 : decode cX8_tells 93 = .ok (.iconst 3, 1) := by decide +kernel
theorem dX8_tells_94 : decode cX8_tells 94 = .ok (.invokevirtual 109, 3) := by decide +kernel
theorem dX8_tells_97 : decode cX8_tells 97 = .ok (.istore 4, 2) := by decide +kernel
theorem dX8_tells_99 : decode cX8_tells 99 = .ok (.iload_n 3, 1) := by decide +kernel
theorem dX8_tells_100 : decode cX8_tells 100 = .ok (.iconst 1, 1) := by decide +kernel
theorem dX8_tells_101 : decode cX8_tells 101 = .ok (.if_icmp .ne 8, 3) := by decide +kernel
theorem dX8_tells_104 : decode cX8_tells 104 = .ok (.bipush 6, 2) := by decide +kernel
theorem dX8_tells_106 : decode cX8_tells 106 = .ok (.goto 27, 3) := by decide +kernel
theorem dX8_tells_109 : decode cX8_tells 109 = .ok (.iload_n 3, 1) := by decide +kernel
theorem dX8_tells_110 : decode cX8_tells 110 = .ok (.iconst 4, 1) := by decide +kernel
theorem dX8_tells_111 : decode cX8_tells 111 = .ok (.if_icmp .ne 8, 3) := by decide +kernel
theorem dX8_tells_114 : decode cX8_tells 114 = .ok (.bipush 16, 2) := by decide +kernel
theorem dX8_tells_116 : decode cX8_tells 116 = .ok (.goto 17, 3) := by decide +kernel
theorem dX8_tells_119 : decode cX8_tells 119 = .ok (.iload_n 3, 1) := by decide +kernel
theorem dX8_tells_120 : decode cX8_tells 120 = .ok (.iconst 5, 1) := by decide +kernel
theorem dX8_tells_121 : decode cX8_tells 121 = .ok (.if_icmp .ne 10, 3) := by decide +kernel
theorem dX8_tells_124 : decode cX8_tells 124 = .ok (.aload_n 0, 1) := by decide +kernel
theorem dX8_tells_125 : decode cX8_tells 125 = .ok (.getfield 211, 3) := by decide +kernel
theorem dX8_tells_128 : decode cX8_tells 128 = .ok (.goto 5, 3) := by decide +kernel
theorem dX8_tells_131 : decode cX8_tells 131 = .ok (.bipush 10, 2) := by decide +kernel
theorem dX8_tells_133 : decode cX8_tells 133 = .ok (.istore 5, 2) := by decide +kernel
theorem dX8_tells_135 : decode cX8_tells 135 = .ok (.iconst 0, 1) := by decide +kernel
theorem dX8_tells_136 : decode cX8_tells 136 = .ok (.istore 6, 2) := by decide +kernel
theorem dX8_tells_138 : decode cX8_tells 138 = .ok (.iload_n 3, 1) := by decide +kernel
theorem dX8_tells_139 : decode cX8_tells 139 = .ok (.ifCond .ne 10, 3) := by decide +kernel
theorem dX8_tells_142 : decode cX8_tells 142 = .ok (.aload_n 0, 1) := by decide +kernel
theorem dX8_tells_143 : decode cX8_tells 143 = .ok (.iload_n 1, 1) := by decide +kernel
theorem dX8_tells_144 : decode cX8_tells 144 = .ok (.iload_n 2, 1) := by decide +kernel
theorem dX8_tells_145 : decode cX8_tells 145 = .ok (.invokevirtual 292, 3) := by decide +kernel
theorem dX8_tells_148 : decode cX8_tells 148 = .ok (.ireturn, 1) := by decide +kernel
theorem dX8_tells_149 : decode cX8_tells 149 = .ok (.iconst 0, 1) := by decide +kernel
theorem dX8_tells_150 : decode cX8_tells 150 = .ok (.istore 7, 2) := by decide +kernel
theorem dX8_tells_152 : decode cX8_tells 152 = .ok (.iload 7, 2) := by decide +kernel
theorem dX8_tells_154 : decode cX8_tells 154 = .ok (.iload 5, 2) := by decide +kernel
theorem dX8_tells_156 : decode cX8_tells 156 = .ok (.if_icmp .ge 35, 3) := by decide +kernel
theorem dX8_tells_159 : decode cX8_tells 159 = .ok (.aload_n 0, 1) := by decide +kernel
theorem dX8_tells_160 : decode cX8_tells 160 = .ok (.iload_n 2, 1) := by decide +kernel
theorem dX8_tells_161 : decode cX8_tells 161 = .ok (.iload_n 3, 1) := by decide +kernel
theorem dX8_tells_162 : decode cX8_tells 162 = .ok (.iload 7, 2) := by decide +kernel
theorem dX8_tells_164 : decode cX8_tells 164 = .ok (.invokevirtual 295, 3) := by decide +kernel
theorem dX8_tells_167 : decode cX8_tells 167 = .ok (.aload_n 0, 1) := by decide +kernel
theorem dX8_tells_168 : decode cX8_tells 168 = .ok (.iload_n 1, 1) := by decide +kernel
theorem dX8_tells_169 : decode cX8_tells 169 = .ok (.iload_n 2, 1) := by decide +kernel
theorem dX8_tells_170 : decode cX8_tells 170 = .ok (.invokevirtual 298, 3) := by decide +kernel
theorem dX8_tells_173 : decode cX8_tells 173 = .ok (.ifCond .eq 12, 3) := by decide +kernel
theorem dX8_tells_176 : decode cX8_tells 176 = .ok (.iload 6, 2) := by decide +kernel
theorem dX8_tells_178 : decode cX8_tells 178 = .ok (.iconst 1, 1) := by decide +kernel
theorem dX8_tells_179 : decode cX8_tells 179 = .ok (.iload 7, 2) := by decide +kernel
theorem dX8_tells_181 : decode cX8_tells 181 = .ok (.ishl, 1) := by decide +kernel
theorem dX8_tells_182 : decode cX8_tells 182 = .ok (.ior, 1) := by decide +kernel
theorem dX8_tells_183 : decode cX8_tells 183 = .ok (.istore 6, 2) := by decide +kernel
theorem dX8_tells_185 : decode cX8_tells 185 = .ok (.iinc 7 1, 3) := by decide +kernel
theorem dX8_tells_188 : decode cX8_tells 188 = .ok (.goto (-36), 3) := by decide +kernel
theorem dX8_tells_191 : decode cX8_tells 191 = .ok (.aload_n 0, 1) := by decide +kernel
theorem dX8_tells_192 : decode cX8_tells 192 = .ok (.iload_n 2, 1) := by decide +kernel
theorem dX8_tells_193 : decode cX8_tells 193 = .ok (.iload_n 3, 1) := by decide +kernel
theorem dX8_tells_194 : decode cX8_tells 194 = .ok (.iload 4, 2) := by decide +kernel
theorem dX8_tells_196 : decode cX8_tells 196 = .ok (.invokevirtual 295, 3) := by decide +kernel
theorem dX8_tells_199 : decode cX8_tells 199 = .ok (.iload 6, 2) := by decide +kernel
theorem dX8_tells_201 : decode cX8_tells 201 = .ok (.ireturn, 1) := by decide +kernel
theorem dX8_becomes_0 : decode cX8_becomes 0 = .ok (.iload_n 2, 1) := by decide +kernel
theorem dX8_becomes_1 : decode cX8_becomes 1 = .ok (.tableswitch 61 1 4 #[31, 39, 47, 53], 31) := by decide +kernel
theorem dX8_becomes_32 : decode cX8_becomes 32 = .ok (.aload_n 0, 1) := by decide +kernel
theorem dX8_becomes_33 : decode cX8_becomes 33 = .ok (.getfield 7, 3) := by decide +kernel
theorem dX8_becomes_36 : decode cX8_becomes 36 = .ok (.iload_n 1, 1) := by decide +kernel
theorem dX8_becomes_37 : decode cX8_becomes 37 = .ok (.iload_n 3, 1) := by decide +kernel
theorem dX8_becomes_38 : decode cX8_becomes 38 = .ok (.iastore, 1) := by decide +kernel
theorem dX8_becomes_39 : decode cX8_becomes 39 = .ok (.return_, 1) := by decide +kernel
theorem dX8_becomes_40 : decode cX8_becomes 40 = .ok (.aload_n 0, 1) := by decide +kernel
theorem dX8_becomes_41 : decode cX8_becomes 41 = .ok (.getfield 13, 3) := by decide +kernel
theorem dX8_becomes_44 : decode cX8_becomes 44 = .ok (.iload_n 1, 1) := by decide +kernel
theorem dX8_becomes_45 : decode cX8_becomes 45 = .ok (.iload_n 3, 1) := by decide +kernel
theorem dX8_becomes_46 : decode cX8_becomes 46 = .ok (.iastore, 1) := by decide +kernel
theorem dX8_becomes_47 : decode cX8_becomes 47 = .ok (.return_, 1) := by decide +kernel
theorem dX8_becomes_48 : decode cX8_becomes 48 = .ok (.aload_n 0, 1) := by decide +kernel
theorem dX8_becomes_49 : decode cX8_becomes 49 = .ok (.iload_n 3, 1) := by decide +kernel
theorem dX8_becomes_50 : decode cX8_becomes 50 = .ok (.putfield 86, 3) := by decide +kernel
theorem dX8_becomes_53 : decode cX8_becomes 53 = .ok (.return_, 1) := by decide +kernel
theorem dX8_becomes_54 : decode cX8_becomes 54 = .ok (.aload_n 0, 1) := by decide +kernel
theorem dX8_becomes_55 : decode cX8_becomes 55 = .ok (.getfield 16, 3) := by decide +kernel
theorem dX8_becomes_58 : decode cX8_becomes 58 = .ok (.iload_n 1, 1) := by decide +kernel
theorem dX8_becomes_59 : decode cX8_becomes 59 = .ok (.iload_n 3, 1) := by decide +kernel
theorem dX8_becomes_60 : decode cX8_becomes 60 = .ok (.iastore, 1) := by decide +kernel
theorem dX8_becomes_61 : decode cX8_becomes 61 = .ok (.return_, 1) := by decide +kernel
theorem dX8_becomes_62 : decode cX8_becomes 62 = .ok (.aload_n 0, 1) := by decide +kernel
theorem dX8_becomes_63 : decode cX8_becomes 63 = .ok (.iload_n 3, 1) := by decide +kernel
theorem dX8_becomes_64 : decode cX8_becomes 64 = .ok (.putfield 218, 3) := by decide +kernel
theorem dX8_becomes_67 : decode cX8_becomes 67 = .ok (.return_, 1) := by decide +kernel
theorem dX8_film_0 : decode cX8_film 0 = .ok (.iload_n 1, 1) := by decide +kernel
theorem dX8_film_1 : decode cX8_film 1 = .ok (.invokestatic 277, 3) := by decide +kernel
theorem dX8_film_4 : decode cX8_film 4 = .ok (.ifCond .eq 18, 3) := by decide +kernel
theorem dX8_film_7 : decode cX8_film 7 = .ok (.aload_n 0, 1) := by decide +kernel
theorem dX8_film_8 : decode cX8_film 8 = .ok (.iload_n 2, 1) := by decide +kernel
theorem dX8_film_9 : decode cX8_film 9 = .ok (.invokevirtual 102, 3) := by decide +kernel
theorem dX8_film_12 : decode cX8_film 12 = .ok (.ifCond .eq 10, 3) := by decide +kernel
theorem dX8_film_15 : decode cX8_film 15 = .ok (.iload_n 3, 1) := by decide +kernel
theorem dX8_film_16 : decode cX8_film 16 = .ok (.invokestatic 258, 3) := by decide +kernel
theorem dX8_film_19 : decode cX8_film 19 = .ok (.ifCond .ne 6, 3) := by decide +kernel
theorem dX8_film_22 : decode cX8_film 22 = .ok (.bipush (-2), 2) := by decide +kernel
theorem dX8_film_24 : decode cX8_film 24 = .ok (.ireturn, 1) := by decide +kernel
theorem dX8_film_25 : decode cX8_film 25 = .ok (.aload_n 0, 1) := by decide +kernel
theorem dX8_film_26 : decode cX8_film 26 = .ok (.iload_n 1, 1) := by decide +kernel
theorem dX8_film_27 : decode cX8_film 27 = .ok (.iconst 0, 1) := by decide +kernel
theorem dX8_film_28 : decode cX8_film 28 = .ok (.iload_n 3, 1) := by decide +kernel
theorem dX8_film_29 : decode cX8_film 29 = .ok (.invokevirtual 302, 3) := by decide +kernel
theorem dX8_film_32 : decode cX8_film 32 = .ok (.pop, 1) := by decide +kernel
theorem dX8_film_33 : decode cX8_film 33 = .ok (.aload_n 0, 1) := by decide +kernel
theorem dX8_film_34 : decode cX8_film 34 = .ok (.invokevirtual 265, 3) := by decide +kernel
theorem dX8_film_37 : decode cX8_film 37 = .ok (.iconst 0, 1) := by decide +kernel
theorem dX8_film_38 : decode cX8_film 38 = .ok (.istore 4, 2) := by decide +kernel
theorem dX8_film_40 : decode cX8_film 40 = .ok (.iload 4, 2) := by decide +kernel
theorem dX8_film_42 : decode cX8_film 42 = .ok (.iload_n 3, 1) := by decide +kernel
theorem dX8_film_43 : decode cX8_film 43 = .ok (.if_icmp .ge 31, 3) := by decide +kernel
theorem dX8_film_46 : decode cX8_film 46 = .ok (.aload_n 0, 1) := by decide +kernel
theorem dX8_film_47 : decode cX8_film 47 = .ok (.invokevirtual 236, 3) := by decide +kernel
theorem dX8_film_50 : decode cX8_film 50 = .ok (.aload_n 0, 1) := by decide +kernel
theorem dX8_film_51 : decode cX8_film 51 = .ok (.getfield 58, 3) := by decide +kernel
theorem dX8_film_54 : decode cX8_film 54 = .ok (.bipush 40, 2) := by decide +kernel
theorem dX8_film_56 : decode cX8_film 56 = .ok (.iload_n 1, 1) := by decide +kernel
theorem dX8_film_57 : decode cX8_film 57 = .ok (.imul, 1) := by decide +kernel
theorem dX8_film_58 : decode cX8_film 58 = .ok (.iload 4, 2) := by decide +kernel
theorem dX8_film_60 : decode cX8_film 60 = .ok (.iadd, 1) := by decide +kernel
theorem dX8_film_61 : decode cX8_film 61 = .ok (.aload_n 0, 1) := by decide +kernel
theorem dX8_film_62 : decode cX8_film 62 = .ok (.getfield 22, 3) := by decide +kernel
theorem dX8_film_65 : decode cX8_film 65 = .ok (.iload_n 2, 1) := by decide +kernel
theorem dX8_film_66 : decode cX8_film 66 = .ok (.iaload, 1) := by decide +kernel
theorem dX8_film_67 : decode cX8_film 67 = .ok (.iastore, 1) := by decide +kernel
theorem dX8_film_68 : decode cX8_film 68 = .ok (.iinc 4 1, 3) := by decide +kernel
theorem dX8_film_71 : decode cX8_film 71 = .ok (.goto (-31), 3) := by decide +kernel
theorem dX8_film_74 : decode cX8_film 74 = .ok (.aload_n 0, 1) := by decide +kernel
theorem dX8_film_75 : decode cX8_film 75 = .ok (.invokevirtual 274, 3) := by decide +kernel
theorem dX8_film_78 : decode cX8_film 78 = .ok (.iload_n 3, 1) := by decide +kernel
theorem dX8_film_79 : decode cX8_film 79 = .ok (.ireturn, 1) := by decide +kernel
theorem dX8_draws_0 : decode cX8_draws 0 = .ok (.iload_n 1, 1) := by decide +kernel
theorem dX8_draws_1 : decode cX8_draws 1 = .ok (.istore_n 3, 1) := by decide +kernel
theorem dX8_draws_2 : decode cX8_draws 2 = .ok (.iconst 0, 1) := by decide +kernel
theorem dX8_draws_3 : decode cX8_draws 3 = .ok (.istore 4, 2) := by decide +kernel
theorem dX8_draws_5 : decode cX8_draws 5 = .ok (.iload 4, 2) := by decide +kernel
theorem dX8_draws_7 : decode cX8_draws 7 = .ok (.iload_n 2, 1) := by decide +kernel
theorem dX8_draws_8 : decode cX8_draws 8 = .ok (.if_icmp .ge 34, 3) := by decide +kernel
theorem dX8_draws_11 : decode cX8_draws 11 = .ok (.iload_n 3, 1) := by decide +kernel
theorem dX8_draws_12 : decode cX8_draws 12 = .ok (.ldc_w 305, 3) := by decide +kernel
theorem dX8_draws_15 : decode cX8_draws 15 = .ok (.imul, 1) := by decide +kernel
theorem dX8_draws_16 : decode cX8_draws 16 = .ok (.sipush 12345, 3) := by decide +kernel
theorem dX8_draws_19 : decode cX8_draws 19 = .ok (.iadd, 1) := by decide +kernel
theorem dX8_draws_20 : decode cX8_draws 20 = .ok (.istore_n 3, 1) := by decide +kernel
theorem dX8_draws_21 : decode cX8_draws 21 = .ok (.aload_n 0, 1) := by decide +kernel
theorem dX8_draws_22 : decode cX8_draws 22 = .ok (.iload_n 3, 1) := by decide +kernel
theorem dX8_draws_23 : decode cX8_draws 23 = .ok (.bipush 9, 2) := by decide +kernel
theorem dX8_draws_25 : decode cX8_draws 25 = .ok (.iushr, 1) := by decide +kernel
theorem dX8_draws_26 : decode cX8_draws 26 = .ok (.bipush 10, 2) := by decide +kernel
theorem dX8_draws_28 : decode cX8_draws 28 = .ok (.irem, 1) := by decide +kernel
theorem dX8_draws_29 : decode cX8_draws 29 = .ok (.putfield 86, 3) := by decide +kernel
theorem dX8_draws_32 : decode cX8_draws 32 = .ok (.aload_n 0, 1) := by decide +kernel
theorem dX8_draws_33 : decode cX8_draws 33 = .ok (.invokevirtual 236, 3) := by decide +kernel
theorem dX8_draws_36 : decode cX8_draws 36 = .ok (.iinc 4 1, 3) := by decide +kernel
theorem dX8_draws_39 : decode cX8_draws 39 = .ok (.goto (-34), 3) := by decide +kernel
theorem dX8_draws_42 : decode cX8_draws 42 = .ok (.return_, 1) := by decide +kernel
theorem dX8_drawn_0 : decode cX8_drawn 0 = .ok (.iload_n 2, 1) := by decide +kernel
theorem dX8_drawn_1 : decode cX8_drawn 1 = .ok (.invokestatic 258, 3) := by decide +kernel
theorem dX8_drawn_4 : decode cX8_drawn 4 = .ok (.ifCond .ne 6, 3) := by decide +kernel
theorem dX8_drawn_7 : decode cX8_drawn 7 = .ok (.bipush (-2), 2) := by decide +kernel
theorem dX8_drawn_9 : decode cX8_drawn 9 = .ok (.ireturn, 1) := by decide +kernel
theorem dX8_drawn_10 : decode cX8_drawn 10 = .ok (.aload_n 0, 1) := by decide +kernel
theorem dX8_drawn_11 : decode cX8_drawn 11 = .ok (.invokevirtual 265, 3) := by decide +kernel
theorem dX8_drawn_14 : decode cX8_drawn 14 = .ok (.aload_n 0, 1) := by decide +kernel
theorem dX8_drawn_15 : decode cX8_drawn 15 = .ok (.iload_n 1, 1) := by decide +kernel
theorem dX8_drawn_16 : decode cX8_drawn 16 = .ok (.iload_n 2, 1) := by decide +kernel
theorem dX8_drawn_17 : decode cX8_drawn 17 = .ok (.invokevirtual 306, 3) := by decide +kernel
theorem dX8_drawn_20 : decode cX8_drawn 20 = .ok (.aload_n 0, 1) := by decide +kernel
theorem dX8_drawn_21 : decode cX8_drawn 21 = .ok (.invokevirtual 239, 3) := by decide +kernel
theorem dX8_drawn_24 : decode cX8_drawn 24 = .ok (.istore_n 3, 1) := by decide +kernel
theorem dX8_drawn_25 : decode cX8_drawn 25 = .ok (.aload_n 0, 1) := by decide +kernel
theorem dX8_drawn_26 : decode cX8_drawn 26 = .ok (.invokevirtual 274, 3) := by decide +kernel
theorem dX8_drawn_29 : decode cX8_drawn 29 = .ok (.iload_n 3, 1) := by decide +kernel
theorem dX8_drawn_30 : decode cX8_drawn 30 = .ok (.ireturn, 1) := by decide +kernel
theorem dX8_chance_0 : decode cX8_chance 0 = .ok (.iload_n 2, 1) := by decide +kernel
theorem dX8_chance_1 : decode cX8_chance 1 = .ok (.iconst 1, 1) := by decide +kernel
theorem dX8_chance_2 : decode cX8_chance 2 = .ok (.bipush 20, 2) := by decide +kernel
theorem dX8_chance_4 : decode cX8_chance 4 = .ok (.invokestatic 82, 3) := by decide +kernel
theorem dX8_chance_7 : decode cX8_chance 7 = .ok (.ifCond .eq 20, 3) := by decide +kernel
theorem dX8_chance_10 : decode cX8_chance 10 = .ok (.iload_n 3, 1) := by decide +kernel
theorem dX8_chance_11 : decode cX8_chance 11 = .ok (.invokestatic 258, 3) := by decide +kernel
theorem dX8_chance_14 : decode cX8_chance 14 = .ok (.ifCond .eq 13, 3) := by decide +kernel
theorem dX8_chance_17 : decode cX8_chance 17 = .ok (.iload 4, 2) := by decide +kernel
theorem dX8_chance_19 : decode cX8_chance 19 = .ok (.iconst 0, 1) := by decide +kernel
theorem dX8_chance_20 : decode cX8_chance 20 = .ok (.iconst 1, 1) := by decide +kernel
theorem dX8_chance_21 : decode cX8_chance 21 = .ok (.invokestatic 82, 3) := by decide +kernel
theorem dX8_chance_24 : decode cX8_chance 24 = .ok (.ifCond .ne 7, 3) := by decide +kernel
theorem dX8_chance_27 : decode cX8_chance 27 = .ok (.ldc2_w 310, 3) := by decide +kernel
theorem dX8_chance_30 : decode cX8_chance 30 = .ok (.lreturn, 1) := by decide +kernel
theorem dX8_chance_31 : decode cX8_chance 31 = .ok (.iconst 0, 1) := by decide +kernel
theorem dX8_chance_32 : decode cX8_chance 32 = .ok (.istore 5, 2) := by decide +kernel
theorem dX8_chance_34 : decode cX8_chance 34 = .ok (.iconst 0, 1) := by decide +kernel
theorem dX8_chance_35 : decode cX8_chance 35 = .ok (.istore 6, 2) := by decide +kernel
theorem dX8_chance_37 : decode cX8_chance 37 = .ok (.iload 6, 2) := by decide +kernel
theorem dX8_chance_39 : decode cX8_chance 39 = .ok (.iload_n 2, 1) := by decide +kernel
theorem dX8_chance_40 : decode cX8_chance 40 = .ok (.if_icmp .ge 36, 3) := by decide +kernel
theorem dX8_chance_43 : decode cX8_chance 43 = .ok (.aload_n 0, 1) := by decide +kernel
theorem dX8_chance_44 : decode cX8_chance 44 = .ok (.invokevirtual 265, 3) := by decide +kernel
theorem dX8_chance_47 : decode cX8_chance 47 = .ok (.aload_n 0, 1) := by decide +kernel
theorem dX8_chance_48 : decode cX8_chance 48 = .ok (.iload_n 1, 1) := by decide +kernel
theorem dX8_chance_49 : decode cX8_chance 49 = .ok (.iload 6, 2) := by decide +kernel
theorem dX8_chance_51 : decode cX8_chance 51 = .ok (.iadd, 1) := by decide +kernel
theorem dX8_chance_52 : decode cX8_chance 52 = .ok (.iload_n 3, 1) := by decide +kernel
theorem dX8_chance_53 : decode cX8_chance 53 = .ok (.invokevirtual 306, 3) := by decide +kernel
theorem dX8_chance_56 : decode cX8_chance 56 = .ok (.aload_n 0, 1) := by decide +kernel
theorem dX8_chance_57 : decode cX8_chance 57 = .ok (.invokevirtual 252, 3) := by decide +kernel
theorem dX8_chance_60 : decode cX8_chance 60 = .ok (.ifCond .ne 6, 3) := by decide +kernel
theorem dX8_chance_63 : decode cX8_chance 63 = .ok (.iinc 5 1, 3) := by decide +kernel
theorem dX8_chance_66 : decode cX8_chance 66 = .ok (.aload_n 0, 1) := by decide +kernel
theorem dX8_chance_67 : decode cX8_chance 67 = .ok (.invokevirtual 274, 3) := by decide +kernel
theorem dX8_chance_70 : decode cX8_chance 70 = .ok (.iinc 6 1, 3) := by decide +kernel
theorem dX8_chance_73 : decode cX8_chance 73 = .ok (.goto (-36), 3) := by decide +kernel
theorem dX8_chance_76 : decode cX8_chance 76 = .ok (.iload 5, 2) := by decide +kernel
theorem dX8_chance_78 : decode cX8_chance 78 = .ok (.istore 6, 2) := by decide +kernel
theorem dX8_chance_80 : decode cX8_chance 80 = .ok (.iload_n 2, 1) := by decide +kernel
theorem dX8_chance_81 : decode cX8_chance 81 = .ok (.istore 7, 2) := by decide +kernel
theorem dX8_chance_83 : decode cX8_chance 83 = .ok (.iload 7, 2) := by decide +kernel
theorem dX8_chance_85 : decode cX8_chance 85 = .ok (.ifCond .eq 21, 3) := by decide +kernel
theorem dX8_chance_88 : decode cX8_chance 88 = .ok (.iload 6, 2) := by decide +kernel
theorem dX8_chance_90 : decode cX8_chance 90 = .ok (.iload 7, 2) := by decide +kernel
theorem dX8_chance_92 : decode cX8_chance 92 = .ok (.irem, 1) := by decide +kernel
theorem dX8_chance_93 : decode cX8_chance 93 = .ok (.istore 8, 2) := by decide +kernel
theorem dX8_chance_95 : decode cX8_chance 95 = .ok (.iload 7, 2) := by decide +kernel
theorem dX8_chance_97 : decode cX8_chance 97 = .ok (.istore 6, 2) := by decide +kernel
theorem dX8_chance_99 : decode cX8_chance 99 = .ok (.iload 8, 2) := by decide +kernel
theorem dX8_chance_101 : decode cX8_chance 101 = .ok (.istore 7, 2) := by decide +kernel
theorem dX8_chance_103 : decode cX8_chance 103 = .ok (.goto (-20), 3) := by decide +kernel
theorem dX8_chance_106 : decode cX8_chance 106 = .ok (.iload 4, 2) := by decide +kernel
theorem dX8_chance_108 : decode cX8_chance 108 = .ok (.ifCond .ne 12, 3) := by decide +kernel
theorem dX8_chance_111 : decode cX8_chance 111 = .ok (.iload 5, 2) := by decide +kernel
theorem dX8_chance_113 : decode cX8_chance 113 = .ok (.iload 6, 2) := by decide +kernel
theorem dX8_chance_115 : decode cX8_chance 115 = .ok (.idiv, 1) := by decide +kernel
theorem dX8_chance_116 : decode cX8_chance 116 = .ok (.i2l, 1) := by decide +kernel
theorem dX8_chance_117 : decode cX8_chance 117 = .ok (.goto 8, 3) := by decide +kernel
theorem dX8_chance_120 : decode cX8_chance 120 = .ok (.iload_n 2, 1) := by decide +kernel
theorem dX8_chance_121 : decode cX8_chance 121 = .ok (.iload 6, 2) := by decide +kernel
theorem dX8_chance_123 : decode cX8_chance 123 = .ok (.idiv, 1) := by decide +kernel
theorem dX8_chance_124 : decode cX8_chance 124 = .ok (.i2l, 1) := by decide +kernel
theorem dX8_chance_125 : decode cX8_chance 125 = .ok (.lreturn, 1) := by decide +kernel
theorem dX8_image_0 : decode cX8_image 0 = .ok (.aload_n 0, 1) := by decide +kernel
theorem dX8_image_1 : decode cX8_image 1 = .ok (.iconst 1, 1) := by decide +kernel
theorem dX8_image_2 : decode cX8_image 2 = .ok (.putfield 312, 3) := by decide +kernel
theorem dX8_image_5 : decode cX8_image 5 = .ok (.aload_n 0, 1) := by decide +kernel
theorem dX8_image_6 : decode cX8_image 6 = .ok (.aload_n 0, 1) := by decide +kernel
theorem dX8_image_7 : decode cX8_image 7 = .ok (.getfield 79, 3) := by decide +kernel
theorem dX8_image_10 : decode cX8_image 10 = .ok (.putfield 316, 3) := by decide +kernel
theorem dX8_image_13 : decode cX8_image 13 = .ok (.iconst 0, 1) := by decide +kernel
theorem dX8_image_14 : decode cX8_image 14 = .ok (.istore_n 1, 1) := by decide +kernel
theorem dX8_image_15 : decode cX8_image 15 = .ok (.iload_n 1, 1) := by decide +kernel
theorem dX8_image_16 : decode cX8_image 16 = .ok (.bipush 8, 2) := by decide +kernel
theorem dX8_image_18 : decode cX8_image 18 = .ok (.if_icmp .ge 66, 3) := by decide +kernel
theorem dX8_image_21 : decode cX8_image 21 = .ok (.aload_n 0, 1) := by decide +kernel
theorem dX8_image_22 : decode cX8_image 22 = .ok (.getfield 49, 3) := by decide +kernel
theorem dX8_image_25 : decode cX8_image 25 = .ok (.iload_n 1, 1) := by decide +kernel
theorem dX8_image_26 : decode cX8_image 26 = .ok (.aload_n 0, 1) := by decide +kernel
theorem dX8_image_27 : decode cX8_image 27 = .ok (.getfield 13, 3) := by decide +kernel
theorem dX8_image_30 : decode cX8_image 30 = .ok (.iload_n 1, 1) := by decide +kernel
theorem dX8_image_31 : decode cX8_image 31 = .ok (.iaload, 1) := by decide +kernel
theorem dX8_image_32 : decode cX8_image 32 = .ok (.iastore, 1) := by decide +kernel
theorem dX8_image_33 : decode cX8_image 33 = .ok (.aload_n 0, 1) := by decide +kernel
theorem dX8_image_34 : decode cX8_image 34 = .ok (.getfield 49, 3) := by decide +kernel
theorem dX8_image_37 : decode cX8_image 37 = .ok (.bipush 8, 2) := by decide +kernel
theorem dX8_image_39 : decode cX8_image 39 = .ok (.iload_n 1, 1) := by decide +kernel
theorem dX8_image_40 : decode cX8_image 40 = .ok (.iadd, 1) := by decide +kernel
theorem dX8_image_41 : decode cX8_image 41 = .ok (.aload_n 0, 1) := by decide +kernel
theorem dX8_image_42 : decode cX8_image 42 = .ok (.getfield 16, 3) := by decide +kernel
theorem dX8_image_45 : decode cX8_image 45 = .ok (.iload_n 1, 1) := by decide +kernel
theorem dX8_image_46 : decode cX8_image 46 = .ok (.iaload, 1) := by decide +kernel
theorem dX8_image_47 : decode cX8_image 47 = .ok (.iastore, 1) := by decide +kernel
theorem dX8_image_48 : decode cX8_image 48 = .ok (.aload_n 0, 1) := by decide +kernel
theorem dX8_image_49 : decode cX8_image 49 = .ok (.getfield 49, 3) := by decide +kernel
theorem dX8_image_52 : decode cX8_image 52 = .ok (.bipush 16, 2) := by decide +kernel
theorem dX8_image_54 : decode cX8_image 54 = .ok (.iload_n 1, 1) := by decide +kernel
theorem dX8_image_55 : decode cX8_image 55 = .ok (.iadd, 1) := by decide +kernel
theorem dX8_image_56 : decode cX8_image 56 = .ok (.aload_n 0, 1) := by decide +kernel
theorem dX8_image_57 : decode cX8_image 57 = .ok (.getfield 19, 3) := by decide +kernel
theorem dX8_image_60 : decode cX8_image 60 = .ok (.iload_n 1, 1) := by decide +kernel
theorem dX8_image_61 : decode cX8_image 61 = .ok (.iaload, 1) := by decide +kernel
theorem dX8_image_62 : decode cX8_image 62 = .ok (.iastore, 1) := by decide +kernel
theorem dX8_image_63 : decode cX8_image 63 = .ok (.aload_n 0, 1) := by decide +kernel
theorem dX8_image_64 : decode cX8_image 64 = .ok (.getfield 49, 3) := by decide +kernel
theorem dX8_image_67 : decode cX8_image 67 = .ok (.bipush 24, 2) := by decide +kernel
theorem dX8_image_69 : decode cX8_image 69 = .ok (.iload_n 1, 1) := by decide +kernel
theorem dX8_image_70 : decode cX8_image 70 = .ok (.iadd, 1) := by decide +kernel
theorem dX8_image_71 : decode cX8_image 71 = .ok (.aload_n 0, 1) := by decide +kernel
theorem dX8_image_72 : decode cX8_image 72 = .ok (.getfield 22, 3) := by decide +kernel
theorem dX8_image_75 : decode cX8_image 75 = .ok (.iload_n 1, 1) := by decide +kernel
theorem dX8_image_76 : decode cX8_image 76 = .ok (.iaload, 1) := by decide +kernel
theorem dX8_image_77 : decode cX8_image 77 = .ok (.iastore, 1) := by decide +kernel
theorem dX8_image_78 : decode cX8_image 78 = .ok (.iinc 1 1, 3) := by decide +kernel
theorem dX8_image_81 : decode cX8_image 81 = .ok (.goto (-66), 3) := by decide +kernel
theorem dX8_image_84 : decode cX8_image 84 = .ok (.aload_n 0, 1) := by decide +kernel
theorem dX8_image_85 : decode cX8_image 85 = .ok (.getfield 49, 3) := by decide +kernel
theorem dX8_image_88 : decode cX8_image 88 = .ok (.bipush 32, 2) := by decide +kernel
theorem dX8_image_90 : decode cX8_image 90 = .ok (.aload_n 0, 1) := by decide +kernel
theorem dX8_image_91 : decode cX8_image 91 = .ok (.getfield 86, 3) := by decide +kernel
theorem dX8_image_94 : decode cX8_image 94 = .ok (.iastore, 1) := by decide +kernel
theorem dX8_image_95 : decode cX8_image 95 = .ok (.aload_n 0, 1) := by decide +kernel
theorem dX8_image_96 : decode cX8_image 96 = .ok (.getfield 49, 3) := by decide +kernel
theorem dX8_image_99 : decode cX8_image 99 = .ok (.bipush 33, 2) := by decide +kernel
theorem dX8_image_101 : decode cX8_image 101 = .ok (.aload_n 0, 1) := by decide +kernel
theorem dX8_image_102 : decode cX8_image 102 = .ok (.getfield 89, 3) := by decide +kernel
theorem dX8_image_105 : decode cX8_image 105 = .ok (.iastore, 1) := by decide +kernel
theorem dX8_image_106 : decode cX8_image 106 = .ok (.aload_n 0, 1) := by decide +kernel
theorem dX8_image_107 : decode cX8_image 107 = .ok (.getfield 49, 3) := by decide +kernel
theorem dX8_image_110 : decode cX8_image 110 = .ok (.bipush 34, 2) := by decide +kernel
theorem dX8_image_112 : decode cX8_image 112 = .ok (.aload_n 0, 1) := by decide +kernel
theorem dX8_image_113 : decode cX8_image 113 = .ok (.getfield 218, 3) := by decide +kernel
theorem dX8_image_116 : decode cX8_image 116 = .ok (.iastore, 1) := by decide +kernel
theorem dX8_image_117 : decode cX8_image 117 = .ok (.aload_n 0, 1) := by decide +kernel
theorem dX8_image_118 : decode cX8_image 118 = .ok (.getfield 79, 3) := by decide +kernel
theorem dX8_image_121 : decode cX8_image 121 = .ok (.ireturn, 1) := by decide +kernel
theorem dX8_back_0 : decode cX8_back 0 = .ok (.aload_n 0, 1) := by decide +kernel
theorem dX8_back_1 : decode cX8_back 1 = .ok (.getfield 312, 3) := by decide +kernel
theorem dX8_back_4 : decode cX8_back 4 = .ok (.ifCond .ne 6, 3) := by decide +kernel
theorem dX8_back_7 : decode cX8_back 7 = .ok (.bipush (-3), 2) := by decide +kernel
theorem dX8_back_9 : decode cX8_back 9 = .ok (.ireturn, 1) := by decide +kernel
theorem dX8_back_10 : decode cX8_back 10 = .ok (.aload_n 0, 1) := by decide +kernel
theorem dX8_back_11 : decode cX8_back 11 = .ok (.aload_n 0, 1) := by decide +kernel
theorem dX8_back_12 : decode cX8_back 12 = .ok (.getfield 316, 3) := by decide +kernel
theorem dX8_back_15 : decode cX8_back 15 = .ok (.putfield 79, 3) := by decide +kernel
theorem dX8_back_18 : decode cX8_back 18 = .ok (.iconst 0, 1) := by decide +kernel
theorem dX8_back_19 : decode cX8_back 19 = .ok (.istore_n 1, 1) := by decide +kernel
theorem dX8_back_20 : decode cX8_back 20 = .ok (.iload_n 1, 1) := by decide +kernel
theorem dX8_back_21 : decode cX8_back 21 = .ok (.bipush 8, 2) := by decide +kernel
theorem dX8_back_23 : decode cX8_back 23 = .ok (.if_icmp .ge 66, 3) := by decide +kernel
theorem dX8_back_26 : decode cX8_back 26 = .ok (.aload_n 0, 1) := by decide +kernel
theorem dX8_back_27 : decode cX8_back 27 = .ok (.getfield 13, 3) := by decide +kernel
theorem dX8_back_30 : decode cX8_back 30 = .ok (.iload_n 1, 1) := by decide +kernel
theorem dX8_back_31 : decode cX8_back 31 = .ok (.aload_n 0, 1) := by decide +kernel
theorem dX8_back_32 : decode cX8_back 32 = .ok (.getfield 49, 3) := by decide +kernel
theorem dX8_back_35 : decode cX8_back 35 = .ok (.iload_n 1, 1) := by decide +kernel
theorem dX8_back_36 : decode cX8_back 36 = .ok (.iaload, 1) := by decide +kernel
theorem dX8_back_37 : decode cX8_back 37 = .ok (.iastore, 1) := by decide +kernel
theorem dX8_back_38 : decode cX8_back 38 = .ok (.aload_n 0, 1) := by decide +kernel
theorem dX8_back_39 : decode cX8_back 39 = .ok (.getfield 16, 3) := by decide +kernel
theorem dX8_back_42 : decode cX8_back 42 = .ok (.iload_n 1, 1) := by decide +kernel
theorem dX8_back_43 : decode cX8_back 43 = .ok (.aload_n 0, 1) := by decide +kernel
theorem dX8_back_44 : decode cX8_back 44 = .ok (.getfield 49, 3) := by decide +kernel
theorem dX8_back_47 : decode cX8_back 47 = .ok (.bipush 8, 2) := by decide +kernel
theorem dX8_back_49 : decode cX8_back 49 = .ok (.iload_n 1, 1) := by decide +kernel
theorem dX8_back_50 : decode cX8_back 50 = .ok (.iadd, 1) := by decide +kernel
theorem dX8_back_51 : decode cX8_back 51 = .ok (.iaload, 1) := by decide +kernel
theorem dX8_back_52 : decode cX8_back 52 = .ok (.iastore, 1) := by decide +kernel
theorem dX8_back_53 : decode cX8_back 53 = .ok (.aload_n 0, 1) := by decide +kernel
theorem dX8_back_54 : decode cX8_back 54 = .ok (.getfield 19, 3) := by decide +kernel
theorem dX8_back_57 : decode cX8_back 57 = .ok (.iload_n 1, 1) := by decide +kernel
theorem dX8_back_58 : decode cX8_back 58 = .ok (.aload_n 0, 1) := by decide +kernel
theorem dX8_back_59 : decode cX8_back 59 = .ok (.getfield 49, 3) := by decide +kernel
theorem dX8_back_62 : decode cX8_back 62 = .ok (.bipush 16, 2) := by decide +kernel
theorem dX8_back_64 : decode cX8_back 64 = .ok (.iload_n 1, 1) := by decide +kernel
theorem dX8_back_65 : decode cX8_back 65 = .ok (.iadd, 1) := by decide +kernel
theorem dX8_back_66 : decode cX8_back 66 = .ok (.iaload, 1) := by decide +kernel
theorem dX8_back_67 : decode cX8_back 67 = .ok (.iastore, 1) := by decide +kernel
theorem dX8_back_68 : decode cX8_back 68 = .ok (.aload_n 0, 1) := by decide +kernel
theorem dX8_back_69 : decode cX8_back 69 = .ok (.getfield 22, 3) := by decide +kernel
theorem dX8_back_72 : decode cX8_back 72 = .ok (.iload_n 1, 1) := by decide +kernel
theorem dX8_back_73 : decode cX8_back 73 = .ok (.aload_n 0, 1) := by decide +kernel
theorem dX8_back_74 : decode cX8_back 74 = .ok (.getfield 49, 3) := by decide +kernel
theorem dX8_back_77 : decode cX8_back 77 = .ok (.bipush 24, 2) := by decide +kernel
theorem dX8_back_79 : decode cX8_back 79 = .ok (.iload_n 1, 1) := by decide +kernel
theorem dX8_back_80 : decode cX8_back 80 = .ok (.iadd, 1) := by decide +kernel
theorem dX8_back_81 : decode cX8_back 81 = .ok (.iaload, 1) := by decide +kernel
theorem dX8_back_82 : decode cX8_back 82 = .ok (.iastore, 1) := by decide +kernel
theorem dX8_back_83 : decode cX8_back 83 = .ok (.iinc 1 1, 3) := by decide +kernel
theorem dX8_back_86 : decode cX8_back 86 = .ok (.goto (-66), 3) := by decide +kernel
theorem dX8_back_89 : decode cX8_back 89 = .ok (.aload_n 0, 1) := by decide +kernel
theorem dX8_back_90 : decode cX8_back 90 = .ok (.aload_n 0, 1) := by decide +kernel
theorem dX8_back_91 : decode cX8_back 91 = .ok (.getfield 49, 3) := by decide +kernel
theorem dX8_back_94 : decode cX8_back 94 = .ok (.bipush 32, 2) := by decide +kernel
theorem dX8_back_96 : decode cX8_back 96 = .ok (.iaload, 1) := by decide +kernel
theorem dX8_back_97 : decode cX8_back 97 = .ok (.putfield 86, 3) := by decide +kernel
theorem dX8_back_100 : decode cX8_back 100 = .ok (.aload_n 0, 1) := by decide +kernel
theorem dX8_back_101 : decode cX8_back 101 = .ok (.aload_n 0, 1) := by decide +kernel
theorem dX8_back_102 : decode cX8_back 102 = .ok (.getfield 49, 3) := by decide +kernel
theorem dX8_back_105 : decode cX8_back 105 = .ok (.bipush 33, 2) := by decide +kernel
theorem dX8_back_107 : decode cX8_back 107 = .ok (.iaload, 1) := by decide +kernel
theorem dX8_back_108 : decode cX8_back 108 = .ok (.putfield 89, 3) := by decide +kernel
theorem dX8_back_111 : decode cX8_back 111 = .ok (.aload_n 0, 1) := by decide +kernel
theorem dX8_back_112 : decode cX8_back 112 = .ok (.aload_n 0, 1) := by decide +kernel
theorem dX8_back_113 : decode cX8_back 113 = .ok (.getfield 49, 3) := by decide +kernel
theorem dX8_back_116 : decode cX8_back 116 = .ok (.bipush 34, 2) := by decide +kernel
theorem dX8_back_118 : decode cX8_back 118 = .ok (.iaload, 1) := by decide +kernel
theorem dX8_back_119 : decode cX8_back 119 = .ok (.putfield 218, 3) := by decide +kernel
theorem dX8_back_122 : decode cX8_back 122 = .ok (.aload_n 0, 1) := by decide +kernel
theorem dX8_back_123 : decode cX8_back 123 = .ok (.getfield 79, 3) := by decide +kernel
theorem dX8_back_126 : decode cX8_back 126 = .ok (.ireturn, 1) := by decide +kernel
theorem dX8_count_0 : decode cX8_count 0 = .ok (.iload_n 1, 1) := by decide +kernel
theorem dX8_count_1 : decode cX8_count 1 = .ok (.tableswitch 72 0 5 #[39, 44, 52, 57, 62, 67], 39) := by decide +kernel
theorem dX8_count_40 : decode cX8_count 40 = .ok (.aload_n 0, 1) := by decide +kernel
theorem dX8_count_41 : decode cX8_count 41 = .ok (.getfield 79, 3) := by decide +kernel
theorem dX8_count_44 : decode cX8_count 44 = .ok (.ireturn, 1) := by decide +kernel
theorem dX8_count_45 : decode cX8_count 45 = .ok (.aload_n 0, 1) := by decide +kernel
theorem dX8_count_46 : decode cX8_count 46 = .ok (.invokevirtual 239, 3) := by decide +kernel
theorem dX8_count_49 : decode cX8_count 49 = .ok (.invokestatic 319, 3) := by decide +kernel
theorem dX8_count_52 : decode cX8_count 52 = .ok (.ireturn, 1) := by decide +kernel
theorem dX8_count_53 : decode cX8_count 53 = .ok (.aload_n 0, 1) := by decide +kernel
theorem dX8_count_54 : decode cX8_count 54 = .ok (.getfield 89, 3) := by decide +kernel
theorem dX8_count_57 : decode cX8_count 57 = .ok (.ireturn, 1) := by decide +kernel
theorem dX8_count_58 : decode cX8_count 58 = .ok (.aload_n 0, 1) := by decide +kernel
theorem dX8_count_59 : decode cX8_count 59 = .ok (.getfield 211, 3) := by decide +kernel
theorem dX8_count_62 : decode cX8_count 62 = .ok (.ireturn, 1) := by decide +kernel
theorem dX8_count_63 : decode cX8_count 63 = .ok (.aload_n 0, 1) := by decide +kernel
theorem dX8_count_64 : decode cX8_count 64 = .ok (.getfield 72, 3) := by decide +kernel
theorem dX8_count_67 : decode cX8_count 67 = .ok (.ireturn, 1) := by decide +kernel
theorem dX8_count_68 : decode cX8_count 68 = .ok (.aload_n 0, 1) := by decide +kernel
theorem dX8_count_69 : decode cX8_count 69 = .ok (.getfield 218, 3) := by decide +kernel
theorem dX8_count_72 : decode cX8_count 72 = .ok (.ireturn, 1) := by decide +kernel
theorem dX8_count_73 : decode cX8_count 73 = .ok (.bipush (-2), 2) := by decide +kernel
theorem dX8_count_75 : decode cX8_count 75 = .ok (.ireturn, 1) := by decide +kernel
theorem dX8_sheet_0 : decode cX8_sheet 0 = .ok (.iload_n 1, 1) := by decide +kernel
theorem dX8_sheet_1 : decode cX8_sheet 1 = .ok (.invokestatic 277, 3) := by decide +kernel
theorem dX8_sheet_4 : decode cX8_sheet 4 = .ok (.ifCond .eq 12, 3) := by decide +kernel
theorem dX8_sheet_7 : decode cX8_sheet 7 = .ok (.iload_n 2, 1) := by decide +kernel
theorem dX8_sheet_8 : decode cX8_sheet 8 = .ok (.iconst (-1), 1) := by decide +kernel
theorem dX8_sheet_9 : decode cX8_sheet 9 = .ok (.iconst 2, 1) := by decide +kernel
theorem dX8_sheet_10 : decode cX8_sheet 10 = .ok (.invokestatic 82, 3) := by decide +kernel
theorem dX8_sheet_13 : decode cX8_sheet 13 = .ok (.ifCond .ne 6, 3) := by decide +kernel
theorem dX8_sheet_16 : decode cX8_sheet 16 = .ok (.bipush (-2), 2) := by decide +kernel
theorem dX8_sheet_18 : decode cX8_sheet 18 = .ok (.ireturn, 1) := by decide +kernel
theorem dX8_sheet_19 : decode cX8_sheet 19 = .ok (.iload_n 2, 1) := by decide +kernel
theorem dX8_sheet_20 : decode cX8_sheet 20 = .ok (.ifCond .lt 10, 3) := by decide +kernel
theorem dX8_sheet_23 : decode cX8_sheet 23 = .ok (.iload_n 3, 1) := by decide +kernel
theorem dX8_sheet_24 : decode cX8_sheet 24 = .ok (.ifCond .ge 6, 3) := by decide +kernel
theorem dX8_sheet_27 : decode cX8_sheet 27 = .ok (.bipush (-14), 2) := by decide +kernel
theorem dX8_sheet_29 : decode cX8_sheet 29 = .ok (.ireturn, 1) := by decide +kernel
theorem dX8_sheet_30 : decode cX8_sheet 30 = .ok (.iload_n 2, 1) := by decide +kernel
theorem dX8_sheet_31 : decode cX8_sheet 31 = .ok (.ifCond .lt 12, 3) := by decide +kernel
theorem dX8_sheet_34 : decode cX8_sheet 34 = .ok (.iload_n 3, 1) := by decide +kernel
theorem dX8_sheet_35 : decode cX8_sheet 35 = .ok (.bipush 40, 2) := by decide +kernel
theorem dX8_sheet_37 : decode cX8_sheet 37 = .ok (.if_icmp .le 6, 3) := by decide +kernel
theorem dX8_sheet_40 : decode cX8_sheet 40 = .ok (.bipush (-2), 2) := by decide +kernel
theorem dX8_sheet_42 : decode cX8_sheet 42 = .ok (.ireturn, 1) := by decide +kernel
theorem dX8_sheet_43 : decode cX8_sheet 43 = .ok (.aload_n 0, 1) := by decide +kernel
theorem dX8_sheet_44 : decode cX8_sheet 44 = .ok (.getfield 52, 3) := by decide +kernel
theorem dX8_sheet_47 : decode cX8_sheet 47 = .ok (.iload_n 1, 1) := by decide +kernel
theorem dX8_sheet_48 : decode cX8_sheet 48 = .ok (.iload_n 2, 1) := by decide +kernel
theorem dX8_sheet_49 : decode cX8_sheet 49 = .ok (.iastore, 1) := by decide +kernel
theorem dX8_sheet_50 : decode cX8_sheet 50 = .ok (.aload_n 0, 1) := by decide +kernel
theorem dX8_sheet_51 : decode cX8_sheet 51 = .ok (.getfield 55, 3) := by decide +kernel
theorem dX8_sheet_54 : decode cX8_sheet 54 = .ok (.iload_n 1, 1) := by decide +kernel
theorem dX8_sheet_55 : decode cX8_sheet 55 = .ok (.iload_n 2, 1) := by decide +kernel
theorem dX8_sheet_56 : decode cX8_sheet 56 = .ok (.ifCond .ge 7, 3) := by decide +kernel
theorem dX8_sheet_59 : decode cX8_sheet 59 = .ok (.iconst 0, 1) := by decide +kernel
theorem dX8_sheet_60 : decode cX8_sheet 60 = .ok (.goto 4, 3) := by decide +kernel
theorem dX8_sheet_63 : decode cX8_sheet 63 = .ok (.iload_n 3, 1) := by decide +kernel
theorem dX8_sheet_64 : decode cX8_sheet 64 = .ok (.iastore, 1) := by decide +kernel
theorem dX8_sheet_65 : decode cX8_sheet 65 = .ok (.iconst 0, 1) := by decide +kernel
theorem dX8_sheet_66 : decode cX8_sheet 66 = .ok (.istore 4, 2) := by decide +kernel
theorem dX8_sheet_68 : decode cX8_sheet 68 = .ok (.iload 4, 2) := by decide +kernel
theorem dX8_sheet_70 : decode cX8_sheet 70 = .ok (.bipush 40, 2) := by decide +kernel
theorem dX8_sheet_72 : decode cX8_sheet 72 = .ok (.if_icmp .ge 22, 3) := by decide +kernel
theorem dX8_sheet_75 : decode cX8_sheet 75 = .ok (.aload_n 0, 1) := by decide +kernel
theorem dX8_sheet_76 : decode cX8_sheet 76 = .ok (.getfield 58, 3) := by decide +kernel
theorem dX8_sheet_79 : decode cX8_sheet 79 = .ok (.bipush 40, 2) := by decide +kernel
theorem dX8_sheet_81 : decode cX8_sheet 81 = .ok (.iload_n 1, 1) := by decide +kernel
theorem dX8_sheet_82 : decode cX8_sheet 82 = .ok (.imul, 1) := by decide +kernel
theorem dX8_sheet_83 : decode cX8_sheet 83 = .ok (.iload 4, 2) := by decide +kernel
theorem dX8_sheet_85 : decode cX8_sheet 85 = .ok (.iadd, 1) := by decide +kernel
theorem dX8_sheet_86 : decode cX8_sheet 86 = .ok (.iconst 0, 1) := by decide +kernel
theorem dX8_sheet_87 : decode cX8_sheet 87 = .ok (.iastore, 1) := by decide +kernel
theorem dX8_sheet_88 : decode cX8_sheet 88 = .ok (.iinc 4 1, 3) := by decide +kernel
theorem dX8_sheet_91 : decode cX8_sheet 91 = .ok (.goto (-23), 3) := by decide +kernel
theorem dX8_sheet_94 : decode cX8_sheet 94 = .ok (.iconst 1, 1) := by decide +kernel
theorem dX8_sheet_95 : decode cX8_sheet 95 = .ok (.ireturn, 1) := by decide +kernel
theorem dX8_cell_0 : decode cX8_cell 0 = .ok (.iload_n 1, 1) := by decide +kernel
theorem dX8_cell_1 : decode cX8_cell 1 = .ok (.invokestatic 277, 3) := by decide +kernel
theorem dX8_cell_4 : decode cX8_cell 4 = .ok (.ifCond .ne 6, 3) := by decide +kernel
theorem dX8_cell_7 : decode cX8_cell 7 = .ok (.bipush (-2), 2) := by decide +kernel
theorem dX8_cell_9 : decode cX8_cell 9 = .ok (.ireturn, 1) := by decide +kernel
theorem dX8_cell_10 : decode cX8_cell 10 = .ok (.aload_n 0, 1) := by decide +kernel
theorem dX8_cell_11 : decode cX8_cell 11 = .ok (.getfield 52, 3) := by decide +kernel
theorem dX8_cell_14 : decode cX8_cell 14 = .ok (.iload_n 1, 1) := by decide +kernel
theorem dX8_cell_15 : decode cX8_cell 15 = .ok (.iaload, 1) := by decide +kernel
theorem dX8_cell_16 : decode cX8_cell 16 = .ok (.ifCond .ge 6, 3) := by decide +kernel
theorem dX8_cell_19 : decode cX8_cell 19 = .ok (.bipush (-11), 2) := by decide +kernel
theorem dX8_cell_21 : decode cX8_cell 21 = .ok (.ireturn, 1) := by decide +kernel
theorem dX8_cell_22 : decode cX8_cell 22 = .ok (.iload_n 2, 1) := by decide +kernel
theorem dX8_cell_23 : decode cX8_cell 23 = .ok (.iconst 0, 1) := by decide +kernel
theorem dX8_cell_24 : decode cX8_cell 24 = .ok (.aload_n 0, 1) := by decide +kernel
theorem dX8_cell_25 : decode cX8_cell 25 = .ok (.getfield 55, 3) := by decide +kernel
theorem dX8_cell_28 : decode cX8_cell 28 = .ok (.iload_n 1, 1) := by decide +kernel
theorem dX8_cell_29 : decode cX8_cell 29 = .ok (.iaload, 1) := by decide +kernel
theorem dX8_cell_30 : decode cX8_cell 30 = .ok (.iconst 1, 1) := by decide +kernel
theorem dX8_cell_31 : decode cX8_cell 31 = .ok (.isub, 1) := by decide +kernel
theorem dX8_cell_32 : decode cX8_cell 32 = .ok (.invokestatic 82, 3) := by decide +kernel
theorem dX8_cell_35 : decode cX8_cell 35 = .ok (.ifCond .ne 6, 3) := by decide +kernel
theorem dX8_cell_38 : decode cX8_cell 38 = .ok (.bipush (-12), 2) := by decide +kernel
theorem dX8_cell_40 : decode cX8_cell 40 = .ok (.ireturn, 1) := by decide +kernel
theorem dX8_cell_41 : decode cX8_cell 41 = .ok (.aload_n 0, 1) := by decide +kernel
theorem dX8_cell_42 : decode cX8_cell 42 = .ok (.getfield 58, 3) := by decide +kernel
theorem dX8_cell_45 : decode cX8_cell 45 = .ok (.bipush 40, 2) := by decide +kernel
theorem dX8_cell_47 : decode cX8_cell 47 = .ok (.iload_n 1, 1) := by decide +kernel
theorem dX8_cell_48 : decode cX8_cell 48 = .ok (.imul, 1) := by decide +kernel
theorem dX8_cell_49 : decode cX8_cell 49 = .ok (.iload_n 2, 1) := by decide +kernel
theorem dX8_cell_50 : decode cX8_cell 50 = .ok (.iadd, 1) := by decide +kernel
theorem dX8_cell_51 : decode cX8_cell 51 = .ok (.aload_n 0, 1) := by decide +kernel
theorem dX8_cell_52 : decode cX8_cell 52 = .ok (.getfield 52, 3) := by decide +kernel
theorem dX8_cell_55 : decode cX8_cell 55 = .ok (.iload_n 1, 1) := by decide +kernel
theorem dX8_cell_56 : decode cX8_cell 56 = .ok (.iaload, 1) := by decide +kernel
theorem dX8_cell_57 : decode cX8_cell 57 = .ok (.ifCond .ne 8, 3) := by decide +kernel
theorem dX8_cell_60 : decode cX8_cell 60 = .ok (.iload_n 3, 1) := by decide +kernel
theorem dX8_cell_61 : decode cX8_cell 61 = .ok (.i2b, 1) := by decide +kernel
theorem dX8_cell_62 : decode cX8_cell 62 = .ok (.goto 19, 3) := by decide +kernel
theorem dX8_cell_65 : decode cX8_cell 65 = .ok (.aload_n 0, 1) := by decide +kernel
theorem dX8_cell_66 : decode cX8_cell 66 = .ok (.getfield 52, 3) := by decide +kernel
theorem dX8_cell_69 : decode cX8_cell 69 = .ok (.iload_n 1, 1) := by decide +kernel
theorem dX8_cell_70 : decode cX8_cell 70 = .ok (.iaload, 1) := by decide +kernel
theorem dX8_cell_71 : decode cX8_cell 71 = .ok (.iconst 1, 1) := by decide +kernel
theorem dX8_cell_72 : decode cX8_cell 72 = .ok (.if_icmp .ne 8, 3) := by decide +kernel
theorem dX8_cell_75 : decode cX8_cell 75 = .ok (.iload_n 3, 1) := by decide +kernel
theorem dX8_cell_76 : decode cX8_cell 76 = .ok (.i2s, 1) := by decide +kernel
theorem dX8_cell_77 : decode cX8_cell 77 = .ok (.goto 4, 3) := by decide +kernel
theorem dX8_cell_80 : decode cX8_cell 80 = .ok (.iload_n 3, 1) := by decide +kernel
theorem dX8_cell_81 : decode cX8_cell 81 = .ok (.iastore, 1) := by decide +kernel
theorem dX8_cell_82 : decode cX8_cell 82 = .ok (.iconst 1, 1) := by decide +kernel
theorem dX8_cell_83 : decode cX8_cell 83 = .ok (.ireturn, 1) := by decide +kernel
theorem dX8_copy_0 : decode cX8_copy 0 = .ok (.iload_n 1, 1) := by decide +kernel
theorem dX8_copy_1 : decode cX8_copy 1 = .ok (.invokestatic 277, 3) := by decide +kernel
theorem dX8_copy_4 : decode cX8_copy 4 = .ok (.ifCond .eq 10, 3) := by decide +kernel
theorem dX8_copy_7 : decode cX8_copy 7 = .ok (.iload_n 3, 1) := by decide +kernel
theorem dX8_copy_8 : decode cX8_copy 8 = .ok (.invokestatic 277, 3) := by decide +kernel
theorem dX8_copy_11 : decode cX8_copy 11 = .ok (.ifCond .ne 6, 3) := by decide +kernel
theorem dX8_copy_14 : decode cX8_copy 14 = .ok (.bipush (-2), 2) := by decide +kernel
theorem dX8_copy_16 : decode cX8_copy 16 = .ok (.ireturn, 1) := by decide +kernel
theorem dX8_copy_17 : decode cX8_copy 17 = .ok (.aload_n 0, 1) := by decide +kernel
theorem dX8_copy_18 : decode cX8_copy 18 = .ok (.getfield 52, 3) := by decide +kernel
theorem dX8_copy_21 : decode cX8_copy 21 = .ok (.iload_n 1, 1) := by decide +kernel
theorem dX8_copy_22 : decode cX8_copy 22 = .ok (.iaload, 1) := by decide +kernel
theorem dX8_copy_23 : decode cX8_copy 23 = .ok (.ifCond .lt 12, 3) := by decide +kernel
theorem dX8_copy_26 : decode cX8_copy 26 = .ok (.aload_n 0, 1) := by decide +kernel
theorem dX8_copy_27 : decode cX8_copy 27 = .ok (.getfield 52, 3) := by decide +kernel
theorem dX8_copy_30 : decode cX8_copy 30 = .ok (.iload_n 3, 1) := by decide +kernel
theorem dX8_copy_31 : decode cX8_copy 31 = .ok (.iaload, 1) := by decide +kernel
theorem dX8_copy_32 : decode cX8_copy 32 = .ok (.ifCond .ge 6, 3) := by decide +kernel
theorem dX8_copy_35 : decode cX8_copy 35 = .ok (.bipush (-11), 2) := by decide +kernel
theorem dX8_copy_37 : decode cX8_copy 37 = .ok (.ireturn, 1) := by decide +kernel
theorem dX8_copy_38 : decode cX8_copy 38 = .ok (.aload_n 0, 1) := by decide +kernel
theorem dX8_copy_39 : decode cX8_copy 39 = .ok (.getfield 52, 3) := by decide +kernel
theorem dX8_copy_42 : decode cX8_copy 42 = .ok (.iload_n 1, 1) := by decide +kernel
theorem dX8_copy_43 : decode cX8_copy 43 = .ok (.iaload, 1) := by decide +kernel
theorem dX8_copy_44 : decode cX8_copy 44 = .ok (.aload_n 0, 1) := by decide +kernel
theorem dX8_copy_45 : decode cX8_copy 45 = .ok (.getfield 52, 3) := by decide +kernel
theorem dX8_copy_48 : decode cX8_copy 48 = .ok (.iload_n 3, 1) := by decide +kernel
theorem dX8_copy_49 : decode cX8_copy 49 = .ok (.iaload, 1) := by decide +kernel
theorem dX8_copy_50 : decode cX8_copy 50 = .ok (.if_icmp .eq 6, 3) := by decide +kernel
theorem dX8_copy_53 : decode cX8_copy 53 = .ok (.bipush (-13), 2) := by decide +kernel
theorem dX8_copy_55 : decode cX8_copy 55 = .ok (.ireturn, 1) := by decide +kernel
theorem dX8_copy_56 : decode cX8_copy 56 = .ok (.iload 5, 2) := by decide +kernel
theorem dX8_copy_58 : decode cX8_copy 58 = .ok (.ifCond .lt 47, 3) := by decide +kernel
theorem dX8_copy_61 : decode cX8_copy 61 = .ok (.iload_n 2, 1) := by decide +kernel
theorem dX8_copy_62 : decode cX8_copy 62 = .ok (.ifCond .lt 43, 3) := by decide +kernel
theorem dX8_copy_65 : decode cX8_copy 65 = .ok (.iload 4, 2) := by decide +kernel
theorem dX8_copy_67 : decode cX8_copy 67 = .ok (.ifCond .lt 38, 3) := by decide +kernel
theorem dX8_copy_70 : decode cX8_copy 70 = .ok (.iload_n 2, 1) := by decide +kernel
theorem dX8_copy_71 : decode cX8_copy 71 = .ok (.i2l, 1) := by decide +kernel
theorem dX8_copy_72 : decode cX8_copy 72 = .ok (.iload 5, 2) := by decide +kernel
theorem dX8_copy_74 : decode cX8_copy 74 = .ok (.i2l, 1) := by decide +kernel
theorem dX8_copy_75 : decode cX8_copy 75 = .ok (.ladd, 1) := by decide +kernel
theorem dX8_copy_76 : decode cX8_copy 76 = .ok (.aload_n 0, 1) := by decide +kernel
theorem dX8_copy_77 : decode cX8_copy 77 = .ok (.getfield 55, 3) := by decide +kernel
theorem dX8_copy_80 : decode cX8_copy 80 = .ok (.iload_n 1, 1) := by decide +kernel
theorem dX8_copy_81 : decode cX8_copy 81 = .ok (.iaload, 1) := by decide +kernel
theorem dX8_copy_82 : decode cX8_copy 82 = .ok (.i2l, 1) := by decide +kernel
theorem dX8_copy_83 : decode cX8_copy 83 = .ok (.lcmp, 1) := by decide +kernel
theorem dX8_copy_84 : decode cX8_copy 84 = .ok (.ifCond .gt 21, 3) := by decide +kernel
theorem dX8_copy_87 : decode cX8_copy 87 = .ok (.iload 4, 2) := by decide +kernel
theorem dX8_copy_89 : decode cX8_copy 89 = .ok (.i2l, 1) := by decide +kernel
theorem dX8_copy_90 : decode cX8_copy 90 = .ok (.iload 5, 2) := by decide +kernel
theorem dX8_copy_92 : decode cX8_copy 92 = .ok (.i2l, 1) := by decide +kernel
theorem dX8_copy_93 : decode cX8_copy 93 = .ok (.ladd, 1) := by decide +kernel
theorem dX8_copy_94 : decode cX8_copy 94 = .ok (.aload_n 0, 1) := by decide +kernel
theorem dX8_copy_95 : decode cX8_copy 95 = .ok (.getfield 55, 3) := by decide +kernel
theorem dX8_copy_98 : decode cX8_copy 98 = .ok (.iload_n 3, 1) := by decide +kernel
theorem dX8_copy_99 : decode cX8_copy 99 = .ok (.iaload, 1) := by decide +kernel
theorem dX8_copy_100 : decode cX8_copy 100 = .ok (.i2l, 1) := by decide +kernel
theorem dX8_copy_101 : decode cX8_copy 101 = .ok (.lcmp, 1) := by decide +kernel
theorem dX8_copy_102 : decode cX8_copy 102 = .ok (.ifCond .le 6, 3) := by decide +kernel
theorem dX8_copy_105 : decode cX8_copy 105 = .ok (.bipush (-12), 2) := by decide +kernel
theorem dX8_copy_107 : decode cX8_copy 107 = .ok (.ireturn, 1) := by decide +kernel
theorem dX8_copy_108 : decode cX8_copy 108 = .ok (.iload_n 1, 1) := by decide +kernel
theorem dX8_copy_109 : decode cX8_copy 109 = .ok (.iload_n 3, 1) := by decide +kernel
theorem dX8_copy_110 : decode cX8_copy 110 = .ok (.if_icmp .ne 58, 3) := by decide +kernel
theorem dX8_copy_113 : decode cX8_copy 113 = .ok (.iload_n 2, 1) := by decide +kernel
theorem dX8_copy_114 : decode cX8_copy 114 = .ok (.iload 4, 2) := by decide +kernel
theorem dX8_copy_116 : decode cX8_copy 116 = .ok (.if_icmp .ge 52, 3) := by decide +kernel
theorem dX8_copy_119 : decode cX8_copy 119 = .ok (.iload 5, 2) := by decide +kernel
theorem dX8_copy_121 : decode cX8_copy 121 = .ok (.iconst 1, 1) := by decide +kernel
theorem dX8_copy_122 : decode cX8_copy 122 = .ok (.isub, 1) := by decide +kernel
theorem dX8_copy_123 : decode cX8_copy 123 = .ok (.istore 6, 2) := by decide +kernel
theorem dX8_copy_125 : decode cX8_copy 125 = .ok (.iload 6, 2) := by decide +kernel
theorem dX8_copy_127 : decode cX8_copy 127 = .ok (.ifCond .lt 38, 3) := by decide +kernel
theorem dX8_copy_130 : decode cX8_copy 130 = .ok (.aload_n 0, 1) := by decide +kernel
theorem dX8_copy_131 : decode cX8_copy 131 = .ok (.getfield 58, 3) := by decide +kernel
theorem dX8_copy_134 : decode cX8_copy 134 = .ok (.bipush 40, 2) := by decide +kernel
theorem dX8_copy_136 : decode cX8_copy 136 = .ok (.iload_n 3, 1) := by decide +kernel
theorem dX8_copy_137 : decode cX8_copy 137 = .ok (.imul, 1) := by decide +kernel
theorem dX8_copy_138 : decode cX8_copy 138 = .ok (.iload 4, 2) := by decide +kernel
theorem dX8_copy_140 : decode cX8_copy 140 = .ok (.iadd, 1) := by decide +kernel
theorem dX8_copy_141 : decode cX8_copy 141 = .ok (.iload 6, 2) := by decide +kernel
theorem dX8_copy_143 : decode cX8_copy 143 = .ok (.iadd, 1) := by decide +kernel
theorem dX8_copy_144 : decode cX8_copy 144 = .ok (.aload_n 0, 1) := by decide +kernel
theorem dX8_copy_145 : decode cX8_copy 145 = .ok (.getfield 58, 3) := by decide +kernel
theorem dX8_copy_148 : decode cX8_copy 148 = .ok (.bipush 40, 2) := by decide +kernel
theorem dX8_copy_150 : decode cX8_copy 150 = .ok (.iload_n 1, 1) := by decide +kernel
theorem dX8_copy_151 : decode cX8_copy 151 = .ok (.imul, 1) := by decide +kernel
theorem dX8_copy_152 : decode cX8_copy 152 = .ok (.iload_n 2, 1) := by decide +kernel
theorem dX8_copy_153 : decode cX8_copy 153 = .ok (.iadd, 1) := by decide +kernel
theorem dX8_copy_154 : decode cX8_copy 154 = .ok (.iload 6, 2) := by decide +kernel
theorem dX8_copy_156 : decode cX8_copy 156 = .ok (.iadd, 1) := by decide +kernel
theorem dX8_copy_157 : decode cX8_copy 157 = .ok (.iaload, 1) := by decide +kernel
theorem dX8_copy_158 : decode cX8_copy 158 = .ok (.iastore, 1) := by decide +kernel
theorem dX8_copy_159 : decode cX8_copy 159 = .ok (.iinc 6 (-1), 3) := by decide +kernel
theorem dX8_copy_162 : decode cX8_copy 162 = .ok (.goto (-37), 3) := by decide +kernel
theorem dX8_copy_165 : decode cX8_copy 165 = .ok (.goto 48, 3) := by decide +kernel
theorem dX8_copy_168 : decode cX8_copy 168 = .ok (.iconst 0, 1) := by decide +kernel
theorem dX8_copy_169 : decode cX8_copy 169 = .ok (.istore 6, 2) := by decide +kernel
theorem dX8_copy_171 : decode cX8_copy 171 = .ok (.iload 6, 2) := by decide +kernel
theorem dX8_copy_173 : decode cX8_copy 173 = .ok (.iload 5, 2) := by decide +kernel
theorem dX8_copy_175 : decode cX8_copy 175 = .ok (.if_icmp .ge 38, 3) := by decide +kernel
theorem dX8_copy_178 : decode cX8_copy 178 = .ok (.aload_n 0, 1) := by decide +kernel
theorem dX8_copy_179 : decode cX8_copy 179 = .ok (.getfield 58, 3) := by decide +kernel
theorem dX8_copy_182 : decode cX8_copy 182 = .ok (.bipush 40, 2) := by decide +kernel
theorem dX8_copy_184 : decode cX8_copy 184 = .ok (.iload_n 3, 1) := by decide +kernel
theorem dX8_copy_185 : decode cX8_copy 185 = .ok (.imul, 1) := by decide +kernel
theorem dX8_copy_186 : decode cX8_copy 186 = .ok (.iload 4, 2) := by decide +kernel
theorem dX8_copy_188 : decode cX8_copy 188 = .ok (.iadd, 1) := by decide +kernel
theorem dX8_copy_189 : decode cX8_copy 189 = .ok (.iload 6, 2) := by decide +kernel
theorem dX8_copy_191 : decode cX8_copy 191 = .ok (.iadd, 1) := by decide +kernel
theorem dX8_copy_192 : decode cX8_copy 192 = .ok (.aload_n 0, 1) := by decide +kernel
theorem dX8_copy_193 : decode cX8_copy 193 = .ok (.getfield 58, 3) := by decide +kernel
theorem dX8_copy_196 : decode cX8_copy 196 = .ok (.bipush 40, 2) := by decide +kernel
theorem dX8_copy_198 : decode cX8_copy 198 = .ok (.iload_n 1, 1) := by decide +kernel
theorem dX8_copy_199 : decode cX8_copy 199 = .ok (.imul, 1) := by decide +kernel
theorem dX8_copy_200 : decode cX8_copy 200 = .ok (.iload_n 2, 1) := by decide +kernel
theorem dX8_copy_201 : decode cX8_copy 201 = .ok (.iadd, 1) := by decide +kernel
theorem dX8_copy_202 : decode cX8_copy 202 = .ok (.iload 6, 2) := by decide +kernel
theorem dX8_copy_204 : decode cX8_copy 204 = .ok (.iadd, 1) := by decide +kernel
theorem dX8_copy_205 : decode cX8_copy 205 = .ok (.iaload, 1) := by decide +kernel
theorem dX8_copy_206 : decode cX8_copy 206 = .ok (.iastore, 1) := by decide +kernel
theorem dX8_copy_207 : decode cX8_copy 207 = .ok (.iinc 6 1, 3) := by decide +kernel
theorem dX8_copy_210 : decode cX8_copy 210 = .ok (.goto (-39), 3) := by decide +kernel
theorem dX8_copy_213 : decode cX8_copy 213 = .ok (.iload 5, 2) := by decide +kernel
theorem dX8_copy_215 : decode cX8_copy 215 = .ok (.ireturn, 1) := by decide +kernel
theorem dX8_forts_0 : decode cX8_forts 0 = .ok (.iload_n 1, 1) := by decide +kernel
theorem dX8_forts_1 : decode cX8_forts 1 = .ok (.invokestatic 277, 3) := by decide +kernel
theorem dX8_forts_4 : decode cX8_forts 4 = .ok (.ifCond .eq 23, 3) := by decide +kernel
theorem dX8_forts_7 : decode cX8_forts 7 = .ok (.iload_n 2, 1) := by decide +kernel
theorem dX8_forts_8 : decode cX8_forts 8 = .ok (.iconst 0, 1) := by decide +kernel
theorem dX8_forts_9 : decode cX8_forts 9 = .ok (.iconst 2, 1) := by decide +kernel
theorem dX8_forts_10 : decode cX8_forts 10 = .ok (.invokestatic 82, 3) := by decide +kernel
theorem dX8_forts_13 : decode cX8_forts 13 = .ok (.ifCond .eq 14, 3) := by decide +kernel
theorem dX8_forts_16 : decode cX8_forts 16 = .ok (.iload 4, 2) := by decide +kernel
theorem dX8_forts_18 : decode cX8_forts 18 = .ok (.iconst 0, 1) := by decide +kernel
theorem dX8_forts_19 : decode cX8_forts 19 = .ok (.bipush 8, 2) := by decide +kernel
theorem dX8_forts_21 : decode cX8_forts 21 = .ok (.invokestatic 82, 3) := by decide +kernel
theorem dX8_forts_24 : decode cX8_forts 24 = .ok (.ifCond .ne 6, 3) := by decide +kernel
theorem dX8_forts_27 : decode cX8_forts 27 = .ok (.bipush (-2), 2) := by decide +kernel
theorem dX8_forts_29 : decode cX8_forts 29 = .ok (.ireturn, 1) := by decide +kernel
theorem dX8_forts_30 : decode cX8_forts 30 = .ok (.aload_n 0, 1) := by decide +kernel
theorem dX8_forts_31 : decode cX8_forts 31 = .ok (.getfield 52, 3) := by decide +kernel
theorem dX8_forts_34 : decode cX8_forts 34 = .ok (.iload_n 1, 1) := by decide +kernel
theorem dX8_forts_35 : decode cX8_forts 35 = .ok (.iaload, 1) := by decide +kernel
theorem dX8_forts_36 : decode cX8_forts 36 = .ok (.ifCond .ge 6, 3) := by decide +kernel
theorem dX8_forts_39 : decode cX8_forts 39 = .ok (.bipush (-11), 2) := by decide +kernel
theorem dX8_forts_41 : decode cX8_forts 41 = .ok (.ireturn, 1) := by decide +kernel
theorem dX8_forts_42 : decode cX8_forts 42 = .ok (.aload_n 0, 1) := by decide +kernel
theorem dX8_forts_43 : decode cX8_forts 43 = .ok (.getfield 52, 3) := by decide +kernel
theorem dX8_forts_46 : decode cX8_forts 46 = .ok (.iload_n 1, 1) := by decide +kernel
theorem dX8_forts_47 : decode cX8_forts 47 = .ok (.iaload, 1) := by decide +kernel
theorem dX8_forts_48 : decode cX8_forts 48 = .ok (.iload_n 2, 1) := by decide +kernel
theorem dX8_forts_49 : decode cX8_forts 49 = .ok (.if_icmp .eq 6, 3) := by decide +kernel
theorem dX8_forts_52 : decode cX8_forts 52 = .ok (.bipush (-13), 2) := by decide +kernel
theorem dX8_forts_54 : decode cX8_forts 54 = .ok (.ireturn, 1) := by decide +kernel
theorem dX8_forts_55 : decode cX8_forts 55 = .ok (.iconst 0, 1) := by decide +kernel
theorem dX8_forts_56 : decode cX8_forts 56 = .ok (.istore 5, 2) := by decide +kernel
theorem dX8_forts_58 : decode cX8_forts 58 = .ok (.iconst 0, 1) := by decide +kernel
theorem dX8_forts_59 : decode cX8_forts 59 = .ok (.istore 6, 2) := by decide +kernel
theorem dX8_forts_61 : decode cX8_forts 61 = .ok (.iload 6, 2) := by decide +kernel
theorem dX8_forts_63 : decode cX8_forts 63 = .ok (.iload 4, 2) := by decide +kernel
theorem dX8_forts_65 : decode cX8_forts 65 = .ok (.if_icmp .ge 93, 3) := by decide +kernel
theorem dX8_forts_68 : decode cX8_forts 68 = .ok (.iload_n 3, 1) := by decide +kernel
theorem dX8_forts_69 : decode cX8_forts 69 = .ok (.i2l, 1) := by decide +kernel
theorem dX8_forts_70 : decode cX8_forts 70 = .ok (.ldc2_w 324, 3) := by decide +kernel
theorem dX8_forts_73 : decode cX8_forts 73 = .ok (.iload 6, 2) := by decide +kernel
theorem dX8_forts_75 : decode cX8_forts 75 = .ok (.i2l, 1) := by decide +kernel
theorem dX8_forts_76 : decode cX8_forts 76 = .ok (.lmul, 1) := by decide +kernel
theorem dX8_forts_77 : decode cX8_forts 77 = .ok (.ladd, 1) := by decide +kernel
theorem dX8_forts_78 : decode cX8_forts 78 = .ok (.lstore 7, 2) := by decide +kernel
theorem dX8_forts_80 : decode cX8_forts 80 = .ok (.lload 7, 2) := by decide +kernel
theorem dX8_forts_82 : decode cX8_forts 82 = .ok (.lconst 0, 1) := by decide +kernel
theorem dX8_forts_83 : decode cX8_forts 83 = .ok (.lcmp, 1) := by decide +kernel
theorem dX8_forts_84 : decode cX8_forts 84 = .ok (.ifCond .lt 20, 3) := by decide +kernel
theorem dX8_forts_87 : decode cX8_forts 87 = .ok (.lload 7, 2) := by decide +kernel
theorem dX8_forts_89 : decode cX8_forts 89 = .ok (.ldc2_w 326, 3) := by decide +kernel
theorem dX8_forts_92 : decode cX8_forts 92 = .ok (.ladd, 1) := by decide +kernel
theorem dX8_forts_93 : decode cX8_forts 93 = .ok (.aload_n 0, 1) := by decide +kernel
theorem dX8_forts_94 : decode cX8_forts 94 = .ok (.getfield 55, 3) := by decide +kernel
theorem dX8_forts_97 : decode cX8_forts 97 = .ok (.iload_n 1, 1) := by decide +kernel
theorem dX8_forts_98 : decode cX8_forts 98 = .ok (.iaload, 1) := by decide +kernel
theorem dX8_forts_99 : decode cX8_forts 99 = .ok (.i2l, 1) := by decide +kernel
theorem dX8_forts_100 : decode cX8_forts 100 = .ok (.lcmp, 1) := by decide +kernel
theorem dX8_forts_101 : decode cX8_forts 101 = .ok (.ifCond .lt 6, 3) := by decide +kernel
theorem dX8_forts_104 : decode cX8_forts 104 = .ok (.bipush (-12), 2) := by decide +kernel
theorem dX8_forts_106 : decode cX8_forts 106 = .ok (.ireturn, 1) := by decide +kernel
theorem dX8_forts_107 : decode cX8_forts 107 = .ok (.bipush 40, 2) := by decide +kernel
theorem dX8_forts_109 : decode cX8_forts 109 = .ok (.iload_n 1, 1) := by decide +kernel
theorem dX8_forts_110 : decode cX8_forts 110 = .ok (.imul, 1) := by decide +kernel
theorem dX8_forts_111 : decode cX8_forts 111 = .ok (.lload 7, 2) := by decide +kernel
theorem dX8_forts_113 : decode cX8_forts 113 = .ok (.l2i, 1) := by decide +kernel
theorem dX8_forts_114 : decode cX8_forts 114 = .ok (.iadd, 1) := by decide +kernel
theorem dX8_forts_115 : decode cX8_forts 115 = .ok (.istore 9, 2) := by decide +kernel
theorem dX8_forts_117 : decode cX8_forts 117 = .ok (.aload_n 0, 1) := by decide +kernel
theorem dX8_forts_118 : decode cX8_forts 118 = .ok (.aload_n 0, 1) := by decide +kernel
theorem dX8_forts_119 : decode cX8_forts 119 = .ok (.getfield 58, 3) := by decide +kernel
theorem dX8_forts_122 : decode cX8_forts 122 = .ok (.iload 9, 2) := by decide +kernel
theorem dX8_forts_124 : decode cX8_forts 124 = .ok (.iaload, 1) := by decide +kernel
theorem dX8_forts_125 : decode cX8_forts 125 = .ok (.aload_n 0, 1) := by decide +kernel
theorem dX8_forts_126 : decode cX8_forts 126 = .ok (.getfield 58, 3) := by decide +kernel
theorem dX8_forts_129 : decode cX8_forts 129 = .ok (.iload 9, 2) := by decide +kernel
theorem dX8_forts_131 : decode cX8_forts 131 = .ok (.iconst 1, 1) := by decide +kernel
theorem dX8_forts_132 : decode cX8_forts 132 = .ok (.iadd, 1) := by decide +kernel
theorem dX8_forts_133 : decode cX8_forts 133 = .ok (.iaload, 1) := by decide +kernel
theorem dX8_forts_134 : decode cX8_forts 134 = .ok (.aload_n 0, 1) := by decide +kernel
theorem dX8_forts_135 : decode cX8_forts 135 = .ok (.getfield 58, 3) := by decide +kernel
theorem dX8_forts_138 : decode cX8_forts 138 = .ok (.iload 9, 2) := by decide +kernel
theorem dX8_forts_140 : decode cX8_forts 140 = .ok (.iconst 2, 1) := by decide +kernel
theorem dX8_forts_141 : decode cX8_forts 141 = .ok (.iadd, 1) := by decide +kernel
theorem dX8_forts_142 : decode cX8_forts 142 = .ok (.iaload, 1) := by decide +kernel
theorem dX8_forts_143 : decode cX8_forts 143 = .ok (.invokevirtual 328, 3) := by decide +kernel
theorem dX8_forts_146 : decode cX8_forts 146 = .ok (.ifCond .lt 6, 3) := by decide +kernel
theorem dX8_forts_149 : decode cX8_forts 149 = .ok (.iinc 5 1, 3) := by decide +kernel
theorem dX8_forts_152 : decode cX8_forts 152 = .ok (.iinc 6 1, 3) := by decide +kernel
theorem dX8_forts_155 : decode cX8_forts 155 = .ok (.goto (-94), 3) := by decide +kernel
theorem dX8_forts_158 : decode cX8_forts 158 = .ok (.iload 5, 2) := by decide +kernel
theorem dX8_forts_160 : decode cX8_forts 160 = .ok (.ireturn, 1) := by decide +kernel
theorem dX8_taken_0 : decode cX8_taken 0 = .ok (.iload_n 2, 1) := by decide +kernel
theorem dX8_taken_1 : decode cX8_taken 1 = .ok (.iconst 0, 1) := by decide +kernel
theorem dX8_taken_2 : decode cX8_taken 2 = .ok (.iconst 5, 1) := by decide +kernel
theorem dX8_taken_3 : decode cX8_taken 3 = .ok (.invokestatic 82, 3) := by decide +kernel
theorem dX8_taken_6 : decode cX8_taken 6 = .ok (.ifCond .ne 6, 3) := by decide +kernel
theorem dX8_taken_9 : decode cX8_taken 9 = .ok (.bipush (-2), 2) := by decide +kernel
theorem dX8_taken_11 : decode cX8_taken 11 = .ok (.ireturn, 1) := by decide +kernel
theorem dX8_taken_12 : decode cX8_taken 12 = .ok (.aload_n 0, 1) := by decide +kernel
theorem dX8_taken_13 : decode cX8_taken 13 = .ok (.iload_n 1, 1) := by decide +kernel
theorem dX8_taken_14 : decode cX8_taken 14 = .ok (.invokevirtual 102, 3) := by decide +kernel
theorem dX8_taken_17 : decode cX8_taken 17 = .ok (.ifCond .ne 6, 3) := by decide +kernel
theorem dX8_taken_20 : decode cX8_taken 20 = .ok (.bipush (-11), 2) := by decide +kernel
theorem dX8_taken_22 : decode cX8_taken 22 = .ok (.ireturn, 1) := by decide +kernel
theorem dX8_taken_23 : decode cX8_taken 23 = .ok (.aload_n 0, 1) := by decide +kernel
theorem dX8_taken_24 : decode cX8_taken 24 = .ok (.getfield 7, 3) := by decide +kernel
theorem dX8_taken_27 : decode cX8_taken 27 = .ok (.iload_n 1, 1) := by decide +kernel
theorem dX8_taken_28 : decode cX8_taken 28 = .ok (.iaload, 1) := by decide +kernel
theorem dX8_taken_29 : decode cX8_taken 29 = .ok (.istore_n 3, 1) := by decide +kernel
theorem dX8_taken_30 : decode cX8_taken 30 = .ok (.iload_n 3, 1) := by decide +kernel
theorem dX8_taken_31 : decode cX8_taken 31 = .ok (.iload_n 2, 1) := by decide +kernel
theorem dX8_taken_32 : decode cX8_taken 32 = .ok (.if_icmp .eq 30, 3) := by decide +kernel
theorem dX8_taken_35 : decode cX8_taken 35 = .ok (.iload_n 3, 1) := by decide +kernel
theorem dX8_taken_36 : decode cX8_taken 36 = .ok (.ifCond .le 26, 3) := by decide +kernel
theorem dX8_taken_39 : decode cX8_taken 39 = .ok (.iload_n 3, 1) := by decide +kernel
theorem dX8_taken_40 : decode cX8_taken 40 = .ok (.iconst 3, 1) := by decide +kernel
theorem dX8_taken_41 : decode cX8_taken 41 = .ok (.if_icmp .ne 7, 3) := by decide +kernel
theorem dX8_taken_44 : decode cX8_taken 44 = .ok (.iconst 1, 1) := by decide +kernel
theorem dX8_taken_45 : decode cX8_taken 45 = .ok (.goto 13, 3) := by decide +kernel
theorem dX8_taken_48 : decode cX8_taken 48 = .ok (.iload_n 3, 1) := by decide +kernel
theorem dX8_taken_49 : decode cX8_taken 49 = .ok (.iconst 4, 1) := by decide +kernel
theorem dX8_taken_50 : decode cX8_taken 50 = .ok (.if_icmp .ne 7, 3) := by decide +kernel
theorem dX8_taken_53 : decode cX8_taken 53 = .ok (.iconst 2, 1) := by decide +kernel
theorem dX8_taken_54 : decode cX8_taken 54 = .ok (.goto 4, 3) := by decide +kernel
theorem dX8_taken_57 : decode cX8_taken 57 = .ok (.iconst 0, 1) := by decide +kernel
theorem dX8_taken_58 : decode cX8_taken 58 = .ok (.istore_n 3, 1) := by decide +kernel
theorem dX8_taken_59 : decode cX8_taken 59 = .ok (.goto (-29), 3) := by decide +kernel
theorem dX8_taken_62 : decode cX8_taken 62 = .ok (.iload_n 3, 1) := by decide +kernel
theorem dX8_taken_63 : decode cX8_taken 63 = .ok (.iload_n 2, 1) := by decide +kernel
theorem dX8_taken_64 : decode cX8_taken 64 = .ok (.if_icmp .ne 12, 3) := by decide +kernel
theorem dX8_taken_67 : decode cX8_taken 67 = .ok (.aload_n 0, 1) := by decide +kernel
theorem dX8_taken_68 : decode cX8_taken 68 = .ok (.getfield 13, 3) := by decide +kernel
theorem dX8_taken_71 : decode cX8_taken 71 = .ok (.iload_n 1, 1) := by decide +kernel
theorem dX8_taken_72 : decode cX8_taken 72 = .ok (.iaload, 1) := by decide +kernel
theorem dX8_taken_73 : decode cX8_taken 73 = .ok (.goto 5, 3) := by decide +kernel
theorem dX8_taken_76 : decode cX8_taken 76 = .ok (.bipush (-13), 2) := by decide +kernel
theorem dX8_taken_78 : decode cX8_taken 78 = .ok (.ireturn, 1) := by decide +kernel
