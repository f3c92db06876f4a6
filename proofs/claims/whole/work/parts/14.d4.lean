theorem d_Mo_ahead_28 : decode M_Mo_ahead.2.1 28 = .ok (.getfield 144, 3) := by decide +kernel
theorem d_Mo_ahead_31 : decode M_Mo_ahead.2.1 31 = .ok (.iconst 1, 1) := by decide +kernel
theorem d_Mo_ahead_32 : decode M_Mo_ahead.2.1 32 = .ok (.iadd, 1) := by decide +kernel
theorem d_Mo_ahead_33 : decode M_Mo_ahead.2.1 33 = .ok (.putfield 144, 3) := by decide +kernel
theorem d_Mo_ahead_36 : decode M_Mo_ahead.2.1 36 = .ok (.goto (-36), 3) := by decide +kernel
theorem d_Mo_ahead_39 : decode M_Mo_ahead.2.1 39 = .ok (.aload_n 0, 1) := by decide +kernel
theorem d_Mo_ahead_40 : decode M_Mo_ahead.2.1 40 = .ok (.aload_n 0, 1) := by decide +kernel
theorem d_Mo_ahead_41 : decode M_Mo_ahead.2.1 41 = .ok (.getfield 144, 3) := by decide +kernel
theorem d_Mo_ahead_44 : decode M_Mo_ahead.2.1 44 = .ok (.putfield 150, 3) := by decide +kernel
theorem d_Mo_ahead_47 : decode M_Mo_ahead.2.1 47 = .ok (.aload_n 0, 1) := by decide +kernel
theorem d_Mo_ahead_48 : decode M_Mo_ahead.2.1 48 = .ok (.aload_n 0, 1) := by decide +kernel
theorem d_Mo_ahead_49 : decode M_Mo_ahead.2.1 49 = .ok (.getfield 144, 3) := by decide +kernel
theorem d_Mo_ahead_52 : decode M_Mo_ahead.2.1 52 = .ok (.invokevirtual 147, 3) := by decide +kernel
theorem d_Mo_ahead_55 : decode M_Mo_ahead.2.1 55 = .ok (.istore_n 1, 1) := by decide +kernel
theorem d_Mo_ahead_56 : decode M_Mo_ahead.2.1 56 = .ok (.aload_n 0, 1) := by decide +kernel
theorem d_Mo_ahead_57 : decode M_Mo_ahead.2.1 57 = .ok (.iload_n 1, 1) := by decide +kernel
theorem d_Mo_ahead_58 : decode M_Mo_ahead.2.1 58 = .ok (.putfield 153, 3) := by decide +kernel
theorem d_Mo_ahead_61 : decode M_Mo_ahead.2.1 61 = .ok (.iload_n 1, 1) := by decide +kernel
theorem d_Mo_ahead_62 : decode M_Mo_ahead.2.1 62 = .ok (.iconst (-1), 1) := by decide +kernel
theorem d_Mo_ahead_63 : decode M_Mo_ahead.2.1 63 = .ok (.if_icmp .ne 11, 3) := by decide +kernel
theorem d_Mo_ahead_66 : decode M_Mo_ahead.2.1 66 = .ok (.aload_n 0, 1) := by decide +kernel
theorem d_Mo_ahead_67 : decode M_Mo_ahead.2.1 67 = .ok (.iconst 0, 1) := by decide +kernel
theorem d_Mo_ahead_68 : decode M_Mo_ahead.2.1 68 = .ok (.putfield 156, 3) := by decide +kernel
theorem d_Mo_ahead_71 : decode M_Mo_ahead.2.1 71 = .ok (.goto 180, 3) := by decide +kernel
theorem d_Mo_ahead_74 : decode M_Mo_ahead.2.1 74 = .ok (.iload_n 1, 1) := by decide +kernel
theorem d_Mo_ahead_75 : decode M_Mo_ahead.2.1 75 = .ok (.invokestatic 159, 3) := by decide +kernel
theorem d_Mo_ahead_78 : decode M_Mo_ahead.2.1 78 = .ok (.ifCond .eq 38, 3) := by decide +kernel
theorem d_Mo_ahead_81 : decode M_Mo_ahead.2.1 81 = .ok (.aload_n 0, 1) := by decide +kernel
theorem d_Mo_ahead_82 : decode M_Mo_ahead.2.1 82 = .ok (.aload_n 0, 1) := by decide +kernel
theorem d_Mo_ahead_83 : decode M_Mo_ahead.2.1 83 = .ok (.getfield 144, 3) := by decide +kernel
theorem d_Mo_ahead_86 : decode M_Mo_ahead.2.1 86 = .ok (.invokevirtual 147, 3) := by decide +kernel
theorem d_Mo_ahead_89 : decode M_Mo_ahead.2.1 89 = .ok (.invokestatic 159, 3) := by decide +kernel
theorem d_Mo_ahead_92 : decode M_Mo_ahead.2.1 92 = .ok (.ifCond .eq 16, 3) := by decide +kernel
theorem d_Mo_ahead_95 : decode M_Mo_ahead.2.1 95 = .ok (.aload_n 0, 1) := by decide +kernel
theorem d_Mo_ahead_96 : decode M_Mo_ahead.2.1 96 = .ok (.dup, 1) := by decide +kernel
theorem d_Mo_ahead_97 : decode M_Mo_ahead.2.1 97 = .ok (.getfield 144, 3) := by decide +kernel
theorem d_Mo_ahead_100 : decode M_Mo_ahead.2.1 100 = .ok (.iconst 1, 1) := by decide +kernel
theorem d_Mo_ahead_101 : decode M_Mo_ahead.2.1 101 = .ok (.iadd, 1) := by decide +kernel
theorem d_Mo_ahead_102 : decode M_Mo_ahead.2.1 102 = .ok (.putfield 144, 3) := by decide +kernel
theorem d_Mo_ahead_105 : decode M_Mo_ahead.2.1 105 = .ok (.goto (-24), 3) := by decide +kernel
theorem d_Mo_ahead_108 : decode M_Mo_ahead.2.1 108 = .ok (.aload_n 0, 1) := by decide +kernel
theorem d_Mo_ahead_109 : decode M_Mo_ahead.2.1 109 = .ok (.iconst 2, 1) := by decide +kernel
theorem d_Mo_ahead_110 : decode M_Mo_ahead.2.1 110 = .ok (.putfield 156, 3) := by decide +kernel
theorem d_Mo_ahead_113 : decode M_Mo_ahead.2.1 113 = .ok (.goto 138, 3) := by decide +kernel
theorem d_Mo_ahead_116 : decode M_Mo_ahead.2.1 116 = .ok (.iload_n 1, 1) := by decide +kernel
theorem d_Mo_ahead_117 : decode M_Mo_ahead.2.1 117 = .ok (.invokestatic 162, 3) := by decide +kernel
theorem d_Mo_ahead_120 : decode M_Mo_ahead.2.1 120 = .ok (.ifCond .eq 88, 3) := by decide +kernel
theorem d_Mo_ahead_123 : decode M_Mo_ahead.2.1 123 = .ok (.aload_n 0, 1) := by decide +kernel
theorem d_Mo_ahead_124 : decode M_Mo_ahead.2.1 124 = .ok (.iconst 0, 1) := by decide +kernel
theorem d_Mo_ahead_125 : decode M_Mo_ahead.2.1 125 = .ok (.putfield 153, 3) := by decide +kernel
theorem d_Mo_ahead_128 : decode M_Mo_ahead.2.1 128 = .ok (.aload_n 0, 1) := by decide +kernel
theorem d_Mo_ahead_129 : decode M_Mo_ahead.2.1 129 = .ok (.aload_n 0, 1) := by decide +kernel
theorem d_Mo_ahead_130 : decode M_Mo_ahead.2.1 130 = .ok (.getfield 144, 3) := by decide +kernel
theorem d_Mo_ahead_133 : decode M_Mo_ahead.2.1 133 = .ok (.invokevirtual 147, 3) := by decide +kernel
theorem d_Mo_ahead_136 : decode M_Mo_ahead.2.1 136 = .ok (.invokestatic 162, 3) := by decide +kernel
theorem d_Mo_ahead_139 : decode M_Mo_ahead.2.1 139 = .ok (.ifCond .eq 44, 3) := by decide +kernel
theorem d_Mo_ahead_142 : decode M_Mo_ahead.2.1 142 = .ok (.aload_n 0, 1) := by decide +kernel
theorem d_Mo_ahead_143 : decode M_Mo_ahead.2.1 143 = .ok (.ldc 165, 2) := by decide +kernel
theorem d_Mo_ahead_145 : decode M_Mo_ahead.2.1 145 = .ok (.bipush 10, 2) := by decide +kernel
theorem d_Mo_ahead_147 : decode M_Mo_ahead.2.1 147 = .ok (.aload_n 0, 1) := by decide +kernel
theorem d_Mo_ahead_148 : decode M_Mo_ahead.2.1 148 = .ok (.getfield 153, 3) := by decide +kernel
theorem d_Mo_ahead_151 : decode M_Mo_ahead.2.1 151 = .ok (.imul, 1) := by decide +kernel
theorem d_Mo_ahead_152 : decode M_Mo_ahead.2.1 152 = .ok (.aload_n 0, 1) := by decide +kernel
theorem d_Mo_ahead_153 : decode M_Mo_ahead.2.1 153 = .ok (.aload_n 0, 1) := by decide +kernel
theorem d_Mo_ahead_154 : decode M_Mo_ahead.2.1 154 = .ok (.getfield 144, 3) := by decide +kernel
theorem d_Mo_ahead_157 : decode M_Mo_ahead.2.1 157 = .ok (.invokevirtual 147, 3) := by decide +kernel
theorem d_Mo_ahead_160 : decode M_Mo_ahead.2.1 160 = .ok (.iadd, 1) := by decide +kernel
theorem d_Mo_ahead_161 : decode M_Mo_ahead.2.1 161 = .ok (.bipush 48, 2) := by decide +kernel
theorem d_Mo_ahead_163 : decode M_Mo_ahead.2.1 163 = .ok (.isub, 1) := by decide +kernel
theorem d_Mo_ahead_164 : decode M_Mo_ahead.2.1 164 = .ok (.invokestatic 166, 3) := by decide +kernel
theorem d_Mo_ahead_167 : decode M_Mo_ahead.2.1 167 = .ok (.putfield 153, 3) := by decide +kernel
theorem d_Mo_ahead_170 : decode M_Mo_ahead.2.1 170 = .ok (.aload_n 0, 1) := by decide +kernel
theorem d_Mo_ahead_171 : decode M_Mo_ahead.2.1 171 = .ok (.dup, 1) := by decide +kernel
theorem d_Mo_ahead_172 : decode M_Mo_ahead.2.1 172 = .ok (.getfield 144, 3) := by decide +kernel
theorem d_Mo_ahead_175 : decode M_Mo_ahead.2.1 175 = .ok (.iconst 1, 1) := by decide +kernel
theorem d_Mo_ahead_176 : decode M_Mo_ahead.2.1 176 = .ok (.iadd, 1) := by decide +kernel
theorem d_Mo_ahead_177 : decode M_Mo_ahead.2.1 177 = .ok (.putfield 144, 3) := by decide +kernel
theorem d_Mo_ahead_180 : decode M_Mo_ahead.2.1 180 = .ok (.goto (-52), 3) := by decide +kernel
theorem d_Mo_ahead_183 : decode M_Mo_ahead.2.1 183 = .ok (.aload_n 0, 1) := by decide +kernel
theorem d_Mo_ahead_184 : decode M_Mo_ahead.2.1 184 = .ok (.aload_n 0, 1) := by decide +kernel
theorem d_Mo_ahead_185 : decode M_Mo_ahead.2.1 185 = .ok (.getfield 144, 3) := by decide +kernel
theorem d_Mo_ahead_188 : decode M_Mo_ahead.2.1 188 = .ok (.aload_n 0, 1) := by decide +kernel
theorem d_Mo_ahead_189 : decode M_Mo_ahead.2.1 189 = .ok (.getfield 150, 3) := by decide +kernel
theorem d_Mo_ahead_192 : decode M_Mo_ahead.2.1 192 = .ok (.isub, 1) := by decide +kernel
theorem d_Mo_ahead_193 : decode M_Mo_ahead.2.1 193 = .ok (.iconst 4, 1) := by decide +kernel
theorem d_Mo_ahead_194 : decode M_Mo_ahead.2.1 194 = .ok (.if_icmp .le 7, 3) := by decide +kernel
theorem d_Mo_ahead_197 : decode M_Mo_ahead.2.1 197 = .ok (.iconst 1, 1) := by decide +kernel
theorem d_Mo_ahead_198 : decode M_Mo_ahead.2.1 198 = .ok (.goto 4, 3) := by decide +kernel
theorem d_Mo_ahead_201 : decode M_Mo_ahead.2.1 201 = .ok (.iconst 3, 1) := by decide +kernel
theorem d_Mo_ahead_202 : decode M_Mo_ahead.2.1 202 = .ok (.putfield 156, 3) := by decide +kernel
theorem d_Mo_ahead_205 : decode M_Mo_ahead.2.1 205 = .ok (.goto 46, 3) := by decide +kernel
theorem d_Mo_ahead_208 : decode M_Mo_ahead.2.1 208 = .ok (.aload_n 0, 1) := by decide +kernel
theorem d_Mo_ahead_209 : decode M_Mo_ahead.2.1 209 = .ok (.dup, 1) := by decide +kernel
theorem d_Mo_ahead_210 : decode M_Mo_ahead.2.1 210 = .ok (.getfield 144, 3) := by decide +kernel
theorem d_Mo_ahead_213 : decode M_Mo_ahead.2.1 213 = .ok (.iconst 1, 1) := by decide +kernel
theorem d_Mo_ahead_214 : decode M_Mo_ahead.2.1 214 = .ok (.iadd, 1) := by decide +kernel
theorem d_Mo_ahead_215 : decode M_Mo_ahead.2.1 215 = .ok (.putfield 144, 3) := by decide +kernel
theorem d_Mo_ahead_218 : decode M_Mo_ahead.2.1 218 = .ok (.aload_n 0, 1) := by decide +kernel
theorem d_Mo_ahead_219 : decode M_Mo_ahead.2.1 219 = .ok (.iload_n 1, 1) := by decide +kernel
theorem d_Mo_ahead_220 : decode M_Mo_ahead.2.1 220 = .ok (.bipush 59, 2) := by decide +kernel
theorem d_Mo_ahead_222 : decode M_Mo_ahead.2.1 222 = .ok (.if_icmp .eq 21, 3) := by decide +kernel
theorem d_Mo_ahead_225 : decode M_Mo_ahead.2.1 225 = .ok (.iload_n 1, 1) := by decide +kernel
theorem d_Mo_ahead_226 : decode M_Mo_ahead.2.1 226 = .ok (.bipush 60, 2) := by decide +kernel
theorem d_Mo_ahead_228 : decode M_Mo_ahead.2.1 228 = .ok (.if_icmp .eq 15, 3) := by decide +kernel
theorem d_Mo_ahead_231 : decode M_Mo_ahead.2.1 231 = .ok (.iload_n 1, 1) := by decide +kernel
theorem d_Mo_ahead_232 : decode M_Mo_ahead.2.1 232 = .ok (.bipush 62, 2) := by decide +kernel
theorem d_Mo_ahead_234 : decode M_Mo_ahead.2.1 234 = .ok (.if_icmp .eq 9, 3) := by decide +kernel
theorem d_Mo_ahead_237 : decode M_Mo_ahead.2.1 237 = .ok (.iload_n 1, 1) := by decide +kernel
theorem d_Mo_ahead_238 : decode M_Mo_ahead.2.1 238 = .ok (.bipush 61, 2) := by decide +kernel
theorem d_Mo_ahead_240 : decode M_Mo_ahead.2.1 240 = .ok (.if_icmp .ne 7, 3) := by decide +kernel
theorem d_Mo_ahead_243 : decode M_Mo_ahead.2.1 243 = .ok (.iconst 4, 1) := by decide +kernel
theorem d_Mo_ahead_244 : decode M_Mo_ahead.2.1 244 = .ok (.goto 4, 3) := by decide +kernel
theorem d_Mo_ahead_247 : decode M_Mo_ahead.2.1 247 = .ok (.iconst 1, 1) := by decide +kernel
theorem d_Mo_ahead_248 : decode M_Mo_ahead.2.1 248 = .ok (.putfield 156, 3) := by decide +kernel
theorem d_Mo_ahead_251 : decode M_Mo_ahead.2.1 251 = .ok (.return_, 1) := by decide +kernel
theorem d_Mo_isSign_0 : decode M_Mo_isSign.2.1 0 = .ok (.aload_n 0, 1) := by decide +kernel
theorem d_Mo_isSign_1 : decode M_Mo_isSign.2.1 1 = .ok (.getfield 156, 3) := by decide +kernel
theorem d_Mo_isSign_4 : decode M_Mo_isSign.2.1 4 = .ok (.iconst 4, 1) := by decide +kernel
theorem d_Mo_isSign_5 : decode M_Mo_isSign.2.1 5 = .ok (.if_icmp .ne 15, 3) := by decide +kernel
theorem d_Mo_isSign_8 : decode M_Mo_isSign.2.1 8 = .ok (.aload_n 0, 1) := by decide +kernel
theorem d_Mo_isSign_9 : decode M_Mo_isSign.2.1 9 = .ok (.getfield 153, 3) := by decide +kernel
theorem d_Mo_isSign_12 : decode M_Mo_isSign.2.1 12 = .ok (.iload_n 1, 1) := by decide +kernel
theorem d_Mo_isSign_13 : decode M_Mo_isSign.2.1 13 = .ok (.if_icmp .ne 7, 3) := by decide +kernel
theorem d_Mo_isSign_16 : decode M_Mo_isSign.2.1 16 = .ok (.iconst 1, 1) := by decide +kernel
theorem d_Mo_isSign_17 : decode M_Mo_isSign.2.1 17 = .ok (.goto 4, 3) := by decide +kernel
theorem d_Mo_isSign_20 : decode M_Mo_isSign.2.1 20 = .ok (.iconst 0, 1) := by decide +kernel
theorem d_Mo_isSign_21 : decode M_Mo_isSign.2.1 21 = .ok (.ireturn, 1) := by decide +kernel
theorem d_Mo_inWords_0 : decode M_Mo_inWords.2.1 0 = .ok (.aload_n 0, 1) := by decide +kernel
theorem d_Mo_inWords_1 : decode M_Mo_inWords.2.1 1 = .ok (.getfield 156, 3) := by decide +kernel
theorem d_Mo_inWords_4 : decode M_Mo_inWords.2.1 4 = .ok (.iconst 2, 1) := by decide +kernel
theorem d_Mo_inWords_5 : decode M_Mo_inWords.2.1 5 = .ok (.if_icmp .eq 5, 3) := by decide +kernel
theorem d_Mo_inWords_8 : decode M_Mo_inWords.2.1 8 = .ok (.iconst (-1), 1) := by decide +kernel
theorem d_Mo_inWords_9 : decode M_Mo_inWords.2.1 9 = .ok (.ireturn, 1) := by decide +kernel
theorem d_Mo_inWords_10 : decode M_Mo_inWords.2.1 10 = .ok (.iconst 0, 1) := by decide +kernel
theorem d_Mo_inWords_11 : decode M_Mo_inWords.2.1 11 = .ok (.istore_n 2, 1) := by decide +kernel
theorem d_Mo_inWords_12 : decode M_Mo_inWords.2.1 12 = .ok (.iconst 1, 1) := by decide +kernel
theorem d_Mo_inWords_13 : decode M_Mo_inWords.2.1 13 = .ok (.istore_n 3, 1) := by decide +kernel
theorem d_Mo_inWords_14 : decode M_Mo_inWords.2.1 14 = .ok (.iload_n 3, 1) := by decide +kernel
theorem d_Mo_inWords_15 : decode M_Mo_inWords.2.1 15 = .ok (.aload_n 1, 1) := by decide +kernel
theorem d_Mo_inWords_16 : decode M_Mo_inWords.2.1 16 = .ok (.invokevirtual 171, 3) := by decide +kernel
theorem d_Mo_inWords_19 : decode M_Mo_inWords.2.1 19 = .ok (.if_icmp .ge 114, 3) := by decide +kernel
theorem d_Mo_inWords_22 : decode M_Mo_inWords.2.1 22 = .ok (.iload_n 3, 1) := by decide +kernel
theorem d_Mo_inWords_23 : decode M_Mo_inWords.2.1 23 = .ok (.istore 4, 2) := by decide +kernel
theorem d_Mo_inWords_25 : decode M_Mo_inWords.2.1 25 = .ok (.aload_n 1, 1) := by decide +kernel
theorem d_Mo_inWords_26 : decode M_Mo_inWords.2.1 26 = .ok (.iload 4, 2) := by decide +kernel
theorem d_Mo_inWords_28 : decode M_Mo_inWords.2.1 28 = .ok (.invokevirtual 177, 3) := by decide +kernel
theorem d_Mo_inWords_31 : decode M_Mo_inWords.2.1 31 = .ok (.bipush 32, 2) := by decide +kernel
theorem d_Mo_inWords_33 : decode M_Mo_inWords.2.1 33 = .ok (.if_icmp .eq 9, 3) := by decide +kernel
theorem d_Mo_inWords_36 : decode M_Mo_inWords.2.1 36 = .ok (.iinc 4 1, 3) := by decide +kernel
theorem d_Mo_inWords_39 : decode M_Mo_inWords.2.1 39 = .ok (.goto (-14), 3) := by decide +kernel
theorem d_Mo_inWords_42 : decode M_Mo_inWords.2.1 42 = .ok (.iload 4, 2) := by decide +kernel
theorem d_Mo_inWords_44 : decode M_Mo_inWords.2.1 44 = .ok (.iload_n 3, 1) := by decide +kernel
theorem d_Mo_inWords_45 : decode M_Mo_inWords.2.1 45 = .ok (.isub, 1) := by decide +kernel
theorem d_Mo_inWords_46 : decode M_Mo_inWords.2.1 46 = .ok (.aload_n 0, 1) := by decide +kernel
theorem d_Mo_inWords_47 : decode M_Mo_inWords.2.1 47 = .ok (.getfield 144, 3) := by decide +kernel
theorem d_Mo_inWords_50 : decode M_Mo_inWords.2.1 50 = .ok (.aload_n 0, 1) := by decide +kernel
theorem d_Mo_inWords_51 : decode M_Mo_inWords.2.1 51 = .ok (.getfield 150, 3) := by decide +kernel
theorem d_Mo_inWords_54 : decode M_Mo_inWords.2.1 54 = .ok (.isub, 1) := by decide +kernel
theorem d_Mo_inWords_55 : decode M_Mo_inWords.2.1 55 = .ok (.if_icmp .ne 7, 3) := by decide +kernel
theorem d_Mo_inWords_58 : decode M_Mo_inWords.2.1 58 = .ok (.iconst 1, 1) := by decide +kernel
theorem d_Mo_inWords_59 : decode M_Mo_inWords.2.1 59 = .ok (.goto 4, 3) := by decide +kernel
theorem d_Mo_inWords_62 : decode M_Mo_inWords.2.1 62 = .ok (.iconst 0, 1) := by decide +kernel
theorem d_Mo_inWords_63 : decode M_Mo_inWords.2.1 63 = .ok (.istore 5, 2) := by decide +kernel
theorem d_Mo_inWords_65 : decode M_Mo_inWords.2.1 65 = .ok (.iload_n 3, 1) := by decide +kernel
theorem d_Mo_inWords_66 : decode M_Mo_inWords.2.1 66 = .ok (.istore 6, 2) := by decide +kernel
theorem d_Mo_inWords_68 : decode M_Mo_inWords.2.1 68 = .ok (.iload 6, 2) := by decide +kernel
theorem d_Mo_inWords_70 : decode M_Mo_inWords.2.1 70 = .ok (.iload 4, 2) := by decide +kernel
theorem d_Mo_inWords_72 : decode M_Mo_inWords.2.1 72 = .ok (.if_icmp .ge 43, 3) := by decide +kernel
theorem d_Mo_inWords_75 : decode M_Mo_inWords.2.1 75 = .ok (.iload 5, 2) := by decide +kernel
theorem d_Mo_inWords_77 : decode M_Mo_inWords.2.1 77 = .ok (.ifCond .eq 38, 3) := by decide +kernel
theorem d_Mo_inWords_80 : decode M_Mo_inWords.2.1 80 = .ok (.aload_n 1, 1) := by decide +kernel
theorem d_Mo_inWords_81 : decode M_Mo_inWords.2.1 81 = .ok (.iload 6, 2) := by decide +kernel
theorem d_Mo_inWords_83 : decode M_Mo_inWords.2.1 83 = .ok (.invokevirtual 177, 3) := by decide +kernel
theorem d_Mo_inWords_86 : decode M_Mo_inWords.2.1 86 = .ok (.aload_n 0, 1) := by decide +kernel
theorem d_Mo_inWords_87 : decode M_Mo_inWords.2.1 87 = .ok (.aload_n 0, 1) := by decide +kernel
theorem d_Mo_inWords_88 : decode M_Mo_inWords.2.1 88 = .ok (.getfield 150, 3) := by decide +kernel
theorem d_Mo_inWords_91 : decode M_Mo_inWords.2.1 91 = .ok (.iload 6, 2) := by decide +kernel
theorem d_Mo_inWords_93 : decode M_Mo_inWords.2.1 93 = .ok (.iadd, 1) := by decide +kernel
theorem d_Mo_inWords_94 : decode M_Mo_inWords.2.1 94 = .ok (.iload_n 3, 1) := by decide +kernel
theorem d_Mo_inWords_95 : decode M_Mo_inWords.2.1 95 = .ok (.isub, 1) := by decide +kernel
theorem d_Mo_inWords_96 : decode M_Mo_inWords.2.1 96 = .ok (.invokevirtual 147, 3) := by decide +kernel
theorem d_Mo_inWords_99 : decode M_Mo_inWords.2.1 99 = .ok (.if_icmp .ne 7, 3) := by decide +kernel
theorem d_Mo_inWords_102 : decode M_Mo_inWords.2.1 102 = .ok (.iconst 1, 1) := by decide +kernel
theorem d_Mo_inWords_103 : decode M_Mo_inWords.2.1 103 = .ok (.goto 4, 3) := by decide +kernel
theorem d_Mo_inWords_106 : decode M_Mo_inWords.2.1 106 = .ok (.iconst 0, 1) := by decide +kernel
theorem d_Mo_inWords_107 : decode M_Mo_inWords.2.1 107 = .ok (.istore 5, 2) := by decide +kernel
theorem d_Mo_inWords_109 : decode M_Mo_inWords.2.1 109 = .ok (.iinc 6 1, 3) := by decide +kernel
theorem d_Mo_inWords_112 : decode M_Mo_inWords.2.1 112 = .ok (.goto (-44), 3) := by decide +kernel
theorem d_Mo_inWords_115 : decode M_Mo_inWords.2.1 115 = .ok (.iload 5, 2) := by decide +kernel
theorem d_Mo_inWords_117 : decode M_Mo_inWords.2.1 117 = .ok (.ifCond .eq 5, 3) := by decide +kernel
theorem d_Mo_inWords_120 : decode M_Mo_inWords.2.1 120 = .ok (.iload_n 2, 1) := by decide +kernel
theorem d_Mo_inWords_121 : decode M_Mo_inWords.2.1 121 = .ok (.ireturn, 1) := by decide +kernel
theorem d_Mo_inWords_122 : decode M_Mo_inWords.2.1 122 = .ok (.iinc 2 1, 3) := by decide +kernel
theorem d_Mo_inWords_125 : decode M_Mo_inWords.2.1 125 = .ok (.iload 4, 2) := by decide +kernel
theorem d_Mo_inWords_127 : decode M_Mo_inWords.2.1 127 = .ok (.iconst 1, 1) := by decide +kernel
theorem d_Mo_inWords_128 : decode M_Mo_inWords.2.1 128 = .ok (.iadd, 1) := by decide +kernel
theorem d_Mo_inWords_129 : decode M_Mo_inWords.2.1 129 = .ok (.istore_n 3, 1) := by decide +kernel
theorem d_Mo_inWords_130 : decode M_Mo_inWords.2.1 130 = .ok (.goto (-116), 3) := by decide +kernel
theorem d_Mo_inWords_133 : decode M_Mo_inWords.2.1 133 = .ok (.iconst (-1), 1) := by decide +kernel
theorem d_Mo_inWords_134 : decode M_Mo_inWords.2.1 134 = .ok (.ireturn, 1) := by decide +kernel
theorem d_Mo_fails_0 : decode M_Mo_fails.2.1 0 = .ok (.aload_n 0, 1) := by decide +kernel
theorem d_Mo_fails_1 : decode M_Mo_fails.2.1 1 = .ok (.getfield 181, 3) := by decide +kernel
theorem d_Mo_fails_4 : decode M_Mo_fails.2.1 4 = .ok (.ifCond .ne 28, 3) := by decide +kernel
theorem d_Mo_fails_7 : decode M_Mo_fails.2.1 7 = .ok (.aload_n 0, 1) := by decide +kernel
theorem d_Mo_fails_8 : decode M_Mo_fails.2.1 8 = .ok (.aload_n 0, 1) := by decide +kernel
theorem d_Mo_fails_9 : decode M_Mo_fails.2.1 9 = .ok (.getfield 156, 3) := by decide +kernel
theorem d_Mo_fails_12 : decode M_Mo_fails.2.1 12 = .ok (.iconst 1, 1) := by decide +kernel
theorem d_Mo_fails_13 : decode M_Mo_fails.2.1 13 = .ok (.if_icmp .ne 7, 3) := by decide +kernel
theorem d_Mo_fails_16 : decode M_Mo_fails.2.1 16 = .ok (.iconst 1, 1) := by decide +kernel
theorem d_Mo_fails_17 : decode M_Mo_fails.2.1 17 = .ok (.goto 4, 3) := by decide +kernel
theorem d_Mo_fails_20 : decode M_Mo_fails.2.1 20 = .ok (.iload_n 1, 1) := by decide +kernel
theorem d_Mo_fails_21 : decode M_Mo_fails.2.1 21 = .ok (.putfield 181, 3) := by decide +kernel
theorem d_Mo_fails_24 : decode M_Mo_fails.2.1 24 = .ok (.aload_n 0, 1) := by decide +kernel
theorem d_Mo_fails_25 : decode M_Mo_fails.2.1 25 = .ok (.aload_n 0, 1) := by decide +kernel
theorem d_Mo_fails_26 : decode M_Mo_fails.2.1 26 = .ok (.getfield 150, 3) := by decide +kernel
theorem d_Mo_fails_29 : decode M_Mo_fails.2.1 29 = .ok (.putfield 41, 3) := by decide +kernel
theorem d_Mo_fails_32 : decode M_Mo_fails.2.1 32 = .ok (.iconst 0, 1) := by decide +kernel
theorem d_Mo_fails_33 : decode M_Mo_fails.2.1 33 = .ok (.ireturn, 1) := by decide +kernel
theorem d_Mo_begins_0 : decode M_Mo_begins.2.1 0 = .ok (.iload_n 1, 1) := by decide +kernel
theorem d_Mo_begins_1 : decode M_Mo_begins.2.1 1 = .ok (.ifCond .lt 16, 3) := by decide +kernel
theorem d_Mo_begins_4 : decode M_Mo_begins.2.1 4 = .ok (.iload_n 1, 1) := by decide +kernel
theorem d_Mo_begins_5 : decode M_Mo_begins.2.1 5 = .ok (.aload_n 0, 1) := by decide +kernel
theorem d_Mo_begins_6 : decode M_Mo_begins.2.1 6 = .ok (.getfield 135, 3) := by decide +kernel
theorem d_Mo_begins_9 : decode M_Mo_begins.2.1 9 = .ok (.if_icmp .gt 8, 3) := by decide +kernel
theorem d_Mo_begins_12 : decode M_Mo_begins.2.1 12 = .ok (.iload_n 1, 1) := by decide +kernel
theorem d_Mo_begins_13 : decode M_Mo_begins.2.1 13 = .ok (.iload_n 2, 1) := by decide +kernel
theorem d_Mo_begins_14 : decode M_Mo_begins.2.1 14 = .ok (.if_icmp .le 5, 3) := by decide +kernel
theorem d_Mo_begins_17 : decode M_Mo_begins.2.1 17 = .ok (.iconst 0, 1) := by decide +kernel
theorem d_Mo_begins_18 : decode M_Mo_begins.2.1 18 = .ok (.ireturn, 1) := by decide +kernel
theorem d_Mo_begins_19 : decode M_Mo_begins.2.1 19 = .ok (.aload_n 0, 1) := by decide +kernel
theorem d_Mo_begins_20 : decode M_Mo_begins.2.1 20 = .ok (.iload_n 1, 1) := by decide +kernel
theorem d_Mo_begins_21 : decode M_Mo_begins.2.1 21 = .ok (.putfield 141, 3) := by decide +kernel
theorem d_Mo_begins_24 : decode M_Mo_begins.2.1 24 = .ok (.iconst 0, 1) := by decide +kernel
theorem d_Mo_begins_25 : decode M_Mo_begins.2.1 25 = .ok (.istore_n 3, 1) := by decide +kernel
theorem d_Mo_begins_26 : decode M_Mo_begins.2.1 26 = .ok (.iload_n 3, 1) := by decide +kernel
theorem d_Mo_begins_27 : decode M_Mo_begins.2.1 27 = .ok (.iload_n 1, 1) := by decide +kernel
theorem d_Mo_begins_28 : decode M_Mo_begins.2.1 28 = .ok (.if_icmp .ge 21, 3) := by decide +kernel
theorem d_Mo_begins_31 : decode M_Mo_begins.2.1 31 = .ok (.aload_n 0, 1) := by decide +kernel
theorem d_Mo_begins_32 : decode M_Mo_begins.2.1 32 = .ok (.getfield 34, 3) := by decide +kernel
theorem d_Mo_begins_35 : decode M_Mo_begins.2.1 35 = .ok (.iload_n 3, 1) := by decide +kernel
theorem d_Mo_begins_36 : decode M_Mo_begins.2.1 36 = .ok (.aload_n 0, 1) := by decide +kernel
theorem d_Mo_begins_37 : decode M_Mo_begins.2.1 37 = .ok (.getfield 30, 3) := by decide +kernel
theorem d_Mo_begins_40 : decode M_Mo_begins.2.1 40 = .ok (.iload_n 3, 1) := by decide +kernel
theorem d_Mo_begins_41 : decode M_Mo_begins.2.1 41 = .ok (.baload, 1) := by decide +kernel
theorem d_Mo_begins_42 : decode M_Mo_begins.2.1 42 = .ok (.bastore, 1) := by decide +kernel
theorem d_Mo_begins_43 : decode M_Mo_begins.2.1 43 = .ok (.iinc 3 1, 3) := by decide +kernel
theorem d_Mo_begins_46 : decode M_Mo_begins.2.1 46 = .ok (.goto (-20), 3) := by decide +kernel
theorem d_Mo_begins_49 : decode M_Mo_begins.2.1 49 = .ok (.aload_n 0, 1) := by decide +kernel
theorem d_Mo_begins_50 : decode M_Mo_begins.2.1 50 = .ok (.iconst 0, 1) := by decide +kernel
theorem d_Mo_begins_51 : decode M_Mo_begins.2.1 51 = .ok (.putfield 135, 3) := by decide +kernel
theorem d_Mo_begins_54 : decode M_Mo_begins.2.1 54 = .ok (.aload_n 0, 1) := by decide +kernel
theorem d_Mo_begins_55 : decode M_Mo_begins.2.1 55 = .ok (.iconst 0, 1) := by decide +kernel
theorem d_Mo_begins_56 : decode M_Mo_begins.2.1 56 = .ok (.putfield 181, 3) := by decide +kernel
theorem d_Mo_begins_59 : decode M_Mo_begins.2.1 59 = .ok (.aload_n 0, 1) := by decide +kernel
theorem d_Mo_begins_60 : decode M_Mo_begins.2.1 60 = .ok (.iconst (-1), 1) := by decide +kernel
theorem d_Mo_begins_61 : decode M_Mo_begins.2.1 61 = .ok (.putfield 41, 3) := by decide +kernel
theorem d_Mo_begins_64 : decode M_Mo_begins.2.1 64 = .ok (.aload_n 0, 1) := by decide +kernel
theorem d_Mo_begins_65 : decode M_Mo_begins.2.1 65 = .ok (.iconst 0, 1) := by decide +kernel
theorem d_Mo_begins_66 : decode M_Mo_begins.2.1 66 = .ok (.putfield 144, 3) := by decide +kernel
theorem d_Mo_begins_69 : decode M_Mo_begins.2.1 69 = .ok (.aload_n 0, 1) := by decide +kernel
theorem d_Mo_begins_70 : decode M_Mo_begins.2.1 70 = .ok (.iconst 0, 1) := by decide +kernel
theorem d_Mo_begins_71 : decode M_Mo_begins.2.1 71 = .ok (.putfield 184, 3) := by decide +kernel
theorem d_Mo_begins_74 : decode M_Mo_begins.2.1 74 = .ok (.aload_n 0, 1) := by decide +kernel
theorem d_Mo_begins_75 : decode M_Mo_begins.2.1 75 = .ok (.invokevirtual 187, 3) := by decide +kernel
theorem d_Mo_begins_78 : decode M_Mo_begins.2.1 78 = .ok (.iconst 1, 1) := by decide +kernel
theorem d_Mo_begins_79 : decode M_Mo_begins.2.1 79 = .ok (.ireturn, 1) := by decide +kernel
theorem d_Mo_wantSign_0 : decode M_Mo_wantSign.2.1 0 = .ok (.aload_n 0, 1) := by decide +kernel
theorem d_Mo_wantSign_1 : decode M_Mo_wantSign.2.1 1 = .ok (.iload_n 1, 1) := by decide +kernel
theorem d_Mo_wantSign_2 : decode M_Mo_wantSign.2.1 2 = .ok (.invokevirtual 190, 3) := by decide +kernel
theorem d_Mo_wantSign_5 : decode M_Mo_wantSign.2.1 5 = .ok (.ifCond .ne 9, 3) := by decide +kernel
theorem d_Mo_wantSign_8 : decode M_Mo_wantSign.2.1 8 = .ok (.aload_n 0, 1) := by decide +kernel
theorem d_Mo_wantSign_9 : decode M_Mo_wantSign.2.1 9 = .ok (.iconst 2, 1) := by decide +kernel
theorem d_Mo_wantSign_10 : decode M_Mo_wantSign.2.1 10 = .ok (.invokevirtual 193, 3) := by decide +kernel
theorem d_Mo_wantSign_13 : decode M_Mo_wantSign.2.1 13 = .ok (.ireturn, 1) := by decide +kernel
theorem d_Mo_wantSign_14 : decode M_Mo_wantSign.2.1 14 = .ok (.aload_n 0, 1) := by decide +kernel
theorem d_Mo_wantSign_15 : decode M_Mo_wantSign.2.1 15 = .ok (.invokevirtual 187, 3) := by decide +kernel
theorem d_Mo_wantSign_18 : decode M_Mo_wantSign.2.1 18 = .ok (.iconst 1, 1) := by decide +kernel
theorem d_Mo_wantSign_19 : decode M_Mo_wantSign.2.1 19 = .ok (.ireturn, 1) := by decide +kernel
theorem d_Mo_number_0 : decode M_Mo_number.2.1 0 = .ok (.aload_n 0, 1) := by decide +kernel
theorem d_Mo_number_1 : decode M_Mo_number.2.1 1 = .ok (.getfield 156, 3) := by decide +kernel
theorem d_Mo_number_4 : decode M_Mo_number.2.1 4 = .ok (.iconst 3, 1) := by decide +kernel
theorem d_Mo_number_5 : decode M_Mo_number.2.1 5 = .ok (.if_icmp .eq 9, 3) := by decide +kernel
theorem d_Mo_number_8 : decode M_Mo_number.2.1 8 = .ok (.aload_n 0, 1) := by decide +kernel
theorem d_Mo_number_9 : decode M_Mo_number.2.1 9 = .ok (.iconst 2, 1) := by decide +kernel
theorem d_Mo_number_10 : decode M_Mo_number.2.1 10 = .ok (.invokevirtual 193, 3) := by decide +kernel
theorem d_Mo_number_13 : decode M_Mo_number.2.1 13 = .ok (.ireturn, 1) := by decide +kernel
theorem d_Mo_number_14 : decode M_Mo_number.2.1 14 = .ok (.aload_n 0, 1) := by decide +kernel
theorem d_Mo_number_15 : decode M_Mo_number.2.1 15 = .ok (.getfield 153, 3) := by decide +kernel
theorem d_Mo_number_18 : decode M_Mo_number.2.1 18 = .ok (.iload_n 2, 1) := by decide +kernel
theorem d_Mo_number_19 : decode M_Mo_number.2.1 19 = .ok (.if_icmp .lt 11, 3) := by decide +kernel
theorem d_Mo_number_22 : decode M_Mo_number.2.1 22 = .ok (.aload_n 0, 1) := by decide +kernel
theorem d_Mo_number_23 : decode M_Mo_number.2.1 23 = .ok (.getfield 153, 3) := by decide +kernel
theorem d_Mo_number_26 : decode M_Mo_number.2.1 26 = .ok (.iload_n 3, 1) := by decide +kernel
theorem d_Mo_number_27 : decode M_Mo_number.2.1 27 = .ok (.if_icmp .le 9, 3) := by decide +kernel
theorem d_Mo_number_30 : decode M_Mo_number.2.1 30 = .ok (.aload_n 0, 1) := by decide +kernel
theorem d_Mo_number_31 : decode M_Mo_number.2.1 31 = .ok (.iconst 4, 1) := by decide +kernel
theorem d_Mo_number_32 : decode M_Mo_number.2.1 32 = .ok (.invokevirtual 193, 3) := by decide +kernel
theorem d_Mo_number_35 : decode M_Mo_number.2.1 35 = .ok (.ireturn, 1) := by decide +kernel
theorem d_Mo_number_36 : decode M_Mo_number.2.1 36 = .ok (.aload_n 0, 1) := by decide +kernel
theorem d_Mo_number_37 : decode M_Mo_number.2.1 37 = .ok (.getfield 7, 3) := by decide +kernel
theorem d_Mo_number_40 : decode M_Mo_number.2.1 40 = .ok (.iload_n 1, 1) := by decide +kernel
theorem d_Mo_number_41 : decode M_Mo_number.2.1 41 = .ok (.aload_n 0, 1) := by decide +kernel
theorem d_Mo_number_42 : decode M_Mo_number.2.1 42 = .ok (.getfield 153, 3) := by decide +kernel
theorem d_Mo_number_45 : decode M_Mo_number.2.1 45 = .ok (.iastore, 1) := by decide +kernel
theorem d_Mo_number_46 : decode M_Mo_number.2.1 46 = .ok (.aload_n 0, 1) := by decide +kernel
theorem d_Mo_number_47 : decode M_Mo_number.2.1 47 = .ok (.invokevirtual 187, 3) := by decide +kernel
theorem d_Mo_number_50 : decode M_Mo_number.2.1 50 = .ok (.iconst 1, 1) := by decide +kernel
theorem d_Mo_number_51 : decode M_Mo_number.2.1 51 = .ok (.ireturn, 1) := by decide +kernel
theorem d_Mo_isName_0 : decode M_Mo_isName.2.1 0 = .ok (.aload_n 0, 1) := by decide +kernel
theorem d_Mo_isName_1 : decode M_Mo_isName.2.1 1 = .ok (.getfield 156, 3) := by decide +kernel
theorem d_Mo_isName_4 : decode M_Mo_isName.2.1 4 = .ok (.iconst 2, 1) := by decide +kernel
theorem d_Mo_isName_5 : decode M_Mo_isName.2.1 5 = .ok (.if_icmp .ne 30, 3) := by decide +kernel
theorem d_Mo_isName_8 : decode M_Mo_isName.2.1 8 = .ok (.aload_n 0, 1) := by decide +kernel
theorem d_Mo_isName_9 : decode M_Mo_isName.2.1 9 = .ok (.getfield 144, 3) := by decide +kernel
theorem d_Mo_isName_12 : decode M_Mo_isName.2.1 12 = .ok (.aload_n 0, 1) := by decide +kernel
theorem d_Mo_isName_13 : decode M_Mo_isName.2.1 13 = .ok (.getfield 150, 3) := by decide +kernel
theorem d_Mo_isName_16 : decode M_Mo_isName.2.1 16 = .ok (.isub, 1) := by decide +kernel
theorem d_Mo_isName_17 : decode M_Mo_isName.2.1 17 = .ok (.bipush 8, 2) := by decide +kernel
theorem d_Mo_isName_19 : decode M_Mo_isName.2.1 19 = .ok (.if_icmp .gt 16, 3) := by decide +kernel
theorem d_Mo_isName_22 : decode M_Mo_isName.2.1 22 = .ok (.aload_n 0, 1) := by decide +kernel
theorem d_Mo_isName_23 : decode M_Mo_isName.2.1 23 = .ok (.aload_n 1, 1) := by decide +kernel
theorem d_Mo_isName_24 : decode M_Mo_isName.2.1 24 = .ok (.invokevirtual 196, 3) := by decide +kernel
theorem d_Mo_isName_27 : decode M_Mo_isName.2.1 27 = .ok (.iconst (-1), 1) := by decide +kernel
theorem d_Mo_isName_28 : decode M_Mo_isName.2.1 28 = .ok (.if_icmp .ne 7, 3) := by decide +kernel
theorem d_Mo_isName_31 : decode M_Mo_isName.2.1 31 = .ok (.iconst 1, 1) := by decide +kernel
theorem d_Mo_isName_32 : decode M_Mo_isName.2.1 32 = .ok (.goto 4, 3) := by decide +kernel
theorem d_Mo_isName_35 : decode M_Mo_isName.2.1 35 = .ok (.iconst 0, 1) := by decide +kernel
theorem d_Mo_isName_36 : decode M_Mo_isName.2.1 36 = .ok (.ireturn, 1) := by decide +kernel
theorem d_Mo_nameHere_0 : decode M_Mo_nameHere.2.1 0 = .ok (.lconst 0, 1) := by decide +kernel
theorem d_Mo_nameHere_1 : decode M_Mo_nameHere.2.1 1 = .ok (.lstore_n 1, 1) := by decide +kernel
theorem d_Mo_nameHere_2 : decode M_Mo_nameHere.2.1 2 = .ok (.aload_n 0, 1) := by decide +kernel
theorem d_Mo_nameHere_3 : decode M_Mo_nameHere.2.1 3 = .ok (.getfield 150, 3) := by decide +kernel
theorem d_Mo_nameHere_6 : decode M_Mo_nameHere.2.1 6 = .ok (.istore_n 3, 1) := by decide +kernel
theorem d_Mo_nameHere_7 : decode M_Mo_nameHere.2.1 7 = .ok (.iload_n 3, 1) := by decide +kernel
theorem d_Mo_nameHere_8 : decode M_Mo_nameHere.2.1 8 = .ok (.aload_n 0, 1) := by decide +kernel
theorem d_Mo_nameHere_9 : decode M_Mo_nameHere.2.1 9 = .ok (.getfield 144, 3) := by decide +kernel
theorem d_Mo_nameHere_12 : decode M_Mo_nameHere.2.1 12 = .ok (.if_icmp .ge 21, 3) := by decide +kernel
theorem d_Mo_nameHere_15 : decode M_Mo_nameHere.2.1 15 = .ok (.lload_n 1, 1) := by decide +kernel
theorem d_Mo_nameHere_16 : decode M_Mo_nameHere.2.1 16 = .ok (.bipush 8, 2) := by decide +kernel
theorem d_Mo_nameHere_18 : decode M_Mo_nameHere.2.1 18 = .ok (.lshl, 1) := by decide +kernel
theorem d_Mo_nameHere_19 : decode M_Mo_nameHere.2.1 19 = .ok (.aload_n 0, 1) := by decide +kernel
theorem d_Mo_nameHere_20 : decode M_Mo_nameHere.2.1 20 = .ok (.iload_n 3, 1) := by decide +kernel
theorem d_Mo_nameHere_21 : decode M_Mo_nameHere.2.1 21 = .ok (.invokevirtual 147, 3) := by decide +kernel
theorem d_Mo_nameHere_24 : decode M_Mo_nameHere.2.1 24 = .ok (.i2l, 1) := by decide +kernel
theorem d_Mo_nameHere_25 : decode M_Mo_nameHere.2.1 25 = .ok (.lor, 1) := by decide +kernel
theorem d_Mo_nameHere_26 : decode M_Mo_nameHere.2.1 26 = .ok (.lstore_n 1, 1) := by decide +kernel
theorem d_Mo_nameHere_27 : decode M_Mo_nameHere.2.1 27 = .ok (.iinc 3 1, 3) := by decide +kernel
theorem d_Mo_nameHere_30 : decode M_Mo_nameHere.2.1 30 = .ok (.goto (-23), 3) := by decide +kernel
theorem d_Mo_nameHere_33 : decode M_Mo_nameHere.2.1 33 = .ok (.lload_n 1, 1) := by decide +kernel
theorem d_Mo_nameHere_34 : decode M_Mo_nameHere.2.1 34 = .ok (.lreturn, 1) := by decide +kernel
theorem d_Mo_findHere_0 : decode M_Mo_findHere.2.1 0 = .ok (.iconst 0, 1) := by decide +kernel
theorem d_Mo_findHere_1 : decode M_Mo_findHere.2.1 1 = .ok (.istore_n 3, 1) := by decide +kernel
theorem d_Mo_findHere_2 : decode M_Mo_findHere.2.1 2 = .ok (.iload_n 3, 1) := by decide +kernel
theorem d_Mo_findHere_3 : decode M_Mo_findHere.2.1 3 = .ok (.iload_n 2, 1) := by decide +kernel
theorem d_Mo_findHere_4 : decode M_Mo_findHere.2.1 4 = .ok (.if_icmp .ge 27, 3) := by decide +kernel
theorem d_Mo_findHere_7 : decode M_Mo_findHere.2.1 7 = .ok (.aload_n 0, 1) := by decide +kernel
theorem d_Mo_findHere_8 : decode M_Mo_findHere.2.1 8 = .ok (.getfield 13, 3) := by decide +kernel
theorem d_Mo_findHere_11 : decode M_Mo_findHere.2.1 11 = .ok (.iload_n 1, 1) := by decide +kernel
theorem d_Mo_findHere_12 : decode M_Mo_findHere.2.1 12 = .ok (.iload_n 3, 1) := by decide +kernel
theorem d_Mo_findHere_13 : decode M_Mo_findHere.2.1 13 = .ok (.iadd, 1) := by decide +kernel
theorem d_Mo_findHere_14 : decode M_Mo_findHere.2.1 14 = .ok (.laload, 1) := by decide +kernel
theorem d_Mo_findHere_15 : decode M_Mo_findHere.2.1 15 = .ok (.aload_n 0, 1) := by decide +kernel
theorem d_Mo_findHere_16 : decode M_Mo_findHere.2.1 16 = .ok (.invokevirtual 200, 3) := by decide +kernel
theorem d_Mo_findHere_19 : decode M_Mo_findHere.2.1 19 = .ok (.lcmp, 1) := by decide +kernel
theorem d_Mo_findHere_20 : decode M_Mo_findHere.2.1 20 = .ok (.ifCond .ne 5, 3) := by decide +kernel
theorem d_Mo_findHere_23 : decode M_Mo_findHere.2.1 23 = .ok (.iload_n 3, 1) := by decide +kernel
theorem d_Mo_findHere_24 : decode M_Mo_findHere.2.1 24 = .ok (.ireturn, 1) := by decide +kernel
theorem d_Mo_findHere_25 : decode M_Mo_findHere.2.1 25 = .ok (.iinc 3 1, 3) := by decide +kernel
theorem d_Mo_findHere_28 : decode M_Mo_findHere.2.1 28 = .ok (.goto (-26), 3) := by decide +kernel
theorem d_Mo_findHere_31 : decode M_Mo_findHere.2.1 31 = .ok (.iconst (-1), 1) := by decide +kernel
theorem d_Mo_findHere_32 : decode M_Mo_findHere.2.1 32 = .ok (.ireturn, 1) := by decide +kernel
theorem d_Mo_fault_0 : decode M_Mo_fault.2.1 0 = .ok (.iload_n 1, 1) := by decide +kernel
theorem d_Mo_fault_1 : decode M_Mo_fault.2.1 1 = .ok (.ifCond .ne 10, 3) := by decide +kernel
theorem d_Mo_fault_4 : decode M_Mo_fault.2.1 4 = .ok (.aload_n 0, 1) := by decide +kernel
theorem d_Mo_fault_5 : decode M_Mo_fault.2.1 5 = .ok (.getfield 37, 3) := by decide +kernel
theorem d_Mo_fault_8 : decode M_Mo_fault.2.1 8 = .ok (.goto 16, 3) := by decide +kernel
theorem d_Mo_fault_11 : decode M_Mo_fault.2.1 11 = .ok (.iload_n 1, 1) := by decide +kernel
theorem d_Mo_fault_12 : decode M_Mo_fault.2.1 12 = .ok (.iconst 1, 1) := by decide +kernel
theorem d_Mo_fault_13 : decode M_Mo_fault.2.1 13 = .ok (.if_icmp .ne 10, 3) := by decide +kernel
theorem d_Mo_fault_16 : decode M_Mo_fault.2.1 16 = .ok (.aload_n 0, 1) := by decide +kernel
theorem d_Mo_fault_17 : decode M_Mo_fault.2.1 17 = .ok (.getfield 41, 3) := by decide +kernel
theorem d_Mo_fault_20 : decode M_Mo_fault.2.1 20 = .ok (.goto 4, 3) := by decide +kernel
theorem d_Mo_fault_23 : decode M_Mo_fault.2.1 23 = .ok (.iconst (-1), 1) := by decide +kernel
theorem d_Mo_fault_24 : decode M_Mo_fault.2.1 24 = .ok (.ireturn, 1) := by decide +kernel
theorem d_Mo_taken_0 : decode M_Mo_taken.2.1 0 = .ok (.aload_n 0, 1) := by decide +kernel
theorem d_Mo_taken_1 : decode M_Mo_taken.2.1 1 = .ok (.aload_n 0, 1) := by decide +kernel
theorem d_Mo_taken_2 : decode M_Mo_taken.2.1 2 = .ok (.getfield 181, 3) := by decide +kernel
theorem d_Mo_taken_5 : decode M_Mo_taken.2.1 5 = .ok (.putfield 37, 3) := by decide +kernel
theorem d_Mo_taken_8 : decode M_Mo_taken.2.1 8 = .ok (.aload_n 0, 1) := by decide +kernel
theorem d_Mo_taken_9 : decode M_Mo_taken.2.1 9 = .ok (.getfield 181, 3) := by decide +kernel
theorem d_Mo_taken_12 : decode M_Mo_taken.2.1 12 = .ok (.ifCond .le 12, 3) := by decide +kernel
theorem d_Mo_taken_15 : decode M_Mo_taken.2.1 15 = .ok (.aload_n 0, 1) := by decide +kernel
theorem d_Mo_taken_16 : decode M_Mo_taken.2.1 16 = .ok (.bipush 9, 2) := by decide +kernel
theorem d_Mo_taken_18 : decode M_Mo_taken.2.1 18 = .ok (.invokevirtual 111, 3) := by decide +kernel
theorem d_Mo_taken_21 : decode M_Mo_taken.2.1 21 = .ok (.goto 8, 3) := by decide +kernel
theorem d_Mo_taken_24 : decode M_Mo_taken.2.1 24 = .ok (.aload_n 0, 1) := by decide +kernel
theorem d_Mo_taken_25 : decode M_Mo_taken.2.1 25 = .ok (.iload_n 1, 1) := by decide +kernel
theorem d_Mo_taken_26 : decode M_Mo_taken.2.1 26 = .ok (.invokevirtual 115, 3) := by decide +kernel
theorem d_Mo_taken_29 : decode M_Mo_taken.2.1 29 = .ok (.ireturn, 1) := by decide +kernel
theorem d_Mo_walkerRow_0 : decode M_Mo_walkerRow.2.1 0 = .ok (.bipush 10, 2) := by decide +kernel
theorem d_Mo_walkerRow_2 : decode M_Mo_walkerRow.2.1 2 = .ok (.iconst 3, 1) := by decide +kernel
theorem d_Mo_walkerRow_3 : decode M_Mo_walkerRow.2.1 3 = .ok (.iload_n 0, 1) := by decide +kernel
theorem d_Mo_walkerRow_4 : decode M_Mo_walkerRow.2.1 4 = .ok (.imul, 1) := by decide +kernel
theorem d_Mo_walkerRow_5 : decode M_Mo_walkerRow.2.1 5 = .ok (.iadd, 1) := by decide +kernel
theorem d_Mo_walkerRow_6 : decode M_Mo_walkerRow.2.1 6 = .ok (.ireturn, 1) := by decide +kernel
theorem d_Mo_legRow_0 : decode M_Mo_legRow.2.1 0 = .ok (.bipush 22, 2) := by decide +kernel
theorem d_Mo_legRow_2 : decode M_Mo_legRow.2.1 2 = .ok (.iconst 5, 1) := by decide +kernel
theorem d_Mo_legRow_3 : decode M_Mo_legRow.2.1 3 = .ok (.iload_n 0, 1) := by decide +kernel
theorem d_Mo_legRow_4 : decode M_Mo_legRow.2.1 4 = .ok (.imul, 1) := by decide +kernel
theorem d_Mo_legRow_5 : decode M_Mo_legRow.2.1 5 = .ok (.iadd, 1) := by decide +kernel
theorem d_Mo_legRow_6 : decode M_Mo_legRow.2.1 6 = .ok (.ireturn, 1) := by decide +kernel
theorem d_Mo_isIn_0 : decode M_Mo_isIn.2.1 0 = .ok (.iload_n 1, 1) := by decide +kernel
theorem d_Mo_isIn_1 : decode M_Mo_isIn.2.1 1 = .ok (.iload_n 2, 1) := by decide +kernel
theorem d_Mo_isIn_2 : decode M_Mo_isIn.2.1 2 = .ok (.ishr, 1) := by decide +kernel
theorem d_Mo_isIn_3 : decode M_Mo_isIn.2.1 3 = .ok (.iconst 1, 1) := by decide +kernel
theorem d_Mo_isIn_4 : decode M_Mo_isIn.2.1 4 = .ok (.iand, 1) := by decide +kernel
theorem d_Mo_isIn_5 : decode M_Mo_isIn.2.1 5 = .ok (.iconst 1, 1) := by decide +kernel
theorem d_Mo_isIn_6 : decode M_Mo_isIn.2.1 6 = .ok (.if_icmp .ne 7, 3) := by decide +kernel
theorem d_Mo_isIn_9 : decode M_Mo_isIn.2.1 9 = .ok (.iconst 1, 1) := by decide +kernel
theorem d_Mo_isIn_10 : decode M_Mo_isIn.2.1 10 = .ok (.goto 4, 3) := by decide +kernel
theorem d_Mo_isIn_13 : decode M_Mo_isIn.2.1 13 = .ok (.iconst 0, 1) := by decide +kernel
theorem d_Mo_isIn_14 : decode M_Mo_isIn.2.1 14 = .ok (.ireturn, 1) := by decide +kernel
theorem d_Mo_isThere_0 : decode M_Mo_isThere.2.1 0 = .ok (.aload_n 0, 1) := by decide +kernel
theorem d_Mo_isThere_1 : decode M_Mo_isThere.2.1 1 = .ok (.ldc 204, 2) := by decide +kernel
theorem d_Mo_isThere_3 : decode M_Mo_isThere.2.1 3 = .ok (.invokevirtual 196, 3) := by decide +kernel
theorem d_Mo_isThere_6 : decode M_Mo_isThere.2.1 6 = .ok (.iload_n 1, 1) := by decide +kernel
theorem d_Mo_isThere_7 : decode M_Mo_isThere.2.1 7 = .ok (.if_icmp .eq 5, 3) := by decide +kernel
theorem d_Mo_isThere_10 : decode M_Mo_isThere.2.1 10 = .ok (.iconst 0, 1) := by decide +kernel
theorem d_Mo_isThere_11 : decode M_Mo_isThere.2.1 11 = .ok (.ireturn, 1) := by decide +kernel
theorem d_Mo_isThere_12 : decode M_Mo_isThere.2.1 12 = .ok (.aload_n 0, 1) := by decide +kernel
theorem d_Mo_isThere_13 : decode M_Mo_isThere.2.1 13 = .ok (.invokevirtual 187, 3) := by decide +kernel
theorem d_Mo_isThere_16 : decode M_Mo_isThere.2.1 16 = .ok (.iconst 1, 1) := by decide +kernel
theorem d_Mo_isThere_17 : decode M_Mo_isThere.2.1 17 = .ok (.ireturn, 1) := by decide +kernel
theorem d_Mo_newName_0 : decode M_Mo_newName.2.1 0 = .ok (.aload_n 0, 1) := by decide +kernel
theorem d_Mo_newName_1 : decode M_Mo_newName.2.1 1 = .ok (.ldc 204, 2) := by decide +kernel
theorem d_Mo_newName_3 : decode M_Mo_newName.2.1 3 = .ok (.invokevirtual 206, 3) := by decide +kernel
theorem d_Mo_newName_6 : decode M_Mo_newName.2.1 6 = .ok (.ifCond .ne 9, 3) := by decide +kernel
theorem d_Mo_newName_9 : decode M_Mo_newName.2.1 9 = .ok (.aload_n 0, 1) := by decide +kernel
theorem d_Mo_newName_10 : decode M_Mo_newName.2.1 10 = .ok (.iconst 2, 1) := by decide +kernel
theorem d_Mo_newName_11 : decode M_Mo_newName.2.1 11 = .ok (.invokevirtual 193, 3) := by decide +kernel
theorem d_Mo_newName_14 : decode M_Mo_newName.2.1 14 = .ok (.ireturn, 1) := by decide +kernel
theorem d_Mo_newName_15 : decode M_Mo_newName.2.1 15 = .ok (.aload_n 0, 1) := by decide +kernel
theorem d_Mo_newName_16 : decode M_Mo_newName.2.1 16 = .ok (.bipush 44, 2) := by decide +kernel
theorem d_Mo_newName_18 : decode M_Mo_newName.2.1 18 = .ok (.aload_n 0, 1) := by decide +kernel
theorem d_Mo_newName_19 : decode M_Mo_newName.2.1 19 = .ok (.getfield 7, 3) := by decide +kernel
theorem d_Mo_newName_22 : decode M_Mo_newName.2.1 22 = .ok (.sipush 1800, 3) := by decide +kernel
theorem d_Mo_newName_25 : decode M_Mo_newName.2.1 25 = .ok (.iaload, 1) := by decide +kernel
theorem d_Mo_newName_26 : decode M_Mo_newName.2.1 26 = .ok (.invokevirtual 210, 3) := by decide +kernel
theorem d_Mo_newName_29 : decode M_Mo_newName.2.1 29 = .ok (.iconst (-1), 1) := by decide +kernel
theorem d_Mo_newName_30 : decode M_Mo_newName.2.1 30 = .ok (.if_icmp .ne 21, 3) := by decide +kernel
theorem d_Mo_newName_33 : decode M_Mo_newName.2.1 33 = .ok (.aload_n 0, 1) := by decide +kernel
theorem d_Mo_newName_34 : decode M_Mo_newName.2.1 34 = .ok (.bipush 51, 2) := by decide +kernel
theorem d_Mo_newName_36 : decode M_Mo_newName.2.1 36 = .ok (.aload_n 0, 1) := by decide +kernel
theorem d_Mo_newName_37 : decode M_Mo_newName.2.1 37 = .ok (.getfield 7, 3) := by decide +kernel
theorem d_Mo_newName_40 : decode M_Mo_newName.2.1 40 = .ok (.sipush 1801, 3) := by decide +kernel
theorem d_Mo_newName_43 : decode M_Mo_newName.2.1 43 = .ok (.iaload, 1) := by decide +kernel
theorem d_Mo_newName_44 : decode M_Mo_newName.2.1 44 = .ok (.invokevirtual 210, 3) := by decide +kernel
theorem d_Mo_newName_47 : decode M_Mo_newName.2.1 47 = .ok (.iconst (-1), 1) := by decide +kernel
theorem d_Mo_newName_48 : decode M_Mo_newName.2.1 48 = .ok (.if_icmp .eq 9, 3) := by decide +kernel
theorem d_Mo_newName_51 : decode M_Mo_newName.2.1 51 = .ok (.aload_n 0, 1) := by decide +kernel
theorem d_Mo_newName_52 : decode M_Mo_newName.2.1 52 = .ok (.iconst 3, 1) := by decide +kernel
theorem d_Mo_newName_53 : decode M_Mo_newName.2.1 53 = .ok (.invokevirtual 193, 3) := by decide +kernel
theorem d_Mo_newName_56 : decode M_Mo_newName.2.1 56 = .ok (.ireturn, 1) := by decide +kernel
theorem d_Mo_newName_57 : decode M_Mo_newName.2.1 57 = .ok (.aload_n 0, 1) := by decide +kernel
theorem d_Mo_newName_58 : decode M_Mo_newName.2.1 58 = .ok (.getfield 13, 3) := by decide +kernel
theorem d_Mo_newName_61 : decode M_Mo_newName.2.1 61 = .ok (.iload_n 1, 1) := by decide +kernel
theorem d_Mo_newName_62 : decode M_Mo_newName.2.1 62 = .ok (.aload_n 0, 1) := by decide +kernel
theorem d_Mo_newName_63 : decode M_Mo_newName.2.1 63 = .ok (.invokevirtual 200, 3) := by decide +kernel
theorem d_Mo_newName_66 : decode M_Mo_newName.2.1 66 = .ok (.lastore, 1) := by decide +kernel
theorem d_Mo_newName_67 : decode M_Mo_newName.2.1 67 = .ok (.aload_n 0, 1) := by decide +kernel
theorem d_Mo_newName_68 : decode M_Mo_newName.2.1 68 = .ok (.invokevirtual 187, 3) := by decide +kernel
theorem d_Mo_newName_71 : decode M_Mo_newName.2.1 71 = .ok (.iconst 1, 1) := by decide +kernel
theorem d_Mo_newName_72 : decode M_Mo_newName.2.1 72 = .ok (.ireturn, 1) := by decide +kernel
theorem d_Mo_knownTo_0 : decode M_Mo_knownTo.2.1 0 = .ok (.aload_n 0, 1) := by decide +kernel
theorem d_Mo_knownTo_1 : decode M_Mo_knownTo.2.1 1 = .ok (.ldc 204, 2) := by decide +kernel
theorem d_Mo_knownTo_3 : decode M_Mo_knownTo.2.1 3 = .ok (.invokevirtual 206, 3) := by decide +kernel
theorem d_Mo_knownTo_6 : decode M_Mo_knownTo.2.1 6 = .ok (.ifCond .ne 9, 3) := by decide +kernel
theorem d_Mo_knownTo_9 : decode M_Mo_knownTo.2.1 9 = .ok (.aload_n 0, 1) := by decide +kernel
theorem d_Mo_knownTo_10 : decode M_Mo_knownTo.2.1 10 = .ok (.iconst 2, 1) := by decide +kernel
theorem d_Mo_knownTo_11 : decode M_Mo_knownTo.2.1 11 = .ok (.invokevirtual 193, 3) := by decide +kernel
theorem d_Mo_knownTo_14 : decode M_Mo_knownTo.2.1 14 = .ok (.ireturn, 1) := by decide +kernel
theorem d_Mo_knownTo_15 : decode M_Mo_knownTo.2.1 15 = .ok (.iload_n 1, 1) := by decide +kernel
theorem d_Mo_knownTo_16 : decode M_Mo_knownTo.2.1 16 = .ok (.sipush 1800, 3) := by decide +kernel
theorem d_Mo_knownTo_19 : decode M_Mo_knownTo.2.1 19 = .ok (.if_icmp .ne 8, 3) := by decide +kernel
theorem d_Mo_knownTo_22 : decode M_Mo_knownTo.2.1 22 = .ok (.bipush 44, 2) := by decide +kernel
theorem d_Mo_knownTo_24 : decode M_Mo_knownTo.2.1 24 = .ok (.goto 4, 3) := by decide +kernel
theorem d_Mo_knownTo_27 : decode M_Mo_knownTo.2.1 27 = .ok (.iconst 0, 1) := by decide +kernel
theorem d_Mo_knownTo_28 : decode M_Mo_knownTo.2.1 28 = .ok (.istore 4, 2) := by decide +kernel
theorem d_Mo_knownTo_30 : decode M_Mo_knownTo.2.1 30 = .ok (.aload_n 0, 1) := by decide +kernel
theorem d_Mo_knownTo_31 : decode M_Mo_knownTo.2.1 31 = .ok (.getfield 7, 3) := by decide +kernel
theorem d_Mo_knownTo_34 : decode M_Mo_knownTo.2.1 34 = .ok (.iload_n 3, 1) := by decide +kernel
theorem d_Mo_knownTo_35 : decode M_Mo_knownTo.2.1 35 = .ok (.iload_n 2, 1) := by decide +kernel
theorem d_Mo_knownTo_36 : decode M_Mo_knownTo.2.1 36 = .ok (.ifCond .eq 23, 3) := by decide +kernel
theorem d_Mo_knownTo_39 : decode M_Mo_knownTo.2.1 39 = .ok (.aload_n 0, 1) := by decide +kernel
theorem d_Mo_knownTo_40 : decode M_Mo_knownTo.2.1 40 = .ok (.iload 4, 2) := by decide +kernel
theorem d_Mo_knownTo_42 : decode M_Mo_knownTo.2.1 42 = .ok (.bipush 7, 2) := by decide +kernel
theorem d_Mo_knownTo_44 : decode M_Mo_knownTo.2.1 44 = .ok (.iadd, 1) := by decide +kernel
theorem d_Mo_knownTo_45 : decode M_Mo_knownTo.2.1 45 = .ok (.aload_n 0, 1) := by decide +kernel
theorem d_Mo_knownTo_46 : decode M_Mo_knownTo.2.1 46 = .ok (.getfield 7, 3) := by decide +kernel
theorem d_Mo_knownTo_49 : decode M_Mo_knownTo.2.1 49 = .ok (.iload_n 1, 1) := by decide +kernel
theorem d_Mo_knownTo_50 : decode M_Mo_knownTo.2.1 50 = .ok (.iconst 1, 1) := by decide +kernel
theorem d_Mo_knownTo_51 : decode M_Mo_knownTo.2.1 51 = .ok (.iadd, 1) := by decide +kernel
theorem d_Mo_knownTo_52 : decode M_Mo_knownTo.2.1 52 = .ok (.iaload, 1) := by decide +kernel
theorem d_Mo_knownTo_53 : decode M_Mo_knownTo.2.1 53 = .ok (.invokevirtual 210, 3) := by decide +kernel
theorem d_Mo_knownTo_56 : decode M_Mo_knownTo.2.1 56 = .ok (.goto 17, 3) := by decide +kernel
theorem d_Mo_knownTo_59 : decode M_Mo_knownTo.2.1 59 = .ok (.aload_n 0, 1) := by decide +kernel
theorem d_Mo_knownTo_60 : decode M_Mo_knownTo.2.1 60 = .ok (.iload 4, 2) := by decide +kernel
theorem d_Mo_knownTo_62 : decode M_Mo_knownTo.2.1 62 = .ok (.aload_n 0, 1) := by decide +kernel
theorem d_Mo_knownTo_63 : decode M_Mo_knownTo.2.1 63 = .ok (.getfield 7, 3) := by decide +kernel
theorem d_Mo_knownTo_66 : decode M_Mo_knownTo.2.1 66 = .ok (.iload_n 1, 1) := by decide +kernel
theorem d_Mo_knownTo_67 : decode M_Mo_knownTo.2.1 67 = .ok (.iconst 0, 1) := by decide +kernel
theorem d_Mo_knownTo_68 : decode M_Mo_knownTo.2.1 68 = .ok (.iadd, 1) := by decide +kernel
theorem d_Mo_knownTo_69 : decode M_Mo_knownTo.2.1 69 = .ok (.iaload, 1) := by decide +kernel
theorem d_Mo_knownTo_70 : decode M_Mo_knownTo.2.1 70 = .ok (.invokevirtual 210, 3) := by decide +kernel
theorem d_Mo_knownTo_73 : decode M_Mo_knownTo.2.1 73 = .ok (.iastore, 1) := by decide +kernel
theorem d_Mo_knownTo_74 : decode M_Mo_knownTo.2.1 74 = .ok (.aload_n 0, 1) := by decide +kernel
theorem d_Mo_knownTo_75 : decode M_Mo_knownTo.2.1 75 = .ok (.getfield 7, 3) := by decide +kernel
theorem d_Mo_knownTo_78 : decode M_Mo_knownTo.2.1 78 = .ok (.iload_n 3, 1) := by decide +kernel
theorem d_Mo_knownTo_79 : decode M_Mo_knownTo.2.1 79 = .ok (.iaload, 1) := by decide +kernel
theorem d_Mo_knownTo_80 : decode M_Mo_knownTo.2.1 80 = .ok (.iconst (-1), 1) := by decide +kernel
theorem d_Mo_knownTo_81 : decode M_Mo_knownTo.2.1 81 = .ok (.if_icmp .ne 9, 3) := by decide +kernel
theorem d_Mo_knownTo_84 : decode M_Mo_knownTo.2.1 84 = .ok (.aload_n 0, 1) := by decide +kernel
theorem d_Mo_knownTo_85 : decode M_Mo_knownTo.2.1 85 = .ok (.iconst 3, 1) := by decide +kernel
theorem d_Mo_knownTo_86 : decode M_Mo_knownTo.2.1 86 = .ok (.invokevirtual 193, 3) := by decide +kernel
theorem d_Mo_knownTo_89 : decode M_Mo_knownTo.2.1 89 = .ok (.ireturn, 1) := by decide +kernel
theorem d_Mo_knownTo_90 : decode M_Mo_knownTo.2.1 90 = .ok (.aload_n 0, 1) := by decide +kernel
theorem d_Mo_knownTo_91 : decode M_Mo_knownTo.2.1 91 = .ok (.invokevirtual 187, 3) := by decide +kernel
theorem d_Mo_knownTo_94 : decode M_Mo_knownTo.2.1 94 = .ok (.iconst 1, 1) := by decide +kernel
theorem d_Mo_knownTo_95 : decode M_Mo_knownTo.2.1 95 = .ok (.ireturn, 1) := by decide +kernel
theorem d_Mo_aPlace_0 : decode M_Mo_aPlace.2.1 0 = .ok (.aload_n 0, 1) := by decide +kernel
theorem d_Mo_aPlace_1 : decode M_Mo_aPlace.2.1 1 = .ok (.getfield 7, 3) := by decide +kernel
theorem d_Mo_aPlace_4 : decode M_Mo_aPlace.2.1 4 = .ok (.sipush 1800, 3) := by decide +kernel
theorem d_Mo_aPlace_7 : decode M_Mo_aPlace.2.1 7 = .ok (.iaload, 1) := by decide +kernel
theorem d_Mo_aPlace_8 : decode M_Mo_aPlace.2.1 8 = .ok (.istore_n 1, 1) := by decide +kernel
theorem d_Mo_aPlace_9 : decode M_Mo_aPlace.2.1 9 = .ok (.iload_n 1, 1) := by decide +kernel
theorem d_Mo_aPlace_10 : decode M_Mo_aPlace.2.1 10 = .ok (.bipush 7, 2) := by decide +kernel
theorem d_Mo_aPlace_12 : decode M_Mo_aPlace.2.1 12 = .ok (.if_icmp .ne 10, 3) := by decide +kernel
theorem d_Mo_aPlace_15 : decode M_Mo_aPlace.2.1 15 = .ok (.aload_n 0, 1) := by decide +kernel
theorem d_Mo_aPlace_16 : decode M_Mo_aPlace.2.1 16 = .ok (.bipush 6, 2) := by decide +kernel
theorem d_Mo_aPlace_18 : decode M_Mo_aPlace.2.1 18 = .ok (.invokevirtual 193, 3) := by decide +kernel
theorem d_Mo_aPlace_21 : decode M_Mo_aPlace.2.1 21 = .ok (.ireturn, 1) := by decide +kernel
theorem d_Mo_aPlace_22 : decode M_Mo_aPlace.2.1 22 = .ok (.aload_n 0, 1) := by decide +kernel
theorem d_Mo_aPlace_23 : decode M_Mo_aPlace.2.1 23 = .ok (.invokevirtual 187, 3) := by decide +kernel
theorem d_Mo_aPlace_26 : decode M_Mo_aPlace.2.1 26 = .ok (.aload_n 0, 1) := by decide +kernel
theorem d_Mo_aPlace_27 : decode M_Mo_aPlace.2.1 27 = .ok (.bipush 44, 2) := by decide +kernel
theorem d_Mo_aPlace_29 : decode M_Mo_aPlace.2.1 29 = .ok (.iload_n 1, 1) := by decide +kernel
theorem d_Mo_aPlace_30 : decode M_Mo_aPlace.2.1 30 = .ok (.iadd, 1) := by decide +kernel
theorem d_Mo_aPlace_31 : decode M_Mo_aPlace.2.1 31 = .ok (.invokevirtual 213, 3) := by decide +kernel
theorem d_Mo_aPlace_34 : decode M_Mo_aPlace.2.1 34 = .ok (.ifCond .ne 5, 3) := by decide +kernel
theorem d_Mo_aPlace_37 : decode M_Mo_aPlace.2.1 37 = .ok (.iconst 0, 1) := by decide +kernel
theorem d_Mo_aPlace_38 : decode M_Mo_aPlace.2.1 38 = .ok (.ireturn, 1) := by decide +kernel
theorem d_Mo_aPlace_39 : decode M_Mo_aPlace.2.1 39 = .ok (.iload_n 1, 1) := by decide +kernel
theorem d_Mo_aPlace_40 : decode M_Mo_aPlace.2.1 40 = .ok (.ifCond .ne 12, 3) := by decide +kernel
theorem d_Mo_aPlace_43 : decode M_Mo_aPlace.2.1 43 = .ok (.aload_n 0, 1) := by decide +kernel
theorem d_Mo_aPlace_44 : decode M_Mo_aPlace.2.1 44 = .ok (.getfield 7, 3) := by decide +kernel
theorem d_Mo_aPlace_47 : decode M_Mo_aPlace.2.1 47 = .ok (.sipush 1804, 3) := by decide +kernel
theorem d_Mo_aPlace_50 : decode M_Mo_aPlace.2.1 50 = .ok (.iconst 0, 1) := by decide +kernel
theorem d_Mo_aPlace_51 : decode M_Mo_aPlace.2.1 51 = .ok (.iastore, 1) := by decide +kernel
theorem d_Mo_aPlace_52 : decode M_Mo_aPlace.2.1 52 = .ok (.aload_n 0, 1) := by decide +kernel
theorem d_Mo_aPlace_53 : decode M_Mo_aPlace.2.1 53 = .ok (.getfield 7, 3) := by decide +kernel
theorem d_Mo_aPlace_56 : decode M_Mo_aPlace.2.1 56 = .ok (.sipush 1800, 3) := by decide +kernel
theorem d_Mo_aPlace_59 : decode M_Mo_aPlace.2.1 59 = .ok (.dup2, 1) := by decide +kernel
theorem d_Mo_aPlace_60 : decode M_Mo_aPlace.2.1 60 = .ok (.iaload, 1) := by decide +kernel
theorem d_Mo_aPlace_61 : decode M_Mo_aPlace.2.1 61 = .ok (.iconst 1, 1) := by decide +kernel
theorem d_Mo_aPlace_62 : decode M_Mo_aPlace.2.1 62 = .ok (.iadd, 1) := by decide +kernel
theorem d_Mo_aPlace_63 : decode M_Mo_aPlace.2.1 63 = .ok (.iastore, 1) := by decide +kernel
theorem d_Mo_aPlace_64 : decode M_Mo_aPlace.2.1 64 = .ok (.iconst 1, 1) := by decide +kernel
theorem d_Mo_aPlace_65 : decode M_Mo_aPlace.2.1 65 = .ok (.ireturn, 1) := by decide +kernel
theorem d_Mo_aWalker_0 : decode M_Mo_aWalker.2.1 0 = .ok (.aload_n 0, 1) := by decide +kernel
theorem d_Mo_aWalker_1 : decode M_Mo_aWalker.2.1 1 = .ok (.getfield 7, 3) := by decide +kernel
theorem d_Mo_aWalker_4 : decode M_Mo_aWalker.2.1 4 = .ok (.sipush 1801, 3) := by decide +kernel
theorem d_Mo_aWalker_7 : decode M_Mo_aWalker.2.1 7 = .ok (.iaload, 1) := by decide +kernel
theorem d_Mo_aWalker_8 : decode M_Mo_aWalker.2.1 8 = .ok (.istore_n 1, 1) := by decide +kernel
theorem d_Mo_aWalker_9 : decode M_Mo_aWalker.2.1 9 = .ok (.sipush 1800, 3) := by decide +kernel
theorem d_Mo_aWalker_12 : decode M_Mo_aWalker.2.1 12 = .ok (.iload_n 1, 1) := by decide +kernel
theorem d_Mo_aWalker_13 : decode M_Mo_aWalker.2.1 13 = .ok (.invokestatic 216, 3) := by decide +kernel
theorem d_Mo_aWalker_16 : decode M_Mo_aWalker.2.1 16 = .ok (.iadd, 1) := by decide +kernel
theorem d_Mo_aWalker_17 : decode M_Mo_aWalker.2.1 17 = .ok (.istore_n 2, 1) := by decide +kernel
theorem d_Mo_aWalker_18 : decode M_Mo_aWalker.2.1 18 = .ok (.iload_n 1, 1) := by decide +kernel
theorem d_Mo_aWalker_19 : decode M_Mo_aWalker.2.1 19 = .ok (.iconst 4, 1) := by decide +kernel
theorem d_Mo_aWalker_20 : decode M_Mo_aWalker.2.1 20 = .ok (.if_icmp .ne 10, 3) := by decide +kernel
theorem d_Mo_aWalker_23 : decode M_Mo_aWalker.2.1 23 = .ok (.aload_n 0, 1) := by decide +kernel
theorem d_Mo_aWalker_24 : decode M_Mo_aWalker.2.1 24 = .ok (.bipush 6, 2) := by decide +kernel
theorem d_Mo_aWalker_26 : decode M_Mo_aWalker.2.1 26 = .ok (.invokevirtual 193, 3) := by decide +kernel
theorem d_Mo_aWalker_29 : decode M_Mo_aWalker.2.1 29 = .ok (.ireturn, 1) := by decide +kernel
theorem d_Mo_aWalker_30 : decode M_Mo_aWalker.2.1 30 = .ok (.aload_n 0, 1) := by decide +kernel
theorem d_Mo_aWalker_31 : decode M_Mo_aWalker.2.1 31 = .ok (.invokevirtual 187, 3) := by decide +kernel
theorem d_Mo_aWalker_34 : decode M_Mo_aWalker.2.1 34 = .ok (.aload_n 0, 1) := by decide +kernel
theorem d_Mo_aWalker_35 : decode M_Mo_aWalker.2.1 35 = .ok (.bipush 51, 2) := by decide +kernel
theorem d_Mo_aWalker_37 : decode M_Mo_aWalker.2.1 37 = .ok (.iload_n 1, 1) := by decide +kernel
theorem d_Mo_aWalker_38 : decode M_Mo_aWalker.2.1 38 = .ok (.iadd, 1) := by decide +kernel
theorem d_Mo_aWalker_39 : decode M_Mo_aWalker.2.1 39 = .ok (.invokevirtual 213, 3) := by decide +kernel
theorem d_Mo_aWalker_42 : decode M_Mo_aWalker.2.1 42 = .ok (.ifCond .ne 5, 3) := by decide +kernel
theorem d_Mo_aWalker_45 : decode M_Mo_aWalker.2.1 45 = .ok (.iconst 0, 1) := by decide +kernel
theorem d_Mo_aWalker_46 : decode M_Mo_aWalker.2.1 46 = .ok (.ireturn, 1) := by decide +kernel
theorem d_Mo_aWalker_47 : decode M_Mo_aWalker.2.1 47 = .ok (.aload_n 0, 1) := by decide +kernel
theorem d_Mo_aWalker_48 : decode M_Mo_aWalker.2.1 48 = .ok (.getfield 7, 3) := by decide +kernel
theorem d_Mo_aWalker_51 : decode M_Mo_aWalker.2.1 51 = .ok (.iload_n 2, 1) := by decide +kernel
theorem d_Mo_aWalker_52 : decode M_Mo_aWalker.2.1 52 = .ok (.iconst 0, 1) := by decide +kernel
theorem d_Mo_aWalker_53 : decode M_Mo_aWalker.2.1 53 = .ok (.iastore, 1) := by decide +kernel
theorem d_Mo_aWalker_54 : decode M_Mo_aWalker.2.1 54 = .ok (.aload_n 0, 1) := by decide +kernel
theorem d_Mo_aWalker_55 : decode M_Mo_aWalker.2.1 55 = .ok (.iconst 4, 1) := by decide +kernel
theorem d_Mo_aWalker_56 : decode M_Mo_aWalker.2.1 56 = .ok (.invokevirtual 219, 3) := by decide +kernel
theorem d_Mo_aWalker_59 : decode M_Mo_aWalker.2.1 59 = .ok (.ifCond .eq 15, 3) := by decide +kernel
theorem d_Mo_aWalker_62 : decode M_Mo_aWalker.2.1 62 = .ok (.aload_n 0, 1) := by decide +kernel
theorem d_Mo_aWalker_63 : decode M_Mo_aWalker.2.1 63 = .ok (.iload_n 2, 1) := by decide +kernel
theorem d_Mo_aWalker_64 : decode M_Mo_aWalker.2.1 64 = .ok (.iconst 0, 1) := by decide +kernel
theorem d_Mo_aWalker_65 : decode M_Mo_aWalker.2.1 65 = .ok (.iconst 3, 1) := by decide +kernel
theorem d_Mo_aWalker_66 : decode M_Mo_aWalker.2.1 66 = .ok (.invokevirtual 222, 3) := by decide +kernel
theorem d_Mo_aWalker_69 : decode M_Mo_aWalker.2.1 69 = .ok (.ifCond .ne 5, 3) := by decide +kernel
theorem d_Mo_aWalker_72 : decode M_Mo_aWalker.2.1 72 = .ok (.iconst 0, 1) := by decide +kernel
theorem d_Mo_aWalker_73 : decode M_Mo_aWalker.2.1 73 = .ok (.ireturn, 1) := by decide +kernel
theorem d_Mo_aWalker_74 : decode M_Mo_aWalker.2.1 74 = .ok (.aload_n 0, 1) := by decide +kernel
theorem d_Mo_aWalker_75 : decode M_Mo_aWalker.2.1 75 = .ok (.getfield 7, 3) := by decide +kernel
theorem d_Mo_aWalker_78 : decode M_Mo_aWalker.2.1 78 = .ok (.iload_n 2, 1) := by decide +kernel
theorem d_Mo_aWalker_79 : decode M_Mo_aWalker.2.1 79 = .ok (.iconst 1, 1) := by decide +kernel
theorem d_Mo_aWalker_80 : decode M_Mo_aWalker.2.1 80 = .ok (.iadd, 1) := by decide +kernel
theorem d_Mo_aWalker_81 : decode M_Mo_aWalker.2.1 81 = .ok (.aload_n 0, 1) := by decide +kernel
theorem d_Mo_aWalker_82 : decode M_Mo_aWalker.2.1 82 = .ok (.iconst 5, 1) := by decide +kernel
theorem d_Mo_aWalker_83 : decode M_Mo_aWalker.2.1 83 = .ok (.invokevirtual 219, 3) := by decide +kernel
theorem d_Mo_aWalker_86 : decode M_Mo_aWalker.2.1 86 = .ok (.ifCond .eq 7, 3) := by decide +kernel
theorem d_Mo_aWalker_89 : decode M_Mo_aWalker.2.1 89 = .ok (.iconst 1, 1) := by decide +kernel
theorem d_Mo_aWalker_90 : decode M_Mo_aWalker.2.1 90 = .ok (.goto 4, 3) := by decide +kernel
theorem d_Mo_aWalker_93 : decode M_Mo_aWalker.2.1 93 = .ok (.iconst 0, 1) := by decide +kernel
theorem d_Mo_aWalker_94 : decode M_Mo_aWalker.2.1 94 = .ok (.iastore, 1) := by decide +kernel
theorem d_Mo_aWalker_95 : decode M_Mo_aWalker.2.1 95 = .ok (.aload_n 0, 1) := by decide +kernel
theorem d_Mo_aWalker_96 : decode M_Mo_aWalker.2.1 96 = .ok (.getfield 7, 3) := by decide +kernel
theorem d_Mo_aWalker_99 : decode M_Mo_aWalker.2.1 99 = .ok (.iload_n 2, 1) := by decide +kernel
theorem d_Mo_aWalker_100 : decode M_Mo_aWalker.2.1 100 = .ok (.iconst 2, 1) := by decide +kernel
theorem d_Mo_aWalker_101 : decode M_Mo_aWalker.2.1 101 = .ok (.iadd, 1) := by decide +kernel
theorem d_Mo_aWalker_102 : decode M_Mo_aWalker.2.1 102 = .ok (.iconst 1, 1) := by decide +kernel
theorem d_Mo_aWalker_103 : decode M_Mo_aWalker.2.1 103 = .ok (.iastore, 1) := by decide +kernel
theorem d_Mo_aWalker_104 : decode M_Mo_aWalker.2.1 104 = .ok (.aload_n 0, 1) := by decide +kernel
theorem d_Mo_aWalker_105 : decode M_Mo_aWalker.2.1 105 = .ok (.bipush 6, 2) := by decide +kernel
theorem d_Mo_aWalker_107 : decode M_Mo_aWalker.2.1 107 = .ok (.invokevirtual 219, 3) := by decide +kernel
theorem d_Mo_aWalker_110 : decode M_Mo_aWalker.2.1 110 = .ok (.ifCond .eq 17, 3) := by decide +kernel
theorem d_Mo_aWalker_113 : decode M_Mo_aWalker.2.1 113 = .ok (.aload_n 0, 1) := by decide +kernel
theorem d_Mo_aWalker_114 : decode M_Mo_aWalker.2.1 114 = .ok (.iload_n 2, 1) := by decide +kernel
theorem d_Mo_aWalker_115 : decode M_Mo_aWalker.2.1 115 = .ok (.iconst 2, 1) := by decide +kernel
theorem d_Mo_aWalker_116 : decode M_Mo_aWalker.2.1 116 = .ok (.iadd, 1) := by decide +kernel
theorem d_Mo_aWalker_117 : decode M_Mo_aWalker.2.1 117 = .ok (.iconst 1, 1) := by decide +kernel
theorem d_Mo_aWalker_118 : decode M_Mo_aWalker.2.1 118 = .ok (.iconst 3, 1) := by decide +kernel
theorem d_Mo_aWalker_119 : decode M_Mo_aWalker.2.1 119 = .ok (.invokevirtual 222, 3) := by decide +kernel
theorem d_Mo_aWalker_122 : decode M_Mo_aWalker.2.1 122 = .ok (.ifCond .ne 5, 3) := by decide +kernel
theorem d_Mo_aWalker_125 : decode M_Mo_aWalker.2.1 125 = .ok (.iconst 0, 1) := by decide +kernel
theorem d_Mo_aWalker_126 : decode M_Mo_aWalker.2.1 126 = .ok (.ireturn, 1) := by decide +kernel
theorem d_Mo_aWalker_127 : decode M_Mo_aWalker.2.1 127 = .ok (.aload_n 0, 1) := by decide +kernel
theorem d_Mo_aWalker_128 : decode M_Mo_aWalker.2.1 128 = .ok (.getfield 7, 3) := by decide +kernel
theorem d_Mo_aWalker_131 : decode M_Mo_aWalker.2.1 131 = .ok (.sipush 1801, 3) := by decide +kernel
theorem d_Mo_aWalker_134 : decode M_Mo_aWalker.2.1 134 = .ok (.dup2, 1) := by decide +kernel
theorem d_Mo_aWalker_135 : decode M_Mo_aWalker.2.1 135 = .ok (.iaload, 1) := by decide +kernel
theorem d_Mo_aWalker_136 : decode M_Mo_aWalker.2.1 136 = .ok (.iconst 1, 1) := by decide +kernel
theorem d_Mo_aWalker_137 : decode M_Mo_aWalker.2.1 137 = .ok (.iadd, 1) := by decide +kernel
theorem d_Mo_aWalker_138 : decode M_Mo_aWalker.2.1 138 = .ok (.iastore, 1) := by decide +kernel
theorem d_Mo_aWalker_139 : decode M_Mo_aWalker.2.1 139 = .ok (.iconst 1, 1) := by decide +kernel
theorem d_Mo_aWalker_140 : decode M_Mo_aWalker.2.1 140 = .ok (.ireturn, 1) := by decide +kernel
theorem d_Mo_paced_0 : decode M_Mo_paced.2.1 0 = .ok (.aload_n 0, 1) := by decide +kernel
theorem d_Mo_paced_1 : decode M_Mo_paced.2.1 1 = .ok (.ldc 204, 2) := by decide +kernel
theorem d_Mo_paced_3 : decode M_Mo_paced.2.1 3 = .ok (.invokevirtual 196, 3) := by decide +kernel
theorem d_Mo_paced_6 : decode M_Mo_paced.2.1 6 = .ok (.istore 4, 2) := by decide +kernel
theorem d_Mo_paced_8 : decode M_Mo_paced.2.1 8 = .ok (.iload 4, 2) := by decide +kernel
theorem d_Mo_paced_10 : decode M_Mo_paced.2.1 10 = .ok (.iload_n 1, 1) := by decide +kernel
theorem d_Mo_paced_11 : decode M_Mo_paced.2.1 11 = .ok (.if_icmp .eq 15, 3) := by decide +kernel
theorem d_Mo_paced_14 : decode M_Mo_paced.2.1 14 = .ok (.iload 4, 2) := by decide +kernel
theorem d_Mo_paced_16 : decode M_Mo_paced.2.1 16 = .ok (.iload_n 2, 1) := by decide +kernel
theorem d_Mo_paced_17 : decode M_Mo_paced.2.1 17 = .ok (.if_icmp .eq 9, 3) := by decide +kernel
theorem d_Mo_paced_20 : decode M_Mo_paced.2.1 20 = .ok (.aload_n 0, 1) := by decide +kernel
theorem d_Mo_paced_21 : decode M_Mo_paced.2.1 21 = .ok (.iconst 2, 1) := by decide +kernel
theorem d_Mo_paced_22 : decode M_Mo_paced.2.1 22 = .ok (.invokevirtual 193, 3) := by decide +kernel
theorem d_Mo_paced_25 : decode M_Mo_paced.2.1 25 = .ok (.ireturn, 1) := by decide +kernel
theorem d_Mo_paced_26 : decode M_Mo_paced.2.1 26 = .ok (.aload_n 0, 1) := by decide +kernel
theorem d_Mo_paced_27 : decode M_Mo_paced.2.1 27 = .ok (.invokevirtual 187, 3) := by decide +kernel
theorem d_Mo_paced_30 : decode M_Mo_paced.2.1 30 = .ok (.aload_n 0, 1) := by decide +kernel
theorem d_Mo_paced_31 : decode M_Mo_paced.2.1 31 = .ok (.iload_n 3, 1) := by decide +kernel
theorem d_Mo_paced_32 : decode M_Mo_paced.2.1 32 = .ok (.iconst 0, 1) := by decide +kernel
theorem d_Mo_paced_33 : decode M_Mo_paced.2.1 33 = .ok (.bipush 99, 2) := by decide +kernel
theorem d_Mo_paced_35 : decode M_Mo_paced.2.1 35 = .ok (.invokevirtual 222, 3) := by decide +kernel
theorem d_Mo_paced_38 : decode M_Mo_paced.2.1 38 = .ok (.ifCond .ne 5, 3) := by decide +kernel
theorem d_Mo_paced_41 : decode M_Mo_paced.2.1 41 = .ok (.iconst 0, 1) := by decide +kernel
theorem d_Mo_paced_42 : decode M_Mo_paced.2.1 42 = .ok (.ireturn, 1) := by decide +kernel
theorem d_Mo_paced_43 : decode M_Mo_paced.2.1 43 = .ok (.iload 4, 2) := by decide +kernel
theorem d_Mo_paced_45 : decode M_Mo_paced.2.1 45 = .ok (.iload_n 2, 1) := by decide +kernel
theorem d_Mo_paced_46 : decode M_Mo_paced.2.1 46 = .ok (.if_icmp .ne 16, 3) := by decide +kernel
theorem d_Mo_paced_49 : decode M_Mo_paced.2.1 49 = .ok (.aload_n 0, 1) := by decide +kernel
theorem d_Mo_paced_50 : decode M_Mo_paced.2.1 50 = .ok (.getfield 7, 3) := by decide +kernel
theorem d_Mo_paced_53 : decode M_Mo_paced.2.1 53 = .ok (.iload_n 3, 1) := by decide +kernel
theorem d_Mo_paced_54 : decode M_Mo_paced.2.1 54 = .ok (.aload_n 0, 1) := by decide +kernel
theorem d_Mo_paced_55 : decode M_Mo_paced.2.1 55 = .ok (.getfield 7, 3) := by decide +kernel
theorem d_Mo_paced_58 : decode M_Mo_paced.2.1 58 = .ok (.iload_n 3, 1) := by decide +kernel
theorem d_Mo_paced_59 : decode M_Mo_paced.2.1 59 = .ok (.iaload, 1) := by decide +kernel
theorem d_Mo_paced_60 : decode M_Mo_paced.2.1 60 = .ok (.ineg, 1) := by decide +kernel
theorem d_Mo_paced_61 : decode M_Mo_paced.2.1 61 = .ok (.iastore, 1) := by decide +kernel
theorem d_Mo_paced_62 : decode M_Mo_paced.2.1 62 = .ok (.iconst 1, 1) := by decide +kernel
theorem d_Mo_paced_63 : decode M_Mo_paced.2.1 63 = .ok (.ireturn, 1) := by decide +kernel
theorem d_Mo_aLeg_0 : decode M_Mo_aLeg.2.1 0 = .ok (.aload_n 0, 1) := by decide +kernel
theorem d_Mo_aLeg_1 : decode M_Mo_aLeg.2.1 1 = .ok (.getfield 7, 3) := by decide +kernel
theorem d_Mo_aLeg_4 : decode M_Mo_aLeg.2.1 4 = .ok (.sipush 1802, 3) := by decide +kernel
theorem d_Mo_aLeg_7 : decode M_Mo_aLeg.2.1 7 = .ok (.iaload, 1) := by decide +kernel
theorem d_Mo_aLeg_8 : decode M_Mo_aLeg.2.1 8 = .ok (.istore_n 1, 1) := by decide +kernel
theorem d_Mo_aLeg_9 : decode M_Mo_aLeg.2.1 9 = .ok (.sipush 1800, 3) := by decide +kernel
theorem d_Mo_aLeg_12 : decode M_Mo_aLeg.2.1 12 = .ok (.iload_n 1, 1) := by decide +kernel
theorem d_Mo_aLeg_13 : decode M_Mo_aLeg.2.1 13 = .ok (.invokestatic 226, 3) := by decide +kernel
theorem d_Mo_aLeg_16 : decode M_Mo_aLeg.2.1 16 = .ok (.iadd, 1) := by decide +kernel
theorem d_Mo_aLeg_17 : decode M_Mo_aLeg.2.1 17 = .ok (.istore_n 2, 1) := by decide +kernel
theorem d_Mo_aLeg_18 : decode M_Mo_aLeg.2.1 18 = .ok (.sipush 2242, 3) := by decide +kernel
theorem d_Mo_aLeg_21 : decode M_Mo_aLeg.2.1 21 = .ok (.istore_n 3, 1) := by decide +kernel
theorem d_Mo_aLeg_22 : decode M_Mo_aLeg.2.1 22 = .ok (.iload_n 1, 1) := by decide +kernel
theorem d_Mo_aLeg_23 : decode M_Mo_aLeg.2.1 23 = .ok (.bipush 12, 2) := by decide +kernel
theorem d_Mo_aLeg_25 : decode M_Mo_aLeg.2.1 25 = .ok (.if_icmp .ne 10, 3) := by decide +kernel
theorem d_Mo_aLeg_28 : decode M_Mo_aLeg.2.1 28 = .ok (.aload_n 0, 1) := by decide +kernel
theorem d_Mo_aLeg_29 : decode M_Mo_aLeg.2.1 29 = .ok (.bipush 6, 2) := by decide +kernel
theorem d_Mo_aLeg_31 : decode M_Mo_aLeg.2.1 31 = .ok (.invokevirtual 193, 3) := by decide +kernel
theorem d_Mo_aLeg_34 : decode M_Mo_aLeg.2.1 34 = .ok (.ireturn, 1) := by decide +kernel
theorem d_Mo_aLeg_35 : decode M_Mo_aLeg.2.1 35 = .ok (.aload_n 0, 1) := by decide +kernel
theorem d_Mo_aLeg_36 : decode M_Mo_aLeg.2.1 36 = .ok (.invokevirtual 187, 3) := by decide +kernel
theorem d_Mo_aLeg_39 : decode M_Mo_aLeg.2.1 39 = .ok (.aload_n 0, 1) := by decide +kernel
theorem d_Mo_aLeg_40 : decode M_Mo_aLeg.2.1 40 = .ok (.sipush 1800, 3) := by decide +kernel
theorem d_Mo_aLeg_43 : decode M_Mo_aLeg.2.1 43 = .ok (.iconst 1, 1) := by decide +kernel
theorem d_Mo_aLeg_44 : decode M_Mo_aLeg.2.1 44 = .ok (.iload_n 3, 1) := by decide +kernel
theorem d_Mo_aLeg_45 : decode M_Mo_aLeg.2.1 45 = .ok (.invokevirtual 229, 3) := by decide +kernel
theorem d_Mo_aLeg_48 : decode M_Mo_aLeg.2.1 48 = .ok (.ifCond .eq 17, 3) := by decide +kernel
theorem d_Mo_aLeg_51 : decode M_Mo_aLeg.2.1 51 = .ok (.aload_n 0, 1) := by decide +kernel
theorem d_Mo_aLeg_52 : decode M_Mo_aLeg.2.1 52 = .ok (.sipush 1800, 3) := by decide +kernel
theorem d_Mo_aLeg_55 : decode M_Mo_aLeg.2.1 55 = .ok (.iconst 0, 1) := by decide +kernel
theorem d_Mo_aLeg_56 : decode M_Mo_aLeg.2.1 56 = .ok (.iload_n 3, 1) := by decide +kernel
theorem d_Mo_aLeg_57 : decode M_Mo_aLeg.2.1 57 = .ok (.iconst 1, 1) := by decide +kernel
theorem d_Mo_aLeg_58 : decode M_Mo_aLeg.2.1 58 = .ok (.iadd, 1) := by decide +kernel
theorem d_Mo_aLeg_59 : decode M_Mo_aLeg.2.1 59 = .ok (.invokevirtual 229, 3) := by decide +kernel
theorem d_Mo_aLeg_62 : decode M_Mo_aLeg.2.1 62 = .ok (.ifCond .ne 5, 3) := by decide +kernel
theorem d_Mo_aLeg_65 : decode M_Mo_aLeg.2.1 65 = .ok (.iconst 0, 1) := by decide +kernel
theorem d_Mo_aLeg_66 : decode M_Mo_aLeg.2.1 66 = .ok (.ireturn, 1) := by decide +kernel
theorem d_Mo_aLeg_67 : decode M_Mo_aLeg.2.1 67 = .ok (.aload_n 0, 1) := by decide +kernel
theorem d_Mo_aLeg_68 : decode M_Mo_aLeg.2.1 68 = .ok (.ldc 204, 2) := by decide +kernel
theorem d_Mo_aLeg_70 : decode M_Mo_aLeg.2.1 70 = .ok (.invokevirtual 206, 3) := by decide +kernel
theorem d_Mo_aLeg_73 : decode M_Mo_aLeg.2.1 73 = .ok (.ifCond .eq 34, 3) := by decide +kernel
theorem d_Mo_aLeg_76 : decode M_Mo_aLeg.2.1 76 = .ok (.aload_n 0, 1) := by decide +kernel
theorem d_Mo_aLeg_77 : decode M_Mo_aLeg.2.1 77 = .ok (.bipush 44, 2) := by decide +kernel
theorem d_Mo_aLeg_79 : decode M_Mo_aLeg.2.1 79 = .ok (.aload_n 0, 1) := by decide +kernel
theorem d_Mo_aLeg_80 : decode M_Mo_aLeg.2.1 80 = .ok (.getfield 7, 3) := by decide +kernel
theorem d_Mo_aLeg_83 : decode M_Mo_aLeg.2.1 83 = .ok (.sipush 1800, 3) := by decide +kernel
theorem d_Mo_aLeg_86 : decode M_Mo_aLeg.2.1 86 = .ok (.iaload, 1) := by decide +kernel
theorem d_Mo_aLeg_87 : decode M_Mo_aLeg.2.1 87 = .ok (.invokevirtual 210, 3) := by decide +kernel
theorem d_Mo_aLeg_90 : decode M_Mo_aLeg.2.1 90 = .ok (.aload_n 0, 1) := by decide +kernel
theorem d_Mo_aLeg_91 : decode M_Mo_aLeg.2.1 91 = .ok (.getfield 7, 3) := by decide +kernel
theorem d_Mo_aLeg_94 : decode M_Mo_aLeg.2.1 94 = .ok (.iload_n 3, 1) := by decide +kernel
theorem d_Mo_aLeg_95 : decode M_Mo_aLeg.2.1 95 = .ok (.iconst 1, 1) := by decide +kernel
theorem d_Mo_aLeg_96 : decode M_Mo_aLeg.2.1 96 = .ok (.iadd, 1) := by decide +kernel
theorem d_Mo_aLeg_97 : decode M_Mo_aLeg.2.1 97 = .ok (.iaload, 1) := by decide +kernel
theorem d_Mo_aLeg_98 : decode M_Mo_aLeg.2.1 98 = .ok (.if_icmp .ne 9, 3) := by decide +kernel
theorem d_Mo_aLeg_101 : decode M_Mo_aLeg.2.1 101 = .ok (.aload_n 0, 1) := by decide +kernel
theorem d_Mo_aLeg_102 : decode M_Mo_aLeg.2.1 102 = .ok (.iconst 5, 1) := by decide +kernel
theorem d_Mo_aLeg_103 : decode M_Mo_aLeg.2.1 103 = .ok (.invokevirtual 193, 3) := by decide +kernel
theorem d_Mo_aLeg_106 : decode M_Mo_aLeg.2.1 106 = .ok (.ireturn, 1) := by decide +kernel
theorem d_Mo_aLeg_107 : decode M_Mo_aLeg.2.1 107 = .ok (.aload_n 0, 1) := by decide +kernel
theorem d_Mo_aLeg_108 : decode M_Mo_aLeg.2.1 108 = .ok (.sipush 1800, 3) := by decide +kernel
theorem d_Mo_aLeg_111 : decode M_Mo_aLeg.2.1 111 = .ok (.iconst 0, 1) := by decide +kernel
theorem d_Mo_aLeg_112 : decode M_Mo_aLeg.2.1 112 = .ok (.iload_n 3, 1) := by decide +kernel
theorem d_Mo_aLeg_113 : decode M_Mo_aLeg.2.1 113 = .ok (.iconst 2, 1) := by decide +kernel
theorem d_Mo_aLeg_114 : decode M_Mo_aLeg.2.1 114 = .ok (.iadd, 1) := by decide +kernel
theorem d_Mo_aLeg_115 : decode M_Mo_aLeg.2.1 115 = .ok (.invokevirtual 229, 3) := by decide +kernel
theorem d_Mo_aLeg_118 : decode M_Mo_aLeg.2.1 118 = .ok (.ifCond .ne 5, 3) := by decide +kernel
theorem d_Mo_aLeg_121 : decode M_Mo_aLeg.2.1 121 = .ok (.iconst 0, 1) := by decide +kernel
theorem d_Mo_aLeg_122 : decode M_Mo_aLeg.2.1 122 = .ok (.ireturn, 1) := by decide +kernel
theorem d_Mo_aLeg_123 : decode M_Mo_aLeg.2.1 123 = .ok (.iconst 0, 1) := by decide +kernel
theorem d_Mo_aLeg_124 : decode M_Mo_aLeg.2.1 124 = .ok (.istore 4, 2) := by decide +kernel
theorem d_Mo_aLeg_126 : decode M_Mo_aLeg.2.1 126 = .ok (.iload 4, 2) := by decide +kernel
theorem d_Mo_aLeg_128 : decode M_Mo_aLeg.2.1 128 = .ok (.iconst 3, 1) := by decide +kernel
theorem d_Mo_aLeg_129 : decode M_Mo_aLeg.2.1 129 = .ok (.if_icmp .ge 27, 3) := by decide +kernel
theorem d_Mo_aLeg_132 : decode M_Mo_aLeg.2.1 132 = .ok (.aload_n 0, 1) := by decide +kernel
theorem d_Mo_aLeg_133 : decode M_Mo_aLeg.2.1 133 = .ok (.getfield 7, 3) := by decide +kernel
theorem d_Mo_aLeg_136 : decode M_Mo_aLeg.2.1 136 = .ok (.iload_n 2, 1) := by decide +kernel
theorem d_Mo_aLeg_137 : decode M_Mo_aLeg.2.1 137 = .ok (.iload 4, 2) := by decide +kernel
theorem d_Mo_aLeg_139 : decode M_Mo_aLeg.2.1 139 = .ok (.iadd, 1) := by decide +kernel
theorem d_Mo_aLeg_140 : decode M_Mo_aLeg.2.1 140 = .ok (.aload_n 0, 1) := by decide +kernel
theorem d_Mo_aLeg_141 : decode M_Mo_aLeg.2.1 141 = .ok (.getfield 7, 3) := by decide +kernel
theorem d_Mo_aLeg_144 : decode M_Mo_aLeg.2.1 144 = .ok (.iload_n 3, 1) := by decide +kernel
theorem d_Mo_aLeg_145 : decode M_Mo_aLeg.2.1 145 = .ok (.iload 4, 2) := by decide +kernel
theorem d_Mo_aLeg_147 : decode M_Mo_aLeg.2.1 147 = .ok (.iadd, 1) := by decide +kernel
theorem d_Mo_aLeg_148 : decode M_Mo_aLeg.2.1 148 = .ok (.iaload, 1) := by decide +kernel
theorem d_Mo_aLeg_149 : decode M_Mo_aLeg.2.1 149 = .ok (.iastore, 1) := by decide +kernel
theorem d_Mo_aLeg_150 : decode M_Mo_aLeg.2.1 150 = .ok (.iinc 4 1, 3) := by decide +kernel
theorem d_Mo_aLeg_153 : decode M_Mo_aLeg.2.1 153 = .ok (.goto (-27), 3) := by decide +kernel
theorem d_Mo_aLeg_156 : decode M_Mo_aLeg.2.1 156 = .ok (.aload_n 0, 1) := by decide +kernel
theorem d_Mo_aLeg_157 : decode M_Mo_aLeg.2.1 157 = .ok (.bipush 7, 2) := by decide +kernel
theorem d_Mo_aLeg_159 : decode M_Mo_aLeg.2.1 159 = .ok (.bipush 8, 2) := by decide +kernel
theorem d_Mo_aLeg_161 : decode M_Mo_aLeg.2.1 161 = .ok (.iload_n 2, 1) := by decide +kernel
theorem d_Mo_aLeg_162 : decode M_Mo_aLeg.2.1 162 = .ok (.iconst 3, 1) := by decide +kernel
theorem d_Mo_aLeg_163 : decode M_Mo_aLeg.2.1 163 = .ok (.iadd, 1) := by decide +kernel
theorem d_Mo_aLeg_164 : decode M_Mo_aLeg.2.1 164 = .ok (.invokevirtual 233, 3) := by decide +kernel
theorem d_Mo_aLeg_167 : decode M_Mo_aLeg.2.1 167 = .ok (.ifCond .eq 17, 3) := by decide +kernel
theorem d_Mo_aLeg_170 : decode M_Mo_aLeg.2.1 170 = .ok (.aload_n 0, 1) := by decide +kernel
theorem d_Mo_aLeg_171 : decode M_Mo_aLeg.2.1 171 = .ok (.bipush 9, 2) := by decide +kernel
theorem d_Mo_aLeg_173 : decode M_Mo_aLeg.2.1 173 = .ok (.bipush 10, 2) := by decide +kernel
theorem d_Mo_aLeg_175 : decode M_Mo_aLeg.2.1 175 = .ok (.iload_n 2, 1) := by decide +kernel
theorem d_Mo_aLeg_176 : decode M_Mo_aLeg.2.1 176 = .ok (.iconst 4, 1) := by decide +kernel
theorem d_Mo_aLeg_177 : decode M_Mo_aLeg.2.1 177 = .ok (.iadd, 1) := by decide +kernel
theorem d_Mo_aLeg_178 : decode M_Mo_aLeg.2.1 178 = .ok (.invokevirtual 233, 3) := by decide +kernel
theorem d_Mo_aLeg_181 : decode M_Mo_aLeg.2.1 181 = .ok (.ifCond .ne 5, 3) := by decide +kernel
theorem d_Mo_aLeg_184 : decode M_Mo_aLeg.2.1 184 = .ok (.iconst 0, 1) := by decide +kernel
theorem d_Mo_aLeg_185 : decode M_Mo_aLeg.2.1 185 = .ok (.ireturn, 1) := by decide +kernel
theorem d_Mo_aLeg_186 : decode M_Mo_aLeg.2.1 186 = .ok (.aload_n 0, 1) := by decide +kernel
theorem d_Mo_aLeg_187 : decode M_Mo_aLeg.2.1 187 = .ok (.getfield 7, 3) := by decide +kernel
theorem d_Mo_aLeg_190 : decode M_Mo_aLeg.2.1 190 = .ok (.sipush 1802, 3) := by decide +kernel
theorem d_Mo_aLeg_193 : decode M_Mo_aLeg.2.1 193 = .ok (.dup2, 1) := by decide +kernel
theorem d_Mo_aLeg_194 : decode M_Mo_aLeg.2.1 194 = .ok (.iaload, 1) := by decide +kernel
theorem d_Mo_aLeg_195 : decode M_Mo_aLeg.2.1 195 = .ok (.iconst 1, 1) := by decide +kernel
theorem d_Mo_aLeg_196 : decode M_Mo_aLeg.2.1 196 = .ok (.iadd, 1) := by decide +kernel
theorem d_Mo_aLeg_197 : decode M_Mo_aLeg.2.1 197 = .ok (.iastore, 1) := by decide +kernel
theorem d_Mo_aLeg_198 : decode M_Mo_aLeg.2.1 198 = .ok (.iconst 1, 1) := by decide +kernel
theorem d_Mo_aLeg_199 : decode M_Mo_aLeg.2.1 199 = .ok (.ireturn, 1) := by decide +kernel
theorem d_Mo_townPart_0 : decode M_Mo_townPart.2.1 0 = .ok (.aload_n 0, 1) := by decide +kernel
theorem d_Mo_townPart_1 : decode M_Mo_townPart.2.1 1 = .ok (.ldc 204, 2) := by decide +kernel
theorem d_Mo_townPart_3 : decode M_Mo_townPart.2.1 3 = .ok (.invokevirtual 196, 3) := by decide +kernel
theorem d_Mo_townPart_6 : decode M_Mo_townPart.2.1 6 = .ok (.istore_n 1, 1) := by decide +kernel
theorem d_Mo_townPart_7 : decode M_Mo_townPart.2.1 7 = .ok (.iload_n 1, 1) := by decide +kernel
theorem d_Mo_townPart_8 : decode M_Mo_townPart.2.1 8 = .ok (.ifCond .lt 8, 3) := by decide +kernel
theorem d_Mo_townPart_11 : decode M_Mo_townPart.2.1 11 = .ok (.iload_n 1, 1) := by decide +kernel
theorem d_Mo_townPart_12 : decode M_Mo_townPart.2.1 12 = .ok (.iconst 3, 1) := by decide +kernel
theorem d_Mo_townPart_13 : decode M_Mo_townPart.2.1 13 = .ok (.if_icmp .le 9, 3) := by decide +kernel
theorem d_Mo_townPart_16 : decode M_Mo_townPart.2.1 16 = .ok (.aload_n 0, 1) := by decide +kernel
theorem d_Mo_townPart_17 : decode M_Mo_townPart.2.1 17 = .ok (.iconst 2, 1) := by decide +kernel
theorem d_Mo_townPart_18 : decode M_Mo_townPart.2.1 18 = .ok (.invokevirtual 193, 3) := by decide +kernel
theorem d_Mo_townPart_21 : decode M_Mo_townPart.2.1 21 = .ok (.ireturn, 1) := by decide +kernel
theorem d_Mo_townPart_22 : decode M_Mo_townPart.2.1 22 = .ok (.iload_n 1, 1) := by decide +kernel
theorem d_Mo_townPart_23 : decode M_Mo_townPart.2.1 23 = .ok (.tableswitch 91 1 3 #[25, 47, 69], 25) := by decide +kernel
theorem d_Mo_townPart_48 : decode M_Mo_townPart.2.1 48 = .ok (.aload_n 0, 1) := by decide +kernel
theorem d_Mo_townPart_49 : decode M_Mo_townPart.2.1 49 = .ok (.invokevirtual 236, 3) := by decide +kernel
theorem d_Mo_townPart_52 : decode M_Mo_townPart.2.1 52 = .ok (.ifCond .eq 16, 3) := by decide +kernel
theorem d_Mo_townPart_55 : decode M_Mo_townPart.2.1 55 = .ok (.aload_n 0, 1) := by decide +kernel
theorem d_Mo_townPart_56 : decode M_Mo_townPart.2.1 56 = .ok (.bipush 59, 2) := by decide +kernel
theorem d_Mo_townPart_58 : decode M_Mo_townPart.2.1 58 = .ok (.invokevirtual 240, 3) := by decide +kernel
theorem d_Mo_townPart_61 : decode M_Mo_townPart.2.1 61 = .ok (.ifCond .eq 7, 3) := by decide +kernel
theorem d_Mo_townPart_64 : decode M_Mo_townPart.2.1 64 = .ok (.iconst 1, 1) := by decide +kernel
theorem d_Mo_townPart_65 : decode M_Mo_townPart.2.1 65 = .ok (.goto 4, 3) := by decide +kernel
theorem d_Mo_townPart_68 : decode M_Mo_townPart.2.1 68 = .ok (.iconst 0, 1) := by decide +kernel
theorem d_Mo_townPart_69 : decode M_Mo_townPart.2.1 69 = .ok (.ireturn, 1) := by decide +kernel
theorem d_Mo_townPart_70 : decode M_Mo_townPart.2.1 70 = .ok (.aload_n 0, 1) := by decide +kernel
theorem d_Mo_townPart_71 : decode M_Mo_townPart.2.1 71 = .ok (.invokevirtual 243, 3) := by decide +kernel
theorem d_Mo_townPart_74 : decode M_Mo_townPart.2.1 74 = .ok (.ifCond .eq 16, 3) := by decide +kernel
theorem d_Mo_townPart_77 : decode M_Mo_townPart.2.1 77 = .ok (.aload_n 0, 1) := by decide +kernel
theorem d_Mo_townPart_78 : decode M_Mo_townPart.2.1 78 = .ok (.bipush 59, 2) := by decide +kernel
theorem d_Mo_townPart_80 : decode M_Mo_townPart.2.1 80 = .ok (.invokevirtual 240, 3) := by decide +kernel
theorem d_Mo_townPart_83 : decode M_Mo_townPart.2.1 83 = .ok (.ifCond .eq 7, 3) := by decide +kernel
theorem d_Mo_townPart_86 : decode M_Mo_townPart.2.1 86 = .ok (.iconst 1, 1) := by decide +kernel
theorem d_Mo_townPart_87 : decode M_Mo_townPart.2.1 87 = .ok (.goto 4, 3) := by decide +kernel
theorem d_Mo_townPart_90 : decode M_Mo_townPart.2.1 90 = .ok (.iconst 0, 1) := by decide +kernel
theorem d_Mo_townPart_91 : decode M_Mo_townPart.2.1 91 = .ok (.ireturn, 1) := by decide +kernel
theorem d_Mo_townPart_92 : decode M_Mo_townPart.2.1 92 = .ok (.aload_n 0, 1) := by decide +kernel
theorem d_Mo_townPart_93 : decode M_Mo_townPart.2.1 93 = .ok (.invokevirtual 246, 3) := by decide +kernel
theorem d_Mo_townPart_96 : decode M_Mo_townPart.2.1 96 = .ok (.ifCond .eq 16, 3) := by decide +kernel
theorem d_Mo_townPart_99 : decode M_Mo_townPart.2.1 99 = .ok (.aload_n 0, 1) := by decide +kernel
theorem d_Mo_townPart_100 : decode M_Mo_townPart.2.1 100 = .ok (.bipush 59, 2) := by decide +kernel
theorem d_Mo_townPart_102 : decode M_Mo_townPart.2.1 102 = .ok (.invokevirtual 240, 3) := by decide +kernel
theorem d_Mo_townPart_105 : decode M_Mo_townPart.2.1 105 = .ok (.ifCond .eq 7, 3) := by decide +kernel
theorem d_Mo_townPart_108 : decode M_Mo_townPart.2.1 108 = .ok (.iconst 1, 1) := by decide +kernel
theorem d_Mo_townPart_109 : decode M_Mo_townPart.2.1 109 = .ok (.goto 4, 3) := by decide +kernel
theorem d_Mo_townPart_112 : decode M_Mo_townPart.2.1 112 = .ok (.iconst 0, 1) := by decide +kernel
theorem d_Mo_townPart_113 : decode M_Mo_townPart.2.1 113 = .ok (.ireturn, 1) := by decide +kernel
theorem d_Mo_townPart_114 : decode M_Mo_townPart.2.1 114 = .ok (.aload_n 0, 1) := by decide +kernel
theorem d_Mo_townPart_115 : decode M_Mo_townPart.2.1 115 = .ok (.getfield 249, 3) := by decide +kernel
theorem d_Mo_townPart_118 : decode M_Mo_townPart.2.1 118 = .ok (.ifCond .eq 9, 3) := by decide +kernel
theorem d_Mo_townPart_121 : decode M_Mo_townPart.2.1 121 = .ok (.aload_n 0, 1) := by decide +kernel
theorem d_Mo_townPart_122 : decode M_Mo_townPart.2.1 122 = .ok (.iconst 5, 1) := by decide +kernel
theorem d_Mo_townPart_123 : decode M_Mo_townPart.2.1 123 = .ok (.invokevirtual 193, 3) := by decide +kernel
theorem d_Mo_townPart_126 : decode M_Mo_townPart.2.1 126 = .ok (.ireturn, 1) := by decide +kernel
theorem d_Mo_townPart_127 : decode M_Mo_townPart.2.1 127 = .ok (.aload_n 0, 1) := by decide +kernel
theorem d_Mo_townPart_128 : decode M_Mo_townPart.2.1 128 = .ok (.iconst 1, 1) := by decide +kernel
theorem d_Mo_townPart_129 : decode M_Mo_townPart.2.1 129 = .ok (.putfield 249, 3) := by decide +kernel
theorem d_Mo_townPart_132 : decode M_Mo_townPart.2.1 132 = .ok (.aload_n 0, 1) := by decide +kernel
theorem d_Mo_townPart_133 : decode M_Mo_townPart.2.1 133 = .ok (.invokevirtual 187, 3) := by decide +kernel
theorem d_Mo_townPart_136 : decode M_Mo_townPart.2.1 136 = .ok (.aload_n 0, 1) := by decide +kernel
theorem d_Mo_townPart_137 : decode M_Mo_townPart.2.1 137 = .ok (.sipush 1803, 3) := by decide +kernel
theorem d_Mo_townPart_140 : decode M_Mo_townPart.2.1 140 = .ok (.iconst 0, 1) := by decide +kernel
theorem d_Mo_townPart_141 : decode M_Mo_townPart.2.1 141 = .ok (.bipush 16, 2) := by decide +kernel
theorem d_Mo_townPart_143 : decode M_Mo_townPart.2.1 143 = .ok (.invokevirtual 222, 3) := by decide +kernel
theorem d_Mo_townPart_146 : decode M_Mo_townPart.2.1 146 = .ok (.ifCond .eq 16, 3) := by decide +kernel
theorem d_Mo_townPart_149 : decode M_Mo_townPart.2.1 149 = .ok (.aload_n 0, 1) := by decide +kernel
theorem d_Mo_townPart_150 : decode M_Mo_townPart.2.1 150 = .ok (.bipush 59, 2) := by decide +kernel
theorem d_Mo_townPart_152 : decode M_Mo_townPart.2.1 152 = .ok (.invokevirtual 240, 3) := by decide +kernel
theorem d_Mo_townPart_155 : decode M_Mo_townPart.2.1 155 = .ok (.ifCond .eq 7, 3) := by decide +kernel
theorem d_Mo_townPart_158 : decode M_Mo_townPart.2.1 158 = .ok (.iconst 1, 1) := by decide +kernel
theorem d_Mo_townPart_159 : decode M_Mo_townPart.2.1 159 = .ok (.goto 4, 3) := by decide +kernel
theorem d_Mo_townPart_162 : decode M_Mo_townPart.2.1 162 = .ok (.iconst 0, 1) := by decide +kernel
theorem d_Mo_townPart_163 : decode M_Mo_townPart.2.1 163 = .ok (.ireturn, 1) := by decide +kernel
theorem d_Mo_town_0 : decode M_Mo_town.2.1 0 = .ok (.aload_n 0, 1) := by decide +kernel
theorem d_Mo_town_1 : decode M_Mo_town.2.1 1 = .ok (.iload_n 1, 1) := by decide +kernel
theorem d_Mo_town_2 : decode M_Mo_town.2.1 2 = .ok (.sipush 900, 3) := by decide +kernel
theorem d_Mo_town_5 : decode M_Mo_town.2.1 5 = .ok (.invokevirtual 253, 3) := by decide +kernel
theorem d_Mo_town_8 : decode M_Mo_town.2.1 8 = .ok (.ifCond .ne 9, 3) := by decide +kernel
theorem d_Mo_town_11 : decode M_Mo_town.2.1 11 = .ok (.aload_n 0, 1) := by decide +kernel
theorem d_Mo_town_12 : decode M_Mo_town.2.1 12 = .ok (.iconst 1, 1) := by decide +kernel
theorem d_Mo_town_13 : decode M_Mo_town.2.1 13 = .ok (.invokevirtual 111, 3) := by decide +kernel
theorem d_Mo_town_16 : decode M_Mo_town.2.1 16 = .ok (.ireturn, 1) := by decide +kernel
theorem d_Mo_town_17 : decode M_Mo_town.2.1 17 = .ok (.aload_n 0, 1) := by decide +kernel
theorem d_Mo_town_18 : decode M_Mo_town.2.1 18 = .ok (.sipush 1800, 3) := by decide +kernel
theorem d_Mo_town_21 : decode M_Mo_town.2.1 21 = .ok (.invokevirtual 101, 3) := by decide +kernel
theorem d_Mo_town_24 : decode M_Mo_town.2.1 24 = .ok (.aload_n 0, 1) := by decide +kernel
theorem d_Mo_town_25 : decode M_Mo_town.2.1 25 = .ok (.iconst 0, 1) := by decide +kernel
theorem d_Mo_town_26 : decode M_Mo_town.2.1 26 = .ok (.putfield 249, 3) := by decide +kernel
theorem d_Mo_town_29 : decode M_Mo_town.2.1 29 = .ok (.iconst 1, 1) := by decide +kernel
theorem d_Mo_town_30 : decode M_Mo_town.2.1 30 = .ok (.istore_n 2, 1) := by decide +kernel
theorem d_Mo_town_31 : decode M_Mo_town.2.1 31 = .ok (.iload_n 2, 1) := by decide +kernel
theorem d_Mo_town_32 : decode M_Mo_town.2.1 32 = .ok (.ifCond .eq 18, 3) := by decide +kernel
theorem d_Mo_town_35 : decode M_Mo_town.2.1 35 = .ok (.aload_n 0, 1) := by decide +kernel
theorem d_Mo_town_36 : decode M_Mo_town.2.1 36 = .ok (.getfield 156, 3) := by decide +kernel
theorem d_Mo_town_39 : decode M_Mo_town.2.1 39 = .ok (.ifCond .eq 11, 3) := by decide +kernel
theorem d_Mo_town_42 : decode M_Mo_town.2.1 42 = .ok (.aload_n 0, 1) := by decide +kernel
theorem d_Mo_town_43 : decode M_Mo_town.2.1 43 = .ok (.invokevirtual 257, 3) := by decide +kernel
theorem d_Mo_town_46 : decode M_Mo_town.2.1 46 = .ok (.istore_n 2, 1) := by decide +kernel
theorem d_Mo_town_47 : decode M_Mo_town.2.1 47 = .ok (.goto (-16), 3) := by decide +kernel
theorem d_Mo_town_50 : decode M_Mo_town.2.1 50 = .ok (.aload_n 0, 1) := by decide +kernel
theorem d_Mo_town_51 : decode M_Mo_town.2.1 51 = .ok (.getfield 181, 3) := by decide +kernel
theorem d_Mo_town_54 : decode M_Mo_town.2.1 54 = .ok (.ifCond .ne 63, 3) := by decide +kernel
theorem d_Mo_town_57 : decode M_Mo_town.2.1 57 = .ok (.iconst 0, 1) := by decide +kernel
theorem d_Mo_town_58 : decode M_Mo_town.2.1 58 = .ok (.istore_n 3, 1) := by decide +kernel
theorem d_Mo_town_59 : decode M_Mo_town.2.1 59 = .ok (.iload_n 3, 1) := by decide +kernel
theorem d_Mo_town_60 : decode M_Mo_town.2.1 60 = .ok (.sipush 450, 3) := by decide +kernel
theorem d_Mo_town_63 : decode M_Mo_town.2.1 63 = .ok (.if_icmp .ge 25, 3) := by decide +kernel
theorem d_Mo_town_66 : decode M_Mo_town.2.1 66 = .ok (.aload_n 0, 1) := by decide +kernel
theorem d_Mo_town_67 : decode M_Mo_town.2.1 67 = .ok (.getfield 7, 3) := by decide +kernel
theorem d_Mo_town_70 : decode M_Mo_town.2.1 70 = .ok (.iload_n 3, 1) := by decide +kernel
theorem d_Mo_town_71 : decode M_Mo_town.2.1 71 = .ok (.aload_n 0, 1) := by decide +kernel
theorem d_Mo_town_72 : decode M_Mo_town.2.1 72 = .ok (.getfield 7, 3) := by decide +kernel
theorem d_Mo_town_75 : decode M_Mo_town.2.1 75 = .ok (.sipush 1800, 3) := by decide +kernel
theorem d_Mo_town_78 : decode M_Mo_town.2.1 78 = .ok (.iload_n 3, 1) := by decide +kernel
theorem d_Mo_town_79 : decode M_Mo_town.2.1 79 = .ok (.iadd, 1) := by decide +kernel
theorem d_Mo_town_80 : decode M_Mo_town.2.1 80 = .ok (.iaload, 1) := by decide +kernel
theorem d_Mo_town_81 : decode M_Mo_town.2.1 81 = .ok (.iastore, 1) := by decide +kernel
theorem d_Mo_town_82 : decode M_Mo_town.2.1 82 = .ok (.iinc 3 1, 3) := by decide +kernel
theorem d_Mo_town_85 : decode M_Mo_town.2.1 85 = .ok (.goto (-26), 3) := by decide +kernel
theorem d_Mo_town_88 : decode M_Mo_town.2.1 88 = .ok (.iconst 0, 1) := by decide +kernel
theorem d_Mo_town_89 : decode M_Mo_town.2.1 89 = .ok (.istore_n 3, 1) := by decide +kernel
theorem d_Mo_town_90 : decode M_Mo_town.2.1 90 = .ok (.iload_n 3, 1) := by decide +kernel
theorem d_Mo_town_91 : decode M_Mo_town.2.1 91 = .ok (.bipush 11, 2) := by decide +kernel
theorem d_Mo_town_93 : decode M_Mo_town.2.1 93 = .ok (.if_icmp .ge 24, 3) := by decide +kernel
theorem d_Mo_town_96 : decode M_Mo_town.2.1 96 = .ok (.aload_n 0, 1) := by decide +kernel
theorem d_Mo_town_97 : decode M_Mo_town.2.1 97 = .ok (.getfield 13, 3) := by decide +kernel
theorem d_Mo_town_100 : decode M_Mo_town.2.1 100 = .ok (.iload_n 3, 1) := by decide +kernel
theorem d_Mo_town_101 : decode M_Mo_town.2.1 101 = .ok (.aload_n 0, 1) := by decide +kernel
theorem d_Mo_town_102 : decode M_Mo_town.2.1 102 = .ok (.getfield 13, 3) := by decide +kernel
theorem d_Mo_town_105 : decode M_Mo_town.2.1 105 = .ok (.bipush 44, 2) := by decide +kernel
theorem d_Mo_town_107 : decode M_Mo_town.2.1 107 = .ok (.iload_n 3, 1) := by decide +kernel
theorem d_Mo_town_108 : decode M_Mo_town.2.1 108 = .ok (.iadd, 1) := by decide +kernel
theorem d_Mo_town_109 : decode M_Mo_town.2.1 109 = .ok (.laload, 1) := by decide +kernel
theorem d_Mo_town_110 : decode M_Mo_town.2.1 110 = .ok (.lastore, 1) := by decide +kernel
theorem d_Mo_town_111 : decode M_Mo_town.2.1 111 = .ok (.iinc 3 1, 3) := by decide +kernel
theorem d_Mo_town_114 : decode M_Mo_town.2.1 114 = .ok (.goto (-24), 3) := by decide +kernel
theorem d_Mo_town_117 : decode M_Mo_town.2.1 117 = .ok (.aload_n 0, 1) := by decide +kernel
theorem d_Mo_town_118 : decode M_Mo_town.2.1 118 = .ok (.aload_n 0, 1) := by decide +kernel
theorem d_Mo_town_119 : decode M_Mo_town.2.1 119 = .ok (.getfield 7, 3) := by decide +kernel
theorem d_Mo_town_122 : decode M_Mo_town.2.1 122 = .ok (.iconst 2, 1) := by decide +kernel
theorem d_Mo_town_123 : decode M_Mo_town.2.1 123 = .ok (.iaload, 1) := by decide +kernel
theorem d_Mo_town_124 : decode M_Mo_town.2.1 124 = .ok (.invokevirtual 260, 3) := by decide +kernel
theorem d_Mo_town_127 : decode M_Mo_town.2.1 127 = .ok (.ireturn, 1) := by decide +kernel
theorem d_Mo_test_0 : decode M_Mo_test.2.1 0 = .ok (.aload_n 0, 1) := by decide +kernel
theorem d_Mo_test_1 : decode M_Mo_test.2.1 1 = .ok (.ldc 204, 2) := by decide +kernel
theorem d_Mo_test_3 : decode M_Mo_test.2.1 3 = .ok (.invokevirtual 196, 3) := by decide +kernel
theorem d_Mo_test_6 : decode M_Mo_test.2.1 6 = .ok (.istore_n 2, 1) := by decide +kernel
theorem d_Mo_test_7 : decode M_Mo_test.2.1 7 = .ok (.iload_n 2, 1) := by decide +kernel
theorem d_Mo_test_8 : decode M_Mo_test.2.1 8 = .ok (.bipush 20, 2) := by decide +kernel
theorem d_Mo_test_10 : decode M_Mo_test.2.1 10 = .ok (.if_icmp .ge 9, 3) := by decide +kernel
theorem d_Mo_test_13 : decode M_Mo_test.2.1 13 = .ok (.aload_n 0, 1) := by decide +kernel
theorem d_Mo_test_14 : decode M_Mo_test.2.1 14 = .ok (.iconst 2, 1) := by decide +kernel
theorem d_Mo_test_15 : decode M_Mo_test.2.1 15 = .ok (.invokevirtual 193, 3) := by decide +kernel
theorem d_Mo_test_18 : decode M_Mo_test.2.1 18 = .ok (.ireturn, 1) := by decide +kernel
theorem d_Mo_test_19 : decode M_Mo_test.2.1 19 = .ok (.aload_n 0, 1) := by decide +kernel
theorem d_Mo_test_20 : decode M_Mo_test.2.1 20 = .ok (.getfield 7, 3) := by decide +kernel
theorem d_Mo_test_23 : decode M_Mo_test.2.1 23 = .ok (.iload_n 1, 1) := by decide +kernel
theorem d_Mo_test_24 : decode M_Mo_test.2.1 24 = .ok (.sipush 1600, 3) := by decide +kernel
theorem d_Mo_test_27 : decode M_Mo_test.2.1 27 = .ok (.iload_n 2, 1) := by decide +kernel
theorem d_Mo_test_28 : decode M_Mo_test.2.1 28 = .ok (.iadd, 1) := by decide +kernel
theorem d_Mo_test_29 : decode M_Mo_test.2.1 29 = .ok (.iastore, 1) := by decide +kernel
theorem d_Mo_test_30 : decode M_Mo_test.2.1 30 = .ok (.aload_n 0, 1) := by decide +kernel
theorem d_Mo_test_31 : decode M_Mo_test.2.1 31 = .ok (.invokevirtual 187, 3) := by decide +kernel
theorem d_Mo_test_34 : decode M_Mo_test.2.1 34 = .ok (.iload_n 2, 1) := by decide +kernel
theorem d_Mo_test_35 : decode M_Mo_test.2.1 35 = .ok (.tableswitch 48 20 22 #[25, 35, 37], 25) := by decide +kernel
theorem d_Mo_test_60 : decode M_Mo_test.2.1 60 = .ok (.aload_n 0, 1) := by decide +kernel
theorem d_Mo_test_61 : decode M_Mo_test.2.1 61 = .ok (.iconst 0, 1) := by decide +kernel
theorem d_Mo_test_62 : decode M_Mo_test.2.1 62 = .ok (.iconst 0, 1) := by decide +kernel
theorem d_Mo_test_63 : decode M_Mo_test.2.1 63 = .ok (.iload_n 1, 1) := by decide +kernel
theorem d_Mo_test_64 : decode M_Mo_test.2.1 64 = .ok (.iconst 1, 1) := by decide +kernel
theorem d_Mo_test_65 : decode M_Mo_test.2.1 65 = .ok (.iadd, 1) := by decide +kernel
theorem d_Mo_test_66 : decode M_Mo_test.2.1 66 = .ok (.invokevirtual 229, 3) := by decide +kernel
theorem d_Mo_test_69 : decode M_Mo_test.2.1 69 = .ok (.ireturn, 1) := by decide +kernel
theorem d_Mo_test_70 : decode M_Mo_test.2.1 70 = .ok (.iconst 1, 1) := by decide +kernel
theorem d_Mo_test_71 : decode M_Mo_test.2.1 71 = .ok (.ireturn, 1) := by decide +kernel
theorem d_Mo_test_72 : decode M_Mo_test.2.1 72 = .ok (.aload_n 0, 1) := by decide +kernel
theorem d_Mo_test_73 : decode M_Mo_test.2.1 73 = .ok (.iload_n 1, 1) := by decide +kernel
theorem d_Mo_test_74 : decode M_Mo_test.2.1 74 = .ok (.iconst 1, 1) := by decide +kernel
theorem d_Mo_test_75 : decode M_Mo_test.2.1 75 = .ok (.iadd, 1) := by decide +kernel
theorem d_Mo_test_76 : decode M_Mo_test.2.1 76 = .ok (.iconst 0, 1) := by decide +kernel
theorem d_Mo_test_77 : decode M_Mo_test.2.1 77 = .ok (.bipush 11, 2) := by decide +kernel
theorem d_Mo_test_79 : decode M_Mo_test.2.1 79 = .ok (.invokevirtual 222, 3) := by decide +kernel
theorem d_Mo_test_82 : decode M_Mo_test.2.1 82 = .ok (.ireturn, 1) := by decide +kernel
theorem d_Mo_test_83 : decode M_Mo_test.2.1 83 = .ok (.aload_n 0, 1) := by decide +kernel
theorem d_Mo_test_84 : decode M_Mo_test.2.1 84 = .ok (.bipush 60, 2) := by decide +kernel
theorem d_Mo_test_86 : decode M_Mo_test.2.1 86 = .ok (.invokevirtual 190, 3) := by decide +kernel
theorem d_Mo_test_89 : decode M_Mo_test.2.1 89 = .ok (.ifCond .ne 27, 3) := by decide +kernel
theorem d_Mo_test_92 : decode M_Mo_test.2.1 92 = .ok (.aload_n 0, 1) := by decide +kernel
theorem d_Mo_test_93 : decode M_Mo_test.2.1 93 = .ok (.bipush 62, 2) := by decide +kernel
theorem d_Mo_test_95 : decode M_Mo_test.2.1 95 = .ok (.invokevirtual 190, 3) := by decide +kernel
theorem d_Mo_test_98 : decode M_Mo_test.2.1 98 = .ok (.ifCond .ne 18, 3) := by decide +kernel
theorem d_Mo_test_101 : decode M_Mo_test.2.1 101 = .ok (.aload_n 0, 1) := by decide +kernel
theorem d_Mo_test_102 : decode M_Mo_test.2.1 102 = .ok (.bipush 61, 2) := by decide +kernel
theorem d_Mo_test_104 : decode M_Mo_test.2.1 104 = .ok (.invokevirtual 190, 3) := by decide +kernel
theorem d_Mo_test_107 : decode M_Mo_test.2.1 107 = .ok (.ifCond .ne 9, 3) := by decide +kernel
theorem d_Mo_test_110 : decode M_Mo_test.2.1 110 = .ok (.aload_n 0, 1) := by decide +kernel
theorem d_Mo_test_111 : decode M_Mo_test.2.1 111 = .ok (.iconst 2, 1) := by decide +kernel
theorem d_Mo_test_112 : decode M_Mo_test.2.1 112 = .ok (.invokevirtual 193, 3) := by decide +kernel
theorem d_Mo_test_115 : decode M_Mo_test.2.1 115 = .ok (.ireturn, 1) := by decide +kernel
theorem d_Mo_test_116 : decode M_Mo_test.2.1 116 = .ok (.aload_n 0, 1) := by decide +kernel
theorem d_Mo_test_117 : decode M_Mo_test.2.1 117 = .ok (.getfield 7, 3) := by decide +kernel
theorem d_Mo_test_120 : decode M_Mo_test.2.1 120 = .ok (.iload_n 1, 1) := by decide +kernel
theorem d_Mo_test_121 : decode M_Mo_test.2.1 121 = .ok (.iconst 5, 1) := by decide +kernel
theorem d_Mo_test_122 : decode M_Mo_test.2.1 122 = .ok (.iadd, 1) := by decide +kernel
theorem d_Mo_test_123 : decode M_Mo_test.2.1 123 = .ok (.aload_n 0, 1) := by decide +kernel
theorem d_Mo_test_124 : decode M_Mo_test.2.1 124 = .ok (.getfield 153, 3) := by decide +kernel
theorem d_Mo_test_127 : decode M_Mo_test.2.1 127 = .ok (.iastore, 1) := by decide +kernel
theorem d_Mo_test_128 : decode M_Mo_test.2.1 128 = .ok (.aload_n 0, 1) := by decide +kernel
theorem d_Mo_test_129 : decode M_Mo_test.2.1 129 = .ok (.invokevirtual 187, 3) := by decide +kernel
theorem d_Mo_test_132 : decode M_Mo_test.2.1 132 = .ok (.aload_n 0, 1) := by decide +kernel
theorem d_Mo_test_133 : decode M_Mo_test.2.1 133 = .ok (.iload_n 1, 1) := by decide +kernel
theorem d_Mo_test_134 : decode M_Mo_test.2.1 134 = .ok (.iconst 2, 1) := by decide +kernel
theorem d_Mo_test_135 : decode M_Mo_test.2.1 135 = .ok (.iadd, 1) := by decide +kernel
theorem d_Mo_test_136 : decode M_Mo_test.2.1 136 = .ok (.iconst 0, 1) := by decide +kernel
theorem d_Mo_test_137 : decode M_Mo_test.2.1 137 = .ok (.sipush 9999, 3) := by decide +kernel
theorem d_Mo_test_140 : decode M_Mo_test.2.1 140 = .ok (.invokevirtual 222, 3) := by decide +kernel
theorem d_Mo_test_143 : decode M_Mo_test.2.1 143 = .ok (.ireturn, 1) := by decide +kernel
theorem d_Mo_dayOrder_0 : decode M_Mo_dayOrder.2.1 0 = .ok (.iload_n 1, 1) := by decide +kernel
theorem d_Mo_dayOrder_1 : decode M_Mo_dayOrder.2.1 1 = .ok (.tableswitch 102 11 17 #[43, 43, 43, 54, 102, 96, 85], 43) := by decide +kernel
theorem d_Mo_dayOrder_44 : decode M_Mo_dayOrder.2.1 44 = .ok (.aload_n 0, 1) := by decide +kernel
theorem d_Mo_dayOrder_45 : decode M_Mo_dayOrder.2.1 45 = .ok (.iload_n 2, 1) := by decide +kernel
theorem d_Mo_dayOrder_46 : decode M_Mo_dayOrder.2.1 46 = .ok (.iconst 1, 1) := by decide +kernel
theorem d_Mo_dayOrder_47 : decode M_Mo_dayOrder.2.1 47 = .ok (.iadd, 1) := by decide +kernel
theorem d_Mo_dayOrder_48 : decode M_Mo_dayOrder.2.1 48 = .ok (.iconst 0, 1) := by decide +kernel
theorem d_Mo_dayOrder_49 : decode M_Mo_dayOrder.2.1 49 = .ok (.bipush 11, 2) := by decide +kernel
theorem d_Mo_dayOrder_51 : decode M_Mo_dayOrder.2.1 51 = .ok (.invokevirtual 222, 3) := by decide +kernel
theorem d_Mo_dayOrder_54 : decode M_Mo_dayOrder.2.1 54 = .ok (.ireturn, 1) := by decide +kernel
theorem d_Mo_dayOrder_55 : decode M_Mo_dayOrder.2.1 55 = .ok (.aload_n 0, 1) := by decide +kernel
theorem d_Mo_dayOrder_56 : decode M_Mo_dayOrder.2.1 56 = .ok (.iconst 0, 1) := by decide +kernel
theorem d_Mo_dayOrder_57 : decode M_Mo_dayOrder.2.1 57 = .ok (.iconst 1, 1) := by decide +kernel
theorem d_Mo_dayOrder_58 : decode M_Mo_dayOrder.2.1 58 = .ok (.iload_n 2, 1) := by decide +kernel
theorem d_Mo_dayOrder_59 : decode M_Mo_dayOrder.2.1 59 = .ok (.iconst 1, 1) := by decide +kernel
theorem d_Mo_dayOrder_60 : decode M_Mo_dayOrder.2.1 60 = .ok (.iadd, 1) := by decide +kernel
theorem d_Mo_dayOrder_61 : decode M_Mo_dayOrder.2.1 61 = .ok (.invokevirtual 229, 3) := by decide +kernel
theorem d_Mo_dayOrder_64 : decode M_Mo_dayOrder.2.1 64 = .ok (.ifCond .eq 20, 3) := by decide +kernel
theorem d_Mo_dayOrder_67 : decode M_Mo_dayOrder.2.1 67 = .ok (.aload_n 0, 1) := by decide +kernel
theorem d_Mo_dayOrder_68 : decode M_Mo_dayOrder.2.1 68 = .ok (.iload_n 2, 1) := by decide +kernel
theorem d_Mo_dayOrder_69 : decode M_Mo_dayOrder.2.1 69 = .ok (.iconst 2, 1) := by decide +kernel
theorem d_Mo_dayOrder_70 : decode M_Mo_dayOrder.2.1 70 = .ok (.iadd, 1) := by decide +kernel
theorem d_Mo_dayOrder_71 : decode M_Mo_dayOrder.2.1 71 = .ok (.iconst 0, 1) := by decide +kernel
theorem d_Mo_dayOrder_72 : decode M_Mo_dayOrder.2.1 72 = .ok (.bipush 23, 2) := by decide +kernel
theorem d_Mo_dayOrder_74 : decode M_Mo_dayOrder.2.1 74 = .ok (.invokevirtual 222, 3) := by decide +kernel
theorem d_Mo_dayOrder_77 : decode M_Mo_dayOrder.2.1 77 = .ok (.ifCond .eq 7, 3) := by decide +kernel
theorem d_Mo_dayOrder_80 : decode M_Mo_dayOrder.2.1 80 = .ok (.iconst 1, 1) := by decide +kernel
theorem d_Mo_dayOrder_81 : decode M_Mo_dayOrder.2.1 81 = .ok (.goto 4, 3) := by decide +kernel
theorem d_Mo_dayOrder_84 : decode M_Mo_dayOrder.2.1 84 = .ok (.iconst 0, 1) := by decide +kernel
theorem d_Mo_dayOrder_85 : decode M_Mo_dayOrder.2.1 85 = .ok (.ireturn, 1) := by decide +kernel
theorem d_Mo_dayOrder_86 : decode M_Mo_dayOrder.2.1 86 = .ok (.aload_n 0, 1) := by decide +kernel
theorem d_Mo_dayOrder_87 : decode M_Mo_dayOrder.2.1 87 = .ok (.iload_n 2, 1) := by decide +kernel
theorem d_Mo_dayOrder_88 : decode M_Mo_dayOrder.2.1 88 = .ok (.iconst 1, 1) := by decide +kernel
theorem d_Mo_dayOrder_89 : decode M_Mo_dayOrder.2.1 89 = .ok (.iadd, 1) := by decide +kernel
theorem d_Mo_dayOrder_90 : decode M_Mo_dayOrder.2.1 90 = .ok (.iconst 1, 1) := by decide +kernel
theorem d_Mo_dayOrder_91 : decode M_Mo_dayOrder.2.1 91 = .ok (.bipush 99, 2) := by decide +kernel
theorem d_Mo_dayOrder_93 : decode M_Mo_dayOrder.2.1 93 = .ok (.invokevirtual 222, 3) := by decide +kernel
theorem d_Mo_dayOrder_96 : decode M_Mo_dayOrder.2.1 96 = .ok (.ireturn, 1) := by decide +kernel
theorem d_Mo_dayOrder_97 : decode M_Mo_dayOrder.2.1 97 = .ok (.aload_n 0, 1) := by decide +kernel
theorem d_Mo_dayOrder_98 : decode M_Mo_dayOrder.2.1 98 = .ok (.iload_n 2, 1) := by decide +kernel
theorem d_Mo_dayOrder_99 : decode M_Mo_dayOrder.2.1 99 = .ok (.invokevirtual 263, 3) := by decide +kernel
theorem d_Mo_dayOrder_102 : decode M_Mo_dayOrder.2.1 102 = .ok (.ireturn, 1) := by decide +kernel
theorem d_Mo_dayOrder_103 : decode M_Mo_dayOrder.2.1 103 = .ok (.iconst 1, 1) := by decide +kernel
theorem d_Mo_dayOrder_104 : decode M_Mo_dayOrder.2.1 104 = .ok (.ireturn, 1) := by decide +kernel
theorem d_Mo_dayStep_0 : decode M_Mo_dayStep.2.1 0 = .ok (.aload_n 0, 1) := by decide +kernel
theorem d_Mo_dayStep_1 : decode M_Mo_dayStep.2.1 1 = .ok (.ldc 204, 2) := by decide +kernel
theorem d_Mo_dayStep_3 : decode M_Mo_dayStep.2.1 3 = .ok (.invokevirtual 196, 3) := by decide +kernel
theorem d_Mo_dayStep_6 : decode M_Mo_dayStep.2.1 6 = .ok (.istore_n 1, 1) := by decide +kernel
theorem d_Mo_dayStep_7 : decode M_Mo_dayStep.2.1 7 = .ok (.aload_n 0, 1) := by decide +kernel
theorem d_Mo_dayStep_8 : decode M_Mo_dayStep.2.1 8 = .ok (.getfield 7, 3) := by decide +kernel
theorem d_Mo_dayStep_11 : decode M_Mo_dayStep.2.1 11 = .ok (.sipush 1807, 3) := by decide +kernel
theorem d_Mo_dayStep_14 : decode M_Mo_dayStep.2.1 14 = .ok (.iaload, 1) := by decide +kernel
theorem d_Mo_dayStep_15 : decode M_Mo_dayStep.2.1 15 = .ok (.istore_n 2, 1) := by decide +kernel
theorem d_Mo_dayStep_16 : decode M_Mo_dayStep.2.1 16 = .ok (.sipush 1882, 3) := by decide +kernel
theorem d_Mo_dayStep_19 : decode M_Mo_dayStep.2.1 19 = .ok (.bipush 6, 2) := by decide +kernel
theorem d_Mo_dayStep_21 : decode M_Mo_dayStep.2.1 21 = .ok (.iload_n 2, 1) := by decide +kernel
theorem d_Mo_dayStep_22 : decode M_Mo_dayStep.2.1 22 = .ok (.imul, 1) := by decide +kernel
theorem d_Mo_dayStep_23 : decode M_Mo_dayStep.2.1 23 = .ok (.iadd, 1) := by decide +kernel
theorem d_Mo_dayStep_24 : decode M_Mo_dayStep.2.1 24 = .ok (.istore_n 3, 1) := by decide +kernel
theorem d_Mo_dayStep_25 : decode M_Mo_dayStep.2.1 25 = .ok (.iload_n 1, 1) := by decide +kernel
theorem d_Mo_dayStep_26 : decode M_Mo_dayStep.2.1 26 = .ok (.bipush 16, 2) := by decide +kernel
theorem d_Mo_dayStep_28 : decode M_Mo_dayStep.2.1 28 = .ok (.if_icmp .eq 9, 3) := by decide +kernel
theorem d_Mo_dayStep_31 : decode M_Mo_dayStep.2.1 31 = .ok (.iload_n 1, 1) := by decide +kernel
theorem d_Mo_dayStep_32 : decode M_Mo_dayStep.2.1 32 = .ok (.bipush 17, 2) := by decide +kernel
theorem d_Mo_dayStep_34 : decode M_Mo_dayStep.2.1 34 = .ok (.if_icmp .ne 7, 3) := by decide +kernel
theorem d_Mo_dayStep_37 : decode M_Mo_dayStep.2.1 37 = .ok (.iconst 1, 1) := by decide +kernel
theorem d_Mo_dayStep_38 : decode M_Mo_dayStep.2.1 38 = .ok (.goto 4, 3) := by decide +kernel
theorem d_Mo_dayStep_41 : decode M_Mo_dayStep.2.1 41 = .ok (.iconst 0, 1) := by decide +kernel
theorem d_Mo_dayStep_42 : decode M_Mo_dayStep.2.1 42 = .ok (.istore 4, 2) := by decide +kernel
theorem d_Mo_dayStep_44 : decode M_Mo_dayStep.2.1 44 = .ok (.iload_n 1, 1) := by decide +kernel
theorem d_Mo_dayStep_45 : decode M_Mo_dayStep.2.1 45 = .ok (.bipush 11, 2) := by decide +kernel
theorem d_Mo_dayStep_47 : decode M_Mo_dayStep.2.1 47 = .ok (.if_icmp .lt 22, 3) := by decide +kernel
theorem d_Mo_dayStep_50 : decode M_Mo_dayStep.2.1 50 = .ok (.iload_n 1, 1) := by decide +kernel
theorem d_Mo_dayStep_51 : decode M_Mo_dayStep.2.1 51 = .ok (.bipush 19, 2) := by decide +kernel
theorem d_Mo_dayStep_53 : decode M_Mo_dayStep.2.1 53 = .ok (.if_icmp .gt 16, 3) := by decide +kernel
theorem d_Mo_dayStep_56 : decode M_Mo_dayStep.2.1 56 = .ok (.iload_n 1, 1) := by decide +kernel
theorem d_Mo_dayStep_57 : decode M_Mo_dayStep.2.1 57 = .ok (.bipush 18, 2) := by decide +kernel
theorem d_Mo_dayStep_59 : decode M_Mo_dayStep.2.1 59 = .ok (.if_icmp .ne 16, 3) := by decide +kernel
theorem d_Mo_dayStep_62 : decode M_Mo_dayStep.2.1 62 = .ok (.aload_n 0, 1) := by decide +kernel
theorem d_Mo_dayStep_63 : decode M_Mo_dayStep.2.1 63 = .ok (.getfield 266, 3) := by decide +kernel
theorem d_Mo_dayStep_66 : decode M_Mo_dayStep.2.1 66 = .ok (.ifCond .ne 9, 3) := by decide +kernel
theorem d_Mo_dayStep_69 : decode M_Mo_dayStep.2.1 69 = .ok (.aload_n 0, 1) := by decide +kernel
theorem d_Mo_dayStep_70 : decode M_Mo_dayStep.2.1 70 = .ok (.iconst 2, 1) := by decide +kernel
theorem d_Mo_dayStep_71 : decode M_Mo_dayStep.2.1 71 = .ok (.invokevirtual 193, 3) := by decide +kernel
theorem d_Mo_dayStep_74 : decode M_Mo_dayStep.2.1 74 = .ok (.ireturn, 1) := by decide +kernel
theorem d_Mo_dayStep_75 : decode M_Mo_dayStep.2.1 75 = .ok (.iload_n 1, 1) := by decide +kernel
theorem d_Mo_dayStep_76 : decode M_Mo_dayStep.2.1 76 = .ok (.bipush 18, 2) := by decide +kernel
theorem d_Mo_dayStep_78 : decode M_Mo_dayStep.2.1 78 = .ok (.if_icmp .eq 19, 3) := by decide +kernel
theorem d_Mo_dayStep_81 : decode M_Mo_dayStep.2.1 81 = .ok (.aload_n 0, 1) := by decide +kernel
theorem d_Mo_dayStep_82 : decode M_Mo_dayStep.2.1 82 = .ok (.getfield 269, 3) := by decide +kernel
theorem d_Mo_dayStep_85 : decode M_Mo_dayStep.2.1 85 = .ok (.bipush 30, 2) := by decide +kernel
theorem d_Mo_dayStep_87 : decode M_Mo_dayStep.2.1 87 = .ok (.if_icmp .ne 10, 3) := by decide +kernel
theorem d_Mo_dayStep_90 : decode M_Mo_dayStep.2.1 90 = .ok (.aload_n 0, 1) := by decide +kernel
theorem d_Mo_dayStep_91 : decode M_Mo_dayStep.2.1 91 = .ok (.bipush 6, 2) := by decide +kernel
theorem d_Mo_dayStep_93 : decode M_Mo_dayStep.2.1 93 = .ok (.invokevirtual 193, 3) := by decide +kernel
theorem d_Mo_dayStep_96 : decode M_Mo_dayStep.2.1 96 = .ok (.ireturn, 1) := by decide +kernel
theorem d_Mo_dayStep_97 : decode M_Mo_dayStep.2.1 97 = .ok (.iload 4, 2) := by decide +kernel
theorem d_Mo_dayStep_99 : decode M_Mo_dayStep.2.1 99 = .ok (.ifCond .eq 18, 3) := by decide +kernel
theorem d_Mo_dayStep_102 : decode M_Mo_dayStep.2.1 102 = .ok (.aload_n 0, 1) := by decide +kernel
theorem d_Mo_dayStep_103 : decode M_Mo_dayStep.2.1 103 = .ok (.getfield 266, 3) := by decide +kernel
theorem d_Mo_dayStep_106 : decode M_Mo_dayStep.2.1 106 = .ok (.iconst 3, 1) := by decide +kernel
theorem d_Mo_dayStep_107 : decode M_Mo_dayStep.2.1 107 = .ok (.if_icmp .ne 10, 3) := by decide +kernel
theorem d_Mo_dayStep_110 : decode M_Mo_dayStep.2.1 110 = .ok (.aload_n 0, 1) := by decide +kernel
theorem d_Mo_dayStep_111 : decode M_Mo_dayStep.2.1 111 = .ok (.bipush 7, 2) := by decide +kernel
theorem d_Mo_dayStep_113 : decode M_Mo_dayStep.2.1 113 = .ok (.invokevirtual 193, 3) := by decide +kernel
theorem d_Mo_dayStep_116 : decode M_Mo_dayStep.2.1 116 = .ok (.ireturn, 1) := by decide +kernel
theorem d_Mo_dayStep_117 : decode M_Mo_dayStep.2.1 117 = .ok (.aload_n 0, 1) := by decide +kernel
theorem d_Mo_dayStep_118 : decode M_Mo_dayStep.2.1 118 = .ok (.dup, 1) := by decide +kernel
theorem d_Mo_dayStep_119 : decode M_Mo_dayStep.2.1 119 = .ok (.getfield 269, 3) := by decide +kernel
theorem d_Mo_dayStep_122 : decode M_Mo_dayStep.2.1 122 = .ok (.iload_n 1, 1) := by decide +kernel
theorem d_Mo_dayStep_123 : decode M_Mo_dayStep.2.1 123 = .ok (.bipush 18, 2) := by decide +kernel
theorem d_Mo_dayStep_125 : decode M_Mo_dayStep.2.1 125 = .ok (.if_icmp .ne 7, 3) := by decide +kernel
theorem d_Mo_dayStep_128 : decode M_Mo_dayStep.2.1 128 = .ok (.iconst 0, 1) := by decide +kernel
theorem d_Mo_dayStep_129 : decode M_Mo_dayStep.2.1 129 = .ok (.goto 4, 3) := by decide +kernel
theorem d_Mo_dayStep_132 : decode M_Mo_dayStep.2.1 132 = .ok (.iconst 1, 1) := by decide +kernel
theorem d_Mo_dayStep_133 : decode M_Mo_dayStep.2.1 133 = .ok (.iadd, 1) := by decide +kernel
theorem d_Mo_dayStep_134 : decode M_Mo_dayStep.2.1 134 = .ok (.putfield 269, 3) := by decide +kernel
theorem d_Mo_dayStep_137 : decode M_Mo_dayStep.2.1 137 = .ok (.aload_n 0, 1) := by decide +kernel
theorem d_Mo_dayStep_138 : decode M_Mo_dayStep.2.1 138 = .ok (.getfield 7, 3) := by decide +kernel
theorem d_Mo_dayStep_141 : decode M_Mo_dayStep.2.1 141 = .ok (.iload_n 3, 1) := by decide +kernel
theorem d_Mo_dayStep_142 : decode M_Mo_dayStep.2.1 142 = .ok (.iload_n 1, 1) := by decide +kernel
theorem d_Mo_dayStep_143 : decode M_Mo_dayStep.2.1 143 = .ok (.iastore, 1) := by decide +kernel
theorem d_Mo_dayStep_144 : decode M_Mo_dayStep.2.1 144 = .ok (.iconst 1, 1) := by decide +kernel
theorem d_Mo_dayStep_145 : decode M_Mo_dayStep.2.1 145 = .ok (.istore 5, 2) := by decide +kernel
theorem d_Mo_dayStep_147 : decode M_Mo_dayStep.2.1 147 = .ok (.iload 5, 2) := by decide +kernel
theorem d_Mo_dayStep_149 : decode M_Mo_dayStep.2.1 149 = .ok (.bipush 6, 2) := by decide +kernel
theorem d_Mo_dayStep_151 : decode M_Mo_dayStep.2.1 151 = .ok (.if_icmp .ge 19, 3) := by decide +kernel
theorem d_Mo_dayStep_154 : decode M_Mo_dayStep.2.1 154 = .ok (.aload_n 0, 1) := by decide +kernel
theorem d_Mo_dayStep_155 : decode M_Mo_dayStep.2.1 155 = .ok (.getfield 7, 3) := by decide +kernel
theorem d_Mo_dayStep_158 : decode M_Mo_dayStep.2.1 158 = .ok (.iload_n 3, 1) := by decide +kernel
theorem d_Mo_dayStep_159 : decode M_Mo_dayStep.2.1 159 = .ok (.iload 5, 2) := by decide +kernel
theorem d_Mo_dayStep_161 : decode M_Mo_dayStep.2.1 161 = .ok (.iadd, 1) := by decide +kernel
theorem d_Mo_dayStep_162 : decode M_Mo_dayStep.2.1 162 = .ok (.iconst 0, 1) := by decide +kernel
theorem d_Mo_dayStep_163 : decode M_Mo_dayStep.2.1 163 = .ok (.iastore, 1) := by decide +kernel
theorem d_Mo_dayStep_164 : decode M_Mo_dayStep.2.1 164 = .ok (.iinc 5 1, 3) := by decide +kernel
theorem d_Mo_dayStep_167 : decode M_Mo_dayStep.2.1 167 = .ok (.goto (-20), 3) := by decide +kernel
theorem d_Mo_dayStep_170 : decode M_Mo_dayStep.2.1 170 = .ok (.aload_n 0, 1) := by decide +kernel
theorem d_Mo_dayStep_171 : decode M_Mo_dayStep.2.1 171 = .ok (.getfield 7, 3) := by decide +kernel
theorem d_Mo_dayStep_174 : decode M_Mo_dayStep.2.1 174 = .ok (.sipush 1807, 3) := by decide +kernel
theorem d_Mo_dayStep_177 : decode M_Mo_dayStep.2.1 177 = .ok (.dup2, 1) := by decide +kernel
theorem d_Mo_dayStep_178 : decode M_Mo_dayStep.2.1 178 = .ok (.iaload, 1) := by decide +kernel
theorem d_Mo_dayStep_179 : decode M_Mo_dayStep.2.1 179 = .ok (.iconst 1, 1) := by decide +kernel
theorem d_Mo_dayStep_180 : decode M_Mo_dayStep.2.1 180 = .ok (.iadd, 1) := by decide +kernel
theorem d_Mo_dayStep_181 : decode M_Mo_dayStep.2.1 181 = .ok (.iastore, 1) := by decide +kernel
theorem d_Mo_dayStep_182 : decode M_Mo_dayStep.2.1 182 = .ok (.aload_n 0, 1) := by decide +kernel
theorem d_Mo_dayStep_183 : decode M_Mo_dayStep.2.1 183 = .ok (.invokevirtual 187, 3) := by decide +kernel
theorem d_Mo_dayStep_186 : decode M_Mo_dayStep.2.1 186 = .ok (.aload_n 0, 1) := by decide +kernel
theorem d_Mo_dayStep_187 : decode M_Mo_dayStep.2.1 187 = .ok (.iload_n 1, 1) := by decide +kernel
theorem d_Mo_dayStep_188 : decode M_Mo_dayStep.2.1 188 = .ok (.iload_n 3, 1) := by decide +kernel
theorem d_Mo_dayStep_189 : decode M_Mo_dayStep.2.1 189 = .ok (.invokevirtual 272, 3) := by decide +kernel
theorem d_Mo_dayStep_192 : decode M_Mo_dayStep.2.1 192 = .ok (.ifCond .ne 5, 3) := by decide +kernel
theorem d_Mo_dayStep_195 : decode M_Mo_dayStep.2.1 195 = .ok (.iconst 0, 1) := by decide +kernel
theorem d_Mo_dayStep_196 : decode M_Mo_dayStep.2.1 196 = .ok (.ireturn, 1) := by decide +kernel
theorem d_Mo_dayStep_197 : decode M_Mo_dayStep.2.1 197 = .ok (.iload 4, 2) := by decide +kernel
theorem d_Mo_dayStep_199 : decode M_Mo_dayStep.2.1 199 = .ok (.ifCond .eq 23, 3) := by decide +kernel
theorem d_Mo_dayStep_202 : decode M_Mo_dayStep.2.1 202 = .ok (.aload_n 0, 1) := by decide +kernel
theorem d_Mo_dayStep_203 : decode M_Mo_dayStep.2.1 203 = .ok (.getfield 44, 3) := by decide +kernel
theorem d_Mo_dayStep_206 : decode M_Mo_dayStep.2.1 206 = .ok (.aload_n 0, 1) := by decide +kernel
theorem d_Mo_dayStep_207 : decode M_Mo_dayStep.2.1 207 = .ok (.getfield 266, 3) := by decide +kernel
theorem d_Mo_dayStep_210 : decode M_Mo_dayStep.2.1 210 = .ok (.iload_n 2, 1) := by decide +kernel
theorem d_Mo_dayStep_211 : decode M_Mo_dayStep.2.1 211 = .ok (.iastore, 1) := by decide +kernel
theorem d_Mo_dayStep_212 : decode M_Mo_dayStep.2.1 212 = .ok (.aload_n 0, 1) := by decide +kernel
theorem d_Mo_dayStep_213 : decode M_Mo_dayStep.2.1 213 = .ok (.dup, 1) := by decide +kernel
theorem d_Mo_dayStep_214 : decode M_Mo_dayStep.2.1 214 = .ok (.getfield 266, 3) := by decide +kernel
theorem d_Mo_dayStep_217 : decode M_Mo_dayStep.2.1 217 = .ok (.iconst 1, 1) := by decide +kernel
theorem d_Mo_dayStep_218 : decode M_Mo_dayStep.2.1 218 = .ok (.iadd, 1) := by decide +kernel
theorem d_Mo_dayStep_219 : decode M_Mo_dayStep.2.1 219 = .ok (.putfield 266, 3) := by decide +kernel
theorem d_Mo_dayStep_222 : decode M_Mo_dayStep.2.1 222 = .ok (.iload_n 1, 1) := by decide +kernel
theorem d_Mo_dayStep_223 : decode M_Mo_dayStep.2.1 223 = .ok (.bipush 18, 2) := by decide +kernel
theorem d_Mo_dayStep_225 : decode M_Mo_dayStep.2.1 225 = .ok (.if_icmp .ne 54, 3) := by decide +kernel
theorem d_Mo_dayStep_228 : decode M_Mo_dayStep.2.1 228 = .ok (.aload_n 0, 1) := by decide +kernel
theorem d_Mo_dayStep_229 : decode M_Mo_dayStep.2.1 229 = .ok (.dup, 1) := by decide +kernel
theorem d_Mo_dayStep_230 : decode M_Mo_dayStep.2.1 230 = .ok (.getfield 266, 3) := by decide +kernel
theorem d_Mo_dayStep_233 : decode M_Mo_dayStep.2.1 233 = .ok (.iconst 1, 1) := by decide +kernel
theorem d_Mo_dayStep_234 : decode M_Mo_dayStep.2.1 234 = .ok (.isub, 1) := by decide +kernel
theorem d_Mo_dayStep_235 : decode M_Mo_dayStep.2.1 235 = .ok (.putfield 266, 3) := by decide +kernel
theorem d_Mo_dayStep_238 : decode M_Mo_dayStep.2.1 238 = .ok (.aload_n 0, 1) := by decide +kernel
theorem d_Mo_dayStep_239 : decode M_Mo_dayStep.2.1 239 = .ok (.getfield 7, 3) := by decide +kernel
theorem d_Mo_dayStep_242 : decode M_Mo_dayStep.2.1 242 = .ok (.iload_n 3, 1) := by decide +kernel
theorem d_Mo_dayStep_243 : decode M_Mo_dayStep.2.1 243 = .ok (.iconst 4, 1) := by decide +kernel
theorem d_Mo_dayStep_244 : decode M_Mo_dayStep.2.1 244 = .ok (.iadd, 1) := by decide +kernel
theorem d_Mo_dayStep_245 : decode M_Mo_dayStep.2.1 245 = .ok (.aload_n 0, 1) := by decide +kernel
theorem d_Mo_dayStep_246 : decode M_Mo_dayStep.2.1 246 = .ok (.getfield 44, 3) := by decide +kernel
theorem d_Mo_dayStep_249 : decode M_Mo_dayStep.2.1 249 = .ok (.aload_n 0, 1) := by decide +kernel
theorem d_Mo_dayStep_250 : decode M_Mo_dayStep.2.1 250 = .ok (.getfield 266, 3) := by decide +kernel
theorem d_Mo_dayStep_253 : decode M_Mo_dayStep.2.1 253 = .ok (.iaload, 1) := by decide +kernel
theorem d_Mo_dayStep_254 : decode M_Mo_dayStep.2.1 254 = .ok (.iastore, 1) := by decide +kernel
theorem d_Mo_dayStep_255 : decode M_Mo_dayStep.2.1 255 = .ok (.aload_n 0, 1) := by decide +kernel
theorem d_Mo_dayStep_256 : decode M_Mo_dayStep.2.1 256 = .ok (.getfield 7, 3) := by decide +kernel
theorem d_Mo_dayStep_259 : decode M_Mo_dayStep.2.1 259 = .ok (.sipush 1882, 3) := by decide +kernel
theorem d_Mo_dayStep_262 : decode M_Mo_dayStep.2.1 262 = .ok (.bipush 6, 2) := by decide +kernel
theorem d_Mo_dayStep_264 : decode M_Mo_dayStep.2.1 264 = .ok (.aload_n 0, 1) := by decide +kernel
theorem d_Mo_dayStep_265 : decode M_Mo_dayStep.2.1 265 = .ok (.getfield 44, 3) := by decide +kernel
theorem d_Mo_dayStep_268 : decode M_Mo_dayStep.2.1 268 = .ok (.aload_n 0, 1) := by decide +kernel
theorem d_Mo_dayStep_269 : decode M_Mo_dayStep.2.1 269 = .ok (.getfield 266, 3) := by decide +kernel
theorem d_Mo_dayStep_272 : decode M_Mo_dayStep.2.1 272 = .ok (.iaload, 1) := by decide +kernel
theorem d_Mo_dayStep_273 : decode M_Mo_dayStep.2.1 273 = .ok (.imul, 1) := by decide +kernel
theorem d_Mo_dayStep_274 : decode M_Mo_dayStep.2.1 274 = .ok (.iadd, 1) := by decide +kernel
theorem d_Mo_dayStep_275 : decode M_Mo_dayStep.2.1 275 = .ok (.iconst 4, 1) := by decide +kernel
theorem d_Mo_dayStep_276 : decode M_Mo_dayStep.2.1 276 = .ok (.iadd, 1) := by decide +kernel
theorem d_Mo_dayStep_277 : decode M_Mo_dayStep.2.1 277 = .ok (.iload_n 2, 1) := by decide +kernel
theorem d_Mo_dayStep_278 : decode M_Mo_dayStep.2.1 278 = .ok (.iastore, 1) := by decide +kernel
theorem d_Mo_dayStep_279 : decode M_Mo_dayStep.2.1 279 = .ok (.aload_n 0, 1) := by decide +kernel
theorem d_Mo_dayStep_280 : decode M_Mo_dayStep.2.1 280 = .ok (.bipush 59, 2) := by decide +kernel
theorem d_Mo_dayStep_282 : decode M_Mo_dayStep.2.1 282 = .ok (.invokevirtual 240, 3) := by decide +kernel
theorem d_Mo_dayStep_285 : decode M_Mo_dayStep.2.1 285 = .ok (.ireturn, 1) := by decide +kernel
theorem d_Mo_days_0 : decode M_Mo_days.2.1 0 = .ok (.aload_n 0, 1) := by decide +kernel
theorem d_Mo_days_1 : decode M_Mo_days.2.1 1 = .ok (.iload_n 1, 1) := by decide +kernel
theorem d_Mo_days_2 : decode M_Mo_days.2.1 2 = .ok (.sipush 300, 3) := by decide +kernel
theorem d_Mo_days_5 : decode M_Mo_days.2.1 5 = .ok (.invokevirtual 253, 3) := by decide +kernel
theorem d_Mo_days_8 : decode M_Mo_days.2.1 8 = .ok (.ifCond .ne 9, 3) := by decide +kernel
theorem d_Mo_days_11 : decode M_Mo_days.2.1 11 = .ok (.aload_n 0, 1) := by decide +kernel
theorem d_Mo_days_12 : decode M_Mo_days.2.1 12 = .ok (.iconst 1, 1) := by decide +kernel
theorem d_Mo_days_13 : decode M_Mo_days.2.1 13 = .ok (.invokevirtual 111, 3) := by decide +kernel
theorem d_Mo_days_16 : decode M_Mo_days.2.1 16 = .ok (.ireturn, 1) := by decide +kernel
theorem d_Mo_days_17 : decode M_Mo_days.2.1 17 = .ok (.aload_n 0, 1) := by decide +kernel
theorem d_Mo_days_18 : decode M_Mo_days.2.1 18 = .ok (.getfield 7, 3) := by decide +kernel
theorem d_Mo_days_21 : decode M_Mo_days.2.1 21 = .ok (.sipush 1807, 3) := by decide +kernel
theorem d_Mo_days_24 : decode M_Mo_days.2.1 24 = .ok (.iconst 0, 1) := by decide +kernel
theorem d_Mo_days_25 : decode M_Mo_days.2.1 25 = .ok (.iastore, 1) := by decide +kernel
theorem d_Mo_days_26 : decode M_Mo_days.2.1 26 = .ok (.aload_n 0, 1) := by decide +kernel
theorem d_Mo_days_27 : decode M_Mo_days.2.1 27 = .ok (.iconst 0, 1) := by decide +kernel
theorem d_Mo_days_28 : decode M_Mo_days.2.1 28 = .ok (.putfield 266, 3) := by decide +kernel
theorem d_Mo_days_31 : decode M_Mo_days.2.1 31 = .ok (.aload_n 0, 1) := by decide +kernel
theorem d_Mo_days_32 : decode M_Mo_days.2.1 32 = .ok (.iconst 0, 1) := by decide +kernel
theorem d_Mo_days_33 : decode M_Mo_days.2.1 33 = .ok (.putfield 269, 3) := by decide +kernel
theorem d_Mo_days_36 : decode M_Mo_days.2.1 36 = .ok (.iconst 1, 1) := by decide +kernel
theorem d_Mo_days_37 : decode M_Mo_days.2.1 37 = .ok (.istore_n 2, 1) := by decide +kernel
theorem d_Mo_days_38 : decode M_Mo_days.2.1 38 = .ok (.iload_n 2, 1) := by decide +kernel
theorem d_Mo_days_39 : decode M_Mo_days.2.1 39 = .ok (.ifCond .eq 18, 3) := by decide +kernel
theorem d_Mo_days_42 : decode M_Mo_days.2.1 42 = .ok (.aload_n 0, 1) := by decide +kernel
theorem d_Mo_days_43 : decode M_Mo_days.2.1 43 = .ok (.getfield 156, 3) := by decide +kernel
theorem d_Mo_days_46 : decode M_Mo_days.2.1 46 = .ok (.ifCond .eq 11, 3) := by decide +kernel
theorem d_Mo_days_49 : decode M_Mo_days.2.1 49 = .ok (.aload_n 0, 1) := by decide +kernel
theorem d_Mo_days_50 : decode M_Mo_days.2.1 50 = .ok (.invokevirtual 275, 3) := by decide +kernel
theorem d_Mo_days_53 : decode M_Mo_days.2.1 53 = .ok (.istore_n 2, 1) := by decide +kernel
theorem d_Mo_days_54 : decode M_Mo_days.2.1 54 = .ok (.goto (-16), 3) := by decide +kernel
theorem d_Mo_days_57 : decode M_Mo_days.2.1 57 = .ok (.aload_n 0, 1) := by decide +kernel
theorem d_Mo_days_58 : decode M_Mo_days.2.1 58 = .ok (.getfield 181, 3) := by decide +kernel
theorem d_Mo_days_61 : decode M_Mo_days.2.1 61 = .ok (.ifCond .ne 16, 3) := by decide +kernel
theorem d_Mo_days_64 : decode M_Mo_days.2.1 64 = .ok (.aload_n 0, 1) := by decide +kernel
theorem d_Mo_days_65 : decode M_Mo_days.2.1 65 = .ok (.getfield 266, 3) := by decide +kernel
theorem d_Mo_days_68 : decode M_Mo_days.2.1 68 = .ok (.ifCond .le 9, 3) := by decide +kernel
theorem d_Mo_days_71 : decode M_Mo_days.2.1 71 = .ok (.aload_n 0, 1) := by decide +kernel
theorem d_Mo_days_72 : decode M_Mo_days.2.1 72 = .ok (.iconst 2, 1) := by decide +kernel
theorem d_Mo_days_73 : decode M_Mo_days.2.1 73 = .ok (.invokevirtual 193, 3) := by decide +kernel
theorem d_Mo_days_76 : decode M_Mo_days.2.1 76 = .ok (.pop, 1) := by decide +kernel
theorem d_Mo_days_77 : decode M_Mo_days.2.1 77 = .ok (.aload_n 0, 1) := by decide +kernel
theorem d_Mo_days_78 : decode M_Mo_days.2.1 78 = .ok (.getfield 181, 3) := by decide +kernel
theorem d_Mo_days_81 : decode M_Mo_days.2.1 81 = .ok (.ifCond .ne 50, 3) := by decide +kernel
theorem d_Mo_days_84 : decode M_Mo_days.2.1 84 = .ok (.aload_n 0, 1) := by decide +kernel
theorem d_Mo_days_85 : decode M_Mo_days.2.1 85 = .ok (.getfield 7, 3) := by decide +kernel
theorem d_Mo_days_88 : decode M_Mo_days.2.1 88 = .ok (.bipush 7, 2) := by decide +kernel
theorem d_Mo_days_90 : decode M_Mo_days.2.1 90 = .ok (.aload_n 0, 1) := by decide +kernel
theorem d_Mo_days_91 : decode M_Mo_days.2.1 91 = .ok (.getfield 7, 3) := by decide +kernel
theorem d_Mo_days_94 : decode M_Mo_days.2.1 94 = .ok (.sipush 1807, 3) := by decide +kernel
theorem d_Mo_days_97 : decode M_Mo_days.2.1 97 = .ok (.iaload, 1) := by decide +kernel
theorem d_Mo_days_98 : decode M_Mo_days.2.1 98 = .ok (.iastore, 1) := by decide +kernel
theorem d_Mo_days_99 : decode M_Mo_days.2.1 99 = .ok (.bipush 82, 2) := by decide +kernel
theorem d_Mo_days_101 : decode M_Mo_days.2.1 101 = .ok (.istore_n 3, 1) := by decide +kernel
theorem d_Mo_days_102 : decode M_Mo_days.2.1 102 = .ok (.iload_n 3, 1) := by decide +kernel
theorem d_Mo_days_103 : decode M_Mo_days.2.1 103 = .ok (.sipush 442, 3) := by decide +kernel
theorem d_Mo_days_106 : decode M_Mo_days.2.1 106 = .ok (.if_icmp .ge 25, 3) := by decide +kernel
theorem d_Mo_days_109 : decode M_Mo_days.2.1 109 = .ok (.aload_n 0, 1) := by decide +kernel
theorem d_Mo_days_110 : decode M_Mo_days.2.1 110 = .ok (.getfield 7, 3) := by decide +kernel
theorem d_Mo_days_113 : decode M_Mo_days.2.1 113 = .ok (.iload_n 3, 1) := by decide +kernel
theorem d_Mo_days_114 : decode M_Mo_days.2.1 114 = .ok (.aload_n 0, 1) := by decide +kernel
theorem d_Mo_days_115 : decode M_Mo_days.2.1 115 = .ok (.getfield 7, 3) := by decide +kernel
theorem d_Mo_days_118 : decode M_Mo_days.2.1 118 = .ok (.sipush 1800, 3) := by decide +kernel
theorem d_Mo_days_121 : decode M_Mo_days.2.1 121 = .ok (.iload_n 3, 1) := by decide +kernel
theorem d_Mo_days_122 : decode M_Mo_days.2.1 122 = .ok (.iadd, 1) := by decide +kernel
theorem d_Mo_days_123 : decode M_Mo_days.2.1 123 = .ok (.iaload, 1) := by decide +kernel
theorem d_Mo_days_124 : decode M_Mo_days.2.1 124 = .ok (.iastore, 1) := by decide +kernel
theorem d_Mo_days_125 : decode M_Mo_days.2.1 125 = .ok (.iinc 3 1, 3) := by decide +kernel
theorem d_Mo_days_128 : decode M_Mo_days.2.1 128 = .ok (.goto (-26), 3) := by decide +kernel
theorem d_Mo_days_131 : decode M_Mo_days.2.1 131 = .ok (.aload_n 0, 1) := by decide +kernel
theorem d_Mo_days_132 : decode M_Mo_days.2.1 132 = .ok (.aload_n 0, 1) := by decide +kernel
theorem d_Mo_days_133 : decode M_Mo_days.2.1 133 = .ok (.getfield 269, 3) := by decide +kernel
theorem d_Mo_days_136 : decode M_Mo_days.2.1 136 = .ok (.invokevirtual 260, 3) := by decide +kernel
theorem d_Mo_days_139 : decode M_Mo_days.2.1 139 = .ok (.ireturn, 1) := by decide +kernel
theorem d_Mo_isPlace_0 : decode M_Mo_isPlace.2.1 0 = .ok (.iload_n 1, 1) := by decide +kernel
theorem d_Mo_isPlace_1 : decode M_Mo_isPlace.2.1 1 = .ok (.ifCond .lt 17, 3) := by decide +kernel
theorem d_Mo_isPlace_4 : decode M_Mo_isPlace.2.1 4 = .ok (.iload_n 1, 1) := by decide +kernel
theorem d_Mo_isPlace_5 : decode M_Mo_isPlace.2.1 5 = .ok (.aload_n 0, 1) := by decide +kernel
theorem d_Mo_isPlace_6 : decode M_Mo_isPlace.2.1 6 = .ok (.getfield 7, 3) := by decide +kernel
theorem d_Mo_isPlace_9 : decode M_Mo_isPlace.2.1 9 = .ok (.iconst 0, 1) := by decide +kernel
theorem d_Mo_isPlace_10 : decode M_Mo_isPlace.2.1 10 = .ok (.iaload, 1) := by decide +kernel
theorem d_Mo_isPlace_11 : decode M_Mo_isPlace.2.1 11 = .ok (.if_icmp .ge 7, 3) := by decide +kernel
theorem d_Mo_isPlace_14 : decode M_Mo_isPlace.2.1 14 = .ok (.iconst 1, 1) := by decide +kernel
theorem d_Mo_isPlace_15 : decode M_Mo_isPlace.2.1 15 = .ok (.goto 4, 3) := by decide +kernel
theorem d_Mo_isPlace_18 : decode M_Mo_isPlace.2.1 18 = .ok (.iconst 0, 1) := by decide +kernel
theorem d_Mo_isPlace_19 : decode M_Mo_isPlace.2.1 19 = .ok (.ireturn, 1) := by decide +kernel
theorem d_Mo_isWalker_0 : decode M_Mo_isWalker.2.1 0 = .ok (.iload_n 1, 1) := by decide +kernel
theorem d_Mo_isWalker_1 : decode M_Mo_isWalker.2.1 1 = .ok (.ifCond .lt 17, 3) := by decide +kernel
theorem d_Mo_isWalker_4 : decode M_Mo_isWalker.2.1 4 = .ok (.iload_n 1, 1) := by decide +kernel
theorem d_Mo_isWalker_5 : decode M_Mo_isWalker.2.1 5 = .ok (.aload_n 0, 1) := by decide +kernel
theorem d_Mo_isWalker_6 : decode M_Mo_isWalker.2.1 6 = .ok (.getfield 7, 3) := by decide +kernel
theorem d_Mo_isWalker_9 : decode M_Mo_isWalker.2.1 9 = .ok (.iconst 1, 1) := by decide +kernel
theorem d_Mo_isWalker_10 : decode M_Mo_isWalker.2.1 10 = .ok (.iaload, 1) := by decide +kernel
theorem d_Mo_isWalker_11 : decode M_Mo_isWalker.2.1 11 = .ok (.if_icmp .ge 7, 3) := by decide +kernel
theorem d_Mo_isWalker_14 : decode M_Mo_isWalker.2.1 14 = .ok (.iconst 1, 1) := by decide +kernel
theorem d_Mo_isWalker_15 : decode M_Mo_isWalker.2.1 15 = .ok (.goto 4, 3) := by decide +kernel
theorem d_Mo_isWalker_18 : decode M_Mo_isWalker.2.1 18 = .ok (.iconst 0, 1) := by decide +kernel
theorem d_Mo_isWalker_19 : decode M_Mo_isWalker.2.1 19 = .ok (.ireturn, 1) := by decide +kernel
theorem d_Mo_isLeg_0 : decode M_Mo_isLeg.2.1 0 = .ok (.iload_n 1, 1) := by decide +kernel
theorem d_Mo_isLeg_1 : decode M_Mo_isLeg.2.1 1 = .ok (.ifCond .lt 17, 3) := by decide +kernel
theorem d_Mo_isLeg_4 : decode M_Mo_isLeg.2.1 4 = .ok (.iload_n 1, 1) := by decide +kernel
theorem d_Mo_isLeg_5 : decode M_Mo_isLeg.2.1 5 = .ok (.aload_n 0, 1) := by decide +kernel
theorem d_Mo_isLeg_6 : decode M_Mo_isLeg.2.1 6 = .ok (.getfield 7, 3) := by decide +kernel
theorem d_Mo_isLeg_9 : decode M_Mo_isLeg.2.1 9 = .ok (.iconst 2, 1) := by decide +kernel
theorem d_Mo_isLeg_10 : decode M_Mo_isLeg.2.1 10 = .ok (.iaload, 1) := by decide +kernel
theorem d_Mo_isLeg_11 : decode M_Mo_isLeg.2.1 11 = .ok (.if_icmp .ge 7, 3) := by decide +kernel
theorem d_Mo_isLeg_14 : decode M_Mo_isLeg.2.1 14 = .ok (.iconst 1, 1) := by decide +kernel
theorem d_Mo_isLeg_15 : decode M_Mo_isLeg.2.1 15 = .ok (.goto 4, 3) := by decide +kernel
theorem d_Mo_isLeg_18 : decode M_Mo_isLeg.2.1 18 = .ok (.iconst 0, 1) := by decide +kernel
theorem d_Mo_isLeg_19 : decode M_Mo_isLeg.2.1 19 = .ok (.ireturn, 1) := by decide +kernel
theorem d_Mo_areTwo_0 : decode M_Mo_areTwo.2.1 0 = .ok (.aload_n 0, 1) := by decide +kernel
theorem d_Mo_areTwo_1 : decode M_Mo_areTwo.2.1 1 = .ok (.iload_n 1, 1) := by decide +kernel
theorem d_Mo_areTwo_2 : decode M_Mo_areTwo.2.1 2 = .ok (.invokevirtual 278, 3) := by decide +kernel
theorem d_Mo_areTwo_5 : decode M_Mo_areTwo.2.1 5 = .ok (.ifCond .eq 20, 3) := by decide +kernel
theorem d_Mo_areTwo_8 : decode M_Mo_areTwo.2.1 8 = .ok (.aload_n 0, 1) := by decide +kernel
theorem d_Mo_areTwo_9 : decode M_Mo_areTwo.2.1 9 = .ok (.iload_n 2, 1) := by decide +kernel
theorem d_Mo_areTwo_10 : decode M_Mo_areTwo.2.1 10 = .ok (.invokevirtual 278, 3) := by decide +kernel
theorem d_Mo_areTwo_13 : decode M_Mo_areTwo.2.1 13 = .ok (.ifCond .eq 12, 3) := by decide +kernel
theorem d_Mo_areTwo_16 : decode M_Mo_areTwo.2.1 16 = .ok (.iload_n 1, 1) := by decide +kernel
theorem d_Mo_areTwo_17 : decode M_Mo_areTwo.2.1 17 = .ok (.iload_n 2, 1) := by decide +kernel
theorem d_Mo_areTwo_18 : decode M_Mo_areTwo.2.1 18 = .ok (.if_icmp .eq 7, 3) := by decide +kernel
theorem d_Mo_areTwo_21 : decode M_Mo_areTwo.2.1 21 = .ok (.iconst 1, 1) := by decide +kernel
theorem d_Mo_areTwo_22 : decode M_Mo_areTwo.2.1 22 = .ok (.goto 4, 3) := by decide +kernel
theorem d_Mo_areTwo_25 : decode M_Mo_areTwo.2.1 25 = .ok (.iconst 0, 1) := by decide +kernel
theorem d_Mo_areTwo_26 : decode M_Mo_areTwo.2.1 26 = .ok (.ireturn, 1) := by decide +kernel
theorem d_Mo_bits_0 : decode M_Mo_bits.2.1 0 = .ok (.iconst 0, 1) := by decide +kernel
theorem d_Mo_bits_1 : decode M_Mo_bits.2.1 1 = .ok (.istore_n 1, 1) := by decide +kernel
theorem d_Mo_bits_2 : decode M_Mo_bits.2.1 2 = .ok (.iload_n 0, 1) := by decide +kernel
theorem d_Mo_bits_3 : decode M_Mo_bits.2.1 3 = .ok (.istore_n 2, 1) := by decide +kernel
theorem d_Mo_bits_4 : decode M_Mo_bits.2.1 4 = .ok (.iload_n 2, 1) := by decide +kernel
theorem d_Mo_bits_5 : decode M_Mo_bits.2.1 5 = .ok (.ifCond .eq 15, 3) := by decide +kernel
theorem d_Mo_bits_8 : decode M_Mo_bits.2.1 8 = .ok (.iinc 1 1, 3) := by decide +kernel
theorem d_Mo_bits_11 : decode M_Mo_bits.2.1 11 = .ok (.iload_n 2, 1) := by decide +kernel
theorem d_Mo_bits_12 : decode M_Mo_bits.2.1 12 = .ok (.iload_n 2, 1) := by decide +kernel
theorem d_Mo_bits_13 : decode M_Mo_bits.2.1 13 = .ok (.iconst 1, 1) := by decide +kernel
theorem d_Mo_bits_14 : decode M_Mo_bits.2.1 14 = .ok (.isub, 1) := by decide +kernel
theorem d_Mo_bits_15 : decode M_Mo_bits.2.1 15 = .ok (.iand, 1) := by decide +kernel
theorem d_Mo_bits_16 : decode M_Mo_bits.2.1 16 = .ok (.istore_n 2, 1) := by decide +kernel
theorem d_Mo_bits_17 : decode M_Mo_bits.2.1 17 = .ok (.goto (-13), 3) := by decide +kernel
theorem d_Mo_bits_20 : decode M_Mo_bits.2.1 20 = .ok (.iload_n 1, 1) := by decide +kernel
theorem d_Mo_bits_21 : decode M_Mo_bits.2.1 21 = .ok (.ireturn, 1) := by decide +kernel
theorem d_Mo_legOf_0 : decode M_Mo_legOf.2.1 0 = .ok (.aload_n 0, 1) := by decide +kernel
theorem d_Mo_legOf_1 : decode M_Mo_legOf.2.1 1 = .ok (.getfield 7, 3) := by decide +kernel
theorem d_Mo_legOf_4 : decode M_Mo_legOf.2.1 4 = .ok (.iload_n 1, 1) := by decide +kernel
theorem d_Mo_legOf_5 : decode M_Mo_legOf.2.1 5 = .ok (.invokestatic 226, 3) := by decide +kernel
theorem d_Mo_legOf_8 : decode M_Mo_legOf.2.1 8 = .ok (.iload_n 2, 1) := by decide +kernel
theorem d_Mo_legOf_9 : decode M_Mo_legOf.2.1 9 = .ok (.iadd, 1) := by decide +kernel
theorem d_Mo_legOf_10 : decode M_Mo_legOf.2.1 10 = .ok (.iaload, 1) := by decide +kernel
theorem d_Mo_legOf_11 : decode M_Mo_legOf.2.1 11 = .ok (.ireturn, 1) := by decide +kernel
theorem d_Mo_walkerOf_0 : decode M_Mo_walkerOf.2.1 0 = .ok (.aload_n 0, 1) := by decide +kernel
theorem d_Mo_walkerOf_1 : decode M_Mo_walkerOf.2.1 1 = .ok (.getfield 7, 3) := by decide +kernel
theorem d_Mo_walkerOf_4 : decode M_Mo_walkerOf.2.1 4 = .ok (.iload_n 1, 1) := by decide +kernel
theorem d_Mo_walkerOf_5 : decode M_Mo_walkerOf.2.1 5 = .ok (.invokestatic 216, 3) := by decide +kernel
theorem d_Mo_walkerOf_8 : decode M_Mo_walkerOf.2.1 8 = .ok (.iload_n 2, 1) := by decide +kernel
theorem d_Mo_walkerOf_9 : decode M_Mo_walkerOf.2.1 9 = .ok (.iadd, 1) := by decide +kernel
theorem d_Mo_walkerOf_10 : decode M_Mo_walkerOf.2.1 10 = .ok (.iaload, 1) := by decide +kernel
theorem d_Mo_walkerOf_11 : decode M_Mo_walkerOf.2.1 11 = .ok (.ireturn, 1) := by decide +kernel
theorem d_Mo_counts_0 : decode M_Mo_counts.2.1 0 = .ok (.iload_n 1, 1) := by decide +kernel
theorem d_Mo_counts_1 : decode M_Mo_counts.2.1 1 = .ok (.aload_n 0, 1) := by decide +kernel
theorem d_Mo_counts_2 : decode M_Mo_counts.2.1 2 = .ok (.getfield 7, 3) := by decide +kernel
theorem d_Mo_counts_5 : decode M_Mo_counts.2.1 5 = .ok (.iconst 2, 1) := by decide +kernel
theorem d_Mo_counts_6 : decode M_Mo_counts.2.1 6 = .ok (.iaload, 1) := by decide +kernel
theorem d_Mo_counts_7 : decode M_Mo_counts.2.1 7 = .ok (.if_icmp .ge 22, 3) := by decide +kernel
theorem d_Mo_counts_10 : decode M_Mo_counts.2.1 10 = .ok (.aload_n 0, 1) := by decide +kernel
theorem d_Mo_counts_11 : decode M_Mo_counts.2.1 11 = .ok (.aload_n 0, 1) := by decide +kernel
theorem d_Mo_counts_12 : decode M_Mo_counts.2.1 12 = .ok (.getfield 7, 3) := by decide +kernel
theorem d_Mo_counts_15 : decode M_Mo_counts.2.1 15 = .ok (.bipush 6, 2) := by decide +kernel
theorem d_Mo_counts_17 : decode M_Mo_counts.2.1 17 = .ok (.iaload, 1) := by decide +kernel
theorem d_Mo_counts_18 : decode M_Mo_counts.2.1 18 = .ok (.iload_n 1, 1) := by decide +kernel
theorem d_Mo_counts_19 : decode M_Mo_counts.2.1 19 = .ok (.invokevirtual 281, 3) := by decide +kernel
theorem d_Mo_counts_22 : decode M_Mo_counts.2.1 22 = .ok (.ifCond .ne 7, 3) := by decide +kernel
theorem d_Mo_counts_25 : decode M_Mo_counts.2.1 25 = .ok (.iconst 1, 1) := by decide +kernel
theorem d_Mo_counts_26 : decode M_Mo_counts.2.1 26 = .ok (.goto 4, 3) := by decide +kernel
theorem d_Mo_counts_29 : decode M_Mo_counts.2.1 29 = .ok (.iconst 0, 1) := by decide +kernel
theorem d_Mo_counts_30 : decode M_Mo_counts.2.1 30 = .ok (.ireturn, 1) := by decide +kernel
theorem d_Mo_plainly_0 : decode M_Mo_plainly.2.1 0 = .ok (.iload_n 0, 1) := by decide +kernel
theorem d_Mo_plainly_1 : decode M_Mo_plainly.2.1 1 = .ok (.iload_n 0, 1) := by decide +kernel
theorem d_Mo_plainly_2 : decode M_Mo_plainly.2.1 2 = .ok (.ineg, 1) := by decide +kernel
theorem d_Mo_plainly_3 : decode M_Mo_plainly.2.1 3 = .ok (.invokestatic 284, 3) := by decide +kernel
theorem d_Mo_plainly_6 : decode M_Mo_plainly.2.1 6 = .ok (.ireturn, 1) := by decide +kernel
theorem d_Mo_right_0 : decode M_Mo_right.2.1 0 = .ok (.aload_n 0, 1) := by decide +kernel
theorem d_Mo_right_1 : decode M_Mo_right.2.1 1 = .ok (.iload_n 1, 1) := by decide +kernel
theorem d_Mo_right_2 : decode M_Mo_right.2.1 2 = .ok (.iconst 0, 1) := by decide +kernel
theorem d_Mo_right_3 : decode M_Mo_right.2.1 3 = .ok (.invokevirtual 287, 3) := by decide +kernel
theorem d_Mo_right_6 : decode M_Mo_right.2.1 6 = .ok (.istore_n 3, 1) := by decide +kernel
theorem d_Mo_right_7 : decode M_Mo_right.2.1 7 = .ok (.aload_n 0, 1) := by decide +kernel
theorem d_Mo_right_8 : decode M_Mo_right.2.1 8 = .ok (.iload_n 3, 1) := by decide +kernel
theorem d_Mo_right_9 : decode M_Mo_right.2.1 9 = .ok (.iconst 2, 1) := by decide +kernel
theorem d_Mo_right_10 : decode M_Mo_right.2.1 10 = .ok (.invokevirtual 290, 3) := by decide +kernel
theorem d_Mo_right_13 : decode M_Mo_right.2.1 13 = .ok (.istore 4, 2) := by decide +kernel
theorem d_Mo_right_15 : decode M_Mo_right.2.1 15 = .ok (.aload_n 0, 1) := by decide +kernel
theorem d_Mo_right_16 : decode M_Mo_right.2.1 16 = .ok (.iload_n 3, 1) := by decide +kernel
theorem d_Mo_right_17 : decode M_Mo_right.2.1 17 = .ok (.iconst 1, 1) := by decide +kernel
theorem d_Mo_right_18 : decode M_Mo_right.2.1 18 = .ok (.invokevirtual 290, 3) := by decide +kernel
theorem d_Mo_right_21 : decode M_Mo_right.2.1 21 = .ok (.iconst 1, 1) := by decide +kernel
theorem d_Mo_right_22 : decode M_Mo_right.2.1 22 = .ok (.if_icmp .ne 13, 3) := by decide +kernel
theorem d_Mo_right_25 : decode M_Mo_right.2.1 25 = .ok (.aload_n 0, 1) := by decide +kernel
theorem d_Mo_right_26 : decode M_Mo_right.2.1 26 = .ok (.iload_n 1, 1) := by decide +kernel
theorem d_Mo_right_27 : decode M_Mo_right.2.1 27 = .ok (.iconst 3, 1) := by decide +kernel
theorem d_Mo_right_28 : decode M_Mo_right.2.1 28 = .ok (.invokevirtual 287, 3) := by decide +kernel
theorem d_Mo_right_31 : decode M_Mo_right.2.1 31 = .ok (.ineg, 1) := by decide +kernel
theorem d_Mo_right_32 : decode M_Mo_right.2.1 32 = .ok (.goto 9, 3) := by decide +kernel
theorem d_Mo_right_35 : decode M_Mo_right.2.1 35 = .ok (.aload_n 0, 1) := by decide +kernel
theorem d_Mo_right_36 : decode M_Mo_right.2.1 36 = .ok (.iload_n 1, 1) := by decide +kernel
theorem d_Mo_right_37 : decode M_Mo_right.2.1 37 = .ok (.iconst 3, 1) := by decide +kernel
theorem d_Mo_right_38 : decode M_Mo_right.2.1 38 = .ok (.invokevirtual 287, 3) := by decide +kernel
theorem d_Mo_right_41 : decode M_Mo_right.2.1 41 = .ok (.istore 5, 2) := by decide +kernel
theorem d_Mo_right_43 : decode M_Mo_right.2.1 43 = .ok (.aload_n 0, 1) := by decide +kernel
theorem d_Mo_right_44 : decode M_Mo_right.2.1 44 = .ok (.iload_n 1, 1) := by decide +kernel
theorem d_Mo_right_45 : decode M_Mo_right.2.1 45 = .ok (.iconst 4, 1) := by decide +kernel
theorem d_Mo_right_46 : decode M_Mo_right.2.1 46 = .ok (.invokevirtual 287, 3) := by decide +kernel
theorem d_Mo_right_49 : decode M_Mo_right.2.1 49 = .ok (.istore 6, 2) := by decide +kernel
theorem d_Mo_right_51 : decode M_Mo_right.2.1 51 = .ok (.aload_n 0, 1) := by decide +kernel
theorem d_Mo_right_52 : decode M_Mo_right.2.1 52 = .ok (.iload_n 3, 1) := by decide +kernel
theorem d_Mo_right_53 : decode M_Mo_right.2.1 53 = .ok (.iconst 0, 1) := by decide +kernel
theorem d_Mo_right_54 : decode M_Mo_right.2.1 54 = .ok (.invokevirtual 290, 3) := by decide +kernel
theorem d_Mo_right_57 : decode M_Mo_right.2.1 57 = .ok (.tableswitch 75 0 2 #[27, 42, 58], 27) := by decide +kernel
theorem d_Mo_right_84 : decode M_Mo_right.2.1 84 = .ok (.iload 4, 2) := by decide +kernel
theorem d_Mo_right_86 : decode M_Mo_right.2.1 86 = .ok (.iload_n 2, 1) := by decide +kernel
theorem d_Mo_right_87 : decode M_Mo_right.2.1 87 = .ok (.ifCond .eq 8, 3) := by decide +kernel
theorem d_Mo_right_90 : decode M_Mo_right.2.1 90 = .ok (.iload 6, 2) := by decide +kernel
theorem d_Mo_right_92 : decode M_Mo_right.2.1 92 = .ok (.goto 5, 3) := by decide +kernel
theorem d_Mo_right_95 : decode M_Mo_right.2.1 95 = .ok (.iload 5, 2) := by decide +kernel
theorem d_Mo_right_97 : decode M_Mo_right.2.1 97 = .ok (.imul, 1) := by decide +kernel
theorem d_Mo_right_98 : decode M_Mo_right.2.1 98 = .ok (.ireturn, 1) := by decide +kernel
theorem d_Mo_right_99 : decode M_Mo_right.2.1 99 = .ok (.iload 4, 2) := by decide +kernel
theorem d_Mo_right_101 : decode M_Mo_right.2.1 101 = .ok (.iload_n 2, 1) := by decide +kernel
theorem d_Mo_right_102 : decode M_Mo_right.2.1 102 = .ok (.ifCond .eq 9, 3) := by decide +kernel
theorem d_Mo_right_105 : decode M_Mo_right.2.1 105 = .ok (.iload 5, 2) := by decide +kernel
theorem d_Mo_right_107 : decode M_Mo_right.2.1 107 = .ok (.ineg, 1) := by decide +kernel
theorem d_Mo_right_108 : decode M_Mo_right.2.1 108 = .ok (.goto 5, 3) := by decide +kernel
theorem d_Mo_right_111 : decode M_Mo_right.2.1 111 = .ok (.iload 6, 2) := by decide +kernel
theorem d_Mo_right_113 : decode M_Mo_right.2.1 113 = .ok (.imul, 1) := by decide +kernel
theorem d_Mo_right_114 : decode M_Mo_right.2.1 114 = .ok (.ireturn, 1) := by decide +kernel
theorem d_Mo_right_115 : decode M_Mo_right.2.1 115 = .ok (.iload 4, 2) := by decide +kernel
theorem d_Mo_right_117 : decode M_Mo_right.2.1 117 = .ok (.iload_n 2, 1) := by decide +kernel
theorem d_Mo_right_118 : decode M_Mo_right.2.1 118 = .ok (.ifCond .eq 9, 3) := by decide +kernel
theorem d_Mo_right_121 : decode M_Mo_right.2.1 121 = .ok (.iload 6, 2) := by decide +kernel
theorem d_Mo_right_123 : decode M_Mo_right.2.1 123 = .ok (.ineg, 1) := by decide +kernel
theorem d_Mo_right_124 : decode M_Mo_right.2.1 124 = .ok (.goto 6, 3) := by decide +kernel
theorem d_Mo_right_127 : decode M_Mo_right.2.1 127 = .ok (.iload 5, 2) := by decide +kernel
theorem d_Mo_right_129 : decode M_Mo_right.2.1 129 = .ok (.ineg, 1) := by decide +kernel
theorem d_Mo_right_130 : decode M_Mo_right.2.1 130 = .ok (.imul, 1) := by decide +kernel
theorem d_Mo_right_131 : decode M_Mo_right.2.1 131 = .ok (.ireturn, 1) := by decide +kernel
theorem d_Mo_right_132 : decode M_Mo_right.2.1 132 = .ok (.iload 4, 2) := by decide +kernel
theorem d_Mo_right_134 : decode M_Mo_right.2.1 134 = .ok (.iload_n 2, 1) := by decide +kernel
theorem d_Mo_right_135 : decode M_Mo_right.2.1 135 = .ok (.ifCond .eq 8, 3) := by decide +kernel
theorem d_Mo_right_138 : decode M_Mo_right.2.1 138 = .ok (.iload 5, 2) := by decide +kernel
theorem d_Mo_right_140 : decode M_Mo_right.2.1 140 = .ok (.goto 6, 3) := by decide +kernel
theorem d_Mo_right_143 : decode M_Mo_right.2.1 143 = .ok (.iload 6, 2) := by decide +kernel
theorem d_Mo_right_145 : decode M_Mo_right.2.1 145 = .ok (.ineg, 1) := by decide +kernel
theorem d_Mo_right_146 : decode M_Mo_right.2.1 146 = .ok (.imul, 1) := by decide +kernel
theorem d_Mo_right_147 : decode M_Mo_right.2.1 147 = .ok (.ireturn, 1) := by decide +kernel
theorem d_Mo_yardsOf_0 : decode M_Mo_yardsOf.2.1 0 = .ok (.aload_n 0, 1) := by decide +kernel
theorem d_Mo_yardsOf_1 : decode M_Mo_yardsOf.2.1 1 = .ok (.iload_n 1, 1) := by decide +kernel
theorem d_Mo_yardsOf_2 : decode M_Mo_yardsOf.2.1 2 = .ok (.iconst 0, 1) := by decide +kernel
theorem d_Mo_yardsOf_3 : decode M_Mo_yardsOf.2.1 3 = .ok (.invokevirtual 293, 3) := by decide +kernel
theorem d_Mo_yardsOf_6 : decode M_Mo_yardsOf.2.1 6 = .ok (.invokestatic 297, 3) := by decide +kernel
theorem d_Mo_yardsOf_9 : decode M_Mo_yardsOf.2.1 9 = .ok (.aload_n 0, 1) := by decide +kernel
theorem d_Mo_yardsOf_10 : decode M_Mo_yardsOf.2.1 10 = .ok (.iload_n 1, 1) := by decide +kernel
theorem d_Mo_yardsOf_11 : decode M_Mo_yardsOf.2.1 11 = .ok (.iconst 1, 1) := by decide +kernel
theorem d_Mo_yardsOf_12 : decode M_Mo_yardsOf.2.1 12 = .ok (.invokevirtual 293, 3) := by decide +kernel
theorem d_Mo_yardsOf_15 : decode M_Mo_yardsOf.2.1 15 = .ok (.invokestatic 297, 3) := by decide +kernel
theorem d_Mo_yardsOf_18 : decode M_Mo_yardsOf.2.1 18 = .ok (.iadd, 1) := by decide +kernel
theorem d_Mo_yardsOf_19 : decode M_Mo_yardsOf.2.1 19 = .ok (.ireturn, 1) := by decide +kernel
theorem d_Mo_isLying_0 : decode M_Mo_isLying.2.1 0 = .ok (.aload_n 0, 1) := by decide +kernel
theorem d_Mo_isLying_1 : decode M_Mo_isLying.2.1 1 = .ok (.getfield 53, 3) := by decide +kernel
theorem d_Mo_isLying_4 : decode M_Mo_isLying.2.1 4 = .ok (.iload_n 1, 1) := by decide +kernel
theorem d_Mo_isLying_5 : decode M_Mo_isLying.2.1 5 = .ok (.iaload, 1) := by decide +kernel
theorem d_Mo_isLying_6 : decode M_Mo_isLying.2.1 6 = .ok (.iconst (-1), 1) := by decide +kernel
theorem d_Mo_isLying_7 : decode M_Mo_isLying.2.1 7 = .ok (.if_icmp .eq 7, 3) := by decide +kernel
theorem d_Mo_isLying_10 : decode M_Mo_isLying.2.1 10 = .ok (.iconst 1, 1) := by decide +kernel
theorem d_Mo_isLying_11 : decode M_Mo_isLying.2.1 11 = .ok (.goto 4, 3) := by decide +kernel
theorem d_Mo_isLying_14 : decode M_Mo_isLying.2.1 14 = .ok (.iconst 0, 1) := by decide +kernel
theorem d_Mo_isLying_15 : decode M_Mo_isLying.2.1 15 = .ok (.ireturn, 1) := by decide +kernel
theorem d_Mo_lays_0 : decode M_Mo_lays.2.1 0 = .ok (.aload_n 0, 1) := by decide +kernel
theorem d_Mo_lays_1 : decode M_Mo_lays.2.1 1 = .ok (.iload_n 1, 1) := by decide +kernel
theorem d_Mo_lays_2 : decode M_Mo_lays.2.1 2 = .ok (.iconst 1, 1) := by decide +kernel
theorem d_Mo_lays_3 : decode M_Mo_lays.2.1 3 = .ok (.invokevirtual 287, 3) := by decide +kernel
theorem d_Mo_lays_6 : decode M_Mo_lays.2.1 6 = .ok (.istore_n 2, 1) := by decide +kernel
theorem d_Mo_lays_7 : decode M_Mo_lays.2.1 7 = .ok (.aload_n 0, 1) := by decide +kernel
theorem d_Mo_lays_8 : decode M_Mo_lays.2.1 8 = .ok (.iload_n 1, 1) := by decide +kernel
theorem d_Mo_lays_9 : decode M_Mo_lays.2.1 9 = .ok (.iconst 2, 1) := by decide +kernel
theorem d_Mo_lays_10 : decode M_Mo_lays.2.1 10 = .ok (.invokevirtual 287, 3) := by decide +kernel
theorem d_Mo_lays_13 : decode M_Mo_lays.2.1 13 = .ok (.istore_n 3, 1) := by decide +kernel
theorem d_Mo_lays_14 : decode M_Mo_lays.2.1 14 = .ok (.aload_n 0, 1) := by decide +kernel
theorem d_Mo_lays_15 : decode M_Mo_lays.2.1 15 = .ok (.iload_n 1, 1) := by decide +kernel
theorem d_Mo_lays_16 : decode M_Mo_lays.2.1 16 = .ok (.invokevirtual 300, 3) := by decide +kernel
theorem d_Mo_lays_19 : decode M_Mo_lays.2.1 19 = .ok (.ifCond .eq 16, 3) := by decide +kernel
theorem d_Mo_lays_22 : decode M_Mo_lays.2.1 22 = .ok (.aload_n 0, 1) := by decide +kernel
theorem d_Mo_lays_23 : decode M_Mo_lays.2.1 23 = .ok (.iload_n 2, 1) := by decide +kernel
theorem d_Mo_lays_24 : decode M_Mo_lays.2.1 24 = .ok (.invokevirtual 303, 3) := by decide +kernel
theorem d_Mo_lays_27 : decode M_Mo_lays.2.1 27 = .ok (.aload_n 0, 1) := by decide +kernel
theorem d_Mo_lays_28 : decode M_Mo_lays.2.1 28 = .ok (.iload_n 3, 1) := by decide +kernel
theorem d_Mo_lays_29 : decode M_Mo_lays.2.1 29 = .ok (.invokevirtual 303, 3) := by decide +kernel
theorem d_Mo_lays_32 : decode M_Mo_lays.2.1 32 = .ok (.if_icmp .ne 5, 3) := by decide +kernel
theorem d_Mo_lays_35 : decode M_Mo_lays.2.1 35 = .ok (.iconst 0, 1) := by decide +kernel
theorem d_Mo_lays_36 : decode M_Mo_lays.2.1 36 = .ok (.ireturn, 1) := by decide +kernel
theorem d_Mo_lays_37 : decode M_Mo_lays.2.1 37 = .ok (.aload_n 0, 1) := by decide +kernel
theorem d_Mo_lays_38 : decode M_Mo_lays.2.1 38 = .ok (.iload_n 2, 1) := by decide +kernel
theorem d_Mo_lays_39 : decode M_Mo_lays.2.1 39 = .ok (.invokevirtual 303, 3) := by decide +kernel
theorem d_Mo_lays_42 : decode M_Mo_lays.2.1 42 = .ok (.ifCond .eq 7, 3) := by decide +kernel
theorem d_Mo_lays_45 : decode M_Mo_lays.2.1 45 = .ok (.iload_n 2, 1) := by decide +kernel
theorem d_Mo_lays_46 : decode M_Mo_lays.2.1 46 = .ok (.goto 4, 3) := by decide +kernel
theorem d_Mo_lays_49 : decode M_Mo_lays.2.1 49 = .ok (.iload_n 3, 1) := by decide +kernel
theorem d_Mo_lays_50 : decode M_Mo_lays.2.1 50 = .ok (.istore 4, 2) := by decide +kernel
theorem d_Mo_lays_52 : decode M_Mo_lays.2.1 52 = .ok (.aload_n 0, 1) := by decide +kernel
theorem d_Mo_lays_53 : decode M_Mo_lays.2.1 53 = .ok (.iload_n 2, 1) := by decide +kernel
theorem d_Mo_lays_54 : decode M_Mo_lays.2.1 54 = .ok (.invokevirtual 303, 3) := by decide +kernel
theorem d_Mo_lays_57 : decode M_Mo_lays.2.1 57 = .ok (.ifCond .eq 7, 3) := by decide +kernel
theorem d_Mo_lays_60 : decode M_Mo_lays.2.1 60 = .ok (.iload_n 3, 1) := by decide +kernel
theorem d_Mo_lays_61 : decode M_Mo_lays.2.1 61 = .ok (.goto 4, 3) := by decide +kernel
theorem d_Mo_lays_64 : decode M_Mo_lays.2.1 64 = .ok (.iload_n 2, 1) := by decide +kernel
theorem d_Mo_lays_65 : decode M_Mo_lays.2.1 65 = .ok (.istore 5, 2) := by decide +kernel
theorem d_Mo_lays_67 : decode M_Mo_lays.2.1 67 = .ok (.aload_n 0, 1) := by decide +kernel
theorem d_Mo_lays_68 : decode M_Mo_lays.2.1 68 = .ok (.iload_n 2, 1) := by decide +kernel
theorem d_Mo_lays_69 : decode M_Mo_lays.2.1 69 = .ok (.invokevirtual 303, 3) := by decide +kernel
theorem d_Mo_lays_72 : decode M_Mo_lays.2.1 72 = .ok (.ifCond .eq 7, 3) := by decide +kernel
theorem d_Mo_lays_75 : decode M_Mo_lays.2.1 75 = .ok (.iconst 1, 1) := by decide +kernel
theorem d_Mo_lays_76 : decode M_Mo_lays.2.1 76 = .ok (.goto 4, 3) := by decide +kernel
theorem d_Mo_lays_79 : decode M_Mo_lays.2.1 79 = .ok (.iconst (-1), 1) := by decide +kernel
theorem d_Mo_lays_80 : decode M_Mo_lays.2.1 80 = .ok (.istore 6, 2) := by decide +kernel
theorem d_Mo_lays_82 : decode M_Mo_lays.2.1 82 = .ok (.aload_n 0, 1) := by decide +kernel
theorem d_Mo_lays_83 : decode M_Mo_lays.2.1 83 = .ok (.getfield 53, 3) := by decide +kernel
theorem d_Mo_lays_86 : decode M_Mo_lays.2.1 86 = .ok (.iload 5, 2) := by decide +kernel
theorem d_Mo_lays_88 : decode M_Mo_lays.2.1 88 = .ok (.aload_n 0, 1) := by decide +kernel
theorem d_Mo_lays_89 : decode M_Mo_lays.2.1 89 = .ok (.getfield 53, 3) := by decide +kernel
theorem d_Mo_lays_92 : decode M_Mo_lays.2.1 92 = .ok (.iload 4, 2) := by decide +kernel
theorem d_Mo_lays_94 : decode M_Mo_lays.2.1 94 = .ok (.iaload, 1) := by decide +kernel
theorem d_Mo_lays_95 : decode M_Mo_lays.2.1 95 = .ok (.iastore, 1) := by decide +kernel
theorem d_Mo_lays_96 : decode M_Mo_lays.2.1 96 = .ok (.aload_n 0, 1) := by decide +kernel
theorem d_Mo_lays_97 : decode M_Mo_lays.2.1 97 = .ok (.getfield 47, 3) := by decide +kernel
theorem d_Mo_lays_100 : decode M_Mo_lays.2.1 100 = .ok (.iload 5, 2) := by decide +kernel
theorem d_Mo_lays_102 : decode M_Mo_lays.2.1 102 = .ok (.aload_n 0, 1) := by decide +kernel
theorem d_Mo_lays_103 : decode M_Mo_lays.2.1 103 = .ok (.getfield 47, 3) := by decide +kernel
theorem d_Mo_lays_106 : decode M_Mo_lays.2.1 106 = .ok (.iload 4, 2) := by decide +kernel
theorem d_Mo_lays_108 : decode M_Mo_lays.2.1 108 = .ok (.iaload, 1) := by decide +kernel
theorem d_Mo_lays_109 : decode M_Mo_lays.2.1 109 = .ok (.iload 6, 2) := by decide +kernel
theorem d_Mo_lays_111 : decode M_Mo_lays.2.1 111 = .ok (.aload_n 0, 1) := by decide +kernel
theorem d_Mo_lays_112 : decode M_Mo_lays.2.1 112 = .ok (.iload_n 1, 1) := by decide +kernel
theorem d_Mo_lays_113 : decode M_Mo_lays.2.1 113 = .ok (.iconst 0, 1) := by decide +kernel
theorem d_Mo_lays_114 : decode M_Mo_lays.2.1 114 = .ok (.invokevirtual 293, 3) := by decide +kernel
theorem d_Mo_lays_117 : decode M_Mo_lays.2.1 117 = .ok (.imul, 1) := by decide +kernel
theorem d_Mo_lays_118 : decode M_Mo_lays.2.1 118 = .ok (.iadd, 1) := by decide +kernel
theorem d_Mo_lays_119 : decode M_Mo_lays.2.1 119 = .ok (.iastore, 1) := by decide +kernel
theorem d_Mo_lays_120 : decode M_Mo_lays.2.1 120 = .ok (.aload_n 0, 1) := by decide +kernel
theorem d_Mo_lays_121 : decode M_Mo_lays.2.1 121 = .ok (.getfield 50, 3) := by decide +kernel
theorem d_Mo_lays_124 : decode M_Mo_lays.2.1 124 = .ok (.iload 5, 2) := by decide +kernel
theorem d_Mo_lays_126 : decode M_Mo_lays.2.1 126 = .ok (.aload_n 0, 1) := by decide +kernel
theorem d_Mo_lays_127 : decode M_Mo_lays.2.1 127 = .ok (.getfield 50, 3) := by decide +kernel
theorem d_Mo_lays_130 : decode M_Mo_lays.2.1 130 = .ok (.iload 4, 2) := by decide +kernel
theorem d_Mo_lays_132 : decode M_Mo_lays.2.1 132 = .ok (.iaload, 1) := by decide +kernel
theorem d_Mo_lays_133 : decode M_Mo_lays.2.1 133 = .ok (.iload 6, 2) := by decide +kernel
theorem d_Mo_lays_135 : decode M_Mo_lays.2.1 135 = .ok (.aload_n 0, 1) := by decide +kernel
theorem d_Mo_lays_136 : decode M_Mo_lays.2.1 136 = .ok (.iload_n 1, 1) := by decide +kernel
theorem d_Mo_lays_137 : decode M_Mo_lays.2.1 137 = .ok (.iconst 1, 1) := by decide +kernel
theorem d_Mo_lays_138 : decode M_Mo_lays.2.1 138 = .ok (.invokevirtual 293, 3) := by decide +kernel
theorem d_Mo_lays_141 : decode M_Mo_lays.2.1 141 = .ok (.imul, 1) := by decide +kernel
theorem d_Mo_lays_142 : decode M_Mo_lays.2.1 142 = .ok (.iadd, 1) := by decide +kernel
theorem d_Mo_lays_143 : decode M_Mo_lays.2.1 143 = .ok (.iastore, 1) := by decide +kernel
theorem d_Mo_lays_144 : decode M_Mo_lays.2.1 144 = .ok (.iconst 1, 1) := by decide +kernel
theorem d_Mo_lays_145 : decode M_Mo_lays.2.1 145 = .ok (.ireturn, 1) := by decide +kernel
theorem d_Mo_spreads_0 : decode M_Mo_spreads.2.1 0 = .ok (.iconst 0, 1) := by decide +kernel
theorem d_Mo_spreads_1 : decode M_Mo_spreads.2.1 1 = .ok (.istore_n 1, 1) := by decide +kernel
theorem d_Mo_spreads_2 : decode M_Mo_spreads.2.1 2 = .ok (.iload_n 1, 1) := by decide +kernel
theorem d_Mo_spreads_3 : decode M_Mo_spreads.2.1 3 = .ok (.aload_n 0, 1) := by decide +kernel
theorem d_Mo_spreads_4 : decode M_Mo_spreads.2.1 4 = .ok (.getfield 7, 3) := by decide +kernel
theorem d_Mo_spreads_7 : decode M_Mo_spreads.2.1 7 = .ok (.iconst 2, 1) := by decide +kernel
theorem d_Mo_spreads_8 : decode M_Mo_spreads.2.1 8 = .ok (.iaload, 1) := by decide +kernel
theorem d_Mo_spreads_9 : decode M_Mo_spreads.2.1 9 = .ok (.if_icmp .ge 22, 3) := by decide +kernel
theorem d_Mo_spreads_12 : decode M_Mo_spreads.2.1 12 = .ok (.aload_n 0, 1) := by decide +kernel
theorem d_Mo_spreads_13 : decode M_Mo_spreads.2.1 13 = .ok (.iload_n 1, 1) := by decide +kernel
theorem d_Mo_spreads_14 : decode M_Mo_spreads.2.1 14 = .ok (.invokevirtual 306, 3) := by decide +kernel
theorem d_Mo_spreads_17 : decode M_Mo_spreads.2.1 17 = .ok (.ifCond .eq 7, 3) := by decide +kernel
theorem d_Mo_spreads_20 : decode M_Mo_spreads.2.1 20 = .ok (.iconst 0, 1) := by decide +kernel
theorem d_Mo_spreads_21 : decode M_Mo_spreads.2.1 21 = .ok (.goto 6, 3) := by decide +kernel
theorem d_Mo_spreads_24 : decode M_Mo_spreads.2.1 24 = .ok (.iload_n 1, 1) := by decide +kernel
theorem d_Mo_spreads_25 : decode M_Mo_spreads.2.1 25 = .ok (.iconst 1, 1) := by decide +kernel
theorem d_Mo_spreads_26 : decode M_Mo_spreads.2.1 26 = .ok (.iadd, 1) := by decide +kernel
theorem d_Mo_spreads_27 : decode M_Mo_spreads.2.1 27 = .ok (.istore_n 1, 1) := by decide +kernel
theorem d_Mo_spreads_28 : decode M_Mo_spreads.2.1 28 = .ok (.goto (-26), 3) := by decide +kernel
theorem d_Mo_spreads_31 : decode M_Mo_spreads.2.1 31 = .ok (.return_, 1) := by decide +kernel
theorem d_Mo_laysOut_0 : decode M_Mo_laysOut.2.1 0 = .ok (.iconst 0, 1) := by decide +kernel
theorem d_Mo_laysOut_1 : decode M_Mo_laysOut.2.1 1 = .ok (.istore_n 2, 1) := by decide +kernel
theorem d_Mo_laysOut_2 : decode M_Mo_laysOut.2.1 2 = .ok (.iload_n 2, 1) := by decide +kernel
theorem d_Mo_laysOut_3 : decode M_Mo_laysOut.2.1 3 = .ok (.bipush 7, 2) := by decide +kernel
theorem d_Mo_laysOut_5 : decode M_Mo_laysOut.2.1 5 = .ok (.if_icmp .ge 16, 3) := by decide +kernel
theorem d_Mo_laysOut_8 : decode M_Mo_laysOut.2.1 8 = .ok (.aload_n 0, 1) := by decide +kernel
theorem d_Mo_laysOut_9 : decode M_Mo_laysOut.2.1 9 = .ok (.getfield 53, 3) := by decide +kernel
theorem d_Mo_laysOut_12 : decode M_Mo_laysOut.2.1 12 = .ok (.iload_n 2, 1) := by decide +kernel
theorem d_Mo_laysOut_13 : decode M_Mo_laysOut.2.1 13 = .ok (.iconst (-1), 1) := by decide +kernel
theorem d_Mo_laysOut_14 : decode M_Mo_laysOut.2.1 14 = .ok (.iastore, 1) := by decide +kernel
theorem d_Mo_laysOut_15 : decode M_Mo_laysOut.2.1 15 = .ok (.iinc 2 1, 3) := by decide +kernel
theorem d_Mo_laysOut_18 : decode M_Mo_laysOut.2.1 18 = .ok (.goto (-16), 3) := by decide +kernel
theorem d_Mo_laysOut_21 : decode M_Mo_laysOut.2.1 21 = .ok (.iconst 0, 1) := by decide +kernel
theorem d_Mo_laysOut_22 : decode M_Mo_laysOut.2.1 22 = .ok (.istore_n 2, 1) := by decide +kernel
theorem d_Mo_laysOut_23 : decode M_Mo_laysOut.2.1 23 = .ok (.iload_n 2, 1) := by decide +kernel
theorem d_Mo_laysOut_24 : decode M_Mo_laysOut.2.1 24 = .ok (.aload_n 0, 1) := by decide +kernel
theorem d_Mo_laysOut_25 : decode M_Mo_laysOut.2.1 25 = .ok (.getfield 7, 3) := by decide +kernel
theorem d_Mo_laysOut_28 : decode M_Mo_laysOut.2.1 28 = .ok (.iconst 0, 1) := by decide +kernel
theorem d_Mo_laysOut_29 : decode M_Mo_laysOut.2.1 29 = .ok (.iaload, 1) := by decide +kernel
theorem d_Mo_laysOut_30 : decode M_Mo_laysOut.2.1 30 = .ok (.if_icmp .ge 53, 3) := by decide +kernel
theorem d_Mo_laysOut_33 : decode M_Mo_laysOut.2.1 33 = .ok (.aload_n 0, 1) := by decide +kernel
theorem d_Mo_laysOut_34 : decode M_Mo_laysOut.2.1 34 = .ok (.iload_n 2, 1) := by decide +kernel
theorem d_Mo_laysOut_35 : decode M_Mo_laysOut.2.1 35 = .ok (.invokevirtual 303, 3) := by decide +kernel
theorem d_Mo_laysOut_38 : decode M_Mo_laysOut.2.1 38 = .ok (.ifCond .ne 39, 3) := by decide +kernel
theorem d_Mo_laysOut_41 : decode M_Mo_laysOut.2.1 41 = .ok (.iload_n 2, 1) := by decide +kernel
theorem d_Mo_laysOut_42 : decode M_Mo_laysOut.2.1 42 = .ok (.ifCond .le 10, 3) := by decide +kernel
theorem d_Mo_laysOut_45 : decode M_Mo_laysOut.2.1 45 = .ok (.iload_n 1, 1) := by decide +kernel
theorem d_Mo_laysOut_46 : decode M_Mo_laysOut.2.1 46 = .ok (.ifCond .ne 6, 3) := by decide +kernel
theorem d_Mo_laysOut_49 : decode M_Mo_laysOut.2.1 49 = .ok (.goto 28, 3) := by decide +kernel
theorem d_Mo_laysOut_52 : decode M_Mo_laysOut.2.1 52 = .ok (.aload_n 0, 1) := by decide +kernel
theorem d_Mo_laysOut_53 : decode M_Mo_laysOut.2.1 53 = .ok (.getfield 53, 3) := by decide +kernel
theorem d_Mo_laysOut_56 : decode M_Mo_laysOut.2.1 56 = .ok (.iload_n 2, 1) := by decide +kernel
theorem d_Mo_laysOut_57 : decode M_Mo_laysOut.2.1 57 = .ok (.iload_n 2, 1) := by decide +kernel
theorem d_Mo_laysOut_58 : decode M_Mo_laysOut.2.1 58 = .ok (.iastore, 1) := by decide +kernel
theorem d_Mo_laysOut_59 : decode M_Mo_laysOut.2.1 59 = .ok (.aload_n 0, 1) := by decide +kernel
theorem d_Mo_laysOut_60 : decode M_Mo_laysOut.2.1 60 = .ok (.getfield 47, 3) := by decide +kernel
theorem d_Mo_laysOut_63 : decode M_Mo_laysOut.2.1 63 = .ok (.iload_n 2, 1) := by decide +kernel
theorem d_Mo_laysOut_64 : decode M_Mo_laysOut.2.1 64 = .ok (.iconst 0, 1) := by decide +kernel
theorem d_Mo_laysOut_65 : decode M_Mo_laysOut.2.1 65 = .ok (.iastore, 1) := by decide +kernel
theorem d_Mo_laysOut_66 : decode M_Mo_laysOut.2.1 66 = .ok (.aload_n 0, 1) := by decide +kernel
theorem d_Mo_laysOut_67 : decode M_Mo_laysOut.2.1 67 = .ok (.getfield 50, 3) := by decide +kernel
theorem d_Mo_laysOut_70 : decode M_Mo_laysOut.2.1 70 = .ok (.iload_n 2, 1) := by decide +kernel
theorem d_Mo_laysOut_71 : decode M_Mo_laysOut.2.1 71 = .ok (.iconst 0, 1) := by decide +kernel
theorem d_Mo_laysOut_72 : decode M_Mo_laysOut.2.1 72 = .ok (.iastore, 1) := by decide +kernel
theorem d_Mo_laysOut_73 : decode M_Mo_laysOut.2.1 73 = .ok (.aload_n 0, 1) := by decide +kernel
theorem d_Mo_laysOut_74 : decode M_Mo_laysOut.2.1 74 = .ok (.invokevirtual 309, 3) := by decide +kernel
theorem d_Mo_laysOut_77 : decode M_Mo_laysOut.2.1 77 = .ok (.iinc 2 1, 3) := by decide +kernel
theorem d_Mo_laysOut_80 : decode M_Mo_laysOut.2.1 80 = .ok (.goto (-57), 3) := by decide +kernel
theorem d_Mo_laysOut_83 : decode M_Mo_laysOut.2.1 83 = .ok (.return_, 1) := by decide +kernel
theorem d_Mo_missOf_0 : decode M_Mo_missOf.2.1 0 = .ok (.aload_n 0, 1) := by decide +kernel
theorem d_Mo_missOf_1 : decode M_Mo_missOf.2.1 1 = .ok (.iload_n 1, 1) := by decide +kernel
theorem d_Mo_missOf_2 : decode M_Mo_missOf.2.1 2 = .ok (.iconst 1, 1) := by decide +kernel
theorem d_Mo_missOf_3 : decode M_Mo_missOf.2.1 3 = .ok (.invokevirtual 287, 3) := by decide +kernel
theorem d_Mo_missOf_6 : decode M_Mo_missOf.2.1 6 = .ok (.istore_n 2, 1) := by decide +kernel
theorem d_Mo_missOf_7 : decode M_Mo_missOf.2.1 7 = .ok (.aload_n 0, 1) := by decide +kernel
theorem d_Mo_missOf_8 : decode M_Mo_missOf.2.1 8 = .ok (.iload_n 1, 1) := by decide +kernel
theorem d_Mo_missOf_9 : decode M_Mo_missOf.2.1 9 = .ok (.iconst 2, 1) := by decide +kernel
theorem d_Mo_missOf_10 : decode M_Mo_missOf.2.1 10 = .ok (.invokevirtual 287, 3) := by decide +kernel
theorem d_Mo_missOf_13 : decode M_Mo_missOf.2.1 13 = .ok (.istore_n 3, 1) := by decide +kernel
theorem d_Mo_missOf_14 : decode M_Mo_missOf.2.1 14 = .ok (.aload_n 0, 1) := by decide +kernel
theorem d_Mo_missOf_15 : decode M_Mo_missOf.2.1 15 = .ok (.getfield 47, 3) := by decide +kernel
theorem d_Mo_missOf_18 : decode M_Mo_missOf.2.1 18 = .ok (.iload_n 3, 1) := by decide +kernel
theorem d_Mo_missOf_19 : decode M_Mo_missOf.2.1 19 = .ok (.iaload, 1) := by decide +kernel
theorem d_Mo_missOf_20 : decode M_Mo_missOf.2.1 20 = .ok (.aload_n 0, 1) := by decide +kernel
theorem d_Mo_missOf_21 : decode M_Mo_missOf.2.1 21 = .ok (.getfield 47, 3) := by decide +kernel
theorem d_Mo_missOf_24 : decode M_Mo_missOf.2.1 24 = .ok (.iload_n 2, 1) := by decide +kernel
theorem d_Mo_missOf_25 : decode M_Mo_missOf.2.1 25 = .ok (.iaload, 1) := by decide +kernel
theorem d_Mo_missOf_26 : decode M_Mo_missOf.2.1 26 = .ok (.isub, 1) := by decide +kernel
theorem d_Mo_missOf_27 : decode M_Mo_missOf.2.1 27 = .ok (.aload_n 0, 1) := by decide +kernel
theorem d_Mo_missOf_28 : decode M_Mo_missOf.2.1 28 = .ok (.iload_n 1, 1) := by decide +kernel
theorem d_Mo_missOf_29 : decode M_Mo_missOf.2.1 29 = .ok (.iconst 0, 1) := by decide +kernel
theorem d_Mo_missOf_30 : decode M_Mo_missOf.2.1 30 = .ok (.invokevirtual 293, 3) := by decide +kernel
theorem d_Mo_missOf_33 : decode M_Mo_missOf.2.1 33 = .ok (.isub, 1) := by decide +kernel
theorem d_Mo_missOf_34 : decode M_Mo_missOf.2.1 34 = .ok (.invokestatic 297, 3) := by decide +kernel
theorem d_Mo_missOf_37 : decode M_Mo_missOf.2.1 37 = .ok (.aload_n 0, 1) := by decide +kernel
theorem d_Mo_missOf_38 : decode M_Mo_missOf.2.1 38 = .ok (.getfield 50, 3) := by decide +kernel
theorem d_Mo_missOf_41 : decode M_Mo_missOf.2.1 41 = .ok (.iload_n 3, 1) := by decide +kernel
theorem d_Mo_missOf_42 : decode M_Mo_missOf.2.1 42 = .ok (.iaload, 1) := by decide +kernel
theorem d_Mo_missOf_43 : decode M_Mo_missOf.2.1 43 = .ok (.aload_n 0, 1) := by decide +kernel
theorem d_Mo_missOf_44 : decode M_Mo_missOf.2.1 44 = .ok (.getfield 50, 3) := by decide +kernel
theorem d_Mo_missOf_47 : decode M_Mo_missOf.2.1 47 = .ok (.iload_n 2, 1) := by decide +kernel
theorem d_Mo_missOf_48 : decode M_Mo_missOf.2.1 48 = .ok (.iaload, 1) := by decide +kernel
theorem d_Mo_missOf_49 : decode M_Mo_missOf.2.1 49 = .ok (.isub, 1) := by decide +kernel
theorem d_Mo_missOf_50 : decode M_Mo_missOf.2.1 50 = .ok (.aload_n 0, 1) := by decide +kernel
