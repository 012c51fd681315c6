theorem dL_from_0 : decode cL_from 0 = .ok (.aload_n 0, 1) := by decide +kernel
theorem dL_from_1 : decode cL_from 1 = .ok (.arraylength, 1) := by decide +kernel
theorem dL_from_2 : decode cL_from 2 = .ok (.ifCond .ne 13, 3) := by decide +kernel
theorem dL_from_5 : decode cL_from 5 = .ok (.bipush 71, 2) := by decide +kernel
theorem dL_from_7 : decode cL_from 7 = .ok (.iload_n 1, 1) := by decide +kernel
theorem dL_from_8 : decode cL_from 8 = .ok (.imul, 1) := by decide +kernel
theorem dL_from_9 : decode cL_from 9 = .ok (.bipush 31, 2) := by decide +kernel
theorem dL_from_11 : decode cL_from 11 = .ok (.iadd, 1) := by decide +kernel
theorem dL_from_12 : decode cL_from 12 = .ok (.goto 14, 3) := by decide +kernel
theorem dL_from_15 : decode cL_from 15 = .ok (.aload_n 0, 1) := by decide +kernel
theorem dL_from_16 : decode cL_from 16 = .ok (.iload_n 1, 1) := by decide +kernel
theorem dL_from_17 : decode cL_from 17 = .ok (.aload_n 0, 1) := by decide +kernel
theorem dL_from_18 : decode cL_from 18 = .ok (.arraylength, 1) := by decide +kernel
theorem dL_from_19 : decode cL_from 19 = .ok (.irem, 1) := by decide +kernel
theorem dL_from_20 : decode cL_from 20 = .ok (.iaload, 1) := by decide +kernel
theorem dL_from_21 : decode cL_from 21 = .ok (.ldc 7, 2) := by decide +kernel
theorem dL_from_23 : decode cL_from 23 = .ok (.iload_n 1, 1) := by decide +kernel
theorem dL_from_24 : decode cL_from 24 = .ok (.imul, 1) := by decide +kernel
theorem dL_from_25 : decode cL_from 25 = .ok (.ixor, 1) := by decide +kernel
theorem dL_from_26 : decode cL_from 26 = .ok (.istore_n 3, 1) := by decide +kernel
theorem dL_from_27 : decode cL_from 27 = .ok (.iload_n 3, 1) := by decide +kernel
theorem dL_from_28 : decode cL_from 28 = .ok (.ldc 8, 2) := by decide +kernel
theorem dL_from_30 : decode cL_from 30 = .ok (.iand, 1) := by decide +kernel
theorem dL_from_31 : decode cL_from 31 = .ok (.iload_n 2, 1) := by decide +kernel
theorem dL_from_32 : decode cL_from 32 = .ok (.irem, 1) := by decide +kernel
theorem dL_from_33 : decode cL_from 33 = .ok (.ireturn, 1) := by decide +kernel
theorem dL_rank_0 : decode cL_rank 0 = .ok (.iload_n 0, 1) := by decide +kernel
theorem dL_rank_1 : decode cL_rank 1 = .ok (.ifCond .ne 8, 3) := by decide +kernel
theorem dL_rank_4 : decode cL_rank 4 = .ok (.bipush 21, 2) := by decide +kernel
theorem dL_rank_6 : decode cL_rank 6 = .ok (.goto 118, 3) := by decide +kernel
theorem dL_rank_9 : decode cL_rank 9 = .ok (.iload_n 0, 1) := by decide +kernel
theorem dL_rank_10 : decode cL_rank 10 = .ok (.iconst 1, 1) := by decide +kernel
theorem dL_rank_11 : decode cL_rank 11 = .ok (.if_icmp .ne 8, 3) := by decide +kernel
theorem dL_rank_14 : decode cL_rank 14 = .ok (.bipush 13, 2) := by decide +kernel
theorem dL_rank_16 : decode cL_rank 16 = .ok (.goto 108, 3) := by decide +kernel
theorem dL_rank_19 : decode cL_rank 19 = .ok (.iload_n 0, 1) := by decide +kernel
theorem dL_rank_20 : decode cL_rank 20 = .ok (.iconst 2, 1) := by decide +kernel
theorem dL_rank_21 : decode cL_rank 21 = .ok (.if_icmp .ne 8, 3) := by decide +kernel
theorem dL_rank_24 : decode cL_rank 24 = .ok (.bipush 15, 2) := by decide +kernel
theorem dL_rank_26 : decode cL_rank 26 = .ok (.goto 98, 3) := by decide +kernel
theorem dL_rank_29 : decode cL_rank 29 = .ok (.iload_n 0, 1) := by decide +kernel
theorem dL_rank_30 : decode cL_rank 30 = .ok (.iconst 3, 1) := by decide +kernel
theorem dL_rank_31 : decode cL_rank 31 = .ok (.if_icmp .ne 8, 3) := by decide +kernel
theorem dL_rank_34 : decode cL_rank 34 = .ok (.bipush 22, 2) := by decide +kernel
theorem dL_rank_36 : decode cL_rank 36 = .ok (.goto 88, 3) := by decide +kernel
theorem dL_rank_39 : decode cL_rank 39 = .ok (.iload_n 0, 1) := by decide +kernel
theorem dL_rank_40 : decode cL_rank 40 = .ok (.iconst 4, 1) := by decide +kernel
theorem dL_rank_41 : decode cL_rank 41 = .ok (.if_icmp .ne 8, 3) := by decide +kernel
theorem dL_rank_44 : decode cL_rank 44 = .ok (.bipush 14, 2) := by decide +kernel
theorem dL_rank_46 : decode cL_rank 46 = .ok (.goto 78, 3) := by decide +kernel
theorem dL_rank_49 : decode cL_rank 49 = .ok (.iload_n 0, 1) := by decide +kernel
theorem dL_rank_50 : decode cL_rank 50 = .ok (.iconst 5, 1) := by decide +kernel
theorem dL_rank_51 : decode cL_rank 51 = .ok (.if_icmp .ne 8, 3) := by decide +kernel
theorem dL_rank_54 : decode cL_rank 54 = .ok (.bipush 11, 2) := by decide +kernel
theorem dL_rank_56 : decode cL_rank 56 = .ok (.goto 68, 3) := by decide +kernel
theorem dL_rank_59 : decode cL_rank 59 = .ok (.iload_n 0, 1) := by decide +kernel
theorem dL_rank_60 : decode cL_rank 60 = .ok (.bipush 6, 2) := by decide +kernel
theorem dL_rank_62 : decode cL_rank 62 = .ok (.if_icmp .ne 8, 3) := by decide +kernel
theorem dL_rank_65 : decode cL_rank 65 = .ok (.bipush 23, 2) := by decide +kernel
theorem dL_rank_67 : decode cL_rank 67 = .ok (.goto 57, 3) := by decide +kernel
theorem dL_rank_70 : decode cL_rank 70 = .ok (.iload_n 0, 1) := by decide +kernel
theorem dL_rank_71 : decode cL_rank 71 = .ok (.bipush 7, 2) := by decide +kernel
theorem dL_rank_73 : decode cL_rank 73 = .ok (.if_icmp .ne 8, 3) := by decide +kernel
theorem dL_rank_76 : decode cL_rank 76 = .ok (.bipush 8, 2) := by decide +kernel
theorem dL_rank_78 : decode cL_rank 78 = .ok (.goto 46, 3) := by decide +kernel
theorem dL_rank_81 : decode cL_rank 81 = .ok (.iload_n 0, 1) := by decide +kernel
theorem dL_rank_82 : decode cL_rank 82 = .ok (.bipush 8, 2) := by decide +kernel
theorem dL_rank_84 : decode cL_rank 84 = .ok (.if_icmp .ne 7, 3) := by decide +kernel
theorem dL_rank_87 : decode cL_rank 87 = .ok (.iconst 3, 1) := by decide +kernel
theorem dL_rank_88 : decode cL_rank 88 = .ok (.goto 36, 3) := by decide +kernel
theorem dL_rank_91 : decode cL_rank 91 = .ok (.iload_n 0, 1) := by decide +kernel
theorem dL_rank_92 : decode cL_rank 92 = .ok (.bipush 9, 2) := by decide +kernel
theorem dL_rank_94 : decode cL_rank 94 = .ok (.if_icmp .ne 8, 3) := by decide +kernel
theorem dL_rank_97 : decode cL_rank 97 = .ok (.bipush 7, 2) := by decide +kernel
theorem dL_rank_99 : decode cL_rank 99 = .ok (.goto 25, 3) := by decide +kernel
theorem dL_rank_102 : decode cL_rank 102 = .ok (.iload_n 0, 1) := by decide +kernel
theorem dL_rank_103 : decode cL_rank 103 = .ok (.bipush 10, 2) := by decide +kernel
theorem dL_rank_105 : decode cL_rank 105 = .ok (.if_icmp .ne 8, 3) := by decide +kernel
theorem dL_rank_108 : decode cL_rank 108 = .ok (.bipush 18, 2) := by decide +kernel
theorem dL_rank_110 : decode cL_rank 110 = .ok (.goto 14, 3) := by decide +kernel
theorem dL_rank_113 : decode cL_rank 113 = .ok (.iload_n 0, 1) := by decide +kernel
theorem dL_rank_114 : decode cL_rank 114 = .ok (.bipush 11, 2) := by decide +kernel
theorem dL_rank_116 : decode cL_rank 116 = .ok (.if_icmp .ne 7, 3) := by decide +kernel
theorem dL_rank_119 : decode cL_rank 119 = .ok (.iconst 5, 1) := by decide +kernel
theorem dL_rank_120 : decode cL_rank 120 = .ok (.goto 4, 3) := by decide +kernel
theorem dL_rank_123 : decode cL_rank 123 = .ok (.iconst (-1), 1) := by decide +kernel
theorem dL_rank_124 : decode cL_rank 124 = .ok (.istore_n 1, 1) := by decide +kernel
theorem dL_rank_125 : decode cL_rank 125 = .ok (.iload_n 0, 1) := by decide +kernel
theorem dL_rank_126 : decode cL_rank 126 = .ok (.bipush 12, 2) := by decide +kernel
theorem dL_rank_128 : decode cL_rank 128 = .ok (.if_icmp .ne 8, 3) := by decide +kernel
theorem dL_rank_131 : decode cL_rank 131 = .ok (.bipush 10, 2) := by decide +kernel
theorem dL_rank_133 : decode cL_rank 133 = .ok (.goto 111, 3) := by decide +kernel
theorem dL_rank_136 : decode cL_rank 136 = .ok (.iload_n 0, 1) := by decide +kernel
theorem dL_rank_137 : decode cL_rank 137 = .ok (.bipush 13, 2) := by decide +kernel
theorem dL_rank_139 : decode cL_rank 139 = .ok (.if_icmp .ne 8, 3) := by decide +kernel
theorem dL_rank_142 : decode cL_rank 142 = .ok (.bipush 12, 2) := by decide +kernel
theorem dL_rank_144 : decode cL_rank 144 = .ok (.goto 100, 3) := by decide +kernel
theorem dL_rank_147 : decode cL_rank 147 = .ok (.iload_n 0, 1) := by decide +kernel
theorem dL_rank_148 : decode cL_rank 148 = .ok (.bipush 14, 2) := by decide +kernel
theorem dL_rank_150 : decode cL_rank 150 = .ok (.if_icmp .ne 7, 3) := by decide +kernel
theorem dL_rank_153 : decode cL_rank 153 = .ok (.iconst 2, 1) := by decide +kernel
theorem dL_rank_154 : decode cL_rank 154 = .ok (.goto 90, 3) := by decide +kernel
theorem dL_rank_157 : decode cL_rank 157 = .ok (.iload_n 0, 1) := by decide +kernel
theorem dL_rank_158 : decode cL_rank 158 = .ok (.bipush 15, 2) := by decide +kernel
theorem dL_rank_160 : decode cL_rank 160 = .ok (.if_icmp .ne 7, 3) := by decide +kernel
theorem dL_rank_163 : decode cL_rank 163 = .ok (.iconst 0, 1) := by decide +kernel
theorem dL_rank_164 : decode cL_rank 164 = .ok (.goto 80, 3) := by decide +kernel
theorem dL_rank_167 : decode cL_rank 167 = .ok (.iload_n 0, 1) := by decide +kernel
theorem dL_rank_168 : decode cL_rank 168 = .ok (.bipush 16, 2) := by decide +kernel
theorem dL_rank_170 : decode cL_rank 170 = .ok (.if_icmp .ne 8, 3) := by decide +kernel
theorem dL_rank_173 : decode cL_rank 173 = .ok (.bipush 9, 2) := by decide +kernel
theorem dL_rank_175 : decode cL_rank 175 = .ok (.goto 69, 3) := by decide +kernel
theorem dL_rank_178 : decode cL_rank 178 = .ok (.iload_n 0, 1) := by decide +kernel
theorem dL_rank_179 : decode cL_rank 179 = .ok (.bipush 17, 2) := by decide +kernel
theorem dL_rank_181 : decode cL_rank 181 = .ok (.if_icmp .ne 7, 3) := by decide +kernel
theorem dL_rank_184 : decode cL_rank 184 = .ok (.iconst 1, 1) := by decide +kernel
theorem dL_rank_185 : decode cL_rank 185 = .ok (.goto 59, 3) := by decide +kernel
theorem dL_rank_188 : decode cL_rank 188 = .ok (.iload_n 0, 1) := by decide +kernel
theorem dL_rank_189 : decode cL_rank 189 = .ok (.bipush 18, 2) := by decide +kernel
theorem dL_rank_191 : decode cL_rank 191 = .ok (.if_icmp .ne 8, 3) := by decide +kernel
theorem dL_rank_194 : decode cL_rank 194 = .ok (.bipush 19, 2) := by decide +kernel
theorem dL_rank_196 : decode cL_rank 196 = .ok (.goto 48, 3) := by decide +kernel
theorem dL_rank_199 : decode cL_rank 199 = .ok (.iload_n 0, 1) := by decide +kernel
theorem dL_rank_200 : decode cL_rank 200 = .ok (.bipush 19, 2) := by decide +kernel
theorem dL_rank_202 : decode cL_rank 202 = .ok (.if_icmp .ne 8, 3) := by decide +kernel
theorem dL_rank_205 : decode cL_rank 205 = .ok (.bipush 20, 2) := by decide +kernel
theorem dL_rank_207 : decode cL_rank 207 = .ok (.goto 37, 3) := by decide +kernel
theorem dL_rank_210 : decode cL_rank 210 = .ok (.iload_n 0, 1) := by decide +kernel
theorem dL_rank_211 : decode cL_rank 211 = .ok (.bipush 20, 2) := by decide +kernel
theorem dL_rank_213 : decode cL_rank 213 = .ok (.if_icmp .ne 8, 3) := by decide +kernel
theorem dL_rank_216 : decode cL_rank 216 = .ok (.bipush 6, 2) := by decide +kernel
theorem dL_rank_218 : decode cL_rank 218 = .ok (.goto 26, 3) := by decide +kernel
theorem dL_rank_221 : decode cL_rank 221 = .ok (.iload_n 0, 1) := by decide +kernel
theorem dL_rank_222 : decode cL_rank 222 = .ok (.bipush 21, 2) := by decide +kernel
theorem dL_rank_224 : decode cL_rank 224 = .ok (.if_icmp .ne 8, 3) := by decide +kernel
theorem dL_rank_227 : decode cL_rank 227 = .ok (.bipush 16, 2) := by decide +kernel
theorem dL_rank_229 : decode cL_rank 229 = .ok (.goto 15, 3) := by decide +kernel
theorem dL_rank_232 : decode cL_rank 232 = .ok (.iload_n 0, 1) := by decide +kernel
theorem dL_rank_233 : decode cL_rank 233 = .ok (.bipush 22, 2) := by decide +kernel
theorem dL_rank_235 : decode cL_rank 235 = .ok (.if_icmp .ne 8, 3) := by decide +kernel
theorem dL_rank_238 : decode cL_rank 238 = .ok (.bipush 17, 2) := by decide +kernel
theorem dL_rank_240 : decode cL_rank 240 = .ok (.goto 4, 3) := by decide +kernel
theorem dL_rank_243 : decode cL_rank 243 = .ok (.iconst 4, 1) := by decide +kernel
theorem dL_rank_244 : decode cL_rank 244 = .ok (.istore_n 2, 1) := by decide +kernel
theorem dL_rank_245 : decode cL_rank 245 = .ok (.iload_n 1, 1) := by decide +kernel
theorem dL_rank_246 : decode cL_rank 246 = .ok (.ifCond .lt 7, 3) := by decide +kernel
theorem dL_rank_249 : decode cL_rank 249 = .ok (.iload_n 1, 1) := by decide +kernel
theorem dL_rank_250 : decode cL_rank 250 = .ok (.goto 4, 3) := by decide +kernel
theorem dL_rank_253 : decode cL_rank 253 = .ok (.iload_n 2, 1) := by decide +kernel
theorem dL_rank_254 : decode cL_rank 254 = .ok (.ireturn, 1) := by decide +kernel
theorem dL_keyWord_0 : decode cL_keyWord 0 = .ok (.iload_n 3, 1) := by decide +kernel
theorem dL_keyWord_1 : decode cL_keyWord 1 = .ok (.istore 4, 2) := by decide +kernel
theorem dL_keyWord_3 : decode cL_keyWord 3 = .ok (.iconst 0, 1) := by decide +kernel
theorem dL_keyWord_4 : decode cL_keyWord 4 = .ok (.istore 5, 2) := by decide +kernel
theorem dL_keyWord_6 : decode cL_keyWord 6 = .ok (.iconst 0, 1) := by decide +kernel
theorem dL_keyWord_7 : decode cL_keyWord 7 = .ok (.istore 6, 2) := by decide +kernel
theorem dL_keyWord_9 : decode cL_keyWord 9 = .ok (.iload 6, 2) := by decide +kernel
theorem dL_keyWord_11 : decode cL_keyWord 11 = .ok (.bipush 8, 2) := by decide +kernel
theorem dL_keyWord_13 : decode cL_keyWord 13 = .ok (.if_icmp .ge 105, 3) := by decide +kernel
theorem dL_keyWord_16 : decode cL_keyWord 16 = .ok (.iload 6, 2) := by decide +kernel
theorem dL_keyWord_18 : decode cL_keyWord 18 = .ok (.iconst 4, 1) := by decide +kernel
theorem dL_keyWord_19 : decode cL_keyWord 19 = .ok (.irem, 1) := by decide +kernel
theorem dL_keyWord_20 : decode cL_keyWord 20 = .ok (.istore 7, 2) := by decide +kernel
theorem dL_keyWord_22 : decode cL_keyWord 22 = .ok (.aload_n 1, 1) := by decide +kernel
theorem dL_keyWord_23 : decode cL_keyWord 23 = .ok (.iconst 5, 1) := by decide +kernel
theorem dL_keyWord_24 : decode cL_keyWord 24 = .ok (.iload_n 2, 1) := by decide +kernel
theorem dL_keyWord_25 : decode cL_keyWord 25 = .ok (.imul, 1) := by decide +kernel
theorem dL_keyWord_26 : decode cL_keyWord 26 = .ok (.iconst 1, 1) := by decide +kernel
theorem dL_keyWord_27 : decode cL_keyWord 27 = .ok (.iadd, 1) := by decide +kernel
theorem dL_keyWord_28 : decode cL_keyWord 28 = .ok (.iload 7, 2) := by decide +kernel
theorem dL_keyWord_30 : decode cL_keyWord 30 = .ok (.iadd, 1) := by decide +kernel
theorem dL_keyWord_31 : decode cL_keyWord 31 = .ok (.iaload, 1) := by decide +kernel
theorem dL_keyWord_32 : decode cL_keyWord 32 = .ok (.istore 8, 2) := by decide +kernel
theorem dL_keyWord_34 : decode cL_keyWord 34 = .ok (.iload 7, 2) := by decide +kernel
theorem dL_keyWord_36 : decode cL_keyWord 36 = .ok (.aload_n 1, 1) := by decide +kernel
theorem dL_keyWord_37 : decode cL_keyWord 37 = .ok (.iconst 5, 1) := by decide +kernel
theorem dL_keyWord_38 : decode cL_keyWord 38 = .ok (.iload_n 2, 1) := by decide +kernel
theorem dL_keyWord_39 : decode cL_keyWord 39 = .ok (.imul, 1) := by decide +kernel
theorem dL_keyWord_40 : decode cL_keyWord 40 = .ok (.iaload, 1) := by decide +kernel
theorem dL_keyWord_41 : decode cL_keyWord 41 = .ok (.if_icmp .ge 25, 3) := by decide +kernel
theorem dL_keyWord_44 : decode cL_keyWord 44 = .ok (.aload_n 0, 1) := by decide +kernel
theorem dL_keyWord_45 : decode cL_keyWord 45 = .ok (.iload 8, 2) := by decide +kernel
theorem dL_keyWord_47 : decode cL_keyWord 47 = .ok (.iaload, 1) := by decide +kernel
theorem dL_keyWord_48 : decode cL_keyWord 48 = .ok (.iload 6, 2) := by decide +kernel
theorem dL_keyWord_50 : decode cL_keyWord 50 = .ok (.iconst 4, 1) := by decide +kernel
theorem dL_keyWord_51 : decode cL_keyWord 51 = .ok (.if_icmp .ge 7, 3) := by decide +kernel
theorem dL_keyWord_54 : decode cL_keyWord 54 = .ok (.iconst 0, 1) := by decide +kernel
theorem dL_keyWord_55 : decode cL_keyWord 55 = .ok (.goto 4, 3) := by decide +kernel
theorem dL_keyWord_58 : decode cL_keyWord 58 = .ok (.iconst 2, 1) := by decide +kernel
theorem dL_keyWord_59 : decode cL_keyWord 59 = .ok (.if_icmp .ne 7, 3) := by decide +kernel
theorem dL_keyWord_62 : decode cL_keyWord 62 = .ok (.iconst 1, 1) := by decide +kernel
theorem dL_keyWord_63 : decode cL_keyWord 63 = .ok (.goto 4, 3) := by decide +kernel
theorem dL_keyWord_66 : decode cL_keyWord 66 = .ok (.iconst 0, 1) := by decide +kernel
theorem dL_keyWord_67 : decode cL_keyWord 67 = .ok (.istore 9, 2) := by decide +kernel
theorem dL_keyWord_69 : decode cL_keyWord 69 = .ok (.iload 9, 2) := by decide +kernel
theorem dL_keyWord_71 : decode cL_keyWord 71 = .ok (.ifCond .eq 11, 3) := by decide +kernel
theorem dL_keyWord_74 : decode cL_keyWord 74 = .ok (.iload 4, 2) := by decide +kernel
theorem dL_keyWord_76 : decode cL_keyWord 76 = .ok (.ifCond .ne 6, 3) := by decide +kernel
theorem dL_keyWord_79 : decode cL_keyWord 79 = .ok (.iload 8, 2) := by decide +kernel
theorem dL_keyWord_81 : decode cL_keyWord 81 = .ok (.ireturn, 1) := by decide +kernel
theorem dL_keyWord_82 : decode cL_keyWord 82 = .ok (.iload 4, 2) := by decide +kernel
theorem dL_keyWord_84 : decode cL_keyWord 84 = .ok (.iload 9, 2) := by decide +kernel
theorem dL_keyWord_86 : decode cL_keyWord 86 = .ok (.ifCond .eq 7, 3) := by decide +kernel
theorem dL_keyWord_89 : decode cL_keyWord 89 = .ok (.iconst 1, 1) := by decide +kernel
theorem dL_keyWord_90 : decode cL_keyWord 90 = .ok (.goto 4, 3) := by decide +kernel
theorem dL_keyWord_93 : decode cL_keyWord 93 = .ok (.iconst 0, 1) := by decide +kernel
theorem dL_keyWord_94 : decode cL_keyWord 94 = .ok (.isub, 1) := by decide +kernel
theorem dL_keyWord_95 : decode cL_keyWord 95 = .ok (.istore 4, 2) := by decide +kernel
theorem dL_keyWord_97 : decode cL_keyWord 97 = .ok (.iload 5, 2) := by decide +kernel
theorem dL_keyWord_99 : decode cL_keyWord 99 = .ok (.iload 9, 2) := by decide +kernel
theorem dL_keyWord_101 : decode cL_keyWord 101 = .ok (.ifCond .eq 7, 3) := by decide +kernel
theorem dL_keyWord_104 : decode cL_keyWord 104 = .ok (.iconst 1, 1) := by decide +kernel
theorem dL_keyWord_105 : decode cL_keyWord 105 = .ok (.goto 4, 3) := by decide +kernel
theorem dL_keyWord_108 : decode cL_keyWord 108 = .ok (.iconst 0, 1) := by decide +kernel
theorem dL_keyWord_109 : decode cL_keyWord 109 = .ok (.iadd, 1) := by decide +kernel
theorem dL_keyWord_110 : decode cL_keyWord 110 = .ok (.istore 5, 2) := by decide +kernel
theorem dL_keyWord_112 : decode cL_keyWord 112 = .ok (.iinc 6 1, 3) := by decide +kernel
theorem dL_keyWord_115 : decode cL_keyWord 115 = .ok (.goto (-106), 3) := by decide +kernel
theorem dL_keyWord_118 : decode cL_keyWord 118 = .ok (.iload 5, 2) := by decide +kernel
theorem dL_keyWord_120 : decode cL_keyWord 120 = .ok (.ifCond .ne 24, 3) := by decide +kernel
theorem dL_keyWord_123 : decode cL_keyWord 123 = .ok (.iload_n 3, 1) := by decide +kernel
theorem dL_keyWord_124 : decode cL_keyWord 124 = .ok (.aload_n 1, 1) := by decide +kernel
theorem dL_keyWord_125 : decode cL_keyWord 125 = .ok (.iconst 5, 1) := by decide +kernel
theorem dL_keyWord_126 : decode cL_keyWord 126 = .ok (.iload_n 2, 1) := by decide +kernel
theorem dL_keyWord_127 : decode cL_keyWord 127 = .ok (.imul, 1) := by decide +kernel
theorem dL_keyWord_128 : decode cL_keyWord 128 = .ok (.iaload, 1) := by decide +kernel
theorem dL_keyWord_129 : decode cL_keyWord 129 = .ok (.if_icmp .ge 15, 3) := by decide +kernel
theorem dL_keyWord_132 : decode cL_keyWord 132 = .ok (.aload_n 1, 1) := by decide +kernel
theorem dL_keyWord_133 : decode cL_keyWord 133 = .ok (.iconst 5, 1) := by decide +kernel
theorem dL_keyWord_134 : decode cL_keyWord 134 = .ok (.iload_n 2, 1) := by decide +kernel
theorem dL_keyWord_135 : decode cL_keyWord 135 = .ok (.imul, 1) := by decide +kernel
theorem dL_keyWord_136 : decode cL_keyWord 136 = .ok (.iconst 1, 1) := by decide +kernel
theorem dL_keyWord_137 : decode cL_keyWord 137 = .ok (.iadd, 1) := by decide +kernel
theorem dL_keyWord_138 : decode cL_keyWord 138 = .ok (.iload_n 3, 1) := by decide +kernel
theorem dL_keyWord_139 : decode cL_keyWord 139 = .ok (.iadd, 1) := by decide +kernel
theorem dL_keyWord_140 : decode cL_keyWord 140 = .ok (.iaload, 1) := by decide +kernel
theorem dL_keyWord_141 : decode cL_keyWord 141 = .ok (.goto 4, 3) := by decide +kernel
theorem dL_keyWord_144 : decode cL_keyWord 144 = .ok (.iconst (-1), 1) := by decide +kernel
theorem dL_keyWord_145 : decode cL_keyWord 145 = .ok (.ireturn, 1) := by decide +kernel
theorem dL_compare_0 : decode cL_compare 0 = .ok (.iconst 0, 1) := by decide +kernel
theorem dL_compare_1 : decode cL_compare 1 = .ok (.istore 5, 2) := by decide +kernel
theorem dL_compare_3 : decode cL_compare 3 = .ok (.iconst 0, 1) := by decide +kernel
theorem dL_compare_4 : decode cL_compare 4 = .ok (.istore 6, 2) := by decide +kernel
theorem dL_compare_6 : decode cL_compare 6 = .ok (.iload 6, 2) := by decide +kernel
theorem dL_compare_8 : decode cL_compare 8 = .ok (.iconst 4, 1) := by decide +kernel
theorem dL_compare_9 : decode cL_compare 9 = .ok (.if_icmp .ge 129, 3) := by decide +kernel
theorem dL_compare_12 : decode cL_compare 12 = .ok (.iload 5, 2) := by decide +kernel
theorem dL_compare_14 : decode cL_compare 14 = .ok (.ifCond .ne 124, 3) := by decide +kernel
theorem dL_compare_17 : decode cL_compare 17 = .ok (.iload 4, 2) := by decide +kernel
theorem dL_compare_19 : decode cL_compare 19 = .ok (.ifCond .eq 30, 3) := by decide +kernel
theorem dL_compare_22 : decode cL_compare 22 = .ok (.iload 6, 2) := by decide +kernel
theorem dL_compare_24 : decode cL_compare 24 = .ok (.aload_n 1, 1) := by decide +kernel
theorem dL_compare_25 : decode cL_compare 25 = .ok (.iconst 5, 1) := by decide +kernel
theorem dL_compare_26 : decode cL_compare 26 = .ok (.iload_n 2, 1) := by decide +kernel
theorem dL_compare_27 : decode cL_compare 27 = .ok (.imul, 1) := by decide +kernel
theorem dL_compare_28 : decode cL_compare 28 = .ok (.iaload, 1) := by decide +kernel
theorem dL_compare_29 : decode cL_compare 29 = .ok (.if_icmp .ge 16, 3) := by decide +kernel
theorem dL_compare_32 : decode cL_compare 32 = .ok (.aload_n 1, 1) := by decide +kernel
theorem dL_compare_33 : decode cL_compare 33 = .ok (.iconst 5, 1) := by decide +kernel
theorem dL_compare_34 : decode cL_compare 34 = .ok (.iload_n 2, 1) := by decide +kernel
theorem dL_compare_35 : decode cL_compare 35 = .ok (.imul, 1) := by decide +kernel
theorem dL_compare_36 : decode cL_compare 36 = .ok (.iconst 1, 1) := by decide +kernel
theorem dL_compare_37 : decode cL_compare 37 = .ok (.iadd, 1) := by decide +kernel
theorem dL_compare_38 : decode cL_compare 38 = .ok (.iload 6, 2) := by decide +kernel
theorem dL_compare_40 : decode cL_compare 40 = .ok (.iadd, 1) := by decide +kernel
theorem dL_compare_41 : decode cL_compare 41 = .ok (.iaload, 1) := by decide +kernel
theorem dL_compare_42 : decode cL_compare 42 = .ok (.goto 15, 3) := by decide +kernel
theorem dL_compare_45 : decode cL_compare 45 = .ok (.iconst (-1), 1) := by decide +kernel
theorem dL_compare_46 : decode cL_compare 46 = .ok (.goto 11, 3) := by decide +kernel
theorem dL_compare_49 : decode cL_compare 49 = .ok (.aload_n 0, 1) := by decide +kernel
theorem dL_compare_50 : decode cL_compare 50 = .ok (.aload_n 1, 1) := by decide +kernel
theorem dL_compare_51 : decode cL_compare 51 = .ok (.iload_n 2, 1) := by decide +kernel
theorem dL_compare_52 : decode cL_compare 52 = .ok (.iload 6, 2) := by decide +kernel
theorem dL_compare_54 : decode cL_compare 54 = .ok (.invokestatic 9, 3) := by decide +kernel
theorem dL_compare_57 : decode cL_compare 57 = .ok (.istore 7, 2) := by decide +kernel
theorem dL_compare_59 : decode cL_compare 59 = .ok (.iload 4, 2) := by decide +kernel
theorem dL_compare_61 : decode cL_compare 61 = .ok (.ifCond .eq 30, 3) := by decide +kernel
theorem dL_compare_64 : decode cL_compare 64 = .ok (.iload 6, 2) := by decide +kernel
theorem dL_compare_66 : decode cL_compare 66 = .ok (.aload_n 1, 1) := by decide +kernel
theorem dL_compare_67 : decode cL_compare 67 = .ok (.iconst 5, 1) := by decide +kernel
theorem dL_compare_68 : decode cL_compare 68 = .ok (.iload_n 3, 1) := by decide +kernel
theorem dL_compare_69 : decode cL_compare 69 = .ok (.imul, 1) := by decide +kernel
theorem dL_compare_70 : decode cL_compare 70 = .ok (.iaload, 1) := by decide +kernel
theorem dL_compare_71 : decode cL_compare 71 = .ok (.if_icmp .ge 16, 3) := by decide +kernel
theorem dL_compare_74 : decode cL_compare 74 = .ok (.aload_n 1, 1) := by decide +kernel
theorem dL_compare_75 : decode cL_compare 75 = .ok (.iconst 5, 1) := by decide +kernel
theorem dL_compare_76 : decode cL_compare 76 = .ok (.iload_n 3, 1) := by decide +kernel
theorem dL_compare_77 : decode cL_compare 77 = .ok (.imul, 1) := by decide +kernel
theorem dL_compare_78 : decode cL_compare 78 = .ok (.iconst 1, 1) := by decide +kernel
theorem dL_compare_79 : decode cL_compare 79 = .ok (.iadd, 1) := by decide +kernel
theorem dL_compare_80 : decode cL_compare 80 = .ok (.iload 6, 2) := by decide +kernel
theorem dL_compare_82 : decode cL_compare 82 = .ok (.iadd, 1) := by decide +kernel
theorem dL_compare_83 : decode cL_compare 83 = .ok (.iaload, 1) := by decide +kernel
theorem dL_compare_84 : decode cL_compare 84 = .ok (.goto 15, 3) := by decide +kernel
theorem dL_compare_87 : decode cL_compare 87 = .ok (.iconst (-1), 1) := by decide +kernel
theorem dL_compare_88 : decode cL_compare 88 = .ok (.goto 11, 3) := by decide +kernel
theorem dL_compare_91 : decode cL_compare 91 = .ok (.aload_n 0, 1) := by decide +kernel
theorem dL_compare_92 : decode cL_compare 92 = .ok (.aload_n 1, 1) := by decide +kernel
theorem dL_compare_93 : decode cL_compare 93 = .ok (.iload_n 3, 1) := by decide +kernel
theorem dL_compare_94 : decode cL_compare 94 = .ok (.iload 6, 2) := by decide +kernel
