theorem dL_apart_5 : decode cL_apart 5 = .ok (.bipush 12, 2) := by decide +kernel
theorem dL_apart_7 : decode cL_apart 7 = .ok (.idiv, 1) := by decide +kernel
theorem dL_apart_8 : decode cL_apart 8 = .ok (.if_icmp .le 15, 3) := by decide +kernel
theorem dL_apart_11 : decode cL_apart 11 = .ok (.iload_n 0, 1) := by decide +kernel
theorem dL_apart_12 : decode cL_apart 12 = .ok (.bipush 12, 2) := by decide +kernel
theorem dL_apart_14 : decode cL_apart 14 = .ok (.idiv, 1) := by decide +kernel
theorem dL_apart_15 : decode cL_apart 15 = .ok (.iload_n 1, 1) := by decide +kernel
theorem dL_apart_16 : decode cL_apart 16 = .ok (.bipush 12, 2) := by decide +kernel
theorem dL_apart_18 : decode cL_apart 18 = .ok (.idiv, 1) := by decide +kernel
theorem dL_apart_19 : decode cL_apart 19 = .ok (.isub, 1) := by decide +kernel
theorem dL_apart_20 : decode cL_apart 20 = .ok (.goto 12, 3) := by decide +kernel
theorem dL_apart_23 : decode cL_apart 23 = .ok (.iload_n 1, 1) := by decide +kernel
theorem dL_apart_24 : decode cL_apart 24 = .ok (.bipush 12, 2) := by decide +kernel
theorem dL_apart_26 : decode cL_apart 26 = .ok (.idiv, 1) := by decide +kernel
theorem dL_apart_27 : decode cL_apart 27 = .ok (.iload_n 0, 1) := by decide +kernel
theorem dL_apart_28 : decode cL_apart 28 = .ok (.bipush 12, 2) := by decide +kernel
theorem dL_apart_30 : decode cL_apart 30 = .ok (.idiv, 1) := by decide +kernel
theorem dL_apart_31 : decode cL_apart 31 = .ok (.isub, 1) := by decide +kernel
theorem dL_apart_32 : decode cL_apart 32 = .ok (.istore_n 2, 1) := by decide +kernel
theorem dL_apart_33 : decode cL_apart 33 = .ok (.iload_n 0, 1) := by decide +kernel
theorem dL_apart_34 : decode cL_apart 34 = .ok (.bipush 12, 2) := by decide +kernel
theorem dL_apart_36 : decode cL_apart 36 = .ok (.irem, 1) := by decide +kernel
theorem dL_apart_37 : decode cL_apart 37 = .ok (.iload_n 1, 1) := by decide +kernel
theorem dL_apart_38 : decode cL_apart 38 = .ok (.bipush 12, 2) := by decide +kernel
theorem dL_apart_40 : decode cL_apart 40 = .ok (.irem, 1) := by decide +kernel
theorem dL_apart_41 : decode cL_apart 41 = .ok (.if_icmp .le 15, 3) := by decide +kernel
theorem dL_apart_44 : decode cL_apart 44 = .ok (.iload_n 0, 1) := by decide +kernel
theorem dL_apart_45 : decode cL_apart 45 = .ok (.bipush 12, 2) := by decide +kernel
theorem dL_apart_47 : decode cL_apart 47 = .ok (.irem, 1) := by decide +kernel
theorem dL_apart_48 : decode cL_apart 48 = .ok (.iload_n 1, 1) := by decide +kernel
theorem dL_apart_49 : decode cL_apart 49 = .ok (.bipush 12, 2) := by decide +kernel
theorem dL_apart_51 : decode cL_apart 51 = .ok (.irem, 1) := by decide +kernel
theorem dL_apart_52 : decode cL_apart 52 = .ok (.isub, 1) := by decide +kernel
theorem dL_apart_53 : decode cL_apart 53 = .ok (.goto 12, 3) := by decide +kernel
theorem dL_apart_56 : decode cL_apart 56 = .ok (.iload_n 1, 1) := by decide +kernel
theorem dL_apart_57 : decode cL_apart 57 = .ok (.bipush 12, 2) := by decide +kernel
theorem dL_apart_59 : decode cL_apart 59 = .ok (.irem, 1) := by decide +kernel
theorem dL_apart_60 : decode cL_apart 60 = .ok (.iload_n 0, 1) := by decide +kernel
theorem dL_apart_61 : decode cL_apart 61 = .ok (.bipush 12, 2) := by decide +kernel
theorem dL_apart_63 : decode cL_apart 63 = .ok (.irem, 1) := by decide +kernel
theorem dL_apart_64 : decode cL_apart 64 = .ok (.isub, 1) := by decide +kernel
theorem dL_apart_65 : decode cL_apart 65 = .ok (.istore_n 3, 1) := by decide +kernel
theorem dL_apart_66 : decode cL_apart 66 = .ok (.iload_n 2, 1) := by decide +kernel
theorem dL_apart_67 : decode cL_apart 67 = .ok (.iload_n 3, 1) := by decide +kernel
theorem dL_apart_68 : decode cL_apart 68 = .ok (.if_icmp .le 7, 3) := by decide +kernel
theorem dL_apart_71 : decode cL_apart 71 = .ok (.iload_n 2, 1) := by decide +kernel
theorem dL_apart_72 : decode cL_apart 72 = .ok (.goto 4, 3) := by decide +kernel
theorem dL_apart_75 : decode cL_apart 75 = .ok (.iload_n 3, 1) := by decide +kernel
theorem dL_apart_76 : decode cL_apart 76 = .ok (.ireturn, 1) := by decide +kernel
theorem dL_isNear_0 : decode cL_isNear 0 = .ok (.iconst (-1), 1) := by decide +kernel
theorem dL_isNear_1 : decode cL_isNear 1 = .ok (.istore 4, 2) := by decide +kernel
theorem dL_isNear_3 : decode cL_isNear 3 = .ok (.iconst 0, 1) := by decide +kernel
theorem dL_isNear_4 : decode cL_isNear 4 = .ok (.istore 5, 2) := by decide +kernel
theorem dL_isNear_6 : decode cL_isNear 6 = .ok (.aload_n 1, 1) := by decide +kernel
theorem dL_isNear_7 : decode cL_isNear 7 = .ok (.iload_n 2, 1) := by decide +kernel
theorem dL_isNear_8 : decode cL_isNear 8 = .ok (.iload 5, 2) := by decide +kernel
theorem dL_isNear_10 : decode cL_isNear 10 = .ok (.invokestatic 23, 3) := by decide +kernel
theorem dL_isNear_13 : decode cL_isNear 13 = .ok (.ifCond .lt 81, 3) := by decide +kernel
theorem dL_isNear_16 : decode cL_isNear 16 = .ok (.aload_n 1, 1) := by decide +kernel
theorem dL_isNear_17 : decode cL_isNear 17 = .ok (.iload_n 2, 1) := by decide +kernel
theorem dL_isNear_18 : decode cL_isNear 18 = .ok (.iload 5, 2) := by decide +kernel
theorem dL_isNear_20 : decode cL_isNear 20 = .ok (.invokestatic 23, 3) := by decide +kernel
theorem dL_isNear_23 : decode cL_isNear 23 = .ok (.istore 6, 2) := by decide +kernel
theorem dL_isNear_25 : decode cL_isNear 25 = .ok (.iload 4, 2) := by decide +kernel
theorem dL_isNear_27 : decode cL_isNear 27 = .ok (.ifCond .lt 40, 3) := by decide +kernel
theorem dL_isNear_30 : decode cL_isNear 30 = .ok (.iload 6, 2) := by decide +kernel
theorem dL_isNear_32 : decode cL_isNear 32 = .ok (.iload_n 3, 1) := by decide +kernel
theorem dL_isNear_33 : decode cL_isNear 33 = .ok (.invokestatic 60, 3) := by decide +kernel
theorem dL_isNear_36 : decode cL_isNear 36 = .ok (.iload 4, 2) := by decide +kernel
theorem dL_isNear_38 : decode cL_isNear 38 = .ok (.iload_n 3, 1) := by decide +kernel
theorem dL_isNear_39 : decode cL_isNear 39 = .ok (.invokestatic 60, 3) := by decide +kernel
theorem dL_isNear_42 : decode cL_isNear 42 = .ok (.if_icmp .lt 25, 3) := by decide +kernel
theorem dL_isNear_45 : decode cL_isNear 45 = .ok (.iload 6, 2) := by decide +kernel
theorem dL_isNear_47 : decode cL_isNear 47 = .ok (.iload_n 3, 1) := by decide +kernel
theorem dL_isNear_48 : decode cL_isNear 48 = .ok (.invokestatic 60, 3) := by decide +kernel
theorem dL_isNear_51 : decode cL_isNear 51 = .ok (.iload 4, 2) := by decide +kernel
theorem dL_isNear_53 : decode cL_isNear 53 = .ok (.iload_n 3, 1) := by decide +kernel
theorem dL_isNear_54 : decode cL_isNear 54 = .ok (.invokestatic 60, 3) := by decide +kernel
theorem dL_isNear_57 : decode cL_isNear 57 = .ok (.if_icmp .ne 14, 3) := by decide +kernel
theorem dL_isNear_60 : decode cL_isNear 60 = .ok (.iload 6, 2) := by decide +kernel
theorem dL_isNear_62 : decode cL_isNear 62 = .ok (.iload 4, 2) := by decide +kernel
theorem dL_isNear_64 : decode cL_isNear 64 = .ok (.if_icmp .ge 7, 3) := by decide +kernel
theorem dL_isNear_67 : decode cL_isNear 67 = .ok (.iconst 1, 1) := by decide +kernel
theorem dL_isNear_68 : decode cL_isNear 68 = .ok (.goto 4, 3) := by decide +kernel
theorem dL_isNear_71 : decode cL_isNear 71 = .ok (.iconst 0, 1) := by decide +kernel
theorem dL_isNear_72 : decode cL_isNear 72 = .ok (.istore 7, 2) := by decide +kernel
theorem dL_isNear_74 : decode cL_isNear 74 = .ok (.iload 7, 2) := by decide +kernel
theorem dL_isNear_76 : decode cL_isNear 76 = .ok (.ifCond .eq 8, 3) := by decide +kernel
theorem dL_isNear_79 : decode cL_isNear 79 = .ok (.iload 6, 2) := by decide +kernel
theorem dL_isNear_81 : decode cL_isNear 81 = .ok (.goto 5, 3) := by decide +kernel
theorem dL_isNear_84 : decode cL_isNear 84 = .ok (.iload 4, 2) := by decide +kernel
theorem dL_isNear_86 : decode cL_isNear 86 = .ok (.istore 4, 2) := by decide +kernel
theorem dL_isNear_88 : decode cL_isNear 88 = .ok (.iinc 5 1, 3) := by decide +kernel
theorem dL_isNear_91 : decode cL_isNear 91 = .ok (.goto (-85), 3) := by decide +kernel
theorem dL_isNear_94 : decode cL_isNear 94 = .ok (.aload_n 1, 1) := by decide +kernel
theorem dL_isNear_95 : decode cL_isNear 95 = .ok (.iload_n 2, 1) := by decide +kernel
theorem dL_isNear_96 : decode cL_isNear 96 = .ok (.iload_n 3, 1) := by decide +kernel
theorem dL_isNear_97 : decode cL_isNear 97 = .ok (.invokestatic 47, 3) := by decide +kernel
theorem dL_isNear_100 : decode cL_isNear 100 = .ok (.istore 6, 2) := by decide +kernel
theorem dL_isNear_102 : decode cL_isNear 102 = .ok (.aload_n 0, 1) := by decide +kernel
theorem dL_isNear_103 : decode cL_isNear 103 = .ok (.iload_n 2, 1) := by decide +kernel
theorem dL_isNear_104 : decode cL_isNear 104 = .ok (.invokevirtual 63, 3) := by decide +kernel
theorem dL_isNear_107 : decode cL_isNear 107 = .ok (.iload 5, 2) := by decide +kernel
theorem dL_isNear_109 : decode cL_isNear 109 = .ok (.if_icmp .ne 92, 3) := by decide +kernel
theorem dL_isNear_112 : decode cL_isNear 112 = .ok (.aload_n 0, 1) := by decide +kernel
theorem dL_isNear_113 : decode cL_isNear 113 = .ok (.iload_n 2, 1) := by decide +kernel
theorem dL_isNear_114 : decode cL_isNear 114 = .ok (.iload_n 3, 1) := by decide +kernel
theorem dL_isNear_115 : decode cL_isNear 115 = .ok (.bipush 12, 2) := by decide +kernel
theorem dL_isNear_117 : decode cL_isNear 117 = .ok (.idiv, 1) := by decide +kernel
theorem dL_isNear_118 : decode cL_isNear 118 = .ok (.iload_n 3, 1) := by decide +kernel
theorem dL_isNear_119 : decode cL_isNear 119 = .ok (.bipush 12, 2) := by decide +kernel
theorem dL_isNear_121 : decode cL_isNear 121 = .ok (.irem, 1) := by decide +kernel
theorem dL_isNear_122 : decode cL_isNear 122 = .ok (.invokevirtual 66, 3) := by decide +kernel
theorem dL_isNear_125 : decode cL_isNear 125 = .ok (.iload 4, 2) := by decide +kernel
theorem dL_isNear_127 : decode cL_isNear 127 = .ok (.if_icmp .ne 74, 3) := by decide +kernel
theorem dL_isNear_130 : decode cL_isNear 130 = .ok (.aload_n 0, 1) := by decide +kernel
theorem dL_isNear_131 : decode cL_isNear 131 = .ok (.iload_n 2, 1) := by decide +kernel
theorem dL_isNear_132 : decode cL_isNear 132 = .ok (.iload_n 3, 1) := by decide +kernel
theorem dL_isNear_133 : decode cL_isNear 133 = .ok (.bipush 12, 2) := by decide +kernel
theorem dL_isNear_135 : decode cL_isNear 135 = .ok (.idiv, 1) := by decide +kernel
theorem dL_isNear_136 : decode cL_isNear 136 = .ok (.iload_n 3, 1) := by decide +kernel
theorem dL_isNear_137 : decode cL_isNear 137 = .ok (.bipush 12, 2) := by decide +kernel
theorem dL_isNear_139 : decode cL_isNear 139 = .ok (.irem, 1) := by decide +kernel
theorem dL_isNear_140 : decode cL_isNear 140 = .ok (.invokevirtual 70, 3) := by decide +kernel
theorem dL_isNear_143 : decode cL_isNear 143 = .ok (.iload 4, 2) := by decide +kernel
theorem dL_isNear_145 : decode cL_isNear 145 = .ok (.ifCond .ge 7, 3) := by decide +kernel
theorem dL_isNear_148 : decode cL_isNear 148 = .ok (.iconst (-1), 1) := by decide +kernel
theorem dL_isNear_149 : decode cL_isNear 149 = .ok (.goto 9, 3) := by decide +kernel
theorem dL_isNear_152 : decode cL_isNear 152 = .ok (.iload 4, 2) := by decide +kernel
theorem dL_isNear_154 : decode cL_isNear 154 = .ok (.iload_n 3, 1) := by decide +kernel
theorem dL_isNear_155 : decode cL_isNear 155 = .ok (.invokestatic 60, 3) := by decide +kernel
theorem dL_isNear_158 : decode cL_isNear 158 = .ok (.if_icmp .ne 43, 3) := by decide +kernel
theorem dL_isNear_161 : decode cL_isNear 161 = .ok (.aload_n 0, 1) := by decide +kernel
theorem dL_isNear_162 : decode cL_isNear 162 = .ok (.iload_n 2, 1) := by decide +kernel
theorem dL_isNear_163 : decode cL_isNear 163 = .ok (.iload_n 3, 1) := by decide +kernel
theorem dL_isNear_164 : decode cL_isNear 164 = .ok (.bipush 12, 2) := by decide +kernel
theorem dL_isNear_166 : decode cL_isNear 166 = .ok (.idiv, 1) := by decide +kernel
theorem dL_isNear_167 : decode cL_isNear 167 = .ok (.iload_n 3, 1) := by decide +kernel
theorem dL_isNear_168 : decode cL_isNear 168 = .ok (.bipush 12, 2) := by decide +kernel
theorem dL_isNear_170 : decode cL_isNear 170 = .ok (.irem, 1) := by decide +kernel
theorem dL_isNear_171 : decode cL_isNear 171 = .ok (.invokevirtual 73, 3) := by decide +kernel
theorem dL_isNear_174 : decode cL_isNear 174 = .ok (.iload 6, 2) := by decide +kernel
theorem dL_isNear_176 : decode cL_isNear 176 = .ok (.if_icmp .ne 25, 3) := by decide +kernel
theorem dL_isNear_179 : decode cL_isNear 179 = .ok (.aload_n 0, 1) := by decide +kernel
theorem dL_isNear_180 : decode cL_isNear 180 = .ok (.iload_n 2, 1) := by decide +kernel
theorem dL_isNear_181 : decode cL_isNear 181 = .ok (.iload_n 3, 1) := by decide +kernel
theorem dL_isNear_182 : decode cL_isNear 182 = .ok (.bipush 12, 2) := by decide +kernel
theorem dL_isNear_184 : decode cL_isNear 184 = .ok (.idiv, 1) := by decide +kernel
theorem dL_isNear_185 : decode cL_isNear 185 = .ok (.iload_n 3, 1) := by decide +kernel
theorem dL_isNear_186 : decode cL_isNear 186 = .ok (.bipush 12, 2) := by decide +kernel
theorem dL_isNear_188 : decode cL_isNear 188 = .ok (.irem, 1) := by decide +kernel
theorem dL_isNear_189 : decode cL_isNear 189 = .ok (.invokevirtual 76, 3) := by decide +kernel
theorem dL_isNear_192 : decode cL_isNear 192 = .ok (.iload 6, 2) := by decide +kernel
theorem dL_isNear_194 : decode cL_isNear 194 = .ok (.if_icmp .ne 7, 3) := by decide +kernel
theorem dL_isNear_197 : decode cL_isNear 197 = .ok (.iconst 1, 1) := by decide +kernel
theorem dL_isNear_198 : decode cL_isNear 198 = .ok (.goto 4, 3) := by decide +kernel
theorem dL_isNear_201 : decode cL_isNear 201 = .ok (.iconst 0, 1) := by decide +kernel
theorem dL_isNear_202 : decode cL_isNear 202 = .ok (.ireturn, 1) := by decide +kernel
theorem dL_has_0 : decode cL_has 0 = .ok (.aload_n 0, 1) := by decide +kernel
theorem dL_has_1 : decode cL_has 1 = .ok (.iload_n 1, 1) := by decide +kernel
theorem dL_has_2 : decode cL_has 2 = .ok (.bipush 48, 2) := by decide +kernel
theorem dL_has_4 : decode cL_has 4 = .ok (.idiv, 1) := by decide +kernel
theorem dL_has_5 : decode cL_has 5 = .ok (.laload, 1) := by decide +kernel
theorem dL_has_6 : decode cL_has 6 = .ok (.iload_n 1, 1) := by decide +kernel
theorem dL_has_7 : decode cL_has 7 = .ok (.bipush 48, 2) := by decide +kernel
theorem dL_has_9 : decode cL_has 9 = .ok (.irem, 1) := by decide +kernel
theorem dL_has_10 : decode cL_has 10 = .ok (.lshr, 1) := by decide +kernel
theorem dL_has_11 : decode cL_has 11 = .ok (.lconst 1, 1) := by decide +kernel
theorem dL_has_12 : decode cL_has 12 = .ok (.land, 1) := by decide +kernel
theorem dL_has_13 : decode cL_has 13 = .ok (.lconst 1, 1) := by decide +kernel
theorem dL_has_14 : decode cL_has 14 = .ok (.lcmp, 1) := by decide +kernel
theorem dL_has_15 : decode cL_has 15 = .ok (.ifCond .ne 7, 3) := by decide +kernel
theorem dL_has_18 : decode cL_has 18 = .ok (.iconst 1, 1) := by decide +kernel
theorem dL_has_19 : decode cL_has 19 = .ok (.goto 4, 3) := by decide +kernel
theorem dL_has_22 : decode cL_has 22 = .ok (.iconst 0, 1) := by decide +kernel
theorem dL_has_23 : decode cL_has 23 = .ok (.ireturn, 1) := by decide +kernel
theorem dL_isWalk_0 : decode cL_isWalk 0 = .ok (.iconst 3, 1) := by decide +kernel
theorem dL_isWalk_1 : decode cL_isWalk 1 = .ok (.newarray .long, 2) := by decide +kernel
theorem dL_isWalk_3 : decode cL_isWalk 3 = .ok (.astore 5, 2) := by decide +kernel
theorem dL_isWalk_5 : decode cL_isWalk 5 = .ok (.iconst 3, 1) := by decide +kernel
theorem dL_isWalk_6 : decode cL_isWalk 6 = .ok (.newarray .long, 2) := by decide +kernel
theorem dL_isWalk_8 : decode cL_isWalk 8 = .ok (.astore 6, 2) := by decide +kernel
theorem dL_isWalk_10 : decode cL_isWalk 10 = .ok (.aload 5, 2) := by decide +kernel
theorem dL_isWalk_12 : decode cL_isWalk 12 = .ok (.iload_n 3, 1) := by decide +kernel
theorem dL_isWalk_13 : decode cL_isWalk 13 = .ok (.bipush 48, 2) := by decide +kernel
theorem dL_isWalk_15 : decode cL_isWalk 15 = .ok (.idiv, 1) := by decide +kernel
theorem dL_isWalk_16 : decode cL_isWalk 16 = .ok (.dup2, 1) := by decide +kernel
theorem dL_isWalk_17 : decode cL_isWalk 17 = .ok (.laload, 1) := by decide +kernel
theorem dL_isWalk_18 : decode cL_isWalk 18 = .ok (.lconst 1, 1) := by decide +kernel
theorem dL_isWalk_19 : decode cL_isWalk 19 = .ok (.iload_n 3, 1) := by decide +kernel
theorem dL_isWalk_20 : decode cL_isWalk 20 = .ok (.bipush 48, 2) := by decide +kernel
theorem dL_isWalk_22 : decode cL_isWalk 22 = .ok (.irem, 1) := by decide +kernel
theorem dL_isWalk_23 : decode cL_isWalk 23 = .ok (.lshl, 1) := by decide +kernel
theorem dL_isWalk_24 : decode cL_isWalk 24 = .ok (.lor, 1) := by decide +kernel
theorem dL_isWalk_25 : decode cL_isWalk 25 = .ok (.lastore, 1) := by decide +kernel
theorem dL_isWalk_26 : decode cL_isWalk 26 = .ok (.aload 6, 2) := by decide +kernel
theorem dL_isWalk_28 : decode cL_isWalk 28 = .ok (.iload_n 3, 1) := by decide +kernel
theorem dL_isWalk_29 : decode cL_isWalk 29 = .ok (.bipush 48, 2) := by decide +kernel
theorem dL_isWalk_31 : decode cL_isWalk 31 = .ok (.idiv, 1) := by decide +kernel
theorem dL_isWalk_32 : decode cL_isWalk 32 = .ok (.dup2, 1) := by decide +kernel
theorem dL_isWalk_33 : decode cL_isWalk 33 = .ok (.laload, 1) := by decide +kernel
theorem dL_isWalk_34 : decode cL_isWalk 34 = .ok (.lconst 1, 1) := by decide +kernel
theorem dL_isWalk_35 : decode cL_isWalk 35 = .ok (.iload_n 3, 1) := by decide +kernel
theorem dL_isWalk_36 : decode cL_isWalk 36 = .ok (.bipush 48, 2) := by decide +kernel
theorem dL_isWalk_38 : decode cL_isWalk 38 = .ok (.irem, 1) := by decide +kernel
theorem dL_isWalk_39 : decode cL_isWalk 39 = .ok (.lshl, 1) := by decide +kernel
theorem dL_isWalk_40 : decode cL_isWalk 40 = .ok (.lor, 1) := by decide +kernel
theorem dL_isWalk_41 : decode cL_isWalk 41 = .ok (.lastore, 1) := by decide +kernel
theorem dL_isWalk_42 : decode cL_isWalk 42 = .ok (.aload 5, 2) := by decide +kernel
theorem dL_isWalk_44 : decode cL_isWalk 44 = .ok (.iload 4, 2) := by decide +kernel
theorem dL_isWalk_46 : decode cL_isWalk 46 = .ok (.invokestatic 79, 3) := by decide +kernel
theorem dL_isWalk_49 : decode cL_isWalk 49 = .ok (.ifCond .eq 7, 3) := by decide +kernel
theorem dL_isWalk_52 : decode cL_isWalk 52 = .ok (.iconst 0, 1) := by decide +kernel
theorem dL_isWalk_53 : decode cL_isWalk 53 = .ok (.goto 4, 3) := by decide +kernel
theorem dL_isWalk_56 : decode cL_isWalk 56 = .ok (.iconst (-1), 1) := by decide +kernel
theorem dL_isWalk_57 : decode cL_isWalk 57 = .ok (.istore 7, 2) := by decide +kernel
theorem dL_isWalk_59 : decode cL_isWalk 59 = .ok (.iconst 1, 1) := by decide +kernel
theorem dL_isWalk_60 : decode cL_isWalk 60 = .ok (.istore 8, 2) := by decide +kernel
theorem dL_isWalk_62 : decode cL_isWalk 62 = .ok (.iconst 0, 1) := by decide +kernel
theorem dL_isWalk_63 : decode cL_isWalk 63 = .ok (.istore 9, 2) := by decide +kernel
theorem dL_isWalk_65 : decode cL_isWalk 65 = .ok (.iconst 1, 1) := by decide +kernel
theorem dL_isWalk_66 : decode cL_isWalk 66 = .ok (.istore 10, 2) := by decide +kernel
theorem dL_isWalk_68 : decode cL_isWalk 68 = .ok (.iload 9, 2) := by decide +kernel
theorem dL_isWalk_70 : decode cL_isWalk 70 = .ok (.iload 8, 2) := by decide +kernel
theorem dL_isWalk_72 : decode cL_isWalk 72 = .ok (.if_icmp .ge 268, 3) := by decide +kernel
theorem dL_isWalk_75 : decode cL_isWalk 75 = .ok (.iload 8, 2) := by decide +kernel
theorem dL_isWalk_77 : decode cL_isWalk 77 = .ok (.istore 9, 2) := by decide +kernel
theorem dL_isWalk_79 : decode cL_isWalk 79 = .ok (.iconst 0, 1) := by decide +kernel
theorem dL_isWalk_80 : decode cL_isWalk 80 = .ok (.istore 11, 2) := by decide +kernel
theorem dL_isWalk_82 : decode cL_isWalk 82 = .ok (.iload 11, 2) := by decide +kernel
theorem dL_isWalk_84 : decode cL_isWalk 84 = .ok (.iload_n 2, 1) := by decide +kernel
theorem dL_isWalk_85 : decode cL_isWalk 85 = .ok (.if_icmp .ge 200, 3) := by decide +kernel
theorem dL_isWalk_88 : decode cL_isWalk 88 = .ok (.iconst 0, 1) := by decide +kernel
theorem dL_isWalk_89 : decode cL_isWalk 89 = .ok (.istore 12, 2) := by decide +kernel
theorem dL_isWalk_91 : decode cL_isWalk 91 = .ok (.aload_n 1, 1) := by decide +kernel
theorem dL_isWalk_92 : decode cL_isWalk 92 = .ok (.iload 11, 2) := by decide +kernel
theorem dL_isWalk_94 : decode cL_isWalk 94 = .ok (.iload 12, 2) := by decide +kernel
theorem dL_isWalk_96 : decode cL_isWalk 96 = .ok (.iconst 1, 1) := by decide +kernel
theorem dL_isWalk_97 : decode cL_isWalk 97 = .ok (.iadd, 1) := by decide +kernel
theorem dL_isWalk_98 : decode cL_isWalk 98 = .ok (.invokestatic 23, 3) := by decide +kernel
theorem dL_isWalk_101 : decode cL_isWalk 101 = .ok (.ifCond .lt 178, 3) := by decide +kernel
theorem dL_isWalk_104 : decode cL_isWalk 104 = .ok (.aload_n 1, 1) := by decide +kernel
theorem dL_isWalk_105 : decode cL_isWalk 105 = .ok (.iload 11, 2) := by decide +kernel
theorem dL_isWalk_107 : decode cL_isWalk 107 = .ok (.iload 12, 2) := by decide +kernel
theorem dL_isWalk_109 : decode cL_isWalk 109 = .ok (.invokestatic 23, 3) := by decide +kernel
theorem dL_isWalk_112 : decode cL_isWalk 112 = .ok (.istore 13, 2) := by decide +kernel
theorem dL_isWalk_114 : decode cL_isWalk 114 = .ok (.aload_n 1, 1) := by decide +kernel
theorem dL_isWalk_115 : decode cL_isWalk 115 = .ok (.iload 11, 2) := by decide +kernel
theorem dL_isWalk_117 : decode cL_isWalk 117 = .ok (.iload 12, 2) := by decide +kernel
theorem dL_isWalk_119 : decode cL_isWalk 119 = .ok (.iconst 1, 1) := by decide +kernel
theorem dL_isWalk_120 : decode cL_isWalk 120 = .ok (.iadd, 1) := by decide +kernel
theorem dL_isWalk_121 : decode cL_isWalk 121 = .ok (.invokestatic 23, 3) := by decide +kernel
theorem dL_isWalk_124 : decode cL_isWalk 124 = .ok (.istore 14, 2) := by decide +kernel
theorem dL_isWalk_126 : decode cL_isWalk 126 = .ok (.aload 5, 2) := by decide +kernel
theorem dL_isWalk_128 : decode cL_isWalk 128 = .ok (.iload 13, 2) := by decide +kernel
theorem dL_isWalk_130 : decode cL_isWalk 130 = .ok (.invokestatic 79, 3) := by decide +kernel
theorem dL_isWalk_133 : decode cL_isWalk 133 = .ok (.ifCond .eq 17, 3) := by decide +kernel
theorem dL_isWalk_136 : decode cL_isWalk 136 = .ok (.aload 6, 2) := by decide +kernel
theorem dL_isWalk_138 : decode cL_isWalk 138 = .ok (.iload 14, 2) := by decide +kernel
theorem dL_isWalk_140 : decode cL_isWalk 140 = .ok (.invokestatic 79, 3) := by decide +kernel
theorem dL_isWalk_143 : decode cL_isWalk 143 = .ok (.ifCond .ne 7, 3) := by decide +kernel
theorem dL_isWalk_146 : decode cL_isWalk 146 = .ok (.iconst 1, 1) := by decide +kernel
theorem dL_isWalk_147 : decode cL_isWalk 147 = .ok (.goto 4, 3) := by decide +kernel
theorem dL_isWalk_150 : decode cL_isWalk 150 = .ok (.iconst 0, 1) := by decide +kernel
theorem dL_isWalk_151 : decode cL_isWalk 151 = .ok (.istore 15, 2) := by decide +kernel
theorem dL_isWalk_153 : decode cL_isWalk 153 = .ok (.aload 6, 2) := by decide +kernel
theorem dL_isWalk_155 : decode cL_isWalk 155 = .ok (.iload 14, 2) := by decide +kernel
theorem dL_isWalk_157 : decode cL_isWalk 157 = .ok (.bipush 48, 2) := by decide +kernel
theorem dL_isWalk_159 : decode cL_isWalk 159 = .ok (.idiv, 1) := by decide +kernel
theorem dL_isWalk_160 : decode cL_isWalk 160 = .ok (.dup2, 1) := by decide +kernel
theorem dL_isWalk_161 : decode cL_isWalk 161 = .ok (.laload, 1) := by decide +kernel
theorem dL_isWalk_162 : decode cL_isWalk 162 = .ok (.iload 15, 2) := by decide +kernel
theorem dL_isWalk_164 : decode cL_isWalk 164 = .ok (.ifCond .eq 13, 3) := by decide +kernel
theorem dL_isWalk_167 : decode cL_isWalk 167 = .ok (.lconst 1, 1) := by decide +kernel
theorem dL_isWalk_168 : decode cL_isWalk 168 = .ok (.iload 14, 2) := by decide +kernel
theorem dL_isWalk_170 : decode cL_isWalk 170 = .ok (.bipush 48, 2) := by decide +kernel
theorem dL_isWalk_172 : decode cL_isWalk 172 = .ok (.irem, 1) := by decide +kernel
theorem dL_isWalk_173 : decode cL_isWalk 173 = .ok (.lshl, 1) := by decide +kernel
theorem dL_isWalk_174 : decode cL_isWalk 174 = .ok (.goto 4, 3) := by decide +kernel
theorem dL_isWalk_177 : decode cL_isWalk 177 = .ok (.lconst 0, 1) := by decide +kernel
theorem dL_isWalk_178 : decode cL_isWalk 178 = .ok (.lor, 1) := by decide +kernel
theorem dL_isWalk_179 : decode cL_isWalk 179 = .ok (.lastore, 1) := by decide +kernel
theorem dL_isWalk_180 : decode cL_isWalk 180 = .ok (.aload_n 1, 1) := by decide +kernel
theorem dL_isWalk_181 : decode cL_isWalk 181 = .ok (.bipush 7, 2) := by decide +kernel
theorem dL_isWalk_183 : decode cL_isWalk 183 = .ok (.iload 11, 2) := by decide +kernel
theorem dL_isWalk_185 : decode cL_isWalk 185 = .ok (.imul, 1) := by decide +kernel
theorem dL_isWalk_186 : decode cL_isWalk 186 = .ok (.bipush 6, 2) := by decide +kernel
theorem dL_isWalk_188 : decode cL_isWalk 188 = .ok (.iadd, 1) := by decide +kernel
theorem dL_isWalk_189 : decode cL_isWalk 189 = .ok (.iaload, 1) := by decide +kernel
theorem dL_isWalk_190 : decode cL_isWalk 190 = .ok (.ifCond .ne 27, 3) := by decide +kernel
theorem dL_isWalk_193 : decode cL_isWalk 193 = .ok (.aload 5, 2) := by decide +kernel
theorem dL_isWalk_195 : decode cL_isWalk 195 = .ok (.iload 14, 2) := by decide +kernel
theorem dL_isWalk_197 : decode cL_isWalk 197 = .ok (.invokestatic 79, 3) := by decide +kernel
theorem dL_isWalk_200 : decode cL_isWalk 200 = .ok (.ifCond .eq 17, 3) := by decide +kernel
theorem dL_isWalk_203 : decode cL_isWalk 203 = .ok (.aload 6, 2) := by decide +kernel
theorem dL_isWalk_205 : decode cL_isWalk 205 = .ok (.iload 13, 2) := by decide +kernel
theorem dL_isWalk_207 : decode cL_isWalk 207 = .ok (.invokestatic 79, 3) := by decide +kernel
theorem dL_isWalk_210 : decode cL_isWalk 210 = .ok (.ifCond .ne 7, 3) := by decide +kernel
theorem dL_isWalk_213 : decode cL_isWalk 213 = .ok (.iconst 1, 1) := by decide +kernel
theorem dL_isWalk_214 : decode cL_isWalk 214 = .ok (.goto 4, 3) := by decide +kernel
