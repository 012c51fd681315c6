theorem dL_compare_96 : decode cL_compare 96 = .ok (.invokestatic 9, 3) := by decide +kernel
theorem dL_compare_99 : decode cL_compare 99 = .ok (.istore 8, 2) := by decide +kernel
theorem dL_compare_101 : decode cL_compare 101 = .ok (.iload 7, 2) := by decide +kernel
theorem dL_compare_103 : decode cL_compare 103 = .ok (.ifCond .ge 7, 3) := by decide +kernel
theorem dL_compare_106 : decode cL_compare 106 = .ok (.iconst (-1), 1) := by decide +kernel
theorem dL_compare_107 : decode cL_compare 107 = .ok (.goto 8, 3) := by decide +kernel
theorem dL_compare_110 : decode cL_compare 110 = .ok (.iload 7, 2) := by decide +kernel
theorem dL_compare_112 : decode cL_compare 112 = .ok (.invokestatic 15, 3) := by decide +kernel
theorem dL_compare_115 : decode cL_compare 115 = .ok (.iload 8, 2) := by decide +kernel
theorem dL_compare_117 : decode cL_compare 117 = .ok (.ifCond .ge 7, 3) := by decide +kernel
theorem dL_compare_120 : decode cL_compare 120 = .ok (.iconst (-1), 1) := by decide +kernel
theorem dL_compare_121 : decode cL_compare 121 = .ok (.goto 8, 3) := by decide +kernel
theorem dL_compare_124 : decode cL_compare 124 = .ok (.iload 8, 2) := by decide +kernel
theorem dL_compare_126 : decode cL_compare 126 = .ok (.invokestatic 15, 3) := by decide +kernel
theorem dL_compare_129 : decode cL_compare 129 = .ok (.isub, 1) := by decide +kernel
theorem dL_compare_130 : decode cL_compare 130 = .ok (.istore 5, 2) := by decide +kernel
theorem dL_compare_132 : decode cL_compare 132 = .ok (.iinc 6 1, 3) := by decide +kernel
theorem dL_compare_135 : decode cL_compare 135 = .ok (.goto (-129), 3) := by decide +kernel
theorem dL_compare_138 : decode cL_compare 138 = .ok (.iload 5, 2) := by decide +kernel
theorem dL_compare_140 : decode cL_compare 140 = .ok (.ifCond .ge 7, 3) := by decide +kernel
theorem dL_compare_143 : decode cL_compare 143 = .ok (.iconst (-1), 1) := by decide +kernel
theorem dL_compare_144 : decode cL_compare 144 = .ok (.goto 13, 3) := by decide +kernel
theorem dL_compare_147 : decode cL_compare 147 = .ok (.iload 5, 2) := by decide +kernel
theorem dL_compare_149 : decode cL_compare 149 = .ok (.ifCond .le 7, 3) := by decide +kernel
theorem dL_compare_152 : decode cL_compare 152 = .ok (.iconst 1, 1) := by decide +kernel
theorem dL_compare_153 : decode cL_compare 153 = .ok (.goto 4, 3) := by decide +kernel
theorem dL_compare_156 : decode cL_compare 156 = .ok (.iconst 0, 1) := by decide +kernel
theorem dL_compare_157 : decode cL_compare 157 = .ok (.ireturn, 1) := by decide +kernel
theorem dL_isAhead_0 : decode cL_isAhead 0 = .ok (.aload_n 0, 1) := by decide +kernel
theorem dL_isAhead_1 : decode cL_isAhead 1 = .ok (.aload_n 1, 1) := by decide +kernel
theorem dL_isAhead_2 : decode cL_isAhead 2 = .ok (.iload_n 2, 1) := by decide +kernel
theorem dL_isAhead_3 : decode cL_isAhead 3 = .ok (.iload_n 3, 1) := by decide +kernel
theorem dL_isAhead_4 : decode cL_isAhead 4 = .ok (.iconst 0, 1) := by decide +kernel
theorem dL_isAhead_5 : decode cL_isAhead 5 = .ok (.invokestatic 19, 3) := by decide +kernel
theorem dL_isAhead_8 : decode cL_isAhead 8 = .ok (.istore 4, 2) := by decide +kernel
theorem dL_isAhead_10 : decode cL_isAhead 10 = .ok (.iload 4, 2) := by decide +kernel
theorem dL_isAhead_12 : decode cL_isAhead 12 = .ok (.ifCond .ne 14, 3) := by decide +kernel
theorem dL_isAhead_15 : decode cL_isAhead 15 = .ok (.aload_n 0, 1) := by decide +kernel
theorem dL_isAhead_16 : decode cL_isAhead 16 = .ok (.aload_n 1, 1) := by decide +kernel
theorem dL_isAhead_17 : decode cL_isAhead 17 = .ok (.iload_n 2, 1) := by decide +kernel
theorem dL_isAhead_18 : decode cL_isAhead 18 = .ok (.iload_n 3, 1) := by decide +kernel
theorem dL_isAhead_19 : decode cL_isAhead 19 = .ok (.iconst 1, 1) := by decide +kernel
theorem dL_isAhead_20 : decode cL_isAhead 20 = .ok (.invokestatic 19, 3) := by decide +kernel
theorem dL_isAhead_23 : decode cL_isAhead 23 = .ok (.goto 5, 3) := by decide +kernel
theorem dL_isAhead_26 : decode cL_isAhead 26 = .ok (.iload 4, 2) := by decide +kernel
theorem dL_isAhead_28 : decode cL_isAhead 28 = .ok (.istore 4, 2) := by decide +kernel
theorem dL_isAhead_30 : decode cL_isAhead 30 = .ok (.iload 4, 2) := by decide +kernel
theorem dL_isAhead_32 : decode cL_isAhead 32 = .ok (.ifCond .ne 16, 3) := by decide +kernel
theorem dL_isAhead_35 : decode cL_isAhead 35 = .ok (.iload_n 2, 1) := by decide +kernel
theorem dL_isAhead_36 : decode cL_isAhead 36 = .ok (.iload_n 3, 1) := by decide +kernel
theorem dL_isAhead_37 : decode cL_isAhead 37 = .ok (.if_icmp .ge 7, 3) := by decide +kernel
theorem dL_isAhead_40 : decode cL_isAhead 40 = .ok (.iconst 1, 1) := by decide +kernel
theorem dL_isAhead_41 : decode cL_isAhead 41 = .ok (.goto 17, 3) := by decide +kernel
theorem dL_isAhead_44 : decode cL_isAhead 44 = .ok (.iconst 0, 1) := by decide +kernel
theorem dL_isAhead_45 : decode cL_isAhead 45 = .ok (.goto 13, 3) := by decide +kernel
theorem dL_isAhead_48 : decode cL_isAhead 48 = .ok (.iload 4, 2) := by decide +kernel
theorem dL_isAhead_50 : decode cL_isAhead 50 = .ok (.ifCond .ge 7, 3) := by decide +kernel
theorem dL_isAhead_53 : decode cL_isAhead 53 = .ok (.iconst 1, 1) := by decide +kernel
theorem dL_isAhead_54 : decode cL_isAhead 54 = .ok (.goto 4, 3) := by decide +kernel
theorem dL_isAhead_57 : decode cL_isAhead 57 = .ok (.iconst 0, 1) := by decide +kernel
theorem dL_isAhead_58 : decode cL_isAhead 58 = .ok (.ireturn, 1) := by decide +kernel
theorem dL_square_0 : decode cL_square 0 = .ok (.iload_n 2, 1) := by decide +kernel
theorem dL_square_1 : decode cL_square 1 = .ok (.istore_n 3, 1) := by decide +kernel
theorem dL_square_2 : decode cL_square 2 = .ok (.iconst 1, 1) := by decide +kernel
theorem dL_square_3 : decode cL_square 3 = .ok (.istore 4, 2) := by decide +kernel
theorem dL_square_5 : decode cL_square 5 = .ok (.iload 4, 2) := by decide +kernel
theorem dL_square_7 : decode cL_square 7 = .ok (.aload_n 0, 1) := by decide +kernel
theorem dL_square_8 : decode cL_square 8 = .ok (.bipush 7, 2) := by decide +kernel
theorem dL_square_10 : decode cL_square 10 = .ok (.iload_n 1, 1) := by decide +kernel
theorem dL_square_11 : decode cL_square 11 = .ok (.imul, 1) := by decide +kernel
theorem dL_square_12 : decode cL_square 12 = .ok (.iaload, 1) := by decide +kernel
theorem dL_square_13 : decode cL_square 13 = .ok (.if_icmp .gt 149, 3) := by decide +kernel
theorem dL_square_16 : decode cL_square 16 = .ok (.aload_n 0, 1) := by decide +kernel
theorem dL_square_17 : decode cL_square 17 = .ok (.bipush 7, 2) := by decide +kernel
theorem dL_square_19 : decode cL_square 19 = .ok (.iload_n 1, 1) := by decide +kernel
theorem dL_square_20 : decode cL_square 20 = .ok (.imul, 1) := by decide +kernel
theorem dL_square_21 : decode cL_square 21 = .ok (.iload 4, 2) := by decide +kernel
theorem dL_square_23 : decode cL_square 23 = .ok (.iadd, 1) := by decide +kernel
theorem dL_square_24 : decode cL_square 24 = .ok (.iaload, 1) := by decide +kernel
theorem dL_square_25 : decode cL_square 25 = .ok (.istore 5, 2) := by decide +kernel
theorem dL_square_27 : decode cL_square 27 = .ok (.iload 4, 2) := by decide +kernel
theorem dL_square_29 : decode cL_square 29 = .ok (.iconst 1, 1) := by decide +kernel
theorem dL_square_30 : decode cL_square 30 = .ok (.if_icmp .ne 8, 3) := by decide +kernel
theorem dL_square_33 : decode cL_square 33 = .ok (.iload 5, 2) := by decide +kernel
theorem dL_square_35 : decode cL_square 35 = .ok (.goto 14, 3) := by decide +kernel
theorem dL_square_38 : decode cL_square 38 = .ok (.aload_n 0, 1) := by decide +kernel
theorem dL_square_39 : decode cL_square 39 = .ok (.bipush 7, 2) := by decide +kernel
theorem dL_square_41 : decode cL_square 41 = .ok (.iload_n 1, 1) := by decide +kernel
theorem dL_square_42 : decode cL_square 42 = .ok (.imul, 1) := by decide +kernel
theorem dL_square_43 : decode cL_square 43 = .ok (.iload 4, 2) := by decide +kernel
theorem dL_square_45 : decode cL_square 45 = .ok (.iadd, 1) := by decide +kernel
theorem dL_square_46 : decode cL_square 46 = .ok (.iconst 1, 1) := by decide +kernel
theorem dL_square_47 : decode cL_square 47 = .ok (.isub, 1) := by decide +kernel
theorem dL_square_48 : decode cL_square 48 = .ok (.iaload, 1) := by decide +kernel
theorem dL_square_49 : decode cL_square 49 = .ok (.istore 6, 2) := by decide +kernel
theorem dL_square_51 : decode cL_square 51 = .ok (.iload 5, 2) := by decide +kernel
theorem dL_square_53 : decode cL_square 53 = .ok (.bipush 12, 2) := by decide +kernel
theorem dL_square_55 : decode cL_square 55 = .ok (.idiv, 1) := by decide +kernel
theorem dL_square_56 : decode cL_square 56 = .ok (.iload 6, 2) := by decide +kernel
theorem dL_square_58 : decode cL_square 58 = .ok (.bipush 12, 2) := by decide +kernel
theorem dL_square_60 : decode cL_square 60 = .ok (.idiv, 1) := by decide +kernel
theorem dL_square_61 : decode cL_square 61 = .ok (.isub, 1) := by decide +kernel
theorem dL_square_62 : decode cL_square 62 = .ok (.istore 7, 2) := by decide +kernel
theorem dL_square_64 : decode cL_square 64 = .ok (.iload 5, 2) := by decide +kernel
theorem dL_square_66 : decode cL_square 66 = .ok (.bipush 12, 2) := by decide +kernel
theorem dL_square_68 : decode cL_square 68 = .ok (.irem, 1) := by decide +kernel
theorem dL_square_69 : decode cL_square 69 = .ok (.iload 6, 2) := by decide +kernel
theorem dL_square_71 : decode cL_square 71 = .ok (.bipush 12, 2) := by decide +kernel
theorem dL_square_73 : decode cL_square 73 = .ok (.irem, 1) := by decide +kernel
theorem dL_square_74 : decode cL_square 74 = .ok (.isub, 1) := by decide +kernel
theorem dL_square_75 : decode cL_square 75 = .ok (.istore 8, 2) := by decide +kernel
theorem dL_square_77 : decode cL_square 77 = .ok (.iload 7, 2) := by decide +kernel
theorem dL_square_79 : decode cL_square 79 = .ok (.ifCond .le 8, 3) := by decide +kernel
theorem dL_square_82 : decode cL_square 82 = .ok (.iload 7, 2) := by decide +kernel
theorem dL_square_84 : decode cL_square 84 = .ok (.goto 27, 3) := by decide +kernel
theorem dL_square_87 : decode cL_square 87 = .ok (.iload 7, 2) := by decide +kernel
theorem dL_square_89 : decode cL_square 89 = .ok (.ifCond .ge 9, 3) := by decide +kernel
theorem dL_square_92 : decode cL_square 92 = .ok (.iload 7, 2) := by decide +kernel
theorem dL_square_94 : decode cL_square 94 = .ok (.ineg, 1) := by decide +kernel
theorem dL_square_95 : decode cL_square 95 = .ok (.goto 16, 3) := by decide +kernel
theorem dL_square_98 : decode cL_square 98 = .ok (.iload 8, 2) := by decide +kernel
theorem dL_square_100 : decode cL_square 100 = .ok (.ifCond .le 8, 3) := by decide +kernel
theorem dL_square_103 : decode cL_square 103 = .ok (.iload 8, 2) := by decide +kernel
theorem dL_square_105 : decode cL_square 105 = .ok (.goto 6, 3) := by decide +kernel
theorem dL_square_108 : decode cL_square 108 = .ok (.iload 8, 2) := by decide +kernel
theorem dL_square_110 : decode cL_square 110 = .ok (.ineg, 1) := by decide +kernel
theorem dL_square_111 : decode cL_square 111 = .ok (.istore 9, 2) := by decide +kernel
theorem dL_square_113 : decode cL_square 113 = .ok (.iload_n 3, 1) := by decide +kernel
theorem dL_square_114 : decode cL_square 114 = .ok (.iload 9, 2) := by decide +kernel
theorem dL_square_116 : decode cL_square 116 = .ok (.if_icmp .gt 35, 3) := by decide +kernel
theorem dL_square_119 : decode cL_square 119 = .ok (.iload 9, 2) := by decide +kernel
theorem dL_square_121 : decode cL_square 121 = .ok (.ifCond .ne 8, 3) := by decide +kernel
theorem dL_square_124 : decode cL_square 124 = .ok (.iload 5, 2) := by decide +kernel
theorem dL_square_126 : decode cL_square 126 = .ok (.goto 24, 3) := by decide +kernel
theorem dL_square_129 : decode cL_square 129 = .ok (.iload 6, 2) := by decide +kernel
theorem dL_square_131 : decode cL_square 131 = .ok (.bipush 12, 2) := by decide +kernel
theorem dL_square_133 : decode cL_square 133 = .ok (.iload 7, 2) := by decide +kernel
theorem dL_square_135 : decode cL_square 135 = .ok (.iload 9, 2) := by decide +kernel
theorem dL_square_137 : decode cL_square 137 = .ok (.idiv, 1) := by decide +kernel
theorem dL_square_138 : decode cL_square 138 = .ok (.iload_n 3, 1) := by decide +kernel
theorem dL_square_139 : decode cL_square 139 = .ok (.imul, 1) := by decide +kernel
theorem dL_square_140 : decode cL_square 140 = .ok (.imul, 1) := by decide +kernel
theorem dL_square_141 : decode cL_square 141 = .ok (.iadd, 1) := by decide +kernel
theorem dL_square_142 : decode cL_square 142 = .ok (.iload 8, 2) := by decide +kernel
theorem dL_square_144 : decode cL_square 144 = .ok (.iload 9, 2) := by decide +kernel
theorem dL_square_146 : decode cL_square 146 = .ok (.idiv, 1) := by decide +kernel
theorem dL_square_147 : decode cL_square 147 = .ok (.iload_n 3, 1) := by decide +kernel
theorem dL_square_148 : decode cL_square 148 = .ok (.imul, 1) := by decide +kernel
theorem dL_square_149 : decode cL_square 149 = .ok (.iadd, 1) := by decide +kernel
theorem dL_square_150 : decode cL_square 150 = .ok (.ireturn, 1) := by decide +kernel
theorem dL_square_151 : decode cL_square 151 = .ok (.iload_n 3, 1) := by decide +kernel
theorem dL_square_152 : decode cL_square 152 = .ok (.iload 9, 2) := by decide +kernel
theorem dL_square_154 : decode cL_square 154 = .ok (.isub, 1) := by decide +kernel
theorem dL_square_155 : decode cL_square 155 = .ok (.istore_n 3, 1) := by decide +kernel
theorem dL_square_156 : decode cL_square 156 = .ok (.iinc 4 1, 3) := by decide +kernel
theorem dL_square_159 : decode cL_square 159 = .ok (.goto (-154), 3) := by decide +kernel
theorem dL_square_162 : decode cL_square 162 = .ok (.iconst (-1), 1) := by decide +kernel
theorem dL_square_163 : decode cL_square 163 = .ok (.ireturn, 1) := by decide +kernel
theorem dL_isOn_0 : decode cL_isOn 0 = .ok (.iconst 0, 1) := by decide +kernel
theorem dL_isOn_1 : decode cL_isOn 1 = .ok (.istore_n 3, 1) := by decide +kernel
theorem dL_isOn_2 : decode cL_isOn 2 = .ok (.aload_n 0, 1) := by decide +kernel
theorem dL_isOn_3 : decode cL_isOn 3 = .ok (.iload_n 1, 1) := by decide +kernel
theorem dL_isOn_4 : decode cL_isOn 4 = .ok (.iload_n 3, 1) := by decide +kernel
theorem dL_isOn_5 : decode cL_isOn 5 = .ok (.invokestatic 23, 3) := by decide +kernel
theorem dL_isOn_8 : decode cL_isOn 8 = .ok (.ifCond .lt 21, 3) := by decide +kernel
theorem dL_isOn_11 : decode cL_isOn 11 = .ok (.aload_n 0, 1) := by decide +kernel
theorem dL_isOn_12 : decode cL_isOn 12 = .ok (.iload_n 1, 1) := by decide +kernel
theorem dL_isOn_13 : decode cL_isOn 13 = .ok (.iload_n 3, 1) := by decide +kernel
theorem dL_isOn_14 : decode cL_isOn 14 = .ok (.invokestatic 23, 3) := by decide +kernel
theorem dL_isOn_17 : decode cL_isOn 17 = .ok (.iload_n 2, 1) := by decide +kernel
theorem dL_isOn_18 : decode cL_isOn 18 = .ok (.if_icmp .ne 5, 3) := by decide +kernel
theorem dL_isOn_21 : decode cL_isOn 21 = .ok (.iconst 1, 1) := by decide +kernel
theorem dL_isOn_22 : decode cL_isOn 22 = .ok (.ireturn, 1) := by decide +kernel
theorem dL_isOn_23 : decode cL_isOn 23 = .ok (.iinc 3 1, 3) := by decide +kernel
theorem dL_isOn_26 : decode cL_isOn 26 = .ok (.goto (-24), 3) := by decide +kernel
theorem dL_isOn_29 : decode cL_isOn 29 = .ok (.iconst 0, 1) := by decide +kernel
theorem dL_isOn_30 : decode cL_isOn 30 = .ok (.ireturn, 1) := by decide +kernel
theorem dL_sign_0 : decode cL_sign 0 = .ok (.iload_n 2, 1) := by decide +kernel
theorem dL_sign_1 : decode cL_sign 1 = .ok (.ifCond .lt 28, 3) := by decide +kernel
theorem dL_sign_4 : decode cL_sign 4 = .ok (.iload_n 2, 1) := by decide +kernel
theorem dL_sign_5 : decode cL_sign 5 = .ok (.aload_n 0, 1) := by decide +kernel
theorem dL_sign_6 : decode cL_sign 6 = .ok (.iload_n 1, 1) := by decide +kernel
theorem dL_sign_7 : decode cL_sign 7 = .ok (.invokevirtual 27, 3) := by decide +kernel
theorem dL_sign_10 : decode cL_sign 10 = .ok (.if_icmp .ge 19, 3) := by decide +kernel
theorem dL_sign_13 : decode cL_sign 13 = .ok (.aload_n 0, 1) := by decide +kernel
theorem dL_sign_14 : decode cL_sign 14 = .ok (.iload_n 1, 1) := by decide +kernel
theorem dL_sign_15 : decode cL_sign 15 = .ok (.iload_n 2, 1) := by decide +kernel
theorem dL_sign_16 : decode cL_sign 16 = .ok (.invokevirtual 32, 3) := by decide +kernel
theorem dL_sign_19 : decode cL_sign 19 = .ok (.iload_n 3, 1) := by decide +kernel
theorem dL_sign_20 : decode cL_sign 20 = .ok (.if_icmp .ne 9, 3) := by decide +kernel
theorem dL_sign_23 : decode cL_sign 23 = .ok (.iload_n 2, 1) := by decide +kernel
theorem dL_sign_24 : decode cL_sign 24 = .ok (.iconst 1, 1) := by decide +kernel
theorem dL_sign_25 : decode cL_sign 25 = .ok (.iadd, 1) := by decide +kernel
theorem dL_sign_26 : decode cL_sign 26 = .ok (.goto 4, 3) := by decide +kernel
theorem dL_sign_29 : decode cL_sign 29 = .ok (.iconst (-1), 1) := by decide +kernel
theorem dL_sign_30 : decode cL_sign 30 = .ok (.ireturn, 1) := by decide +kernel
theorem dL_number_0 : decode cL_number 0 = .ok (.iload_n 3, 1) := by decide +kernel
theorem dL_number_1 : decode cL_number 1 = .ok (.bipush 9, 2) := by decide +kernel
theorem dL_number_3 : decode cL_number 3 = .ok (.if_icmp .le 14, 3) := by decide +kernel
theorem dL_number_6 : decode cL_number 6 = .ok (.aload_n 0, 1) := by decide +kernel
theorem dL_number_7 : decode cL_number 7 = .ok (.iload_n 1, 1) := by decide +kernel
theorem dL_number_8 : decode cL_number 8 = .ok (.iload_n 2, 1) := by decide +kernel
theorem dL_number_9 : decode cL_number 9 = .ok (.bipush 49, 2) := by decide +kernel
theorem dL_number_11 : decode cL_number 11 = .ok (.invokestatic 36, 3) := by decide +kernel
theorem dL_number_14 : decode cL_number 14 = .ok (.goto 4, 3) := by decide +kernel
theorem dL_number_17 : decode cL_number 17 = .ok (.iload_n 2, 1) := by decide +kernel
theorem dL_number_18 : decode cL_number 18 = .ok (.istore 4, 2) := by decide +kernel
theorem dL_number_20 : decode cL_number 20 = .ok (.aload_n 0, 1) := by decide +kernel
theorem dL_number_21 : decode cL_number 21 = .ok (.iload_n 1, 1) := by decide +kernel
theorem dL_number_22 : decode cL_number 22 = .ok (.iload 4, 2) := by decide +kernel
theorem dL_number_24 : decode cL_number 24 = .ok (.bipush 48, 2) := by decide +kernel
theorem dL_number_26 : decode cL_number 26 = .ok (.iload_n 3, 1) := by decide +kernel
theorem dL_number_27 : decode cL_number 27 = .ok (.bipush 10, 2) := by decide +kernel
theorem dL_number_29 : decode cL_number 29 = .ok (.irem, 1) := by decide +kernel
theorem dL_number_30 : decode cL_number 30 = .ok (.iadd, 1) := by decide +kernel
theorem dL_number_31 : decode cL_number 31 = .ok (.invokestatic 36, 3) := by decide +kernel
theorem dL_number_34 : decode cL_number 34 = .ok (.ireturn, 1) := by decide +kernel
theorem dL_word_0 : decode cL_word 0 = .ok (.iload_n 2, 1) := by decide +kernel
theorem dL_word_1 : decode cL_word 1 = .ok (.istore 4, 2) := by decide +kernel
theorem dL_word_3 : decode cL_word 3 = .ok (.iconst 0, 1) := by decide +kernel
theorem dL_word_4 : decode cL_word 4 = .ok (.istore 5, 2) := by decide +kernel
theorem dL_word_6 : decode cL_word 6 = .ok (.iload_n 3, 1) := by decide +kernel
theorem dL_word_7 : decode cL_word 7 = .ok (.iload 5, 2) := by decide +kernel
theorem dL_word_9 : decode cL_word 9 = .ok (.invokestatic 40, 3) := by decide +kernel
theorem dL_word_12 : decode cL_word 12 = .ok (.ifCond .le 24, 3) := by decide +kernel
theorem dL_word_15 : decode cL_word 15 = .ok (.aload_n 0, 1) := by decide +kernel
theorem dL_word_16 : decode cL_word 16 = .ok (.iload_n 1, 1) := by decide +kernel
theorem dL_word_17 : decode cL_word 17 = .ok (.iload 4, 2) := by decide +kernel
theorem dL_word_19 : decode cL_word 19 = .ok (.iload_n 3, 1) := by decide +kernel
theorem dL_word_20 : decode cL_word 20 = .ok (.iload 5, 2) := by decide +kernel
theorem dL_word_22 : decode cL_word 22 = .ok (.invokestatic 40, 3) := by decide +kernel
theorem dL_word_25 : decode cL_word 25 = .ok (.invokestatic 36, 3) := by decide +kernel
theorem dL_word_28 : decode cL_word 28 = .ok (.istore 4, 2) := by decide +kernel
theorem dL_word_30 : decode cL_word 30 = .ok (.iinc 5 1, 3) := by decide +kernel
theorem dL_word_33 : decode cL_word 33 = .ok (.goto (-27), 3) := by decide +kernel
theorem dL_word_36 : decode cL_word 36 = .ok (.iload 4, 2) := by decide +kernel
theorem dL_word_38 : decode cL_word 38 = .ok (.ireturn, 1) := by decide +kernel
theorem dL_letter_0 : decode cL_letter 0 = .ok (.iload_n 0, 1) := by decide +kernel
theorem dL_letter_1 : decode cL_letter 1 = .ok (.iconst 5, 1) := by decide +kernel
theorem dL_letter_2 : decode cL_letter 2 = .ok (.if_icmp .ne 8, 3) := by decide +kernel
theorem dL_letter_5 : decode cL_letter 5 = .ok (.bipush 110, 2) := by decide +kernel
theorem dL_letter_7 : decode cL_letter 7 = .ok (.goto 38, 3) := by decide +kernel
theorem dL_letter_10 : decode cL_letter 10 = .ok (.iload_n 0, 1) := by decide +kernel
theorem dL_letter_11 : decode cL_letter 11 = .ok (.bipush 12, 2) := by decide +kernel
theorem dL_letter_13 : decode cL_letter 13 = .ok (.if_icmp .ne 8, 3) := by decide +kernel
theorem dL_letter_16 : decode cL_letter 16 = .ok (.bipush 109, 2) := by decide +kernel
theorem dL_letter_18 : decode cL_letter 18 = .ok (.goto 27, 3) := by decide +kernel
theorem dL_letter_21 : decode cL_letter 21 = .ok (.iload_n 0, 1) := by decide +kernel
theorem dL_letter_22 : decode cL_letter 22 = .ok (.bipush 14, 2) := by decide +kernel
theorem dL_letter_24 : decode cL_letter 24 = .ok (.if_icmp .ne 8, 3) := by decide +kernel
theorem dL_letter_27 : decode cL_letter 27 = .ok (.bipush 101, 2) := by decide +kernel
theorem dL_letter_29 : decode cL_letter 29 = .ok (.goto 16, 3) := by decide +kernel
theorem dL_letter_32 : decode cL_letter 32 = .ok (.iload_n 0, 1) := by decide +kernel
theorem dL_letter_33 : decode cL_letter 33 = .ok (.bipush 22, 2) := by decide +kernel
theorem dL_letter_35 : decode cL_letter 35 = .ok (.if_icmp .ne 8, 3) := by decide +kernel
theorem dL_letter_38 : decode cL_letter 38 = .ok (.bipush 114, 2) := by decide +kernel
theorem dL_letter_40 : decode cL_letter 40 = .ok (.goto 5, 3) := by decide +kernel
theorem dL_letter_43 : decode cL_letter 43 = .ok (.bipush 111, 2) := by decide +kernel
theorem dL_letter_45 : decode cL_letter 45 = .ok (.istore_n 2, 1) := by decide +kernel
theorem dL_letter_46 : decode cL_letter 46 = .ok (.iload_n 0, 1) := by decide +kernel
theorem dL_letter_47 : decode cL_letter 47 = .ok (.iconst 1, 1) := by decide +kernel
theorem dL_letter_48 : decode cL_letter 48 = .ok (.if_icmp .ne 8, 3) := by decide +kernel
theorem dL_letter_51 : decode cL_letter 51 = .ok (.bipush 102, 2) := by decide +kernel
theorem dL_letter_53 : decode cL_letter 53 = .ok (.goto 63, 3) := by decide +kernel
theorem dL_letter_56 : decode cL_letter 56 = .ok (.iload_n 0, 1) := by decide +kernel
theorem dL_letter_57 : decode cL_letter 57 = .ok (.iconst 2, 1) := by decide +kernel
theorem dL_letter_58 : decode cL_letter 58 = .ok (.if_icmp .ne 8, 3) := by decide +kernel
theorem dL_letter_61 : decode cL_letter 61 = .ok (.bipush 110, 2) := by decide +kernel
theorem dL_letter_63 : decode cL_letter 63 = .ok (.goto 53, 3) := by decide +kernel
theorem dL_letter_66 : decode cL_letter 66 = .ok (.iload_n 0, 1) := by decide +kernel
theorem dL_letter_67 : decode cL_letter 67 = .ok (.iconst 4, 1) := by decide +kernel
theorem dL_letter_68 : decode cL_letter 68 = .ok (.if_icmp .eq 9, 3) := by decide +kernel
theorem dL_letter_71 : decode cL_letter 71 = .ok (.iload_n 0, 1) := by decide +kernel
theorem dL_letter_72 : decode cL_letter 72 = .ok (.bipush 14, 2) := by decide +kernel
theorem dL_letter_74 : decode cL_letter 74 = .ok (.if_icmp .ne 8, 3) := by decide +kernel
theorem dL_letter_77 : decode cL_letter 77 = .ok (.bipush 108, 2) := by decide +kernel
theorem dL_letter_79 : decode cL_letter 79 = .ok (.goto 37, 3) := by decide +kernel
theorem dL_letter_82 : decode cL_letter 82 = .ok (.iload_n 0, 1) := by decide +kernel
theorem dL_letter_83 : decode cL_letter 83 = .ok (.iconst 5, 1) := by decide +kernel
theorem dL_letter_84 : decode cL_letter 84 = .ok (.if_icmp .ne 8, 3) := by decide +kernel
theorem dL_letter_87 : decode cL_letter 87 = .ok (.bipush 101, 2) := by decide +kernel
theorem dL_letter_89 : decode cL_letter 89 = .ok (.goto 27, 3) := by decide +kernel
theorem dL_letter_92 : decode cL_letter 92 = .ok (.iload_n 0, 1) := by decide +kernel
theorem dL_letter_93 : decode cL_letter 93 = .ok (.bipush 12, 2) := by decide +kernel
theorem dL_letter_95 : decode cL_letter 95 = .ok (.if_icmp .ne 8, 3) := by decide +kernel
theorem dL_letter_98 : decode cL_letter 98 = .ok (.bipush 105, 2) := by decide +kernel
theorem dL_letter_100 : decode cL_letter 100 = .ok (.goto 16, 3) := by decide +kernel
theorem dL_letter_103 : decode cL_letter 103 = .ok (.iload_n 0, 1) := by decide +kernel
theorem dL_letter_104 : decode cL_letter 104 = .ok (.bipush 13, 2) := by decide +kernel
theorem dL_letter_106 : decode cL_letter 106 = .ok (.if_icmp .ne 8, 3) := by decide +kernel
theorem dL_letter_109 : decode cL_letter 109 = .ok (.bipush 97, 2) := by decide +kernel
theorem dL_letter_111 : decode cL_letter 111 = .ok (.goto 5, 3) := by decide +kernel
theorem dL_letter_114 : decode cL_letter 114 = .ok (.bipush 111, 2) := by decide +kernel
theorem dL_letter_116 : decode cL_letter 116 = .ok (.istore_n 3, 1) := by decide +kernel
theorem dL_letter_117 : decode cL_letter 117 = .ok (.iload_n 0, 1) := by decide +kernel
theorem dL_letter_118 : decode cL_letter 118 = .ok (.iconst 4, 1) := by decide +kernel
theorem dL_letter_119 : decode cL_letter 119 = .ok (.if_icmp .ne 8, 3) := by decide +kernel
theorem dL_letter_122 : decode cL_letter 122 = .ok (.bipush 100, 2) := by decide +kernel
theorem dL_letter_124 : decode cL_letter 124 = .ok (.goto 53, 3) := by decide +kernel
theorem dL_letter_127 : decode cL_letter 127 = .ok (.iload_n 0, 1) := by decide +kernel
