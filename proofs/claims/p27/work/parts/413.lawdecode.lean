theorem dL_isKept_189 : decode cL_isKept 189 = .ok (.ifCond .ne 7, 3) := by decide +kernel
theorem dL_isKept_192 : decode cL_isKept 192 = .ok (.iconst 1, 1) := by decide +kernel
theorem dL_isKept_193 : decode cL_isKept 193 = .ok (.goto 4, 3) := by decide +kernel
theorem dL_isKept_196 : decode cL_isKept 196 = .ok (.iconst 0, 1) := by decide +kernel
theorem dL_isKept_197 : decode cL_isKept 197 = .ok (.ireturn, 1) := by decide +kernel
theorem dL_areDigits_0 : decode cL_areDigits 0 = .ok (.aload_n 0, 1) := by decide +kernel
theorem dL_areDigits_1 : decode cL_areDigits 1 = .ok (.iload_n 1, 1) := by decide +kernel
theorem dL_areDigits_2 : decode cL_areDigits 2 = .ok (.invokevirtual 47, 3) := by decide +kernel
theorem dL_areDigits_5 : decode cL_areDigits 5 = .ok (.istore 4, 2) := by decide +kernel
theorem dL_areDigits_7 : decode cL_areDigits 7 = .ok (.aload_n 0, 1) := by decide +kernel
theorem dL_areDigits_8 : decode cL_areDigits 8 = .ok (.iload_n 1, 1) := by decide +kernel
theorem dL_areDigits_9 : decode cL_areDigits 9 = .ok (.invokevirtual 50, 3) := by decide +kernel
theorem dL_areDigits_12 : decode cL_areDigits 12 = .ok (.lstore 5, 2) := by decide +kernel
theorem dL_areDigits_14 : decode cL_areDigits 14 = .ok (.aload_n 0, 1) := by decide +kernel
theorem dL_areDigits_15 : decode cL_areDigits 15 = .ok (.bipush 9, 2) := by decide +kernel
theorem dL_areDigits_17 : decode cL_areDigits 17 = .ok (.iload_n 1, 1) := by decide +kernel
theorem dL_areDigits_18 : decode cL_areDigits 18 = .ok (.bipush 24, 2) := by decide +kernel
theorem dL_areDigits_20 : decode cL_areDigits 20 = .ok (.iconst 0, 1) := by decide +kernel
theorem dL_areDigits_21 : decode cL_areDigits 21 = .ok (.invokestatic 108, 3) := by decide +kernel
theorem dL_areDigits_24 : decode cL_areDigits 24 = .ok (.lstore 7, 2) := by decide +kernel
theorem dL_areDigits_26 : decode cL_areDigits 26 = .ok (.aload_n 0, 1) := by decide +kernel
theorem dL_areDigits_27 : decode cL_areDigits 27 = .ok (.bipush 9, 2) := by decide +kernel
theorem dL_areDigits_29 : decode cL_areDigits 29 = .ok (.iload_n 1, 1) := by decide +kernel
theorem dL_areDigits_30 : decode cL_areDigits 30 = .ok (.bipush 24, 2) := by decide +kernel
theorem dL_areDigits_32 : decode cL_areDigits 32 = .ok (.iconst 1, 1) := by decide +kernel
theorem dL_areDigits_33 : decode cL_areDigits 33 = .ok (.invokestatic 108, 3) := by decide +kernel
theorem dL_areDigits_36 : decode cL_areDigits 36 = .ok (.lstore 9, 2) := by decide +kernel
theorem dL_areDigits_38 : decode cL_areDigits 38 = .ok (.lconst 1, 1) := by decide +kernel
theorem dL_areDigits_39 : decode cL_areDigits 39 = .ok (.bipush 24, 2) := by decide +kernel
theorem dL_areDigits_41 : decode cL_areDigits 41 = .ok (.iload 4, 2) := by decide +kernel
theorem dL_areDigits_43 : decode cL_areDigits 43 = .ok (.isub, 1) := by decide +kernel
theorem dL_areDigits_44 : decode cL_areDigits 44 = .ok (.lshl, 1) := by decide +kernel
theorem dL_areDigits_45 : decode cL_areDigits 45 = .ok (.lstore 11, 2) := by decide +kernel
theorem dL_areDigits_47 : decode cL_areDigits 47 = .ok (.iload 4, 2) := by decide +kernel
theorem dL_areDigits_49 : decode cL_areDigits 49 = .ok (.ifCond .ne 10, 3) := by decide +kernel
theorem dL_areDigits_52 : decode cL_areDigits 52 = .ok (.lload 5, 2) := by decide +kernel
theorem dL_areDigits_54 : decode cL_areDigits 54 = .ok (.lconst 0, 1) := by decide +kernel
theorem dL_areDigits_55 : decode cL_areDigits 55 = .ok (.lcmp, 1) := by decide +kernel
theorem dL_areDigits_56 : decode cL_areDigits 56 = .ok (.ifCond .eq 50, 3) := by decide +kernel
theorem dL_areDigits_59 : decode cL_areDigits 59 = .ok (.lload 9, 2) := by decide +kernel
theorem dL_areDigits_61 : decode cL_areDigits 61 = .ok (.lload 5, 2) := by decide +kernel
theorem dL_areDigits_63 : decode cL_areDigits 63 = .ok (.lconst 1, 1) := by decide +kernel
theorem dL_areDigits_64 : decode cL_areDigits 64 = .ok (.lsub, 1) := by decide +kernel
theorem dL_areDigits_65 : decode cL_areDigits 65 = .ok (.lload 11, 2) := by decide +kernel
theorem dL_areDigits_67 : decode cL_areDigits 67 = .ok (.lmul, 1) := by decide +kernel
theorem dL_areDigits_68 : decode cL_areDigits 68 = .ok (.lcmp, 1) := by decide +kernel
theorem dL_areDigits_69 : decode cL_areDigits 69 = .ok (.ifCond .lt 41, 3) := by decide +kernel
theorem dL_areDigits_72 : decode cL_areDigits 72 = .ok (.lload 7, 2) := by decide +kernel
theorem dL_areDigits_74 : decode cL_areDigits 74 = .ok (.lload 5, 2) := by decide +kernel
theorem dL_areDigits_76 : decode cL_areDigits 76 = .ok (.lconst 1, 1) := by decide +kernel
theorem dL_areDigits_77 : decode cL_areDigits 77 = .ok (.ladd, 1) := by decide +kernel
theorem dL_areDigits_78 : decode cL_areDigits 78 = .ok (.lload 11, 2) := by decide +kernel
theorem dL_areDigits_80 : decode cL_areDigits 80 = .ok (.lmul, 1) := by decide +kernel
theorem dL_areDigits_81 : decode cL_areDigits 81 = .ok (.lcmp, 1) := by decide +kernel
theorem dL_areDigits_82 : decode cL_areDigits 82 = .ok (.ifCond .gt 28, 3) := by decide +kernel
theorem dL_areDigits_85 : decode cL_areDigits 85 = .ok (.lload 5, 2) := by decide +kernel
theorem dL_areDigits_87 : decode cL_areDigits 87 = .ok (.lconst 1, 1) := by decide +kernel
theorem dL_areDigits_88 : decode cL_areDigits 88 = .ok (.iload 4, 2) := by decide +kernel
theorem dL_areDigits_90 : decode cL_areDigits 90 = .ok (.lshl, 1) := by decide +kernel
theorem dL_areDigits_91 : decode cL_areDigits 91 = .ok (.lcmp, 1) := by decide +kernel
theorem dL_areDigits_92 : decode cL_areDigits 92 = .ok (.ifCond .ge 18, 3) := by decide +kernel
theorem dL_areDigits_95 : decode cL_areDigits 95 = .ok (.lload 5, 2) := by decide +kernel
theorem dL_areDigits_97 : decode cL_areDigits 97 = .ok (.lconst 1, 1) := by decide +kernel
theorem dL_areDigits_98 : decode cL_areDigits 98 = .ok (.iload 4, 2) := by decide +kernel
theorem dL_areDigits_100 : decode cL_areDigits 100 = .ok (.lshl, 1) := by decide +kernel
theorem dL_areDigits_101 : decode cL_areDigits 101 = .ok (.lneg, 1) := by decide +kernel
theorem dL_areDigits_102 : decode cL_areDigits 102 = .ok (.lcmp, 1) := by decide +kernel
theorem dL_areDigits_103 : decode cL_areDigits 103 = .ok (.ifCond .le 7, 3) := by decide +kernel
theorem dL_areDigits_106 : decode cL_areDigits 106 = .ok (.iconst 1, 1) := by decide +kernel
theorem dL_areDigits_107 : decode cL_areDigits 107 = .ok (.goto 4, 3) := by decide +kernel
theorem dL_areDigits_110 : decode cL_areDigits 110 = .ok (.iconst 0, 1) := by decide +kernel
theorem dL_areDigits_111 : decode cL_areDigits 111 = .ok (.istore 13, 2) := by decide +kernel
theorem dL_areDigits_113 : decode cL_areDigits 113 = .ok (.iload 13, 2) := by decide +kernel
theorem dL_areDigits_115 : decode cL_areDigits 115 = .ok (.ifCond .eq 70, 3) := by decide +kernel
theorem dL_areDigits_118 : decode cL_areDigits 118 = .ok (.aload_n 0, 1) := by decide +kernel
theorem dL_areDigits_119 : decode cL_areDigits 119 = .ok (.iload_n 1, 1) := by decide +kernel
theorem dL_areDigits_120 : decode cL_areDigits 120 = .ok (.iload_n 1, 1) := by decide +kernel
theorem dL_areDigits_121 : decode cL_areDigits 121 = .ok (.iload_n 2, 1) := by decide +kernel
theorem dL_areDigits_122 : decode cL_areDigits 122 = .ok (.iload_n 3, 1) := by decide +kernel
theorem dL_areDigits_123 : decode cL_areDigits 123 = .ok (.iconst 1, 1) := by decide +kernel
theorem dL_areDigits_124 : decode cL_areDigits 124 = .ok (.invokestatic 116, 3) := by decide +kernel
theorem dL_areDigits_127 : decode cL_areDigits 127 = .ok (.aload_n 0, 1) := by decide +kernel
theorem dL_areDigits_128 : decode cL_areDigits 128 = .ok (.bipush 8, 2) := by decide +kernel
theorem dL_areDigits_130 : decode cL_areDigits 130 = .ok (.iload_n 2, 1) := by decide +kernel
theorem dL_areDigits_131 : decode cL_areDigits 131 = .ok (.iload_n 3, 1) := by decide +kernel
theorem dL_areDigits_132 : decode cL_areDigits 132 = .ok (.iconst 1, 1) := by decide +kernel
theorem dL_areDigits_133 : decode cL_areDigits 133 = .ok (.invokestatic 108, 3) := by decide +kernel
theorem dL_areDigits_136 : decode cL_areDigits 136 = .ok (.lcmp, 1) := by decide +kernel
theorem dL_areDigits_137 : decode cL_areDigits 137 = .ok (.ifCond .ne 48, 3) := by decide +kernel
theorem dL_areDigits_140 : decode cL_areDigits 140 = .ok (.aload_n 0, 1) := by decide +kernel
theorem dL_areDigits_141 : decode cL_areDigits 141 = .ok (.iload_n 1, 1) := by decide +kernel
theorem dL_areDigits_142 : decode cL_areDigits 142 = .ok (.iload_n 2, 1) := by decide +kernel
theorem dL_areDigits_143 : decode cL_areDigits 143 = .ok (.iload_n 2, 1) := by decide +kernel
theorem dL_areDigits_144 : decode cL_areDigits 144 = .ok (.iload_n 3, 1) := by decide +kernel
theorem dL_areDigits_145 : decode cL_areDigits 145 = .ok (.iconst 0, 1) := by decide +kernel
theorem dL_areDigits_146 : decode cL_areDigits 146 = .ok (.invokestatic 116, 3) := by decide +kernel
theorem dL_areDigits_149 : decode cL_areDigits 149 = .ok (.aload_n 0, 1) := by decide +kernel
theorem dL_areDigits_150 : decode cL_areDigits 150 = .ok (.bipush 8, 2) := by decide +kernel
theorem dL_areDigits_152 : decode cL_areDigits 152 = .ok (.iload_n 1, 1) := by decide +kernel
theorem dL_areDigits_153 : decode cL_areDigits 153 = .ok (.iload_n 3, 1) := by decide +kernel
theorem dL_areDigits_154 : decode cL_areDigits 154 = .ok (.iconst 0, 1) := by decide +kernel
theorem dL_areDigits_155 : decode cL_areDigits 155 = .ok (.invokestatic 108, 3) := by decide +kernel
theorem dL_areDigits_158 : decode cL_areDigits 158 = .ok (.lcmp, 1) := by decide +kernel
theorem dL_areDigits_159 : decode cL_areDigits 159 = .ok (.ifCond .ne 26, 3) := by decide +kernel
theorem dL_areDigits_162 : decode cL_areDigits 162 = .ok (.aload_n 0, 1) := by decide +kernel
theorem dL_areDigits_163 : decode cL_areDigits 163 = .ok (.iload_n 1, 1) := by decide +kernel
theorem dL_areDigits_164 : decode cL_areDigits 164 = .ok (.invokevirtual 57, 3) := by decide +kernel
theorem dL_areDigits_167 : decode cL_areDigits 167 = .ok (.ifCond .le 18, 3) := by decide +kernel
theorem dL_areDigits_170 : decode cL_areDigits 170 = .ok (.aload_n 0, 1) := by decide +kernel
theorem dL_areDigits_171 : decode cL_areDigits 171 = .ok (.iload_n 1, 1) := by decide +kernel
theorem dL_areDigits_172 : decode cL_areDigits 172 = .ok (.invokevirtual 57, 3) := by decide +kernel
theorem dL_areDigits_175 : decode cL_areDigits 175 = .ok (.iload_n 1, 1) := by decide +kernel
theorem dL_areDigits_176 : decode cL_areDigits 176 = .ok (.iconst 1, 1) := by decide +kernel
theorem dL_areDigits_177 : decode cL_areDigits 177 = .ok (.iadd, 1) := by decide +kernel
theorem dL_areDigits_178 : decode cL_areDigits 178 = .ok (.if_icmp .gt 7, 3) := by decide +kernel
theorem dL_areDigits_181 : decode cL_areDigits 181 = .ok (.iconst 1, 1) := by decide +kernel
theorem dL_areDigits_182 : decode cL_areDigits 182 = .ok (.goto 4, 3) := by decide +kernel
theorem dL_areDigits_185 : decode cL_areDigits 185 = .ok (.iconst 0, 1) := by decide +kernel
theorem dL_areDigits_186 : decode cL_areDigits 186 = .ok (.ireturn, 1) := by decide +kernel
theorem dL_law_0 : decode cL_law 0 = .ok (.new 15, 3) := by decide +kernel
theorem dL_law_3 : decode cL_law 3 = .ok (.dup, 1) := by decide +kernel
theorem dL_law_4 : decode cL_law 4 = .ok (.invokespecial 121, 3) := by decide +kernel
theorem dL_law_7 : decode cL_law 7 = .ok (.astore_n 1, 1) := by decide +kernel
theorem dL_law_8 : decode cL_law 8 = .ok (.new 15, 3) := by decide +kernel
theorem dL_law_11 : decode cL_law 11 = .ok (.dup, 1) := by decide +kernel
theorem dL_law_12 : decode cL_law 12 = .ok (.invokespecial 121, 3) := by decide +kernel
theorem dL_law_15 : decode cL_law 15 = .ok (.astore_n 2, 1) := by decide +kernel
theorem dL_law_16 : decode cL_law 16 = .ok (.iconst 1, 1) := by decide +kernel
theorem dL_law_17 : decode cL_law 17 = .ok (.istore_n 3, 1) := by decide +kernel
theorem dL_law_18 : decode cL_law 18 = .ok (.iconst 0, 1) := by decide +kernel
theorem dL_law_19 : decode cL_law 19 = .ok (.istore 4, 2) := by decide +kernel
theorem dL_law_21 : decode cL_law 21 = .ok (.iconst 0, 1) := by decide +kernel
theorem dL_law_22 : decode cL_law 22 = .ok (.istore 5, 2) := by decide +kernel
theorem dL_law_24 : decode cL_law 24 = .ok (.iconst 0, 1) := by decide +kernel
theorem dL_law_25 : decode cL_law 25 = .ok (.istore 6, 2) := by decide +kernel
theorem dL_law_27 : decode cL_law 27 = .ok (.iload 6, 2) := by decide +kernel
theorem dL_law_29 : decode cL_law 29 = .ok (.sipush 130, 3) := by decide +kernel
theorem dL_law_32 : decode cL_law 32 = .ok (.if_icmp .ge 349, 3) := by decide +kernel
theorem dL_law_35 : decode cL_law 35 = .ok (.iload_n 3, 1) := by decide +kernel
theorem dL_law_36 : decode cL_law 36 = .ok (.ifCond .eq 345, 3) := by decide +kernel
theorem dL_law_39 : decode cL_law 39 = .ok (.iload 5, 2) := by decide +kernel
theorem dL_law_41 : decode cL_law 41 = .ok (.ldc 122, 2) := by decide +kernel
theorem dL_law_43 : decode cL_law 43 = .ok (.if_icmp .ge 338, 3) := by decide +kernel
theorem dL_law_46 : decode cL_law 46 = .ok (.aload_n 0, 1) := by decide +kernel
theorem dL_law_47 : decode cL_law 47 = .ok (.iload 6, 2) := by decide +kernel
theorem dL_law_49 : decode cL_law 49 = .ok (.bipush 61, 2) := by decide +kernel
theorem dL_law_51 : decode cL_law 51 = .ok (.irem, 1) := by decide +kernel
theorem dL_law_52 : decode cL_law 52 = .ok (.invokestatic 123, 3) := by decide +kernel
theorem dL_law_55 : decode cL_law 55 = .ok (.sipush 2137, 3) := by decide +kernel
theorem dL_law_58 : decode cL_law 58 = .ok (.iload 6, 2) := by decide +kernel
theorem dL_law_60 : decode cL_law 60 = .ok (.bipush 61, 2) := by decide +kernel
theorem dL_law_62 : decode cL_law 62 = .ok (.idiv, 1) := by decide +kernel
theorem dL_law_63 : decode cL_law 63 = .ok (.imul, 1) := by decide +kernel
theorem dL_law_64 : decode cL_law 64 = .ok (.iadd, 1) := by decide +kernel
theorem dL_law_65 : decode cL_law 65 = .ok (.istore 7, 2) := by decide +kernel
theorem dL_law_67 : decode cL_law 67 = .ok (.aload_n 1, 1) := by decide +kernel
theorem dL_law_68 : decode cL_law 68 = .ok (.invokevirtual 104, 3) := by decide +kernel
theorem dL_law_71 : decode cL_law 71 = .ok (.istore 8, 2) := by decide +kernel
theorem dL_law_73 : decode cL_law 73 = .ok (.aload_n 1, 1) := by decide +kernel
theorem dL_law_74 : decode cL_law 74 = .ok (.iload 7, 2) := by decide +kernel
theorem dL_law_76 : decode cL_law 76 = .ok (.iload 4, 2) := by decide +kernel
theorem dL_law_78 : decode cL_law 78 = .ok (.invokestatic 127, 3) := by decide +kernel
theorem dL_law_81 : decode cL_law 81 = .ok (.lstore 9, 2) := by decide +kernel
theorem dL_law_83 : decode cL_law 83 = .ok (.lload 9, 2) := by decide +kernel
theorem dL_law_85 : decode cL_law 85 = .ok (.ldc2_w 62, 3) := by decide +kernel
theorem dL_law_88 : decode cL_law 88 = .ok (.lcmp, 1) := by decide +kernel
theorem dL_law_89 : decode cL_law 89 = .ok (.ifCond .eq 17, 3) := by decide +kernel
theorem dL_law_92 : decode cL_law 92 = .ok (.aload_n 2, 1) := by decide +kernel
theorem dL_law_93 : decode cL_law 93 = .ok (.iload 7, 2) := by decide +kernel
theorem dL_law_95 : decode cL_law 95 = .ok (.iload 4, 2) := by decide +kernel
theorem dL_law_97 : decode cL_law 97 = .ok (.invokestatic 127, 3) := by decide +kernel
theorem dL_law_100 : decode cL_law 100 = .ok (.lload 9, 2) := by decide +kernel
theorem dL_law_102 : decode cL_law 102 = .ok (.lcmp, 1) := by decide +kernel
theorem dL_law_103 : decode cL_law 103 = .ok (.ifCond .ne 7, 3) := by decide +kernel
theorem dL_law_106 : decode cL_law 106 = .ok (.iconst 1, 1) := by decide +kernel
theorem dL_law_107 : decode cL_law 107 = .ok (.goto 4, 3) := by decide +kernel
theorem dL_law_110 : decode cL_law 110 = .ok (.iconst 0, 1) := by decide +kernel
theorem dL_law_111 : decode cL_law 111 = .ok (.istore_n 3, 1) := by decide +kernel
theorem dL_law_112 : decode cL_law 112 = .ok (.aload_n 1, 1) := by decide +kernel
theorem dL_law_113 : decode cL_law 113 = .ok (.invokevirtual 104, 3) := by decide +kernel
theorem dL_law_116 : decode cL_law 116 = .ok (.istore 11, 2) := by decide +kernel
theorem dL_law_118 : decode cL_law 118 = .ok (.iload 4, 2) := by decide +kernel
theorem dL_law_120 : decode cL_law 120 = .ok (.iload 11, 2) := by decide +kernel
theorem dL_law_122 : decode cL_law 122 = .ok (.iload 8, 2) := by decide +kernel
theorem dL_law_124 : decode cL_law 124 = .ok (.if_icmp .le 25, 3) := by decide +kernel
theorem dL_law_127 : decode cL_law 127 = .ok (.iload 8, 2) := by decide +kernel
theorem dL_law_129 : decode cL_law 129 = .ok (.iconst 1, 1) := by decide +kernel
theorem dL_law_130 : decode cL_law 130 = .ok (.if_icmp .le 19, 3) := by decide +kernel
theorem dL_law_133 : decode cL_law 133 = .ok (.iload 7, 2) := by decide +kernel
theorem dL_law_135 : decode cL_law 135 = .ok (.bipush 44, 2) := by decide +kernel
theorem dL_law_137 : decode cL_law 137 = .ok (.invokestatic 101, 3) := by decide +kernel
theorem dL_law_140 : decode cL_law 140 = .ok (.bipush 16, 2) := by decide +kernel
theorem dL_law_142 : decode cL_law 142 = .ok (.if_icmp .ne 7, 3) := by decide +kernel
theorem dL_law_145 : decode cL_law 145 = .ok (.iconst 1, 1) := by decide +kernel
theorem dL_law_146 : decode cL_law 146 = .ok (.goto 4, 3) := by decide +kernel
theorem dL_law_149 : decode cL_law 149 = .ok (.iconst 0, 1) := by decide +kernel
theorem dL_law_150 : decode cL_law 150 = .ok (.iadd, 1) := by decide +kernel
theorem dL_law_151 : decode cL_law 151 = .ok (.istore 4, 2) := by decide +kernel
theorem dL_law_153 : decode cL_law 153 = .ok (.iload 5, 2) := by decide +kernel
theorem dL_law_155 : decode cL_law 155 = .ok (.bipush 14, 2) := by decide +kernel
theorem dL_law_157 : decode cL_law 157 = .ok (.iload 11, 2) := by decide +kernel
theorem dL_law_159 : decode cL_law 159 = .ok (.bipush 40, 2) := by decide +kernel
theorem dL_law_161 : decode cL_law 161 = .ok (.iload 4, 2) := by decide +kernel
theorem dL_law_163 : decode cL_law 163 = .ok (.imul, 1) := by decide +kernel
theorem dL_law_164 : decode cL_law 164 = .ok (.iadd, 1) := by decide +kernel
theorem dL_law_165 : decode cL_law 165 = .ok (.imul, 1) := by decide +kernel
theorem dL_law_166 : decode cL_law 166 = .ok (.iadd, 1) := by decide +kernel
theorem dL_law_167 : decode cL_law 167 = .ok (.istore 5, 2) := by decide +kernel
theorem dL_law_169 : decode cL_law 169 = .ok (.iload 7, 2) := by decide +kernel
theorem dL_law_171 : decode cL_law 171 = .ok (.iconst 5, 1) := by decide +kernel
theorem dL_law_172 : decode cL_law 172 = .ok (.ishr, 1) := by decide +kernel
theorem dL_law_173 : decode cL_law 173 = .ok (.ldc 131, 2) := by decide +kernel
theorem dL_law_175 : decode cL_law 175 = .ok (.iand, 1) := by decide +kernel
theorem dL_law_176 : decode cL_law 176 = .ok (.istore 12, 2) := by decide +kernel
theorem dL_law_178 : decode cL_law 178 = .ok (.iload 12, 2) := by decide +kernel
theorem dL_law_180 : decode cL_law 180 = .ok (.iload 11, 2) := by decide +kernel
theorem dL_law_182 : decode cL_law 182 = .ok (.iconst 1, 1) := by decide +kernel
theorem dL_law_183 : decode cL_law 183 = .ok (.if_icmp .ge 7, 3) := by decide +kernel
theorem dL_law_186 : decode cL_law 186 = .ok (.iconst 1, 1) := by decide +kernel
theorem dL_law_187 : decode cL_law 187 = .ok (.goto 5, 3) := by decide +kernel
theorem dL_law_190 : decode cL_law 190 = .ok (.iload 11, 2) := by decide +kernel
theorem dL_law_192 : decode cL_law 192 = .ok (.invokestatic 101, 3) := by decide +kernel
theorem dL_law_195 : decode cL_law 195 = .ok (.istore 13, 2) := by decide +kernel
theorem dL_law_197 : decode cL_law 197 = .ok (.iload 12, 2) := by decide +kernel
theorem dL_law_199 : decode cL_law 199 = .ok (.iconst 3, 1) := by decide +kernel
theorem dL_law_200 : decode cL_law 200 = .ok (.ishr, 1) := by decide +kernel
theorem dL_law_201 : decode cL_law 201 = .ok (.iload 11, 2) := by decide +kernel
theorem dL_law_203 : decode cL_law 203 = .ok (.iconst 1, 1) := by decide +kernel
theorem dL_law_204 : decode cL_law 204 = .ok (.if_icmp .ge 7, 3) := by decide +kernel
theorem dL_law_207 : decode cL_law 207 = .ok (.iconst 1, 1) := by decide +kernel
theorem dL_law_208 : decode cL_law 208 = .ok (.goto 5, 3) := by decide +kernel
theorem dL_law_211 : decode cL_law 211 = .ok (.iload 11, 2) := by decide +kernel
theorem dL_law_213 : decode cL_law 213 = .ok (.invokestatic 101, 3) := by decide +kernel
theorem dL_law_216 : decode cL_law 216 = .ok (.istore 14, 2) := by decide +kernel
theorem dL_law_218 : decode cL_law 218 = .ok (.iload 11, 2) := by decide +kernel
theorem dL_law_220 : decode cL_law 220 = .ok (.iconst 1, 1) := by decide +kernel
theorem dL_law_221 : decode cL_law 221 = .ok (.if_icmp .le 118, 3) := by decide +kernel
theorem dL_law_224 : decode cL_law 224 = .ok (.iload 6, 2) := by decide +kernel
theorem dL_law_226 : decode cL_law 226 = .ok (.iconst 4, 1) := by decide +kernel
theorem dL_law_227 : decode cL_law 227 = .ok (.irem, 1) := by decide +kernel
theorem dL_law_228 : decode cL_law 228 = .ok (.iconst 3, 1) := by decide +kernel
theorem dL_law_229 : decode cL_law 229 = .ok (.if_icmp .ne 110, 3) := by decide +kernel
theorem dL_law_232 : decode cL_law 232 = .ok (.iload_n 3, 1) := by decide +kernel
theorem dL_law_233 : decode cL_law 233 = .ok (.ifCond .eq 106, 3) := by decide +kernel
theorem dL_law_236 : decode cL_law 236 = .ok (.iload 6, 2) := by decide +kernel
theorem dL_law_238 : decode cL_law 238 = .ok (.bipush 12, 2) := by decide +kernel
theorem dL_law_240 : decode cL_law 240 = .ok (.irem, 1) := by decide +kernel
theorem dL_law_241 : decode cL_law 241 = .ok (.iconst 3, 1) := by decide +kernel
theorem dL_law_242 : decode cL_law 242 = .ok (.if_icmp .ne 21, 3) := by decide +kernel
theorem dL_law_245 : decode cL_law 245 = .ok (.aload_n 1, 1) := by decide +kernel
theorem dL_law_246 : decode cL_law 246 = .ok (.iload 13, 2) := by decide +kernel
theorem dL_law_248 : decode cL_law 248 = .ok (.iload 12, 2) := by decide +kernel
theorem dL_law_250 : decode cL_law 250 = .ok (.iconst 5, 1) := by decide +kernel
theorem dL_law_251 : decode cL_law 251 = .ok (.ishr, 1) := by decide +kernel
theorem dL_law_252 : decode cL_law 252 = .ok (.bipush 14, 2) := by decide +kernel
theorem dL_law_254 : decode cL_law 254 = .ok (.invokestatic 101, 3) := by decide +kernel
theorem dL_law_257 : decode cL_law 257 = .ok (.invokestatic 132, 3) := by decide +kernel
theorem dL_law_260 : decode cL_law 260 = .ok (.goto 62, 3) := by decide +kernel
theorem dL_law_263 : decode cL_law 263 = .ok (.iload 6, 2) := by decide +kernel
theorem dL_law_265 : decode cL_law 265 = .ok (.bipush 12, 2) := by decide +kernel
theorem dL_law_267 : decode cL_law 267 = .ok (.irem, 1) := by decide +kernel
theorem dL_law_268 : decode cL_law 268 = .ok (.bipush 7, 2) := by decide +kernel
theorem dL_law_270 : decode cL_law 270 = .ok (.if_icmp .ne 35, 3) := by decide +kernel
theorem dL_law_273 : decode cL_law 273 = .ok (.aload_n 1, 1) := by decide +kernel
theorem dL_law_274 : decode cL_law 274 = .ok (.iload 13, 2) := by decide +kernel
theorem dL_law_276 : decode cL_law 276 = .ok (.iload 14, 2) := by decide +kernel
theorem dL_law_278 : decode cL_law 278 = .ok (.iload 12, 2) := by decide +kernel
theorem dL_law_280 : decode cL_law 280 = .ok (.iconst 5, 1) := by decide +kernel
theorem dL_law_281 : decode cL_law 281 = .ok (.ishr, 1) := by decide +kernel
theorem dL_law_282 : decode cL_law 282 = .ok (.bipush 9, 2) := by decide +kernel
theorem dL_law_284 : decode cL_law 284 = .ok (.invokestatic 101, 3) := by decide +kernel
theorem dL_law_287 : decode cL_law 287 = .ok (.bipush 9, 2) := by decide +kernel
theorem dL_law_289 : decode cL_law 289 = .ok (.iload 12, 2) := by decide +kernel
theorem dL_law_291 : decode cL_law 291 = .ok (.iconst 2, 1) := by decide +kernel
theorem dL_law_292 : decode cL_law 292 = .ok (.ishr, 1) := by decide +kernel
theorem dL_law_293 : decode cL_law 293 = .ok (.bipush 6, 2) := by decide +kernel
theorem dL_law_295 : decode cL_law 295 = .ok (.invokestatic 101, 3) := by decide +kernel
theorem dL_law_298 : decode cL_law 298 = .ok (.iadd, 1) := by decide +kernel
theorem dL_law_299 : decode cL_law 299 = .ok (.invokestatic 136, 3) := by decide +kernel
theorem dL_law_302 : decode cL_law 302 = .ok (.goto 20, 3) := by decide +kernel
theorem dL_law_305 : decode cL_law 305 = .ok (.aload_n 1, 1) := by decide +kernel
theorem dL_law_306 : decode cL_law 306 = .ok (.iload 13, 2) := by decide +kernel
theorem dL_law_308 : decode cL_law 308 = .ok (.iload 14, 2) := by decide +kernel
theorem dL_law_310 : decode cL_law 310 = .ok (.iload 12, 2) := by decide +kernel
theorem dL_law_312 : decode cL_law 312 = .ok (.iconst 5, 1) := by decide +kernel
theorem dL_law_313 : decode cL_law 313 = .ok (.ishr, 1) := by decide +kernel
theorem dL_law_314 : decode cL_law 314 = .ok (.bipush 14, 2) := by decide +kernel
theorem dL_law_316 : decode cL_law 316 = .ok (.invokestatic 101, 3) := by decide +kernel
theorem dL_law_319 : decode cL_law 319 = .ok (.invokestatic 140, 3) := by decide +kernel
theorem dL_law_322 : decode cL_law 322 = .ok (.istore_n 3, 1) := by decide +kernel
theorem dL_law_323 : decode cL_law 323 = .ok (.iload 5, 2) := by decide +kernel
theorem dL_law_325 : decode cL_law 325 = .ok (.bipush 60, 2) := by decide +kernel
theorem dL_law_327 : decode cL_law 327 = .ok (.iload 11, 2) := by decide +kernel
theorem dL_law_329 : decode cL_law 329 = .ok (.bipush 40, 2) := by decide +kernel
theorem dL_law_331 : decode cL_law 331 = .ok (.iload 4, 2) := by decide +kernel
theorem dL_law_333 : decode cL_law 333 = .ok (.imul, 1) := by decide +kernel
theorem dL_law_334 : decode cL_law 334 = .ok (.iadd, 1) := by decide +kernel
theorem dL_law_335 : decode cL_law 335 = .ok (.imul, 1) := by decide +kernel
theorem dL_law_336 : decode cL_law 336 = .ok (.iadd, 1) := by decide +kernel
theorem dL_law_337 : decode cL_law 337 = .ok (.istore 5, 2) := by decide +kernel
theorem dL_law_339 : decode cL_law 339 = .ok (.iload_n 3, 1) := by decide +kernel
theorem dL_law_340 : decode cL_law 340 = .ok (.ifCond .eq 33, 3) := by decide +kernel
theorem dL_law_343 : decode cL_law 343 = .ok (.iload 11, 2) := by decide +kernel
theorem dL_law_345 : decode cL_law 345 = .ok (.iconst 1, 1) := by decide +kernel
theorem dL_law_346 : decode cL_law 346 = .ok (.if_icmp .lt 23, 3) := by decide +kernel
theorem dL_law_349 : decode cL_law 349 = .ok (.iload 6, 2) := by decide +kernel
theorem dL_law_351 : decode cL_law 351 = .ok (.bipush 40, 2) := by decide +kernel
theorem dL_law_353 : decode cL_law 353 = .ok (.irem, 1) := by decide +kernel
theorem dL_law_354 : decode cL_law 354 = .ok (.bipush 39, 2) := by decide +kernel
theorem dL_law_356 : decode cL_law 356 = .ok (.if_icmp .ne 13, 3) := by decide +kernel
theorem dL_law_359 : decode cL_law 359 = .ok (.aload_n 1, 1) := by decide +kernel
theorem dL_law_360 : decode cL_law 360 = .ok (.aload_n 2, 1) := by decide +kernel
theorem dL_law_361 : decode cL_law 361 = .ok (.iload 12, 2) := by decide +kernel
theorem dL_law_363 : decode cL_law 363 = .ok (.invokestatic 144, 3) := by decide +kernel
theorem dL_law_366 : decode cL_law 366 = .ok (.ifCond .eq 7, 3) := by decide +kernel
theorem dL_law_369 : decode cL_law 369 = .ok (.iconst 1, 1) := by decide +kernel
theorem dL_law_370 : decode cL_law 370 = .ok (.goto 4, 3) := by decide +kernel
theorem dL_law_373 : decode cL_law 373 = .ok (.iconst 0, 1) := by decide +kernel
theorem dL_law_374 : decode cL_law 374 = .ok (.istore_n 3, 1) := by decide +kernel
theorem dL_law_375 : decode cL_law 375 = .ok (.iinc 6 1, 3) := by decide +kernel
theorem dL_law_378 : decode cL_law 378 = .ok (.goto (-351), 3) := by decide +kernel
theorem dL_law_381 : decode cL_law 381 = .ok (.iload_n 3, 1) := by decide +kernel
theorem dL_law_382 : decode cL_law 382 = .ok (.ifCond .eq 23, 3) := by decide +kernel
theorem dL_law_385 : decode cL_law 385 = .ok (.aload_n 1, 1) := by decide +kernel
theorem dL_law_386 : decode cL_law 386 = .ok (.invokevirtual 104, 3) := by decide +kernel
theorem dL_law_389 : decode cL_law 389 = .ok (.ifCond .eq 12, 3) := by decide +kernel
theorem dL_law_392 : decode cL_law 392 = .ok (.aload_n 1, 1) := by decide +kernel
theorem dL_law_393 : decode cL_law 393 = .ok (.aload_n 2, 1) := by decide +kernel
theorem dL_law_394 : decode cL_law 394 = .ok (.iconst 5, 1) := by decide +kernel
theorem dL_law_395 : decode cL_law 395 = .ok (.invokestatic 144, 3) := by decide +kernel
theorem dL_law_398 : decode cL_law 398 = .ok (.ifCond .eq 7, 3) := by decide +kernel
theorem dL_law_401 : decode cL_law 401 = .ok (.iconst 1, 1) := by decide +kernel
theorem dL_law_402 : decode cL_law 402 = .ok (.goto 4, 3) := by decide +kernel
theorem dL_law_405 : decode cL_law 405 = .ok (.iconst 0, 1) := by decide +kernel
theorem dL_law_406 : decode cL_law 406 = .ok (.ireturn, 1) := by decide +kernel

