theorem dL_cell_0 : decode cL_cell 0 = .ok (.iload_n 1, 1) := by decide +kernel
theorem dL_cell_1 : decode cL_cell 1 = .ok (.aload_n 0, 1) := by decide +kernel
theorem dL_cell_2 : decode cL_cell 2 = .ok (.arraylength, 1) := by decide +kernel
theorem dL_cell_3 : decode cL_cell 3 = .ok (.if_icmp .ge 9, 3) := by decide +kernel
theorem dL_cell_6 : decode cL_cell 6 = .ok (.aload_n 0, 1) := by decide +kernel
theorem dL_cell_7 : decode cL_cell 7 = .ok (.iload_n 1, 1) := by decide +kernel
theorem dL_cell_8 : decode cL_cell 8 = .ok (.iaload, 1) := by decide +kernel
theorem dL_cell_9 : decode cL_cell 9 = .ok (.goto 18, 3) := by decide +kernel
theorem dL_cell_12 : decode cL_cell 12 = .ok (.sipush 7919, 3) := by decide +kernel
theorem dL_cell_15 : decode cL_cell 15 = .ok (.iload_n 1, 1) := by decide +kernel
theorem dL_cell_16 : decode cL_cell 16 = .ok (.sipush 1877, 3) := by decide +kernel
theorem dL_cell_19 : decode cL_cell 19 = .ok (.iadd, 1) := by decide +kernel
theorem dL_cell_20 : decode cL_cell 20 = .ok (.imul, 1) := by decide +kernel
theorem dL_cell_21 : decode cL_cell 21 = .ok (.iload_n 1, 1) := by decide +kernel
theorem dL_cell_22 : decode cL_cell 22 = .ok (.sipush 4421, 3) := by decide +kernel
theorem dL_cell_25 : decode cL_cell 25 = .ok (.iadd, 1) := by decide +kernel
theorem dL_cell_26 : decode cL_cell 26 = .ok (.imul, 1) := by decide +kernel
theorem dL_cell_27 : decode cL_cell 27 = .ok (.ireturn, 1) := by decide +kernel
theorem dL_low_0 : decode cL_low 0 = .ok (.iload_n 0, 1) := by decide +kernel
theorem dL_low_1 : decode cL_low 1 = .ok (.ldc 7, 2) := by decide +kernel
theorem dL_low_3 : decode cL_low 3 = .ok (.iand, 1) := by decide +kernel
theorem dL_low_4 : decode cL_low 4 = .ok (.iload_n 1, 1) := by decide +kernel
theorem dL_low_5 : decode cL_low 5 = .ok (.irem, 1) := by decide +kernel
theorem dL_low_6 : decode cL_low 6 = .ok (.ireturn, 1) := by decide +kernel
theorem dL_does_0 : decode cL_does 0 = .ok (.iload_n 1, 1) := by decide +kernel
theorem dL_does_1 : decode cL_does 1 = .ok (.bipush 8, 2) := by decide +kernel
theorem dL_does_3 : decode cL_does 3 = .ok (.if_icmp .ge 14, 3) := by decide +kernel
theorem dL_does_6 : decode cL_does 6 = .ok (.aload_n 0, 1) := by decide +kernel
theorem dL_does_7 : decode cL_does 7 = .ok (.iload_n 1, 1) := by decide +kernel
theorem dL_does_8 : decode cL_does 8 = .ok (.iload_n 2, 1) := by decide +kernel
theorem dL_does_9 : decode cL_does 9 = .ok (.iload_n 3, 1) := by decide +kernel
theorem dL_does_10 : decode cL_does 10 = .ok (.invokestatic 8, 3) := by decide +kernel
theorem dL_does_13 : decode cL_does 13 = .ok (.i2l, 1) := by decide +kernel
theorem dL_does_14 : decode cL_does 14 = .ok (.goto 222, 3) := by decide +kernel
theorem dL_does_17 : decode cL_does 17 = .ok (.iload_n 1, 1) := by decide +kernel
theorem dL_does_18 : decode cL_does 18 = .ok (.bipush 8, 2) := by decide +kernel
theorem dL_does_20 : decode cL_does 20 = .ok (.if_icmp .ne 23, 3) := by decide +kernel
theorem dL_does_23 : decode cL_does 23 = .ok (.aload_n 0, 1) := by decide +kernel
theorem dL_does_24 : decode cL_does 24 = .ok (.iload_n 2, 1) := by decide +kernel
theorem dL_does_25 : decode cL_does 25 = .ok (.iload_n 3, 1) := by decide +kernel
theorem dL_does_26 : decode cL_does 26 = .ok (.iload 4, 2) := by decide +kernel
theorem dL_does_28 : decode cL_does 28 = .ok (.iconst 1, 1) := by decide +kernel
theorem dL_does_29 : decode cL_does 29 = .ok (.if_icmp .ne 7, 3) := by decide +kernel
theorem dL_does_32 : decode cL_does 32 = .ok (.iconst 1, 1) := by decide +kernel
theorem dL_does_33 : decode cL_does 33 = .ok (.goto 4, 3) := by decide +kernel
theorem dL_does_36 : decode cL_does 36 = .ok (.iconst 0, 1) := by decide +kernel
theorem dL_does_37 : decode cL_does 37 = .ok (.invokevirtual 14, 3) := by decide +kernel
theorem dL_does_40 : decode cL_does 40 = .ok (.goto 196, 3) := by decide +kernel
theorem dL_does_43 : decode cL_does 43 = .ok (.iload_n 1, 1) := by decide +kernel
theorem dL_does_44 : decode cL_does 44 = .ok (.bipush 9, 2) := by decide +kernel
theorem dL_does_46 : decode cL_does 46 = .ok (.if_icmp .ne 23, 3) := by decide +kernel
theorem dL_does_49 : decode cL_does 49 = .ok (.aload_n 0, 1) := by decide +kernel
theorem dL_does_50 : decode cL_does 50 = .ok (.iload_n 2, 1) := by decide +kernel
theorem dL_does_51 : decode cL_does 51 = .ok (.iload_n 3, 1) := by decide +kernel
theorem dL_does_52 : decode cL_does 52 = .ok (.iload 4, 2) := by decide +kernel
theorem dL_does_54 : decode cL_does 54 = .ok (.iconst 1, 1) := by decide +kernel
theorem dL_does_55 : decode cL_does 55 = .ok (.if_icmp .ne 7, 3) := by decide +kernel
theorem dL_does_58 : decode cL_does 58 = .ok (.iconst 1, 1) := by decide +kernel
theorem dL_does_59 : decode cL_does 59 = .ok (.goto 4, 3) := by decide +kernel
theorem dL_does_62 : decode cL_does 62 = .ok (.iconst 0, 1) := by decide +kernel
theorem dL_does_63 : decode cL_does 63 = .ok (.invokevirtual 20, 3) := by decide +kernel
theorem dL_does_66 : decode cL_does 66 = .ok (.goto 170, 3) := by decide +kernel
theorem dL_does_69 : decode cL_does 69 = .ok (.iload_n 1, 1) := by decide +kernel
theorem dL_does_70 : decode cL_does 70 = .ok (.bipush 10, 2) := by decide +kernel
theorem dL_does_72 : decode cL_does 72 = .ok (.if_icmp .ne 13, 3) := by decide +kernel
theorem dL_does_75 : decode cL_does 75 = .ok (.aload_n 0, 1) := by decide +kernel
theorem dL_does_76 : decode cL_does 76 = .ok (.iload_n 2, 1) := by decide +kernel
theorem dL_does_77 : decode cL_does 77 = .ok (.iload_n 3, 1) := by decide +kernel
theorem dL_does_78 : decode cL_does 78 = .ok (.invokevirtual 23, 3) := by decide +kernel
theorem dL_does_81 : decode cL_does 81 = .ok (.i2l, 1) := by decide +kernel
theorem dL_does_82 : decode cL_does 82 = .ok (.goto 154, 3) := by decide +kernel
theorem dL_does_85 : decode cL_does 85 = .ok (.iload_n 1, 1) := by decide +kernel
theorem dL_does_86 : decode cL_does 86 = .ok (.bipush 11, 2) := by decide +kernel
theorem dL_does_88 : decode cL_does 88 = .ok (.if_icmp .ne 15, 3) := by decide +kernel
theorem dL_does_91 : decode cL_does 91 = .ok (.aload_n 0, 1) := by decide +kernel
theorem dL_does_92 : decode cL_does 92 = .ok (.iload_n 2, 1) := by decide +kernel
theorem dL_does_93 : decode cL_does 93 = .ok (.iload_n 3, 1) := by decide +kernel
theorem dL_does_94 : decode cL_does 94 = .ok (.iload 4, 2) := by decide +kernel
theorem dL_does_96 : decode cL_does 96 = .ok (.invokevirtual 27, 3) := by decide +kernel
theorem dL_does_99 : decode cL_does 99 = .ok (.i2l, 1) := by decide +kernel
theorem dL_does_100 : decode cL_does 100 = .ok (.goto 136, 3) := by decide +kernel
theorem dL_does_103 : decode cL_does 103 = .ok (.iload_n 1, 1) := by decide +kernel
theorem dL_does_104 : decode cL_does 104 = .ok (.bipush 12, 2) := by decide +kernel
theorem dL_does_106 : decode cL_does 106 = .ok (.if_icmp .ne 13, 3) := by decide +kernel
theorem dL_does_109 : decode cL_does 109 = .ok (.aload_n 0, 1) := by decide +kernel
theorem dL_does_110 : decode cL_does 110 = .ok (.iload_n 2, 1) := by decide +kernel
theorem dL_does_111 : decode cL_does 111 = .ok (.iload_n 3, 1) := by decide +kernel
theorem dL_does_112 : decode cL_does 112 = .ok (.invokevirtual 31, 3) := by decide +kernel
theorem dL_does_115 : decode cL_does 115 = .ok (.i2l, 1) := by decide +kernel
theorem dL_does_116 : decode cL_does 116 = .ok (.goto 120, 3) := by decide +kernel
theorem dL_does_119 : decode cL_does 119 = .ok (.iload_n 1, 1) := by decide +kernel
theorem dL_does_120 : decode cL_does 120 = .ok (.bipush 13, 2) := by decide +kernel
theorem dL_does_122 : decode cL_does 122 = .ok (.if_icmp .ne 13, 3) := by decide +kernel
theorem dL_does_125 : decode cL_does 125 = .ok (.aload_n 0, 1) := by decide +kernel
theorem dL_does_126 : decode cL_does 126 = .ok (.iload_n 2, 1) := by decide +kernel
theorem dL_does_127 : decode cL_does 127 = .ok (.iload_n 3, 1) := by decide +kernel
theorem dL_does_128 : decode cL_does 128 = .ok (.invokevirtual 34, 3) := by decide +kernel
theorem dL_does_131 : decode cL_does 131 = .ok (.i2l, 1) := by decide +kernel
theorem dL_does_132 : decode cL_does 132 = .ok (.goto 104, 3) := by decide +kernel
theorem dL_does_135 : decode cL_does 135 = .ok (.iload_n 1, 1) := by decide +kernel
theorem dL_does_136 : decode cL_does 136 = .ok (.bipush 14, 2) := by decide +kernel
theorem dL_does_138 : decode cL_does 138 = .ok (.if_icmp .ne 15, 3) := by decide +kernel
theorem dL_does_141 : decode cL_does 141 = .ok (.aload_n 0, 1) := by decide +kernel
theorem dL_does_142 : decode cL_does 142 = .ok (.iload_n 2, 1) := by decide +kernel
theorem dL_does_143 : decode cL_does 143 = .ok (.iload_n 3, 1) := by decide +kernel
theorem dL_does_144 : decode cL_does 144 = .ok (.iload 4, 2) := by decide +kernel
theorem dL_does_146 : decode cL_does 146 = .ok (.invokevirtual 37, 3) := by decide +kernel
theorem dL_does_149 : decode cL_does 149 = .ok (.i2l, 1) := by decide +kernel
theorem dL_does_150 : decode cL_does 150 = .ok (.goto 86, 3) := by decide +kernel
theorem dL_does_153 : decode cL_does 153 = .ok (.iload_n 1, 1) := by decide +kernel
theorem dL_does_154 : decode cL_does 154 = .ok (.bipush 15, 2) := by decide +kernel
theorem dL_does_156 : decode cL_does 156 = .ok (.if_icmp .ne 15, 3) := by decide +kernel
theorem dL_does_159 : decode cL_does 159 = .ok (.aload_n 0, 1) := by decide +kernel
theorem dL_does_160 : decode cL_does 160 = .ok (.iload_n 2, 1) := by decide +kernel
theorem dL_does_161 : decode cL_does 161 = .ok (.iload_n 3, 1) := by decide +kernel
theorem dL_does_162 : decode cL_does 162 = .ok (.iload 4, 2) := by decide +kernel
theorem dL_does_164 : decode cL_does 164 = .ok (.invokevirtual 40, 3) := by decide +kernel
theorem dL_does_167 : decode cL_does 167 = .ok (.i2l, 1) := by decide +kernel
theorem dL_does_168 : decode cL_does 168 = .ok (.goto 68, 3) := by decide +kernel
theorem dL_does_171 : decode cL_does 171 = .ok (.iload_n 1, 1) := by decide +kernel
theorem dL_does_172 : decode cL_does 172 = .ok (.bipush 16, 2) := by decide +kernel
theorem dL_does_174 : decode cL_does 174 = .ok (.if_icmp .ne 12, 3) := by decide +kernel
theorem dL_does_177 : decode cL_does 177 = .ok (.aload_n 0, 1) := by decide +kernel
theorem dL_does_178 : decode cL_does 178 = .ok (.iload_n 2, 1) := by decide +kernel
theorem dL_does_179 : decode cL_does 179 = .ok (.invokevirtual 43, 3) := by decide +kernel
theorem dL_does_182 : decode cL_does 182 = .ok (.i2l, 1) := by decide +kernel
theorem dL_does_183 : decode cL_does 183 = .ok (.goto 53, 3) := by decide +kernel
theorem dL_does_186 : decode cL_does 186 = .ok (.iload_n 1, 1) := by decide +kernel
theorem dL_does_187 : decode cL_does 187 = .ok (.bipush 17, 2) := by decide +kernel
theorem dL_does_189 : decode cL_does 189 = .ok (.if_icmp .ne 12, 3) := by decide +kernel
theorem dL_does_192 : decode cL_does 192 = .ok (.aload_n 0, 1) := by decide +kernel
theorem dL_does_193 : decode cL_does 193 = .ok (.iload_n 2, 1) := by decide +kernel
theorem dL_does_194 : decode cL_does 194 = .ok (.invokevirtual 47, 3) := by decide +kernel
theorem dL_does_197 : decode cL_does 197 = .ok (.i2l, 1) := by decide +kernel
theorem dL_does_198 : decode cL_does 198 = .ok (.goto 38, 3) := by decide +kernel
theorem dL_does_201 : decode cL_does 201 = .ok (.iload_n 1, 1) := by decide +kernel
theorem dL_does_202 : decode cL_does 202 = .ok (.bipush 18, 2) := by decide +kernel
theorem dL_does_204 : decode cL_does 204 = .ok (.if_icmp .ne 11, 3) := by decide +kernel
theorem dL_does_207 : decode cL_does 207 = .ok (.aload_n 0, 1) := by decide +kernel
theorem dL_does_208 : decode cL_does 208 = .ok (.iload_n 2, 1) := by decide +kernel
theorem dL_does_209 : decode cL_does 209 = .ok (.invokevirtual 50, 3) := by decide +kernel
theorem dL_does_212 : decode cL_does 212 = .ok (.goto 24, 3) := by decide +kernel
theorem dL_does_215 : decode cL_does 215 = .ok (.iload_n 1, 1) := by decide +kernel
theorem dL_does_216 : decode cL_does 216 = .ok (.bipush 19, 2) := by decide +kernel
theorem dL_does_218 : decode cL_does 218 = .ok (.if_icmp .ne 12, 3) := by decide +kernel
theorem dL_does_221 : decode cL_does 221 = .ok (.aload_n 0, 1) := by decide +kernel
theorem dL_does_222 : decode cL_does 222 = .ok (.iload_n 2, 1) := by decide +kernel
theorem dL_does_223 : decode cL_does 223 = .ok (.invokevirtual 54, 3) := by decide +kernel
theorem dL_does_226 : decode cL_does 226 = .ok (.i2l, 1) := by decide +kernel
theorem dL_does_227 : decode cL_does 227 = .ok (.goto 9, 3) := by decide +kernel
theorem dL_does_230 : decode cL_does 230 = .ok (.aload_n 0, 1) := by decide +kernel
theorem dL_does_231 : decode cL_does 231 = .ok (.iload_n 2, 1) := by decide +kernel
theorem dL_does_232 : decode cL_does 232 = .ok (.invokevirtual 57, 3) := by decide +kernel
theorem dL_does_235 : decode cL_does 235 = .ok (.i2l, 1) := by decide +kernel
theorem dL_does_236 : decode cL_does 236 = .ok (.lreturn, 1) := by decide +kernel
theorem dL_does_237 : decode cL_does 237 = .ok (.astore 5, 2) := by decide +kernel
theorem dL_does_239 : decode cL_does 239 = .ok (.ldc2_w 62, 3) := by decide +kernel
theorem dL_does_242 : decode cL_does 242 = .ok (.lreturn, 1) := by decide +kernel
theorem dL_does_243 : decode cL_does 243 = .ok (.astore 5, 2) := by decide +kernel
theorem dL_does_245 : decode cL_does 245 = .ok (.ldc2_w 62, 3) := by decide +kernel
theorem dL_does_248 : decode cL_does 248 = .ok (.lreturn, 1) := by decide +kernel
theorem dL_does_249 : decode cL_does 249 = .ok (.astore 5, 2) := by decide +kernel
theorem dL_does_251 : decode cL_does 251 = .ok (.ldc2_w 62, 3) := by decide +kernel
theorem dL_does_254 : decode cL_does 254 = .ok (.lreturn, 1) := by decide +kernel
theorem dL_made_0 : decode cL_made 0 = .ok (.iload_n 1, 1) := by decide +kernel
theorem dL_made_1 : decode cL_made 1 = .ok (.ifCond .ne 12, 3) := by decide +kernel
theorem dL_made_4 : decode cL_made 4 = .ok (.aload_n 0, 1) := by decide +kernel
theorem dL_made_5 : decode cL_made 5 = .ok (.iload_n 2, 1) := by decide +kernel
theorem dL_made_6 : decode cL_made 6 = .ok (.iload_n 3, 1) := by decide +kernel
theorem dL_made_7 : decode cL_made 7 = .ok (.invokevirtual 68, 3) := by decide +kernel
theorem dL_made_10 : decode cL_made 10 = .ok (.goto 91, 3) := by decide +kernel
theorem dL_made_13 : decode cL_made 13 = .ok (.iload_n 1, 1) := by decide +kernel
theorem dL_made_14 : decode cL_made 14 = .ok (.iconst 1, 1) := by decide +kernel
theorem dL_made_15 : decode cL_made 15 = .ok (.if_icmp .ne 12, 3) := by decide +kernel
theorem dL_made_18 : decode cL_made 18 = .ok (.aload_n 0, 1) := by decide +kernel
theorem dL_made_19 : decode cL_made 19 = .ok (.iload_n 2, 1) := by decide +kernel
theorem dL_made_20 : decode cL_made 20 = .ok (.iload_n 3, 1) := by decide +kernel
theorem dL_made_21 : decode cL_made 21 = .ok (.invokevirtual 71, 3) := by decide +kernel
theorem dL_made_24 : decode cL_made 24 = .ok (.goto 77, 3) := by decide +kernel
theorem dL_made_27 : decode cL_made 27 = .ok (.iload_n 1, 1) := by decide +kernel
theorem dL_made_28 : decode cL_made 28 = .ok (.iconst 2, 1) := by decide +kernel
theorem dL_made_29 : decode cL_made 29 = .ok (.if_icmp .ne 12, 3) := by decide +kernel
theorem dL_made_32 : decode cL_made 32 = .ok (.aload_n 0, 1) := by decide +kernel
theorem dL_made_33 : decode cL_made 33 = .ok (.iload_n 2, 1) := by decide +kernel
theorem dL_made_34 : decode cL_made 34 = .ok (.iload_n 3, 1) := by decide +kernel
theorem dL_made_35 : decode cL_made 35 = .ok (.invokevirtual 74, 3) := by decide +kernel
theorem dL_made_38 : decode cL_made 38 = .ok (.goto 63, 3) := by decide +kernel
theorem dL_made_41 : decode cL_made 41 = .ok (.iload_n 1, 1) := by decide +kernel
theorem dL_made_42 : decode cL_made 42 = .ok (.iconst 3, 1) := by decide +kernel
theorem dL_made_43 : decode cL_made 43 = .ok (.if_icmp .ne 12, 3) := by decide +kernel
theorem dL_made_46 : decode cL_made 46 = .ok (.aload_n 0, 1) := by decide +kernel
theorem dL_made_47 : decode cL_made 47 = .ok (.iload_n 2, 1) := by decide +kernel
theorem dL_made_48 : decode cL_made 48 = .ok (.iload_n 3, 1) := by decide +kernel
theorem dL_made_49 : decode cL_made 49 = .ok (.invokevirtual 77, 3) := by decide +kernel
theorem dL_made_52 : decode cL_made 52 = .ok (.goto 49, 3) := by decide +kernel
theorem dL_made_55 : decode cL_made 55 = .ok (.iload_n 1, 1) := by decide +kernel
theorem dL_made_56 : decode cL_made 56 = .ok (.iconst 4, 1) := by decide +kernel
theorem dL_made_57 : decode cL_made 57 = .ok (.if_icmp .ne 12, 3) := by decide +kernel
theorem dL_made_60 : decode cL_made 60 = .ok (.aload_n 0, 1) := by decide +kernel
theorem dL_made_61 : decode cL_made 61 = .ok (.iload_n 2, 1) := by decide +kernel
theorem dL_made_62 : decode cL_made 62 = .ok (.iload_n 3, 1) := by decide +kernel
theorem dL_made_63 : decode cL_made 63 = .ok (.invokevirtual 80, 3) := by decide +kernel
theorem dL_made_66 : decode cL_made 66 = .ok (.goto 35, 3) := by decide +kernel
theorem dL_made_69 : decode cL_made 69 = .ok (.iload_n 1, 1) := by decide +kernel
theorem dL_made_70 : decode cL_made 70 = .ok (.iconst 5, 1) := by decide +kernel
theorem dL_made_71 : decode cL_made 71 = .ok (.if_icmp .ne 11, 3) := by decide +kernel
theorem dL_made_74 : decode cL_made 74 = .ok (.aload_n 0, 1) := by decide +kernel
theorem dL_made_75 : decode cL_made 75 = .ok (.iload_n 2, 1) := by decide +kernel
theorem dL_made_76 : decode cL_made 76 = .ok (.invokevirtual 83, 3) := by decide +kernel
theorem dL_made_79 : decode cL_made 79 = .ok (.goto 22, 3) := by decide +kernel
theorem dL_made_82 : decode cL_made 82 = .ok (.iload_n 1, 1) := by decide +kernel
theorem dL_made_83 : decode cL_made 83 = .ok (.bipush 6, 2) := by decide +kernel
theorem dL_made_85 : decode cL_made 85 = .ok (.if_icmp .ne 11, 3) := by decide +kernel
theorem dL_made_88 : decode cL_made 88 = .ok (.aload_n 0, 1) := by decide +kernel
theorem dL_made_89 : decode cL_made 89 = .ok (.iload_n 2, 1) := by decide +kernel
theorem dL_made_90 : decode cL_made 90 = .ok (.invokevirtual 86, 3) := by decide +kernel
theorem dL_made_93 : decode cL_made 93 = .ok (.goto 8, 3) := by decide +kernel
theorem dL_made_96 : decode cL_made 96 = .ok (.aload_n 0, 1) := by decide +kernel
theorem dL_made_97 : decode cL_made 97 = .ok (.iload_n 2, 1) := by decide +kernel
theorem dL_made_98 : decode cL_made 98 = .ok (.invokevirtual 89, 3) := by decide +kernel
theorem dL_made_101 : decode cL_made 101 = .ok (.ireturn, 1) := by decide +kernel
theorem dL_seeks_0 : decode cL_seeks 0 = .ok (.aload_n 0, 1) := by decide +kernel
theorem dL_seeks_1 : decode cL_seeks 1 = .ok (.iload_n 1, 1) := by decide +kernel
theorem dL_seeks_2 : decode cL_seeks 2 = .ok (.iload_n 2, 1) := by decide +kernel
theorem dL_seeks_3 : decode cL_seeks 3 = .ok (.iload_n 3, 1) := by decide +kernel
theorem dL_seeks_4 : decode cL_seeks 4 = .ok (.iload 4, 2) := by decide +kernel
theorem dL_seeks_6 : decode cL_seeks 6 = .ok (.iload 5, 2) := by decide +kernel
theorem dL_seeks_8 : decode cL_seeks 8 = .ok (.iload 6, 2) := by decide +kernel
theorem dL_seeks_10 : decode cL_seeks 10 = .ok (.invokevirtual 92, 3) := by decide +kernel
theorem dL_seeks_13 : decode cL_seeks 13 = .ok (.ireturn, 1) := by decide +kernel
theorem dL_seeks_14 : decode cL_seeks 14 = .ok (.astore 7, 2) := by decide +kernel
theorem dL_seeks_16 : decode cL_seeks 16 = .ok (.ldc 96, 2) := by decide +kernel
theorem dL_seeks_18 : decode cL_seeks 18 = .ok (.ireturn, 1) := by decide +kernel
theorem dL_seeks_19 : decode cL_seeks 19 = .ok (.astore 7, 2) := by decide +kernel
theorem dL_seeks_21 : decode cL_seeks 21 = .ok (.ldc 96, 2) := by decide +kernel
theorem dL_seeks_23 : decode cL_seeks 23 = .ok (.ireturn, 1) := by decide +kernel
theorem dL_instead_0 : decode cL_instead 0 = .ok (.aload_n 0, 1) := by decide +kernel
theorem dL_instead_1 : decode cL_instead 1 = .ok (.iload_n 1, 1) := by decide +kernel
theorem dL_instead_2 : decode cL_instead 2 = .ok (.iload_n 2, 1) := by decide +kernel
theorem dL_instead_3 : decode cL_instead 3 = .ok (.iload_n 3, 1) := by decide +kernel
theorem dL_instead_4 : decode cL_instead 4 = .ok (.iload 4, 2) := by decide +kernel
theorem dL_instead_6 : decode cL_instead 6 = .ok (.iload 5, 2) := by decide +kernel
theorem dL_instead_8 : decode cL_instead 8 = .ok (.invokevirtual 97, 3) := by decide +kernel
theorem dL_instead_11 : decode cL_instead 11 = .ok (.lreturn, 1) := by decide +kernel
theorem dL_instead_12 : decode cL_instead 12 = .ok (.astore 6, 2) := by decide +kernel
theorem dL_instead_14 : decode cL_instead 14 = .ok (.ldc2_w 62, 3) := by decide +kernel
theorem dL_instead_17 : decode cL_instead 17 = .ok (.lreturn, 1) := by decide +kernel
theorem dL_instead_18 : decode cL_instead 18 = .ok (.astore 6, 2) := by decide +kernel
theorem dL_instead_20 : decode cL_instead 20 = .ok (.ldc2_w 62, 3) := by decide +kernel
theorem dL_instead_23 : decode cL_instead 23 = .ok (.lreturn, 1) := by decide +kernel
theorem dL_instead_24 : decode cL_instead 24 = .ok (.astore 6, 2) := by decide +kernel
theorem dL_instead_26 : decode cL_instead 26 = .ok (.ldc2_w 62, 3) := by decide +kernel
theorem dL_instead_29 : decode cL_instead 29 = .ok (.lreturn, 1) := by decide +kernel
theorem dL_act_0 : decode cL_act 0 = .ok (.iload_n 1, 1) := by decide +kernel
theorem dL_act_1 : decode cL_act 1 = .ok (.bipush 18, 2) := by decide +kernel
theorem dL_act_3 : decode cL_act 3 = .ok (.ishr, 1) := by decide +kernel
theorem dL_act_4 : decode cL_act 4 = .ok (.bipush 7, 2) := by decide +kernel
theorem dL_act_6 : decode cL_act 6 = .ok (.iand, 1) := by decide +kernel
theorem dL_act_7 : decode cL_act 7 = .ok (.bipush 7, 2) := by decide +kernel
theorem dL_act_9 : decode cL_act 9 = .ok (.if_icmp .ne 7, 3) := by decide +kernel
theorem dL_act_12 : decode cL_act 12 = .ok (.iconst 1, 1) := by decide +kernel
theorem dL_act_13 : decode cL_act 13 = .ok (.goto 4, 3) := by decide +kernel
theorem dL_act_16 : decode cL_act 16 = .ok (.iconst 0, 1) := by decide +kernel
theorem dL_act_17 : decode cL_act 17 = .ok (.istore_n 3, 1) := by decide +kernel
theorem dL_act_18 : decode cL_act 18 = .ok (.iload_n 1, 1) := by decide +kernel
theorem dL_act_19 : decode cL_act 19 = .ok (.bipush 44, 2) := by decide +kernel
theorem dL_act_21 : decode cL_act 21 = .ok (.invokestatic 101, 3) := by decide +kernel
theorem dL_act_24 : decode cL_act 24 = .ok (.istore 4, 2) := by decide +kernel
theorem dL_act_26 : decode cL_act 26 = .ok (.iload_n 1, 1) := by decide +kernel
theorem dL_act_27 : decode cL_act 27 = .ok (.bipush 6, 2) := by decide +kernel
theorem dL_act_29 : decode cL_act 29 = .ok (.ishr, 1) := by decide +kernel
theorem dL_act_30 : decode cL_act 30 = .ok (.istore 5, 2) := by decide +kernel
theorem dL_act_32 : decode cL_act 32 = .ok (.aload_n 0, 1) := by decide +kernel
theorem dL_act_33 : decode cL_act 33 = .ok (.invokevirtual 104, 3) := by decide +kernel
theorem dL_act_36 : decode cL_act 36 = .ok (.istore 6, 2) := by decide +kernel
theorem dL_act_38 : decode cL_act 38 = .ok (.iload_n 3, 1) := by decide +kernel
theorem dL_act_39 : decode cL_act 39 = .ok (.ifCond .eq 15, 3) := by decide +kernel
theorem dL_act_42 : decode cL_act 42 = .ok (.iload 5, 2) := by decide +kernel
theorem dL_act_44 : decode cL_act 44 = .ok (.bipush 44, 2) := by decide +kernel
theorem dL_act_46 : decode cL_act 46 = .ok (.invokestatic 101, 3) := by decide +kernel
theorem dL_act_49 : decode cL_act 49 = .ok (.iconst 2, 1) := by decide +kernel
theorem dL_act_50 : decode cL_act 50 = .ok (.isub, 1) := by decide +kernel
theorem dL_act_51 : decode cL_act 51 = .ok (.goto 19, 3) := by decide +kernel
theorem dL_act_54 : decode cL_act 54 = .ok (.iload 6, 2) := by decide +kernel
theorem dL_act_56 : decode cL_act 56 = .ok (.ifCond .ne 7, 3) := by decide +kernel
theorem dL_act_59 : decode cL_act 59 = .ok (.iconst 0, 1) := by decide +kernel
theorem dL_act_60 : decode cL_act 60 = .ok (.goto 10, 3) := by decide +kernel
theorem dL_act_63 : decode cL_act 63 = .ok (.iload 5, 2) := by decide +kernel
theorem dL_act_65 : decode cL_act 65 = .ok (.iload 6, 2) := by decide +kernel
theorem dL_act_67 : decode cL_act 67 = .ok (.invokestatic 101, 3) := by decide +kernel
theorem dL_act_70 : decode cL_act 70 = .ok (.istore 7, 2) := by decide +kernel
theorem dL_act_72 : decode cL_act 72 = .ok (.iload_n 3, 1) := by decide +kernel
theorem dL_act_73 : decode cL_act 73 = .ok (.ifCond .eq 17, 3) := by decide +kernel
theorem dL_act_76 : decode cL_act 76 = .ok (.iload 5, 2) := by decide +kernel
theorem dL_act_78 : decode cL_act 78 = .ok (.iconst 3, 1) := by decide +kernel
theorem dL_act_79 : decode cL_act 79 = .ok (.ishr, 1) := by decide +kernel
theorem dL_act_80 : decode cL_act 80 = .ok (.bipush 44, 2) := by decide +kernel
theorem dL_act_82 : decode cL_act 82 = .ok (.invokestatic 101, 3) := by decide +kernel
theorem dL_act_85 : decode cL_act 85 = .ok (.iconst 2, 1) := by decide +kernel
theorem dL_act_86 : decode cL_act 86 = .ok (.isub, 1) := by decide +kernel
theorem dL_act_87 : decode cL_act 87 = .ok (.goto 21, 3) := by decide +kernel
theorem dL_act_90 : decode cL_act 90 = .ok (.iload 6, 2) := by decide +kernel
theorem dL_act_92 : decode cL_act 92 = .ok (.ifCond .ne 7, 3) := by decide +kernel
theorem dL_act_95 : decode cL_act 95 = .ok (.iconst 0, 1) := by decide +kernel
theorem dL_act_96 : decode cL_act 96 = .ok (.goto 12, 3) := by decide +kernel
theorem dL_act_99 : decode cL_act 99 = .ok (.iload 5, 2) := by decide +kernel
theorem dL_act_101 : decode cL_act 101 = .ok (.iconst 3, 1) := by decide +kernel
theorem dL_act_102 : decode cL_act 102 = .ok (.ishr, 1) := by decide +kernel
theorem dL_act_103 : decode cL_act 103 = .ok (.iload 6, 2) := by decide +kernel
theorem dL_act_105 : decode cL_act 105 = .ok (.invokestatic 101, 3) := by decide +kernel
theorem dL_act_108 : decode cL_act 108 = .ok (.istore 8, 2) := by decide +kernel
theorem dL_act_110 : decode cL_act 110 = .ok (.iload_n 3, 1) := by decide +kernel
theorem dL_act_111 : decode cL_act 111 = .ok (.ifCond .eq 17, 3) := by decide +kernel
theorem dL_act_114 : decode cL_act 114 = .ok (.iload 5, 2) := by decide +kernel
theorem dL_act_116 : decode cL_act 116 = .ok (.iconst 5, 1) := by decide +kernel
theorem dL_act_117 : decode cL_act 117 = .ok (.ishr, 1) := by decide +kernel
theorem dL_act_118 : decode cL_act 118 = .ok (.bipush 28, 2) := by decide +kernel
theorem dL_act_120 : decode cL_act 120 = .ok (.invokestatic 101, 3) := by decide +kernel
theorem dL_act_123 : decode cL_act 123 = .ok (.iconst 1, 1) := by decide +kernel
theorem dL_act_124 : decode cL_act 124 = .ok (.isub, 1) := by decide +kernel
theorem dL_act_125 : decode cL_act 125 = .ok (.goto 34, 3) := by decide +kernel
theorem dL_act_128 : decode cL_act 128 = .ok (.iload 5, 2) := by decide +kernel
theorem dL_act_130 : decode cL_act 130 = .ok (.bipush 9, 2) := by decide +kernel
theorem dL_act_132 : decode cL_act 132 = .ok (.ishr, 1) := by decide +kernel
theorem dL_act_133 : decode cL_act 133 = .ok (.iconst 3, 1) := by decide +kernel
theorem dL_act_134 : decode cL_act 134 = .ok (.iand, 1) := by decide +kernel
theorem dL_act_135 : decode cL_act 135 = .ok (.ifCond .ne 15, 3) := by decide +kernel
theorem dL_act_138 : decode cL_act 138 = .ok (.iload 5, 2) := by decide +kernel
theorem dL_act_140 : decode cL_act 140 = .ok (.iconst 5, 1) := by decide +kernel
theorem dL_act_141 : decode cL_act 141 = .ok (.ishr, 1) := by decide +kernel
theorem dL_act_142 : decode cL_act 142 = .ok (.bipush 25, 2) := by decide +kernel
theorem dL_act_144 : decode cL_act 144 = .ok (.invokestatic 101, 3) := by decide +kernel
theorem dL_act_147 : decode cL_act 147 = .ok (.goto 12, 3) := by decide +kernel
theorem dL_act_150 : decode cL_act 150 = .ok (.iload 5, 2) := by decide +kernel
theorem dL_act_152 : decode cL_act 152 = .ok (.iconst 5, 1) := by decide +kernel
theorem dL_act_153 : decode cL_act 153 = .ok (.ishr, 1) := by decide +kernel
theorem dL_act_154 : decode cL_act 154 = .ok (.bipush 12, 2) := by decide +kernel
theorem dL_act_156 : decode cL_act 156 = .ok (.invokestatic 101, 3) := by decide +kernel
