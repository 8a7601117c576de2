theorem dL_areAlike_47 : decode cL_areAlike 47 = .ok (.iload 5, 2) := by decide +kernel
theorem dL_areAlike_49 : decode cL_areAlike 49 = .ok (.iconst 0, 1) := by decide +kernel
theorem dL_areAlike_50 : decode cL_areAlike 50 = .ok (.iconst 0, 1) := by decide +kernel
theorem dL_areAlike_51 : decode cL_areAlike 51 = .ok (.invokestatic 108, 3) := by decide +kernel
theorem dL_areAlike_54 : decode cL_areAlike 54 = .ok (.lcmp, 1) := by decide +kernel
theorem dL_areAlike_55 : decode cL_areAlike 55 = .ok (.ifCond .ne 89, 3) := by decide +kernel
theorem dL_areAlike_58 : decode cL_areAlike 58 = .ok (.aload_n 0, 1) := by decide +kernel
theorem dL_areAlike_59 : decode cL_areAlike 59 = .ok (.bipush 18, 2) := by decide +kernel
theorem dL_areAlike_61 : decode cL_areAlike 61 = .ok (.iload 5, 2) := by decide +kernel
theorem dL_areAlike_63 : decode cL_areAlike 63 = .ok (.iconst 0, 1) := by decide +kernel
theorem dL_areAlike_64 : decode cL_areAlike 64 = .ok (.iconst 0, 1) := by decide +kernel
theorem dL_areAlike_65 : decode cL_areAlike 65 = .ok (.invokestatic 108, 3) := by decide +kernel
theorem dL_areAlike_68 : decode cL_areAlike 68 = .ok (.aload_n 1, 1) := by decide +kernel
theorem dL_areAlike_69 : decode cL_areAlike 69 = .ok (.bipush 18, 2) := by decide +kernel
theorem dL_areAlike_71 : decode cL_areAlike 71 = .ok (.iload 5, 2) := by decide +kernel
theorem dL_areAlike_73 : decode cL_areAlike 73 = .ok (.iconst 0, 1) := by decide +kernel
theorem dL_areAlike_74 : decode cL_areAlike 74 = .ok (.iconst 0, 1) := by decide +kernel
theorem dL_areAlike_75 : decode cL_areAlike 75 = .ok (.invokestatic 108, 3) := by decide +kernel
theorem dL_areAlike_78 : decode cL_areAlike 78 = .ok (.lcmp, 1) := by decide +kernel
theorem dL_areAlike_79 : decode cL_areAlike 79 = .ok (.ifCond .ne 65, 3) := by decide +kernel
theorem dL_areAlike_82 : decode cL_areAlike 82 = .ok (.aload_n 0, 1) := by decide +kernel
theorem dL_areAlike_83 : decode cL_areAlike 83 = .ok (.bipush 20, 2) := by decide +kernel
theorem dL_areAlike_85 : decode cL_areAlike 85 = .ok (.iload 5, 2) := by decide +kernel
theorem dL_areAlike_87 : decode cL_areAlike 87 = .ok (.iconst 0, 1) := by decide +kernel
theorem dL_areAlike_88 : decode cL_areAlike 88 = .ok (.iconst 0, 1) := by decide +kernel
theorem dL_areAlike_89 : decode cL_areAlike 89 = .ok (.invokestatic 108, 3) := by decide +kernel
theorem dL_areAlike_92 : decode cL_areAlike 92 = .ok (.aload_n 1, 1) := by decide +kernel
theorem dL_areAlike_93 : decode cL_areAlike 93 = .ok (.bipush 20, 2) := by decide +kernel
theorem dL_areAlike_95 : decode cL_areAlike 95 = .ok (.iload 5, 2) := by decide +kernel
theorem dL_areAlike_97 : decode cL_areAlike 97 = .ok (.iconst 0, 1) := by decide +kernel
theorem dL_areAlike_98 : decode cL_areAlike 98 = .ok (.iconst 0, 1) := by decide +kernel
theorem dL_areAlike_99 : decode cL_areAlike 99 = .ok (.invokestatic 108, 3) := by decide +kernel
theorem dL_areAlike_102 : decode cL_areAlike 102 = .ok (.lcmp, 1) := by decide +kernel
theorem dL_areAlike_103 : decode cL_areAlike 103 = .ok (.ifCond .ne 41, 3) := by decide +kernel
theorem dL_areAlike_106 : decode cL_areAlike 106 = .ok (.aload_n 0, 1) := by decide +kernel
theorem dL_areAlike_107 : decode cL_areAlike 107 = .ok (.bipush 8, 2) := by decide +kernel
theorem dL_areAlike_109 : decode cL_areAlike 109 = .ok (.iload 5, 2) := by decide +kernel
theorem dL_areAlike_111 : decode cL_areAlike 111 = .ok (.iload_n 2, 1) := by decide +kernel
theorem dL_areAlike_112 : decode cL_areAlike 112 = .ok (.bipush 13, 2) := by decide +kernel
theorem dL_areAlike_114 : decode cL_areAlike 114 = .ok (.invokestatic 101, 3) := by decide +kernel
theorem dL_areAlike_117 : decode cL_areAlike 117 = .ok (.iconst 1, 1) := by decide +kernel
theorem dL_areAlike_118 : decode cL_areAlike 118 = .ok (.invokestatic 108, 3) := by decide +kernel
theorem dL_areAlike_121 : decode cL_areAlike 121 = .ok (.aload_n 1, 1) := by decide +kernel
theorem dL_areAlike_122 : decode cL_areAlike 122 = .ok (.bipush 8, 2) := by decide +kernel
theorem dL_areAlike_124 : decode cL_areAlike 124 = .ok (.iload 5, 2) := by decide +kernel
theorem dL_areAlike_126 : decode cL_areAlike 126 = .ok (.iload_n 2, 1) := by decide +kernel
theorem dL_areAlike_127 : decode cL_areAlike 127 = .ok (.bipush 13, 2) := by decide +kernel
theorem dL_areAlike_129 : decode cL_areAlike 129 = .ok (.invokestatic 101, 3) := by decide +kernel
theorem dL_areAlike_132 : decode cL_areAlike 132 = .ok (.iconst 1, 1) := by decide +kernel
theorem dL_areAlike_133 : decode cL_areAlike 133 = .ok (.invokestatic 108, 3) := by decide +kernel
theorem dL_areAlike_136 : decode cL_areAlike 136 = .ok (.lcmp, 1) := by decide +kernel
theorem dL_areAlike_137 : decode cL_areAlike 137 = .ok (.ifCond .ne 7, 3) := by decide +kernel
theorem dL_areAlike_140 : decode cL_areAlike 140 = .ok (.iconst 1, 1) := by decide +kernel
theorem dL_areAlike_141 : decode cL_areAlike 141 = .ok (.goto 4, 3) := by decide +kernel
theorem dL_areAlike_144 : decode cL_areAlike 144 = .ok (.iconst 0, 1) := by decide +kernel
theorem dL_areAlike_145 : decode cL_areAlike 145 = .ok (.istore 4, 2) := by decide +kernel
theorem dL_areAlike_147 : decode cL_areAlike 147 = .ok (.iinc 5 1, 3) := by decide +kernel
theorem dL_areAlike_150 : decode cL_areAlike 150 = .ok (.goto (-127), 3) := by decide +kernel
theorem dL_areAlike_153 : decode cL_areAlike 153 = .ok (.iload_n 2, 1) := by decide +kernel
theorem dL_areAlike_154 : decode cL_areAlike 154 = .ok (.iload_n 3, 1) := by decide +kernel
theorem dL_areAlike_155 : decode cL_areAlike 155 = .ok (.invokestatic 101, 3) := by decide +kernel
theorem dL_areAlike_158 : decode cL_areAlike 158 = .ok (.istore 5, 2) := by decide +kernel
theorem dL_areAlike_160 : decode cL_areAlike 160 = .ok (.iload 4, 2) := by decide +kernel
theorem dL_areAlike_162 : decode cL_areAlike 162 = .ok (.ifCond .eq 45, 3) := by decide +kernel
theorem dL_areAlike_165 : decode cL_areAlike 165 = .ok (.aload_n 0, 1) := by decide +kernel
theorem dL_areAlike_166 : decode cL_areAlike 166 = .ok (.bipush 9, 2) := by decide +kernel
theorem dL_areAlike_168 : decode cL_areAlike 168 = .ok (.iload 5, 2) := by decide +kernel
theorem dL_areAlike_170 : decode cL_areAlike 170 = .ok (.iload_n 2, 1) := by decide +kernel
theorem dL_areAlike_171 : decode cL_areAlike 171 = .ok (.iconst 3, 1) := by decide +kernel
theorem dL_areAlike_172 : decode cL_areAlike 172 = .ok (.ishr, 1) := by decide +kernel
theorem dL_areAlike_173 : decode cL_areAlike 173 = .ok (.bipush 13, 2) := by decide +kernel
theorem dL_areAlike_175 : decode cL_areAlike 175 = .ok (.invokestatic 101, 3) := by decide +kernel
theorem dL_areAlike_178 : decode cL_areAlike 178 = .ok (.iconst 0, 1) := by decide +kernel
theorem dL_areAlike_179 : decode cL_areAlike 179 = .ok (.invokestatic 108, 3) := by decide +kernel
theorem dL_areAlike_182 : decode cL_areAlike 182 = .ok (.aload_n 1, 1) := by decide +kernel
theorem dL_areAlike_183 : decode cL_areAlike 183 = .ok (.bipush 9, 2) := by decide +kernel
theorem dL_areAlike_185 : decode cL_areAlike 185 = .ok (.iload 5, 2) := by decide +kernel
theorem dL_areAlike_187 : decode cL_areAlike 187 = .ok (.iload_n 2, 1) := by decide +kernel
theorem dL_areAlike_188 : decode cL_areAlike 188 = .ok (.iconst 3, 1) := by decide +kernel
theorem dL_areAlike_189 : decode cL_areAlike 189 = .ok (.ishr, 1) := by decide +kernel
theorem dL_areAlike_190 : decode cL_areAlike 190 = .ok (.bipush 13, 2) := by decide +kernel
theorem dL_areAlike_192 : decode cL_areAlike 192 = .ok (.invokestatic 101, 3) := by decide +kernel
theorem dL_areAlike_195 : decode cL_areAlike 195 = .ok (.iconst 0, 1) := by decide +kernel
theorem dL_areAlike_196 : decode cL_areAlike 196 = .ok (.invokestatic 108, 3) := by decide +kernel
theorem dL_areAlike_199 : decode cL_areAlike 199 = .ok (.lcmp, 1) := by decide +kernel
theorem dL_areAlike_200 : decode cL_areAlike 200 = .ok (.ifCond .ne 7, 3) := by decide +kernel
theorem dL_areAlike_203 : decode cL_areAlike 203 = .ok (.iconst 1, 1) := by decide +kernel
theorem dL_areAlike_204 : decode cL_areAlike 204 = .ok (.goto 4, 3) := by decide +kernel
theorem dL_areAlike_207 : decode cL_areAlike 207 = .ok (.iconst 0, 1) := by decide +kernel
theorem dL_areAlike_208 : decode cL_areAlike 208 = .ok (.ireturn, 1) := by decide +kernel
theorem dL_areNested_0 : decode cL_areNested 0 = .ok (.ldc2_w 62, 3) := by decide +kernel
theorem dL_areNested_3 : decode cL_areNested 3 = .ok (.lstore_n 3, 1) := by decide +kernel
theorem dL_areNested_4 : decode cL_areNested 4 = .ok (.aload_n 0, 1) := by decide +kernel
theorem dL_areNested_5 : decode cL_areNested 5 = .ok (.bipush 9, 2) := by decide +kernel
theorem dL_areNested_7 : decode cL_areNested 7 = .ok (.iload_n 1, 1) := by decide +kernel
theorem dL_areNested_8 : decode cL_areNested 8 = .ok (.iload_n 2, 1) := by decide +kernel
theorem dL_areNested_9 : decode cL_areNested 9 = .ok (.iconst 0, 1) := by decide +kernel
theorem dL_areNested_10 : decode cL_areNested 10 = .ok (.invokestatic 108, 3) := by decide +kernel
theorem dL_areNested_13 : decode cL_areNested 13 = .ok (.lstore 5, 2) := by decide +kernel
theorem dL_areNested_15 : decode cL_areNested 15 = .ok (.aload_n 0, 1) := by decide +kernel
theorem dL_areNested_16 : decode cL_areNested 16 = .ok (.bipush 9, 2) := by decide +kernel
theorem dL_areNested_18 : decode cL_areNested 18 = .ok (.iload_n 1, 1) := by decide +kernel
theorem dL_areNested_19 : decode cL_areNested 19 = .ok (.iload_n 2, 1) := by decide +kernel
theorem dL_areNested_20 : decode cL_areNested 20 = .ok (.iconst 1, 1) := by decide +kernel
theorem dL_areNested_21 : decode cL_areNested 21 = .ok (.invokestatic 108, 3) := by decide +kernel
theorem dL_areNested_24 : decode cL_areNested 24 = .ok (.lstore 7, 2) := by decide +kernel
theorem dL_areNested_26 : decode cL_areNested 26 = .ok (.aload_n 0, 1) := by decide +kernel
theorem dL_areNested_27 : decode cL_areNested 27 = .ok (.bipush 8, 2) := by decide +kernel
theorem dL_areNested_29 : decode cL_areNested 29 = .ok (.iload_n 1, 1) := by decide +kernel
theorem dL_areNested_30 : decode cL_areNested 30 = .ok (.iload_n 2, 1) := by decide +kernel
theorem dL_areNested_31 : decode cL_areNested 31 = .ok (.iconst 0, 1) := by decide +kernel
theorem dL_areNested_32 : decode cL_areNested 32 = .ok (.invokestatic 108, 3) := by decide +kernel
theorem dL_areNested_35 : decode cL_areNested 35 = .ok (.lstore 9, 2) := by decide +kernel
theorem dL_areNested_37 : decode cL_areNested 37 = .ok (.aload_n 0, 1) := by decide +kernel
theorem dL_areNested_38 : decode cL_areNested 38 = .ok (.bipush 8, 2) := by decide +kernel
theorem dL_areNested_40 : decode cL_areNested 40 = .ok (.iload_n 1, 1) := by decide +kernel
theorem dL_areNested_41 : decode cL_areNested 41 = .ok (.iload_n 2, 1) := by decide +kernel
theorem dL_areNested_42 : decode cL_areNested 42 = .ok (.iconst 1, 1) := by decide +kernel
theorem dL_areNested_43 : decode cL_areNested 43 = .ok (.invokestatic 108, 3) := by decide +kernel
theorem dL_areNested_46 : decode cL_areNested 46 = .ok (.lstore 11, 2) := by decide +kernel
theorem dL_areNested_48 : decode cL_areNested 48 = .ok (.iload_n 2, 1) := by decide +kernel
theorem dL_areNested_49 : decode cL_areNested 49 = .ok (.ifCond .ne 7, 3) := by decide +kernel
theorem dL_areNested_52 : decode cL_areNested 52 = .ok (.lload_n 3, 1) := by decide +kernel
theorem dL_areNested_53 : decode cL_areNested 53 = .ok (.goto 14, 3) := by decide +kernel
theorem dL_areNested_56 : decode cL_areNested 56 = .ok (.aload_n 0, 1) := by decide +kernel
theorem dL_areNested_57 : decode cL_areNested 57 = .ok (.bipush 9, 2) := by decide +kernel
theorem dL_areNested_59 : decode cL_areNested 59 = .ok (.iload_n 1, 1) := by decide +kernel
theorem dL_areNested_60 : decode cL_areNested 60 = .ok (.iload_n 2, 1) := by decide +kernel
theorem dL_areNested_61 : decode cL_areNested 61 = .ok (.iconst 1, 1) := by decide +kernel
theorem dL_areNested_62 : decode cL_areNested 62 = .ok (.isub, 1) := by decide +kernel
theorem dL_areNested_63 : decode cL_areNested 63 = .ok (.iconst 0, 1) := by decide +kernel
theorem dL_areNested_64 : decode cL_areNested 64 = .ok (.invokestatic 108, 3) := by decide +kernel
theorem dL_areNested_67 : decode cL_areNested 67 = .ok (.lstore 13, 2) := by decide +kernel
theorem dL_areNested_69 : decode cL_areNested 69 = .ok (.iload_n 2, 1) := by decide +kernel
theorem dL_areNested_70 : decode cL_areNested 70 = .ok (.ifCond .ne 7, 3) := by decide +kernel
theorem dL_areNested_73 : decode cL_areNested 73 = .ok (.lload_n 3, 1) := by decide +kernel
theorem dL_areNested_74 : decode cL_areNested 74 = .ok (.goto 14, 3) := by decide +kernel
theorem dL_areNested_77 : decode cL_areNested 77 = .ok (.aload_n 0, 1) := by decide +kernel
theorem dL_areNested_78 : decode cL_areNested 78 = .ok (.bipush 9, 2) := by decide +kernel
theorem dL_areNested_80 : decode cL_areNested 80 = .ok (.iload_n 1, 1) := by decide +kernel
theorem dL_areNested_81 : decode cL_areNested 81 = .ok (.iload_n 2, 1) := by decide +kernel
theorem dL_areNested_82 : decode cL_areNested 82 = .ok (.iconst 1, 1) := by decide +kernel
theorem dL_areNested_83 : decode cL_areNested 83 = .ok (.isub, 1) := by decide +kernel
theorem dL_areNested_84 : decode cL_areNested 84 = .ok (.iconst 1, 1) := by decide +kernel
theorem dL_areNested_85 : decode cL_areNested 85 = .ok (.invokestatic 108, 3) := by decide +kernel
theorem dL_areNested_88 : decode cL_areNested 88 = .ok (.lstore 15, 2) := by decide +kernel
theorem dL_areNested_90 : decode cL_areNested 90 = .ok (.lload 5, 2) := by decide +kernel
theorem dL_areNested_92 : decode cL_areNested 92 = .ok (.lload_n 3, 1) := by decide +kernel
theorem dL_areNested_93 : decode cL_areNested 93 = .ok (.lcmp, 1) := by decide +kernel
theorem dL_areNested_94 : decode cL_areNested 94 = .ok (.ifCond .ne 7, 3) := by decide +kernel
theorem dL_areNested_97 : decode cL_areNested 97 = .ok (.iconst 1, 1) := by decide +kernel
theorem dL_areNested_98 : decode cL_areNested 98 = .ok (.goto 4, 3) := by decide +kernel
theorem dL_areNested_101 : decode cL_areNested 101 = .ok (.iconst 0, 1) := by decide +kernel
theorem dL_areNested_102 : decode cL_areNested 102 = .ok (.lload 7, 2) := by decide +kernel
theorem dL_areNested_104 : decode cL_areNested 104 = .ok (.lload_n 3, 1) := by decide +kernel
theorem dL_areNested_105 : decode cL_areNested 105 = .ok (.lcmp, 1) := by decide +kernel
theorem dL_areNested_106 : decode cL_areNested 106 = .ok (.ifCond .ne 7, 3) := by decide +kernel
theorem dL_areNested_109 : decode cL_areNested 109 = .ok (.iconst 1, 1) := by decide +kernel
theorem dL_areNested_110 : decode cL_areNested 110 = .ok (.goto 4, 3) := by decide +kernel
theorem dL_areNested_113 : decode cL_areNested 113 = .ok (.iconst 0, 1) := by decide +kernel
theorem dL_areNested_114 : decode cL_areNested 114 = .ok (.if_icmp .ne 68, 3) := by decide +kernel
theorem dL_areNested_117 : decode cL_areNested 117 = .ok (.lload 9, 2) := by decide +kernel
theorem dL_areNested_119 : decode cL_areNested 119 = .ok (.lload_n 3, 1) := by decide +kernel
theorem dL_areNested_120 : decode cL_areNested 120 = .ok (.lcmp, 1) := by decide +kernel
theorem dL_areNested_121 : decode cL_areNested 121 = .ok (.ifCond .eq 26, 3) := by decide +kernel
theorem dL_areNested_124 : decode cL_areNested 124 = .ok (.lload 5, 2) := by decide +kernel
theorem dL_areNested_126 : decode cL_areNested 126 = .ok (.lload_n 3, 1) := by decide +kernel
theorem dL_areNested_127 : decode cL_areNested 127 = .ok (.lcmp, 1) := by decide +kernel
theorem dL_areNested_128 : decode cL_areNested 128 = .ok (.ifCond .eq 54, 3) := by decide +kernel
theorem dL_areNested_131 : decode cL_areNested 131 = .ok (.lload 9, 2) := by decide +kernel
theorem dL_areNested_133 : decode cL_areNested 133 = .ok (.lload 5, 2) := by decide +kernel
theorem dL_areNested_135 : decode cL_areNested 135 = .ok (.lcmp, 1) := by decide +kernel
theorem dL_areNested_136 : decode cL_areNested 136 = .ok (.ifCond .gt 46, 3) := by decide +kernel
theorem dL_areNested_139 : decode cL_areNested 139 = .ok (.lload 11, 2) := by decide +kernel
theorem dL_areNested_141 : decode cL_areNested 141 = .ok (.lload 7, 2) := by decide +kernel
theorem dL_areNested_143 : decode cL_areNested 143 = .ok (.lcmp, 1) := by decide +kernel
theorem dL_areNested_144 : decode cL_areNested 144 = .ok (.ifCond .lt 38, 3) := by decide +kernel
theorem dL_areNested_147 : decode cL_areNested 147 = .ok (.lload 13, 2) := by decide +kernel
theorem dL_areNested_149 : decode cL_areNested 149 = .ok (.lload_n 3, 1) := by decide +kernel
theorem dL_areNested_150 : decode cL_areNested 150 = .ok (.lcmp, 1) := by decide +kernel
theorem dL_areNested_151 : decode cL_areNested 151 = .ok (.ifCond .eq 27, 3) := by decide +kernel
theorem dL_areNested_154 : decode cL_areNested 154 = .ok (.lload 5, 2) := by decide +kernel
theorem dL_areNested_156 : decode cL_areNested 156 = .ok (.ldc2_w 119, 3) := by decide +kernel
theorem dL_areNested_159 : decode cL_areNested 159 = .ok (.lload 13, 2) := by decide +kernel
theorem dL_areNested_161 : decode cL_areNested 161 = .ok (.lmul, 1) := by decide +kernel
theorem dL_areNested_162 : decode cL_areNested 162 = .ok (.lcmp, 1) := by decide +kernel
theorem dL_areNested_163 : decode cL_areNested 163 = .ok (.ifCond .lt 19, 3) := by decide +kernel
theorem dL_areNested_166 : decode cL_areNested 166 = .ok (.lload 7, 2) := by decide +kernel
theorem dL_areNested_168 : decode cL_areNested 168 = .ok (.ldc2_w 119, 3) := by decide +kernel
theorem dL_areNested_171 : decode cL_areNested 171 = .ok (.lload 15, 2) := by decide +kernel
theorem dL_areNested_173 : decode cL_areNested 173 = .ok (.lmul, 1) := by decide +kernel
theorem dL_areNested_174 : decode cL_areNested 174 = .ok (.lcmp, 1) := by decide +kernel
theorem dL_areNested_175 : decode cL_areNested 175 = .ok (.ifCond .gt 7, 3) := by decide +kernel
theorem dL_areNested_178 : decode cL_areNested 178 = .ok (.iconst 1, 1) := by decide +kernel
theorem dL_areNested_179 : decode cL_areNested 179 = .ok (.goto 4, 3) := by decide +kernel
theorem dL_areNested_182 : decode cL_areNested 182 = .ok (.iconst 0, 1) := by decide +kernel
theorem dL_areNested_183 : decode cL_areNested 183 = .ok (.istore 17, 2) := by decide +kernel
theorem dL_areNested_185 : decode cL_areNested 185 = .ok (.iload 17, 2) := by decide +kernel
theorem dL_areNested_187 : decode cL_areNested 187 = .ok (.ifCond .eq 53, 3) := by decide +kernel
theorem dL_areNested_190 : decode cL_areNested 190 = .ok (.lload 5, 2) := by decide +kernel
theorem dL_areNested_192 : decode cL_areNested 192 = .ok (.lload_n 3, 1) := by decide +kernel
theorem dL_areNested_193 : decode cL_areNested 193 = .ok (.lcmp, 1) := by decide +kernel
theorem dL_areNested_194 : decode cL_areNested 194 = .ok (.ifCond .eq 21, 3) := by decide +kernel
theorem dL_areNested_197 : decode cL_areNested 197 = .ok (.lload 5, 2) := by decide +kernel
theorem dL_areNested_199 : decode cL_areNested 199 = .ok (.lload 7, 2) := by decide +kernel
theorem dL_areNested_201 : decode cL_areNested 201 = .ok (.lcmp, 1) := by decide +kernel
theorem dL_areNested_202 : decode cL_areNested 202 = .ok (.ifCond .gt 38, 3) := by decide +kernel
theorem dL_areNested_205 : decode cL_areNested 205 = .ok (.lload 7, 2) := by decide +kernel
theorem dL_areNested_207 : decode cL_areNested 207 = .ok (.lload 5, 2) := by decide +kernel
theorem dL_areNested_209 : decode cL_areNested 209 = .ok (.lsub, 1) := by decide +kernel
theorem dL_areNested_210 : decode cL_areNested 210 = .ok (.lconst 0, 1) := by decide +kernel
theorem dL_areNested_211 : decode cL_areNested 211 = .ok (.lcmp, 1) := by decide +kernel
theorem dL_areNested_212 : decode cL_areNested 212 = .ok (.ifCond .lt 28, 3) := by decide +kernel
theorem dL_areNested_215 : decode cL_areNested 215 = .ok (.lload 5, 2) := by decide +kernel
theorem dL_areNested_217 : decode cL_areNested 217 = .ok (.lload_n 3, 1) := by decide +kernel
theorem dL_areNested_218 : decode cL_areNested 218 = .ok (.lcmp, 1) := by decide +kernel
theorem dL_areNested_219 : decode cL_areNested 219 = .ok (.ifCond .ne 17, 3) := by decide +kernel
theorem dL_areNested_222 : decode cL_areNested 222 = .ok (.lload 9, 2) := by decide +kernel
theorem dL_areNested_224 : decode cL_areNested 224 = .ok (.lload_n 3, 1) := by decide +kernel
theorem dL_areNested_225 : decode cL_areNested 225 = .ok (.lcmp, 1) := by decide +kernel
theorem dL_areNested_226 : decode cL_areNested 226 = .ok (.ifCond .ne 14, 3) := by decide +kernel
theorem dL_areNested_229 : decode cL_areNested 229 = .ok (.lload 13, 2) := by decide +kernel
theorem dL_areNested_231 : decode cL_areNested 231 = .ok (.lload_n 3, 1) := by decide +kernel
theorem dL_areNested_232 : decode cL_areNested 232 = .ok (.lcmp, 1) := by decide +kernel
theorem dL_areNested_233 : decode cL_areNested 233 = .ok (.ifCond .ne 7, 3) := by decide +kernel
theorem dL_areNested_236 : decode cL_areNested 236 = .ok (.iconst 1, 1) := by decide +kernel
theorem dL_areNested_237 : decode cL_areNested 237 = .ok (.goto 4, 3) := by decide +kernel
theorem dL_areNested_240 : decode cL_areNested 240 = .ok (.iconst 0, 1) := by decide +kernel
theorem dL_areNested_241 : decode cL_areNested 241 = .ok (.ireturn, 1) := by decide +kernel
theorem dL_isKept_0 : decode cL_isKept 0 = .ok (.aload_n 0, 1) := by decide +kernel
theorem dL_isKept_1 : decode cL_isKept 1 = .ok (.bipush 13, 2) := by decide +kernel
theorem dL_isKept_3 : decode cL_isKept 3 = .ok (.iload_n 1, 1) := by decide +kernel
theorem dL_isKept_4 : decode cL_isKept 4 = .ok (.iload_n 3, 1) := by decide +kernel
theorem dL_isKept_5 : decode cL_isKept 5 = .ok (.iconst 0, 1) := by decide +kernel
theorem dL_isKept_6 : decode cL_isKept 6 = .ok (.invokestatic 108, 3) := by decide +kernel
theorem dL_isKept_9 : decode cL_isKept 9 = .ok (.lstore 5, 2) := by decide +kernel
theorem dL_isKept_11 : decode cL_isKept 11 = .ok (.aload_n 0, 1) := by decide +kernel
theorem dL_isKept_12 : decode cL_isKept 12 = .ok (.bipush 13, 2) := by decide +kernel
theorem dL_isKept_14 : decode cL_isKept 14 = .ok (.iload_n 1, 1) := by decide +kernel
theorem dL_isKept_15 : decode cL_isKept 15 = .ok (.iload 4, 2) := by decide +kernel
theorem dL_isKept_17 : decode cL_isKept 17 = .ok (.iconst 0, 1) := by decide +kernel
theorem dL_isKept_18 : decode cL_isKept 18 = .ok (.invokestatic 108, 3) := by decide +kernel
theorem dL_isKept_21 : decode cL_isKept 21 = .ok (.lstore 7, 2) := by decide +kernel
theorem dL_isKept_23 : decode cL_isKept 23 = .ok (.lload 5, 2) := by decide +kernel
theorem dL_isKept_25 : decode cL_isKept 25 = .ok (.lconst 0, 1) := by decide +kernel
theorem dL_isKept_26 : decode cL_isKept 26 = .ok (.lcmp, 1) := by decide +kernel
theorem dL_isKept_27 : decode cL_isKept 27 = .ok (.ifCond .ge 7, 3) := by decide +kernel
theorem dL_isKept_30 : decode cL_isKept 30 = .ok (.iconst 0, 1) := by decide +kernel
theorem dL_isKept_31 : decode cL_isKept 31 = .ok (.goto 6, 3) := by decide +kernel
theorem dL_isKept_34 : decode cL_isKept 34 = .ok (.lload 5, 2) := by decide +kernel
theorem dL_isKept_36 : decode cL_isKept 36 = .ok (.l2i, 1) := by decide +kernel
theorem dL_isKept_37 : decode cL_isKept 37 = .ok (.istore 9, 2) := by decide +kernel
theorem dL_isKept_39 : decode cL_isKept 39 = .ok (.aload_n 0, 1) := by decide +kernel
theorem dL_isKept_40 : decode cL_isKept 40 = .ok (.bipush 15, 2) := by decide +kernel
theorem dL_isKept_42 : decode cL_isKept 42 = .ok (.iload_n 1, 1) := by decide +kernel
theorem dL_isKept_43 : decode cL_isKept 43 = .ok (.iload_n 3, 1) := by decide +kernel
theorem dL_isKept_44 : decode cL_isKept 44 = .ok (.iconst 1, 1) := by decide +kernel
theorem dL_isKept_45 : decode cL_isKept 45 = .ok (.invokestatic 108, 3) := by decide +kernel
theorem dL_isKept_48 : decode cL_isKept 48 = .ok (.lstore 10, 2) := by decide +kernel
theorem dL_isKept_50 : decode cL_isKept 50 = .ok (.aload_n 0, 1) := by decide +kernel
theorem dL_isKept_51 : decode cL_isKept 51 = .ok (.bipush 11, 2) := by decide +kernel
theorem dL_isKept_53 : decode cL_isKept 53 = .ok (.iload_n 1, 1) := by decide +kernel
theorem dL_isKept_54 : decode cL_isKept 54 = .ok (.iload_n 2, 1) := by decide +kernel
theorem dL_isKept_55 : decode cL_isKept 55 = .ok (.iload_n 3, 1) := by decide +kernel
theorem dL_isKept_56 : decode cL_isKept 56 = .ok (.invokestatic 108, 3) := by decide +kernel
theorem dL_isKept_59 : decode cL_isKept 59 = .ok (.lstore 12, 2) := by decide +kernel
theorem dL_isKept_61 : decode cL_isKept 61 = .ok (.lload 7, 2) := by decide +kernel
theorem dL_isKept_63 : decode cL_isKept 63 = .ok (.lload 5, 2) := by decide +kernel
theorem dL_isKept_65 : decode cL_isKept 65 = .ok (.lcmp, 1) := by decide +kernel
theorem dL_isKept_66 : decode cL_isKept 66 = .ok (.ifCond .lt 64, 3) := by decide +kernel
theorem dL_isKept_69 : decode cL_isKept 69 = .ok (.lload 5, 2) := by decide +kernel
theorem dL_isKept_71 : decode cL_isKept 71 = .ok (.lconst 0, 1) := by decide +kernel
theorem dL_isKept_72 : decode cL_isKept 72 = .ok (.lcmp, 1) := by decide +kernel
theorem dL_isKept_73 : decode cL_isKept 73 = .ok (.ifCond .lt 28, 3) := by decide +kernel
theorem dL_isKept_76 : decode cL_isKept 76 = .ok (.aload_n 0, 1) := by decide +kernel
theorem dL_isKept_77 : decode cL_isKept 77 = .ok (.bipush 14, 2) := by decide +kernel
theorem dL_isKept_79 : decode cL_isKept 79 = .ok (.iload_n 1, 1) := by decide +kernel
theorem dL_isKept_80 : decode cL_isKept 80 = .ok (.iload_n 3, 1) := by decide +kernel
theorem dL_isKept_81 : decode cL_isKept 81 = .ok (.iload 9, 2) := by decide +kernel
theorem dL_isKept_83 : decode cL_isKept 83 = .ok (.invokestatic 108, 3) := by decide +kernel
theorem dL_isKept_86 : decode cL_isKept 86 = .ok (.aload_n 0, 1) := by decide +kernel
theorem dL_isKept_87 : decode cL_isKept 87 = .ok (.bipush 14, 2) := by decide +kernel
theorem dL_isKept_89 : decode cL_isKept 89 = .ok (.iload_n 1, 1) := by decide +kernel
theorem dL_isKept_90 : decode cL_isKept 90 = .ok (.iload 4, 2) := by decide +kernel
theorem dL_isKept_92 : decode cL_isKept 92 = .ok (.iload 9, 2) := by decide +kernel
theorem dL_isKept_94 : decode cL_isKept 94 = .ok (.invokestatic 108, 3) := by decide +kernel
theorem dL_isKept_97 : decode cL_isKept 97 = .ok (.lcmp, 1) := by decide +kernel
theorem dL_isKept_98 : decode cL_isKept 98 = .ok (.ifCond .ne 32, 3) := by decide +kernel
theorem dL_isKept_101 : decode cL_isKept 101 = .ok (.lload 10, 2) := by decide +kernel
theorem dL_isKept_103 : decode cL_isKept 103 = .ok (.ldc2_w 62, 3) := by decide +kernel
theorem dL_isKept_106 : decode cL_isKept 106 = .ok (.lcmp, 1) := by decide +kernel
theorem dL_isKept_107 : decode cL_isKept 107 = .ok (.ifCond .eq 19, 3) := by decide +kernel
theorem dL_isKept_110 : decode cL_isKept 110 = .ok (.lload 10, 2) := by decide +kernel
theorem dL_isKept_112 : decode cL_isKept 112 = .ok (.aload_n 0, 1) := by decide +kernel
theorem dL_isKept_113 : decode cL_isKept 113 = .ok (.bipush 15, 2) := by decide +kernel
theorem dL_isKept_115 : decode cL_isKept 115 = .ok (.iload_n 1, 1) := by decide +kernel
theorem dL_isKept_116 : decode cL_isKept 116 = .ok (.iload 4, 2) := by decide +kernel
theorem dL_isKept_118 : decode cL_isKept 118 = .ok (.iconst 1, 1) := by decide +kernel
theorem dL_isKept_119 : decode cL_isKept 119 = .ok (.invokestatic 108, 3) := by decide +kernel
theorem dL_isKept_122 : decode cL_isKept 122 = .ok (.lcmp, 1) := by decide +kernel
theorem dL_isKept_123 : decode cL_isKept 123 = .ok (.ifCond .ne 7, 3) := by decide +kernel
theorem dL_isKept_126 : decode cL_isKept 126 = .ok (.iconst 1, 1) := by decide +kernel
theorem dL_isKept_127 : decode cL_isKept 127 = .ok (.goto 4, 3) := by decide +kernel
theorem dL_isKept_130 : decode cL_isKept 130 = .ok (.iconst 0, 1) := by decide +kernel
theorem dL_isKept_131 : decode cL_isKept 131 = .ok (.istore 14, 2) := by decide +kernel
theorem dL_isKept_133 : decode cL_isKept 133 = .ok (.iload 14, 2) := by decide +kernel
theorem dL_isKept_135 : decode cL_isKept 135 = .ok (.ifCond .eq 61, 3) := by decide +kernel
theorem dL_isKept_138 : decode cL_isKept 138 = .ok (.lload 12, 2) := by decide +kernel
theorem dL_isKept_140 : decode cL_isKept 140 = .ok (.lconst 0, 1) := by decide +kernel
theorem dL_isKept_141 : decode cL_isKept 141 = .ok (.lcmp, 1) := by decide +kernel
theorem dL_isKept_142 : decode cL_isKept 142 = .ok (.ifCond .eq 36, 3) := by decide +kernel
theorem dL_isKept_145 : decode cL_isKept 145 = .ok (.aload_n 0, 1) := by decide +kernel
theorem dL_isKept_146 : decode cL_isKept 146 = .ok (.bipush 11, 2) := by decide +kernel
theorem dL_isKept_148 : decode cL_isKept 148 = .ok (.iload_n 1, 1) := by decide +kernel
theorem dL_isKept_149 : decode cL_isKept 149 = .ok (.iload_n 2, 1) := by decide +kernel
theorem dL_isKept_150 : decode cL_isKept 150 = .ok (.iload 4, 2) := by decide +kernel
theorem dL_isKept_152 : decode cL_isKept 152 = .ok (.invokestatic 108, 3) := by decide +kernel
theorem dL_isKept_155 : decode cL_isKept 155 = .ok (.lload 12, 2) := by decide +kernel
theorem dL_isKept_157 : decode cL_isKept 157 = .ok (.lcmp, 1) := by decide +kernel
theorem dL_isKept_158 : decode cL_isKept 158 = .ok (.ifCond .ne 38, 3) := by decide +kernel
theorem dL_isKept_161 : decode cL_isKept 161 = .ok (.aload_n 0, 1) := by decide +kernel
theorem dL_isKept_162 : decode cL_isKept 162 = .ok (.bipush 11, 2) := by decide +kernel
theorem dL_isKept_164 : decode cL_isKept 164 = .ok (.iload_n 2, 1) := by decide +kernel
theorem dL_isKept_165 : decode cL_isKept 165 = .ok (.iload_n 1, 1) := by decide +kernel
theorem dL_isKept_166 : decode cL_isKept 166 = .ok (.iload 4, 2) := by decide +kernel
theorem dL_isKept_168 : decode cL_isKept 168 = .ok (.invokestatic 108, 3) := by decide +kernel
theorem dL_isKept_171 : decode cL_isKept 171 = .ok (.lload 12, 2) := by decide +kernel
theorem dL_isKept_173 : decode cL_isKept 173 = .ok (.lneg, 1) := by decide +kernel
theorem dL_isKept_174 : decode cL_isKept 174 = .ok (.lcmp, 1) := by decide +kernel
theorem dL_isKept_175 : decode cL_isKept 175 = .ok (.ifCond .ne 21, 3) := by decide +kernel
theorem dL_isKept_178 : decode cL_isKept 178 = .ok (.aload_n 0, 1) := by decide +kernel
theorem dL_isKept_179 : decode cL_isKept 179 = .ok (.bipush 11, 2) := by decide +kernel
theorem dL_isKept_181 : decode cL_isKept 181 = .ok (.iload_n 1, 1) := by decide +kernel
theorem dL_isKept_182 : decode cL_isKept 182 = .ok (.iload_n 1, 1) := by decide +kernel
theorem dL_isKept_183 : decode cL_isKept 183 = .ok (.iload_n 3, 1) := by decide +kernel
theorem dL_isKept_184 : decode cL_isKept 184 = .ok (.invokestatic 108, 3) := by decide +kernel
theorem dL_isKept_187 : decode cL_isKept 187 = .ok (.lconst 0, 1) := by decide +kernel
theorem dL_isKept_188 : decode cL_isKept 188 = .ok (.lcmp, 1) := by decide +kernel
