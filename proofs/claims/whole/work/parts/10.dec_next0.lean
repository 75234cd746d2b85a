theorem dX10_next_0 : decode cX10_next 0 = .ok (.aload_n 0, 1) := by decide +kernel
theorem dX10_next_1 : decode cX10_next 1 = .ok (.getfield 106, 3) := by decide +kernel
theorem dX10_next_4 : decode cX10_next 4 = .ok (.ifCond .eq 10, 3) := by decide +kernel
theorem dX10_next_7 : decode cX10_next 7 = .ok (.aload_n 0, 1) := by decide +kernel
theorem dX10_next_8 : decode cX10_next 8 = .ok (.getfield 181, 3) := by decide +kernel
theorem dX10_next_11 : decode cX10_next 11 = .ok (.goto 4, 3) := by decide +kernel
theorem dX10_next_14 : decode cX10_next 14 = .ok (.lconst 0, 1) := by decide +kernel
theorem dX10_next_15 : decode cX10_next 15 = .ok (.lstore_n 1, 1) := by decide +kernel
theorem dX10_next_16 : decode cX10_next 16 = .ok (.aload_n 0, 1) := by decide +kernel
theorem dX10_next_17 : decode cX10_next 17 = .ok (.getfield 106, 3) := by decide +kernel
theorem dX10_next_20 : decode cX10_next 20 = .ok (.ifCond .eq 10, 3) := by decide +kernel
theorem dX10_next_23 : decode cX10_next 23 = .ok (.aload_n 0, 1) := by decide +kernel
theorem dX10_next_24 : decode cX10_next 24 = .ok (.getfield 114, 3) := by decide +kernel
theorem dX10_next_27 : decode cX10_next 27 = .ok (.goto 4, 3) := by decide +kernel
theorem dX10_next_30 : decode cX10_next 30 = .ok (.lconst 0, 1) := by decide +kernel
theorem dX10_next_31 : decode cX10_next 31 = .ok (.lstore_n 3, 1) := by decide +kernel
theorem dX10_next_32 : decode cX10_next 32 = .ok (.aload_n 0, 1) := by decide +kernel
theorem dX10_next_33 : decode cX10_next 33 = .ok (.getfield 106, 3) := by decide +kernel
theorem dX10_next_36 : decode cX10_next 36 = .ok (.ifCond .eq 10, 3) := by decide +kernel
theorem dX10_next_39 : decode cX10_next 39 = .ok (.aload_n 0, 1) := by decide +kernel
theorem dX10_next_40 : decode cX10_next 40 = .ok (.getfield 184, 3) := by decide +kernel
theorem dX10_next_43 : decode cX10_next 43 = .ok (.goto 4, 3) := by decide +kernel
theorem dX10_next_46 : decode cX10_next 46 = .ok (.lconst 0, 1) := by decide +kernel
theorem dX10_next_47 : decode cX10_next 47 = .ok (.lstore 5, 2) := by decide +kernel
theorem dX10_next_49 : decode cX10_next 49 = .ok (.aload_n 0, 1) := by decide +kernel
theorem dX10_next_50 : decode cX10_next 50 = .ok (.aload_n 0, 1) := by decide +kernel
theorem dX10_next_51 : decode cX10_next 51 = .ok (.getfield 106, 3) := by decide +kernel
theorem dX10_next_54 : decode cX10_next 54 = .ok (.ifCond .ne 7, 3) := by decide +kernel
theorem dX10_next_57 : decode cX10_next 57 = .ok (.lconst 1, 1) := by decide +kernel
theorem dX10_next_58 : decode cX10_next 58 = .ok (.goto 23, 3) := by decide +kernel
theorem dX10_next_61 : decode cX10_next 61 = .ok (.aload_n 0, 1) := by decide +kernel
theorem dX10_next_62 : decode cX10_next 62 = .ok (.getfield 157, 3) := by decide +kernel
theorem dX10_next_65 : decode cX10_next 65 = .ok (.ifCond .eq 10, 3) := by decide +kernel
theorem dX10_next_68 : decode cX10_next 68 = .ok (.aload_n 0, 1) := by decide +kernel
theorem dX10_next_69 : decode cX10_next 69 = .ok (.getfield 187, 3) := by decide +kernel
theorem dX10_next_72 : decode cX10_next 72 = .ok (.goto 9, 3) := by decide +kernel
theorem dX10_next_75 : decode cX10_next 75 = .ok (.aload_n 0, 1) := by decide +kernel
theorem dX10_next_76 : decode cX10_next 76 = .ok (.getfield 175, 3) := by decide +kernel
theorem dX10_next_79 : decode cX10_next 79 = .ok (.lconst 1, 1) := by decide +kernel
theorem dX10_next_80 : decode cX10_next 80 = .ok (.ladd, 1) := by decide +kernel
theorem dX10_next_81 : decode cX10_next 81 = .ok (.putfield 190, 3) := by decide +kernel
theorem dX10_next_84 : decode cX10_next 84 = .ok (.aload_n 0, 1) := by decide +kernel
theorem dX10_next_85 : decode cX10_next 85 = .ok (.aload_n 0, 1) := by decide +kernel
theorem dX10_next_86 : decode cX10_next 86 = .ok (.getfield 67, 3) := by decide +kernel
theorem dX10_next_89 : decode cX10_next 89 = .ok (.putfield 139, 3) := by decide +kernel
theorem dX10_next_92 : decode cX10_next 92 = .ok (.aload_n 0, 1) := by decide +kernel
theorem dX10_next_93 : decode cX10_next 93 = .ok (.getfield 139, 3) := by decide +kernel
theorem dX10_next_96 : decode cX10_next 96 = .ok (.ifCond .lt 17, 3) := by decide +kernel
theorem dX10_next_99 : decode cX10_next 99 = .ok (.aload_n 0, 1) := by decide +kernel
theorem dX10_next_100 : decode cX10_next 100 = .ok (.getfield 139, 3) := by decide +kernel
theorem dX10_next_103 : decode cX10_next 103 = .ok (.sipush 1024, 3) := by decide +kernel
theorem dX10_next_106 : decode cX10_next 106 = .ok (.if_icmp .ge 7, 3) := by decide +kernel
theorem dX10_next_109 : decode cX10_next 109 = .ok (.iconst 1, 1) := by decide +kernel
theorem dX10_next_110 : decode cX10_next 110 = .ok (.goto 4, 3) := by decide +kernel
theorem dX10_next_113 : decode cX10_next 113 = .ok (.iconst 0, 1) := by decide +kernel
theorem dX10_next_114 : decode cX10_next 114 = .ok (.istore 7, 2) := by decide +kernel
theorem dX10_next_116 : decode cX10_next 116 = .ok (.iload 7, 2) := by decide +kernel
theorem dX10_next_118 : decode cX10_next 118 = .ok (.ifCond .eq 15, 3) := by decide +kernel
theorem dX10_next_121 : decode cX10_next 121 = .ok (.aload_n 0, 1) := by decide +kernel
theorem dX10_next_122 : decode cX10_next 122 = .ok (.getfield 16, 3) := by decide +kernel
theorem dX10_next_125 : decode cX10_next 125 = .ok (.aload_n 0, 1) := by decide +kernel
theorem dX10_next_126 : decode cX10_next 126 = .ok (.getfield 139, 3) := by decide +kernel
theorem dX10_next_129 : decode cX10_next 129 = .ok (.iaload, 1) := by decide +kernel
theorem dX10_next_130 : decode cX10_next 130 = .ok (.goto 4, 3) := by decide +kernel
theorem dX10_next_133 : decode cX10_next 133 = .ok (.iconst 0, 1) := by decide +kernel
theorem dX10_next_134 : decode cX10_next 134 = .ok (.istore 8, 2) := by decide +kernel
theorem dX10_next_136 : decode cX10_next 136 = .ok (.iload 7, 2) := by decide +kernel
theorem dX10_next_138 : decode cX10_next 138 = .ok (.ifCond .eq 11, 3) := by decide +kernel
theorem dX10_next_141 : decode cX10_next 141 = .ok (.iload 8, 2) := by decide +kernel
theorem dX10_next_143 : decode cX10_next 143 = .ok (.bipush 26, 2) := by decide +kernel
theorem dX10_next_145 : decode cX10_next 145 = .ok (.iushr, 1) := by decide +kernel
theorem dX10_next_146 : decode cX10_next 146 = .ok (.goto 5, 3) := by decide +kernel
theorem dX10_next_149 : decode cX10_next 149 = .ok (.bipush 63, 2) := by decide +kernel
theorem dX10_next_151 : decode cX10_next 151 = .ok (.istore 9, 2) := by decide +kernel
theorem dX10_next_153 : decode cX10_next 153 = .ok (.iload 8, 2) := by decide +kernel
theorem dX10_next_155 : decode cX10_next 155 = .ok (.bipush 22, 2) := by decide +kernel
theorem dX10_next_157 : decode cX10_next 157 = .ok (.ishr, 1) := by decide +kernel
theorem dX10_next_158 : decode cX10_next 158 = .ok (.bipush 15, 2) := by decide +kernel
theorem dX10_next_160 : decode cX10_next 160 = .ok (.iand, 1) := by decide +kernel
theorem dX10_next_161 : decode cX10_next 161 = .ok (.istore 10, 2) := by decide +kernel
theorem dX10_next_163 : decode cX10_next 163 = .ok (.iload 8, 2) := by decide +kernel
theorem dX10_next_165 : decode cX10_next 165 = .ok (.bipush 18, 2) := by decide +kernel
theorem dX10_next_167 : decode cX10_next 167 = .ok (.ishr, 1) := by decide +kernel
theorem dX10_next_168 : decode cX10_next 168 = .ok (.bipush 15, 2) := by decide +kernel
theorem dX10_next_170 : decode cX10_next 170 = .ok (.iand, 1) := by decide +kernel
theorem dX10_next_171 : decode cX10_next 171 = .ok (.istore 11, 2) := by decide +kernel
theorem dX10_next_173 : decode cX10_next 173 = .ok (.iload 8, 2) := by decide +kernel
theorem dX10_next_175 : decode cX10_next 175 = .ok (.bipush 14, 2) := by decide +kernel
theorem dX10_next_177 : decode cX10_next 177 = .ok (.ishr, 1) := by decide +kernel
theorem dX10_next_178 : decode cX10_next 178 = .ok (.bipush 15, 2) := by decide +kernel
theorem dX10_next_180 : decode cX10_next 180 = .ok (.iand, 1) := by decide +kernel
theorem dX10_next_181 : decode cX10_next 181 = .ok (.istore 12, 2) := by decide +kernel
theorem dX10_next_183 : decode cX10_next 183 = .ok (.iload 8, 2) := by decide +kernel
theorem dX10_next_185 : decode cX10_next 185 = .ok (.bipush 18, 2) := by decide +kernel
theorem dX10_next_187 : decode cX10_next 187 = .ok (.ishl, 1) := by decide +kernel
theorem dX10_next_188 : decode cX10_next 188 = .ok (.bipush 18, 2) := by decide +kernel
theorem dX10_next_190 : decode cX10_next 190 = .ok (.ishr, 1) := by decide +kernel
theorem dX10_next_191 : decode cX10_next 191 = .ok (.istore 13, 2) := by decide +kernel
theorem dX10_next_193 : decode cX10_next 193 = .ok (.aload_n 0, 1) := by decide +kernel
theorem dX10_next_194 : decode cX10_next 194 = .ok (.aload_n 0, 1) := by decide +kernel
theorem dX10_next_195 : decode cX10_next 195 = .ok (.getfield 190, 3) := by decide +kernel
theorem dX10_next_198 : decode cX10_next 198 = .ok (.invokevirtual 193, 3) := by decide +kernel
theorem dX10_next_201 : decode cX10_next 201 = .ok (.aload_n 0, 1) := by decide +kernel
theorem dX10_next_202 : decode cX10_next 202 = .ok (.iload 9, 2) := by decide +kernel
theorem dX10_next_204 : decode cX10_next 204 = .ok (.iload 11, 2) := by decide +kernel
theorem dX10_next_206 : decode cX10_next 206 = .ok (.iload 10, 2) := by decide +kernel
theorem dX10_next_208 : decode cX10_next 208 = .ok (.iload 13, 2) := by decide +kernel
theorem dX10_next_210 : decode cX10_next 210 = .ok (.invokevirtual 197, 3) := by decide +kernel
theorem dX10_next_213 : decode cX10_next 213 = .ok (.istore 14, 2) := by decide +kernel
theorem dX10_next_215 : decode cX10_next 215 = .ok (.iload 9, 2) := by decide +kernel
theorem dX10_next_217 : decode cX10_next 217 = .ok (.bipush 12, 2) := by decide +kernel
theorem dX10_next_219 : decode cX10_next 219 = .ok (.if_icmp .le 17, 3) := by decide +kernel
theorem dX10_next_222 : decode cX10_next 222 = .ok (.iload 9, 2) := by decide +kernel
theorem dX10_next_224 : decode cX10_next 224 = .ok (.bipush 40, 2) := by decide +kernel
theorem dX10_next_226 : decode cX10_next 226 = .ok (.if_icmp .lt 14, 3) := by decide +kernel
theorem dX10_next_229 : decode cX10_next 229 = .ok (.iload 9, 2) := by decide +kernel
theorem dX10_next_231 : decode cX10_next 231 = .ok (.bipush 43, 2) := by decide +kernel
theorem dX10_next_233 : decode cX10_next 233 = .ok (.if_icmp .gt 7, 3) := by decide +kernel
theorem dX10_next_236 : decode cX10_next 236 = .ok (.iconst 1, 1) := by decide +kernel
theorem dX10_next_237 : decode cX10_next 237 = .ok (.goto 4, 3) := by decide +kernel
