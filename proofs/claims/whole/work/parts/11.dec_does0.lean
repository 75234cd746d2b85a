theorem dX10_does_0 : decode cX10_does 0 = .ok (.aload_n 0, 1) := by decide +kernel
theorem dX10_does_1 : decode cX10_does 1 = .ok (.iconst (-1), 1) := by decide +kernel
theorem dX10_does_2 : decode cX10_does 2 = .ok (.putfield 145, 3) := by decide +kernel
theorem dX10_does_5 : decode cX10_does 5 = .ok (.aload_n 0, 1) := by decide +kernel
theorem dX10_does_6 : decode cX10_does 6 = .ok (.iconst (-1), 1) := by decide +kernel
theorem dX10_does_7 : decode cX10_does 7 = .ok (.putfield 130, 3) := by decide +kernel
theorem dX10_does_10 : decode cX10_does 10 = .ok (.aload_n 0, 1) := by decide +kernel
theorem dX10_does_11 : decode cX10_does 11 = .ok (.iconst 0, 1) := by decide +kernel
theorem dX10_does_12 : decode cX10_does 12 = .ok (.putfield 151, 3) := by decide +kernel
theorem dX10_does_15 : decode cX10_does 15 = .ok (.aload_n 0, 1) := by decide +kernel
theorem dX10_does_16 : decode cX10_does 16 = .ok (.iconst 0, 1) := by decide +kernel
theorem dX10_does_17 : decode cX10_does 17 = .ok (.putfield 160, 3) := by decide +kernel
theorem dX10_does_20 : decode cX10_does 20 = .ok (.aload_n 0, 1) := by decide +kernel
theorem dX10_does_21 : decode cX10_does 21 = .ok (.iconst 0, 1) := by decide +kernel
theorem dX10_does_22 : decode cX10_does 22 = .ok (.putfield 163, 3) := by decide +kernel
theorem dX10_does_25 : decode cX10_does 25 = .ok (.aload_n 0, 1) := by decide +kernel
theorem dX10_does_26 : decode cX10_does 26 = .ok (.iconst 0, 1) := by decide +kernel
theorem dX10_does_27 : decode cX10_does 27 = .ok (.putfield 121, 3) := by decide +kernel
theorem dX10_does_30 : decode cX10_does 30 = .ok (.aload_n 0, 1) := by decide +kernel
theorem dX10_does_31 : decode cX10_does 31 = .ok (.iconst 0, 1) := by decide +kernel
theorem dX10_does_32 : decode cX10_does 32 = .ok (.putfield 133, 3) := by decide +kernel
theorem dX10_does_35 : decode cX10_does 35 = .ok (.aload_n 0, 1) := by decide +kernel
theorem dX10_does_36 : decode cX10_does 36 = .ok (.iconst 0, 1) := by decide +kernel
theorem dX10_does_37 : decode cX10_does 37 = .ok (.putfield 142, 3) := by decide +kernel
theorem dX10_does_40 : decode cX10_does 40 = .ok (.aload_n 0, 1) := by decide +kernel
theorem dX10_does_41 : decode cX10_does 41 = .ok (.aload_n 0, 1) := by decide +kernel
theorem dX10_does_42 : decode cX10_does 42 = .ok (.getfield 139, 3) := by decide +kernel
theorem dX10_does_45 : decode cX10_does 45 = .ok (.iconst 1, 1) := by decide +kernel
theorem dX10_does_46 : decode cX10_does 46 = .ok (.iadd, 1) := by decide +kernel
theorem dX10_does_47 : decode cX10_does 47 = .ok (.putfield 67, 3) := by decide +kernel
theorem dX10_does_50 : decode cX10_does 50 = .ok (.aload_n 0, 1) := by decide +kernel
theorem dX10_does_51 : decode cX10_does 51 = .ok (.getfield 19, 3) := by decide +kernel
theorem dX10_does_54 : decode cX10_does 54 = .ok (.iload 4, 2) := by decide +kernel
theorem dX10_does_56 : decode cX10_does 56 = .ok (.iaload, 1) := by decide +kernel
theorem dX10_does_57 : decode cX10_does 57 = .ok (.istore 7, 2) := by decide +kernel
theorem dX10_does_59 : decode cX10_does 59 = .ok (.aload_n 0, 1) := by decide +kernel
theorem dX10_does_60 : decode cX10_does 60 = .ok (.getfield 19, 3) := by decide +kernel
theorem dX10_does_63 : decode cX10_does 63 = .ok (.iload 5, 2) := by decide +kernel
theorem dX10_does_65 : decode cX10_does 65 = .ok (.iaload, 1) := by decide +kernel
theorem dX10_does_66 : decode cX10_does 66 = .ok (.istore 8, 2) := by decide +kernel
theorem dX10_does_68 : decode cX10_does 68 = .ok (.iload_n 1, 1) := by decide +kernel
theorem dX10_does_69 : decode cX10_does 69 = .ok (.ifCond .ne 11, 3) := by decide +kernel
theorem dX10_does_72 : decode cX10_does 72 = .ok (.aload_n 0, 1) := by decide +kernel
theorem dX10_does_73 : decode cX10_does 73 = .ok (.iconst 3, 1) := by decide +kernel
theorem dX10_does_74 : decode cX10_does 74 = .ok (.invokevirtual 215, 3) := by decide +kernel
theorem dX10_does_77 : decode cX10_does 77 = .ok (.goto 414, 3) := by decide +kernel
theorem dX10_does_80 : decode cX10_does 80 = .ok (.iload_n 2, 1) := by decide +kernel
theorem dX10_does_81 : decode cX10_does 81 = .ok (.bipush 12, 2) := by decide +kernel
theorem dX10_does_83 : decode cX10_does 83 = .ok (.if_icmp .gt 19, 3) := by decide +kernel
theorem dX10_does_86 : decode cX10_does 86 = .ok (.aload_n 0, 1) := by decide +kernel
theorem dX10_does_87 : decode cX10_does 87 = .ok (.iload_n 3, 1) := by decide +kernel
theorem dX10_does_88 : decode cX10_does 88 = .ok (.iload_n 2, 1) := by decide +kernel
theorem dX10_does_89 : decode cX10_does 89 = .ok (.iload 7, 2) := by decide +kernel
theorem dX10_does_91 : decode cX10_does 91 = .ok (.iload 8, 2) := by decide +kernel
theorem dX10_does_93 : decode cX10_does 93 = .ok (.invokestatic 218, 3) := by decide +kernel
theorem dX10_does_96 : decode cX10_does 96 = .ok (.invokevirtual 222, 3) := by decide +kernel
theorem dX10_does_99 : decode cX10_does 99 = .ok (.goto 392, 3) := by decide +kernel
theorem dX10_does_102 : decode cX10_does 102 = .ok (.iload_n 2, 1) := by decide +kernel
theorem dX10_does_103 : decode cX10_does 103 = .ok (.bipush 16, 2) := by decide +kernel
theorem dX10_does_105 : decode cX10_does 105 = .ok (.if_icmp .lt 28, 3) := by decide +kernel
theorem dX10_does_108 : decode cX10_does 108 = .ok (.iload_n 2, 1) := by decide +kernel
theorem dX10_does_109 : decode cX10_does 109 = .ok (.bipush 25, 2) := by decide +kernel
theorem dX10_does_111 : decode cX10_does 111 = .ok (.if_icmp .gt 22, 3) := by decide +kernel
theorem dX10_does_114 : decode cX10_does 114 = .ok (.aload_n 0, 1) := by decide +kernel
theorem dX10_does_115 : decode cX10_does 115 = .ok (.iload_n 3, 1) := by decide +kernel
theorem dX10_does_116 : decode cX10_does 116 = .ok (.iload_n 2, 1) := by decide +kernel
theorem dX10_does_117 : decode cX10_does 117 = .ok (.bipush 16, 2) := by decide +kernel
theorem dX10_does_119 : decode cX10_does 119 = .ok (.isub, 1) := by decide +kernel
theorem dX10_does_120 : decode cX10_does 120 = .ok (.iload 7, 2) := by decide +kernel
theorem dX10_does_122 : decode cX10_does 122 = .ok (.iload 6, 2) := by decide +kernel
theorem dX10_does_124 : decode cX10_does 124 = .ok (.invokestatic 218, 3) := by decide +kernel
theorem dX10_does_127 : decode cX10_does 127 = .ok (.invokevirtual 222, 3) := by decide +kernel
theorem dX10_does_130 : decode cX10_does 130 = .ok (.goto 361, 3) := by decide +kernel
theorem dX10_does_133 : decode cX10_does 133 = .ok (.iload_n 2, 1) := by decide +kernel
theorem dX10_does_134 : decode cX10_does 134 = .ok (.bipush 26, 2) := by decide +kernel
theorem dX10_does_136 : decode cX10_does 136 = .ok (.if_icmp .ne 16, 3) := by decide +kernel
theorem dX10_does_139 : decode cX10_does 139 = .ok (.aload_n 0, 1) := by decide +kernel
theorem dX10_does_140 : decode cX10_does 140 = .ok (.iload_n 3, 1) := by decide +kernel
theorem dX10_does_141 : decode cX10_does 141 = .ok (.iload 6, 2) := by decide +kernel
theorem dX10_does_143 : decode cX10_does 143 = .ok (.bipush 18, 2) := by decide +kernel
theorem dX10_does_145 : decode cX10_does 145 = .ok (.ishl, 1) := by decide +kernel
theorem dX10_does_146 : decode cX10_does 146 = .ok (.invokevirtual 222, 3) := by decide +kernel
theorem dX10_does_149 : decode cX10_does 149 = .ok (.goto 342, 3) := by decide +kernel
theorem dX10_does_152 : decode cX10_does 152 = .ok (.iload_n 2, 1) := by decide +kernel
theorem dX10_does_153 : decode cX10_does 153 = .ok (.bipush 32, 2) := by decide +kernel
theorem dX10_does_155 : decode cX10_does 155 = .ok (.if_icmp .eq 9, 3) := by decide +kernel
theorem dX10_does_158 : decode cX10_does 158 = .ok (.iload_n 2, 1) := by decide +kernel
theorem dX10_does_159 : decode cX10_does 159 = .ok (.bipush 33, 2) := by decide +kernel
theorem dX10_does_161 : decode cX10_does 161 = .ok (.if_icmp .ne 119, 3) := by decide +kernel
theorem dX10_does_164 : decode cX10_does 164 = .ok (.iload 7, 2) := by decide +kernel
theorem dX10_does_166 : decode cX10_does 166 = .ok (.iload 6, 2) := by decide +kernel
theorem dX10_does_168 : decode cX10_does 168 = .ok (.iadd, 1) := by decide +kernel
theorem dX10_does_169 : decode cX10_does 169 = .ok (.istore 9, 2) := by decide +kernel
theorem dX10_does_171 : decode cX10_does 171 = .ok (.iload 9, 2) := by decide +kernel
theorem dX10_does_173 : decode cX10_does 173 = .ok (.ifCond .lt 11, 3) := by decide +kernel
theorem dX10_does_176 : decode cX10_does 176 = .ok (.iload 9, 2) := by decide +kernel
theorem dX10_does_178 : decode cX10_does 178 = .ok (.sipush 1023, 3) := by decide +kernel
theorem dX10_does_181 : decode cX10_does 181 = .ok (.if_icmp .le 11, 3) := by decide +kernel
theorem dX10_does_184 : decode cX10_does 184 = .ok (.aload_n 0, 1) := by decide +kernel
theorem dX10_does_185 : decode cX10_does 185 = .ok (.iconst 2, 1) := by decide +kernel
theorem dX10_does_186 : decode cX10_does 186 = .ok (.invokevirtual 215, 3) := by decide +kernel
theorem dX10_does_189 : decode cX10_does 189 = .ok (.goto 88, 3) := by decide +kernel
theorem dX10_does_192 : decode cX10_does 192 = .ok (.iload_n 2, 1) := by decide +kernel
theorem dX10_does_193 : decode cX10_does 193 = .ok (.bipush 32, 2) := by decide +kernel
theorem dX10_does_195 : decode cX10_does 195 = .ok (.if_icmp .ne 61, 3) := by decide +kernel
theorem dX10_does_198 : decode cX10_does 198 = .ok (.iload 9, 2) := by decide +kernel
theorem dX10_does_200 : decode cX10_does 200 = .ok (.iconst 2, 1) := by decide +kernel
theorem dX10_does_201 : decode cX10_does 201 = .ok (.ishr, 1) := by decide +kernel
theorem dX10_does_202 : decode cX10_does 202 = .ok (.istore 10, 2) := by decide +kernel
theorem dX10_does_204 : decode cX10_does 204 = .ok (.iload 10, 2) := by decide +kernel
theorem dX10_does_206 : decode cX10_does 206 = .ok (.bipush 15, 2) := by decide +kernel
theorem dX10_does_208 : decode cX10_does 208 = .ok (.iand, 1) := by decide +kernel
theorem dX10_does_209 : decode cX10_does 209 = .ok (.istore 11, 2) := by decide +kernel
theorem dX10_does_211 : decode cX10_does 211 = .ok (.aload_n 0, 1) := by decide +kernel
theorem dX10_does_212 : decode cX10_does 212 = .ok (.aload_n 0, 1) := by decide +kernel
theorem dX10_does_213 : decode cX10_does 213 = .ok (.getfield 53, 3) := by decide +kernel
theorem dX10_does_216 : decode cX10_does 216 = .ok (.iload 11, 2) := by decide +kernel
theorem dX10_does_218 : decode cX10_does 218 = .ok (.iaload, 1) := by decide +kernel
theorem dX10_does_219 : decode cX10_does 219 = .ok (.iload 10, 2) := by decide +kernel
theorem dX10_does_221 : decode cX10_does 221 = .ok (.if_icmp .eq 7, 3) := by decide +kernel
