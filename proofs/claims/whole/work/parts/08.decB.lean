theorem dX6_init_0 : decode cX6_init 0 = .ok (.aload_n 0, 1) := by decide +kernel
theorem dX6_init_1 : decode cX6_init 1 = .ok (.invokespecial 3, 3) := by decide +kernel
theorem dX6_init_4 : decode cX6_init 4 = .ok (.aload_n 0, 1) := by decide +kernel
theorem dX6_init_5 : decode cX6_init 5 = .ok (.bipush 16, 2) := by decide +kernel
theorem dX6_init_7 : decode cX6_init 7 = .ok (.newarray .int, 2) := by decide +kernel
theorem dX6_init_9 : decode cX6_init 9 = .ok (.putfield 9, 3) := by decide +kernel
theorem dX6_init_12 : decode cX6_init 12 = .ok (.return_, 1) := by decide +kernel
theorem dX6_clear_0 : decode cX6_clear 0 = .ok (.aload_n 0, 1) := by decide +kernel
theorem dX6_clear_1 : decode cX6_clear 1 = .ok (.iconst 1, 1) := by decide +kernel
theorem dX6_clear_2 : decode cX6_clear 2 = .ok (.putfield 15, 3) := by decide +kernel
theorem dX6_clear_5 : decode cX6_clear 5 = .ok (.aload_n 0, 1) := by decide +kernel
theorem dX6_clear_6 : decode cX6_clear 6 = .ok (.iconst 0, 1) := by decide +kernel
theorem dX6_clear_7 : decode cX6_clear 7 = .ok (.putfield 19, 3) := by decide +kernel
theorem dX6_clear_10 : decode cX6_clear 10 = .ok (.aload_n 0, 1) := by decide +kernel
theorem dX6_clear_11 : decode cX6_clear 11 = .ok (.iconst 0, 1) := by decide +kernel
theorem dX6_clear_12 : decode cX6_clear 12 = .ok (.putfield 22, 3) := by decide +kernel
theorem dX6_clear_15 : decode cX6_clear 15 = .ok (.aload_n 0, 1) := by decide +kernel
theorem dX6_clear_16 : decode cX6_clear 16 = .ok (.iconst 0, 1) := by decide +kernel
theorem dX6_clear_17 : decode cX6_clear 17 = .ok (.putfield 25, 3) := by decide +kernel
theorem dX6_clear_20 : decode cX6_clear 20 = .ok (.aload_n 0, 1) := by decide +kernel
theorem dX6_clear_21 : decode cX6_clear 21 = .ok (.iconst 0, 1) := by decide +kernel
theorem dX6_clear_22 : decode cX6_clear 22 = .ok (.putfield 28, 3) := by decide +kernel
theorem dX6_clear_25 : decode cX6_clear 25 = .ok (.aload_n 0, 1) := by decide +kernel
theorem dX6_clear_26 : decode cX6_clear 26 = .ok (.iconst 0, 1) := by decide +kernel
theorem dX6_clear_27 : decode cX6_clear 27 = .ok (.putfield 31, 3) := by decide +kernel
theorem dX6_clear_30 : decode cX6_clear 30 = .ok (.aload_n 0, 1) := by decide +kernel
theorem dX6_clear_31 : decode cX6_clear 31 = .ok (.iconst 0, 1) := by decide +kernel
theorem dX6_clear_32 : decode cX6_clear 32 = .ok (.putfield 34, 3) := by decide +kernel
theorem dX6_clear_35 : decode cX6_clear 35 = .ok (.aload_n 0, 1) := by decide +kernel
theorem dX6_clear_36 : decode cX6_clear 36 = .ok (.getfield 9, 3) := by decide +kernel
theorem dX6_clear_39 : decode cX6_clear 39 = .ok (.iconst 0, 1) := by decide +kernel
theorem dX6_clear_40 : decode cX6_clear 40 = .ok (.invokestatic 37, 3) := by decide +kernel
theorem dX6_clear_43 : decode cX6_clear 43 = .ok (.return_, 1) := by decide +kernel
theorem dX6_pass_0 : decode cX6_pass 0 = .ok (.aload_n 0, 1) := by decide +kernel
theorem dX6_pass_1 : decode cX6_pass 1 = .ok (.aload_n 0, 1) := by decide +kernel
theorem dX6_pass_2 : decode cX6_pass 2 = .ok (.getfield 15, 3) := by decide +kernel
theorem dX6_pass_5 : decode cX6_pass 5 = .ok (.iconst 1, 1) := by decide +kernel
theorem dX6_pass_6 : decode cX6_pass 6 = .ok (.iadd, 1) := by decide +kernel
theorem dX6_pass_7 : decode cX6_pass 7 = .ok (.aload_n 0, 1) := by decide +kernel
theorem dX6_pass_8 : decode cX6_pass 8 = .ok (.getfield 22, 3) := by decide +kernel
theorem dX6_pass_11 : decode cX6_pass 11 = .ok (.invokestatic 43, 3) := by decide +kernel
theorem dX6_pass_14 : decode cX6_pass 14 = .ok (.putfield 19, 3) := by decide +kernel
theorem dX6_pass_17 : decode cX6_pass 17 = .ok (.aload_n 0, 1) := by decide +kernel
theorem dX6_pass_18 : decode cX6_pass 18 = .ok (.aload_n 0, 1) := by decide +kernel
theorem dX6_pass_19 : decode cX6_pass 19 = .ok (.getfield 19, 3) := by decide +kernel
theorem dX6_pass_22 : decode cX6_pass 22 = .ok (.iconst 1, 1) := by decide +kernel
theorem dX6_pass_23 : decode cX6_pass 23 = .ok (.iadd, 1) := by decide +kernel
theorem dX6_pass_24 : decode cX6_pass 24 = .ok (.aload_n 0, 1) := by decide +kernel
theorem dX6_pass_25 : decode cX6_pass 25 = .ok (.getfield 28, 3) := by decide +kernel
theorem dX6_pass_28 : decode cX6_pass 28 = .ok (.invokestatic 43, 3) := by decide +kernel
theorem dX6_pass_31 : decode cX6_pass 31 = .ok (.putfield 22, 3) := by decide +kernel
theorem dX6_pass_34 : decode cX6_pass 34 = .ok (.aload_n 1, 1) := by decide +kernel
theorem dX6_pass_35 : decode cX6_pass 35 = .ok (.invokevirtual 49, 3) := by decide +kernel
theorem dX6_pass_38 : decode cX6_pass 38 = .ok (.ifCond .eq 25, 3) := by decide +kernel
theorem dX6_pass_41 : decode cX6_pass 41 = .ok (.aload_n 0, 1) := by decide +kernel
theorem dX6_pass_42 : decode cX6_pass 42 = .ok (.aload_n 0, 1) := by decide +kernel
theorem dX6_pass_43 : decode cX6_pass 43 = .ok (.getfield 22, 3) := by decide +kernel
theorem dX6_pass_46 : decode cX6_pass 46 = .ok (.aload_n 0, 1) := by decide +kernel
theorem dX6_pass_47 : decode cX6_pass 47 = .ok (.getfield 9, 3) := by decide +kernel
theorem dX6_pass_50 : decode cX6_pass 50 = .ok (.aload_n 1, 1) := by decide +kernel
theorem dX6_pass_51 : decode cX6_pass 51 = .ok (.getfield 55, 3) := by decide +kernel
theorem dX6_pass_54 : decode cX6_pass 54 = .ok (.iaload, 1) := by decide +kernel
theorem dX6_pass_55 : decode cX6_pass 55 = .ok (.iconst 1, 1) := by decide +kernel
theorem dX6_pass_56 : decode cX6_pass 56 = .ok (.iadd, 1) := by decide +kernel
theorem dX6_pass_57 : decode cX6_pass 57 = .ok (.invokestatic 43, 3) := by decide +kernel
theorem dX6_pass_60 : decode cX6_pass 60 = .ok (.putfield 22, 3) := by decide +kernel
theorem dX6_pass_63 : decode cX6_pass 63 = .ok (.aload_n 1, 1) := by decide +kernel
theorem dX6_pass_64 : decode cX6_pass 64 = .ok (.invokevirtual 58, 3) := by decide +kernel
theorem dX6_pass_67 : decode cX6_pass 67 = .ok (.ifCond .eq 25, 3) := by decide +kernel
theorem dX6_pass_70 : decode cX6_pass 70 = .ok (.aload_n 0, 1) := by decide +kernel
theorem dX6_pass_71 : decode cX6_pass 71 = .ok (.aload_n 0, 1) := by decide +kernel
theorem dX6_pass_72 : decode cX6_pass 72 = .ok (.getfield 22, 3) := by decide +kernel
theorem dX6_pass_75 : decode cX6_pass 75 = .ok (.aload_n 0, 1) := by decide +kernel
theorem dX6_pass_76 : decode cX6_pass 76 = .ok (.getfield 9, 3) := by decide +kernel
theorem dX6_pass_79 : decode cX6_pass 79 = .ok (.aload_n 1, 1) := by decide +kernel
theorem dX6_pass_80 : decode cX6_pass 80 = .ok (.getfield 61, 3) := by decide +kernel
theorem dX6_pass_83 : decode cX6_pass 83 = .ok (.iaload, 1) := by decide +kernel
theorem dX6_pass_84 : decode cX6_pass 84 = .ok (.iconst 1, 1) := by decide +kernel
theorem dX6_pass_85 : decode cX6_pass 85 = .ok (.iadd, 1) := by decide +kernel
theorem dX6_pass_86 : decode cX6_pass 86 = .ok (.invokestatic 43, 3) := by decide +kernel
theorem dX6_pass_89 : decode cX6_pass 89 = .ok (.putfield 22, 3) := by decide +kernel
theorem dX6_pass_92 : decode cX6_pass 92 = .ok (.aload_n 0, 1) := by decide +kernel
theorem dX6_pass_93 : decode cX6_pass 93 = .ok (.aload_n 0, 1) := by decide +kernel
theorem dX6_pass_94 : decode cX6_pass 94 = .ok (.getfield 22, 3) := by decide +kernel
theorem dX6_pass_97 : decode cX6_pass 97 = .ok (.aload_n 1, 1) := by decide +kernel
theorem dX6_pass_98 : decode cX6_pass 98 = .ok (.invokevirtual 64, 3) := by decide +kernel
theorem dX6_pass_101 : decode cX6_pass 101 = .ok (.iadd, 1) := by decide +kernel
theorem dX6_pass_102 : decode cX6_pass 102 = .ok (.iconst 1, 1) := by decide +kernel
theorem dX6_pass_103 : decode cX6_pass 103 = .ok (.isub, 1) := by decide +kernel
theorem dX6_pass_104 : decode cX6_pass 104 = .ok (.putfield 25, 3) := by decide +kernel
theorem dX6_pass_107 : decode cX6_pass 107 = .ok (.aload_n 0, 1) := by decide +kernel
theorem dX6_pass_108 : decode cX6_pass 108 = .ok (.aload_n 0, 1) := by decide +kernel
theorem dX6_pass_109 : decode cX6_pass 109 = .ok (.getfield 25, 3) := by decide +kernel
theorem dX6_pass_112 : decode cX6_pass 112 = .ok (.iconst 1, 1) := by decide +kernel
theorem dX6_pass_113 : decode cX6_pass 113 = .ok (.iadd, 1) := by decide +kernel
theorem dX6_pass_114 : decode cX6_pass 114 = .ok (.aload_n 0, 1) := by decide +kernel
theorem dX6_pass_115 : decode cX6_pass 115 = .ok (.getfield 34, 3) := by decide +kernel
theorem dX6_pass_118 : decode cX6_pass 118 = .ok (.invokestatic 43, 3) := by decide +kernel
theorem dX6_pass_121 : decode cX6_pass 121 = .ok (.putfield 28, 3) := by decide +kernel
theorem dX6_pass_124 : decode cX6_pass 124 = .ok (.aload_n 1, 1) := by decide +kernel
theorem dX6_pass_125 : decode cX6_pass 125 = .ok (.getfield 68, 3) := by decide +kernel
theorem dX6_pass_128 : decode cX6_pass 128 = .ok (.bipush 33, 2) := by decide +kernel
theorem dX6_pass_130 : decode cX6_pass 130 = .ok (.if_icmp .ne 25, 3) := by decide +kernel
theorem dX6_pass_133 : decode cX6_pass 133 = .ok (.aload_n 0, 1) := by decide +kernel
theorem dX6_pass_134 : decode cX6_pass 134 = .ok (.aload_n 0, 1) := by decide +kernel
theorem dX6_pass_135 : decode cX6_pass 135 = .ok (.getfield 28, 3) := by decide +kernel
theorem dX6_pass_138 : decode cX6_pass 138 = .ok (.aload_n 0, 1) := by decide +kernel
theorem dX6_pass_139 : decode cX6_pass 139 = .ok (.getfield 9, 3) := by decide +kernel
theorem dX6_pass_142 : decode cX6_pass 142 = .ok (.aload_n 1, 1) := by decide +kernel
theorem dX6_pass_143 : decode cX6_pass 143 = .ok (.getfield 61, 3) := by decide +kernel
theorem dX6_pass_146 : decode cX6_pass 146 = .ok (.iaload, 1) := by decide +kernel
theorem dX6_pass_147 : decode cX6_pass 147 = .ok (.iconst 1, 1) := by decide +kernel
theorem dX6_pass_148 : decode cX6_pass 148 = .ok (.iadd, 1) := by decide +kernel
theorem dX6_pass_149 : decode cX6_pass 149 = .ok (.invokestatic 43, 3) := by decide +kernel
theorem dX6_pass_152 : decode cX6_pass 152 = .ok (.putfield 28, 3) := by decide +kernel
theorem dX6_pass_155 : decode cX6_pass 155 = .ok (.aload_n 0, 1) := by decide +kernel
theorem dX6_pass_156 : decode cX6_pass 156 = .ok (.iload_n 2, 1) := by decide +kernel
theorem dX6_pass_157 : decode cX6_pass 157 = .ok (.ifCond .eq 13, 3) := by decide +kernel
theorem dX6_pass_160 : decode cX6_pass 160 = .ok (.aload_n 0, 1) := by decide +kernel
theorem dX6_pass_161 : decode cX6_pass 161 = .ok (.getfield 28, 3) := by decide +kernel
theorem dX6_pass_164 : decode cX6_pass 164 = .ok (.bipush 8, 2) := by decide +kernel
theorem dX6_pass_166 : decode cX6_pass 166 = .ok (.iadd, 1) := by decide +kernel
theorem dX6_pass_167 : decode cX6_pass 167 = .ok (.goto 7, 3) := by decide +kernel
theorem dX6_pass_170 : decode cX6_pass 170 = .ok (.aload_n 0, 1) := by decide +kernel
theorem dX6_pass_171 : decode cX6_pass 171 = .ok (.getfield 28, 3) := by decide +kernel
theorem dX6_pass_174 : decode cX6_pass 174 = .ok (.putfield 31, 3) := by decide +kernel
theorem dX6_pass_177 : decode cX6_pass 177 = .ok (.aload_n 0, 1) := by decide +kernel
theorem dX6_pass_178 : decode cX6_pass 178 = .ok (.aload_n 0, 1) := by decide +kernel
theorem dX6_pass_179 : decode cX6_pass 179 = .ok (.getfield 31, 3) := by decide +kernel
theorem dX6_pass_182 : decode cX6_pass 182 = .ok (.iconst 1, 1) := by decide +kernel
theorem dX6_pass_183 : decode cX6_pass 183 = .ok (.iadd, 1) := by decide +kernel
theorem dX6_pass_184 : decode cX6_pass 184 = .ok (.putfield 34, 3) := by decide +kernel
theorem dX6_pass_187 : decode cX6_pass 187 = .ok (.aload_n 1, 1) := by decide +kernel
theorem dX6_pass_188 : decode cX6_pass 188 = .ok (.invokevirtual 71, 3) := by decide +kernel
theorem dX6_pass_191 : decode cX6_pass 191 = .ok (.ifCond .eq 39, 3) := by decide +kernel
theorem dX6_pass_194 : decode cX6_pass 194 = .ok (.aload_n 1, 1) := by decide +kernel
theorem dX6_pass_195 : decode cX6_pass 195 = .ok (.getfield 74, 3) := by decide +kernel
theorem dX6_pass_198 : decode cX6_pass 198 = .ok (.ifCond .eq 32, 3) := by decide +kernel
theorem dX6_pass_201 : decode cX6_pass 201 = .ok (.aload_n 0, 1) := by decide +kernel
theorem dX6_pass_202 : decode cX6_pass 202 = .ok (.getfield 9, 3) := by decide +kernel
theorem dX6_pass_205 : decode cX6_pass 205 = .ok (.aload_n 1, 1) := by decide +kernel
theorem dX6_pass_206 : decode cX6_pass 206 = .ok (.getfield 74, 3) := by decide +kernel
theorem dX6_pass_209 : decode cX6_pass 209 = .ok (.aload_n 1, 1) := by decide +kernel
theorem dX6_pass_210 : decode cX6_pass 210 = .ok (.getfield 68, 3) := by decide +kernel
theorem dX6_pass_213 : decode cX6_pass 213 = .ok (.bipush 32, 2) := by decide +kernel
theorem dX6_pass_215 : decode cX6_pass 215 = .ok (.if_icmp .ne 10, 3) := by decide +kernel
theorem dX6_pass_218 : decode cX6_pass 218 = .ok (.aload_n 0, 1) := by decide +kernel
theorem dX6_pass_219 : decode cX6_pass 219 = .ok (.getfield 31, 3) := by decide +kernel
theorem dX6_pass_222 : decode cX6_pass 222 = .ok (.goto 7, 3) := by decide +kernel
theorem dX6_pass_225 : decode cX6_pass 225 = .ok (.aload_n 0, 1) := by decide +kernel
theorem dX6_pass_226 : decode cX6_pass 226 = .ok (.getfield 25, 3) := by decide +kernel
theorem dX6_pass_229 : decode cX6_pass 229 = .ok (.iastore, 1) := by decide +kernel
theorem dX6_pass_230 : decode cX6_pass 230 = .ok (.return_, 1) := by decide +kernel
theorem dX6_goOn_0 : decode cX6_goOn 0 = .ok (.aload_n 0, 1) := by decide +kernel
theorem dX6_goOn_1 : decode cX6_goOn 1 = .ok (.iload_n 1, 1) := by decide +kernel
theorem dX6_goOn_2 : decode cX6_goOn 2 = .ok (.ifCond .eq 10, 3) := by decide +kernel
theorem dX6_goOn_5 : decode cX6_goOn 5 = .ok (.aload_n 0, 1) := by decide +kernel
theorem dX6_goOn_6 : decode cX6_goOn 6 = .ok (.getfield 19, 3) := by decide +kernel
theorem dX6_goOn_9 : decode cX6_goOn 9 = .ok (.goto 9, 3) := by decide +kernel
theorem dX6_goOn_12 : decode cX6_goOn 12 = .ok (.aload_n 0, 1) := by decide +kernel
theorem dX6_goOn_13 : decode cX6_goOn 13 = .ok (.getfield 25, 3) := by decide +kernel
theorem dX6_goOn_16 : decode cX6_goOn 16 = .ok (.iconst 1, 1) := by decide +kernel
theorem dX6_goOn_17 : decode cX6_goOn 17 = .ok (.iadd, 1) := by decide +kernel
theorem dX6_goOn_18 : decode cX6_goOn 18 = .ok (.putfield 15, 3) := by decide +kernel
theorem dX6_goOn_21 : decode cX6_goOn 21 = .ok (.return_, 1) := by decide +kernel
theorem dX2_init_0 : decode cX2_init 0 = .ok (.aload_n 0, 1) := by decide +kernel
theorem dX2_init_1 : decode cX2_init 1 = .ok (.invokespecial 5, 3) := by decide +kernel
theorem dX2_init_4 : decode cX2_init 4 = .ok (.aload_n 0, 1) := by decide +kernel
theorem dX2_init_5 : decode cX2_init 5 = .ok (.bipush 64, 2) := by decide +kernel
theorem dX2_init_7 : decode cX2_init 7 = .ok (.newarray .int, 2) := by decide +kernel
theorem dX2_init_9 : decode cX2_init 9 = .ok (.putfield 11, 3) := by decide +kernel
theorem dX2_init_12 : decode cX2_init 12 = .ok (.aload_n 0, 1) := by decide +kernel
theorem dX2_init_13 : decode cX2_init 13 = .ok (.new 15, 3) := by decide +kernel
theorem dX2_init_16 : decode cX2_init 16 = .ok (.dup, 1) := by decide +kernel
theorem dX2_init_17 : decode cX2_init 17 = .ok (.invokespecial 17, 3) := by decide +kernel
theorem dX2_init_20 : decode cX2_init 20 = .ok (.putfield 18, 3) := by decide +kernel
theorem dX2_init_23 : decode cX2_init 23 = .ok (.aload_n 0, 1) := by decide +kernel
theorem dX2_init_24 : decode cX2_init 24 = .ok (.iconst 4, 1) := by decide +kernel
theorem dX2_init_25 : decode cX2_init 25 = .ok (.newarray .int, 2) := by decide +kernel
theorem dX2_init_27 : decode cX2_init 27 = .ok (.putfield 22, 3) := by decide +kernel
theorem dX2_init_30 : decode cX2_init 30 = .ok (.aload_n 0, 1) := by decide +kernel
theorem dX2_init_31 : decode cX2_init 31 = .ok (.iconst 4, 1) := by decide +kernel
theorem dX2_init_32 : decode cX2_init 32 = .ok (.newarray .int, 2) := by decide +kernel
theorem dX2_init_34 : decode cX2_init 34 = .ok (.putfield 25, 3) := by decide +kernel
theorem dX2_init_37 : decode cX2_init 37 = .ok (.aload_n 0, 1) := by decide +kernel
theorem dX2_init_38 : decode cX2_init 38 = .ok (.iconst 4, 1) := by decide +kernel
theorem dX2_init_39 : decode cX2_init 39 = .ok (.newarray .int, 2) := by decide +kernel
theorem dX2_init_41 : decode cX2_init 41 = .ok (.putfield 28, 3) := by decide +kernel
theorem dX2_init_44 : decode cX2_init 44 = .ok (.return_, 1) := by decide +kernel
theorem dX2_clear_0 : decode cX2_clear 0 = .ok (.aload_n 0, 1) := by decide +kernel
theorem dX2_clear_1 : decode cX2_clear 1 = .ok (.getfield 11, 3) := by decide +kernel
theorem dX2_clear_4 : decode cX2_clear 4 = .ok (.iconst 1, 1) := by decide +kernel
theorem dX2_clear_5 : decode cX2_clear 5 = .ok (.invokestatic 31, 3) := by decide +kernel
theorem dX2_clear_8 : decode cX2_clear 8 = .ok (.aload_n 0, 1) := by decide +kernel
theorem dX2_clear_9 : decode cX2_clear 9 = .ok (.getfield 18, 3) := by decide +kernel
theorem dX2_clear_12 : decode cX2_clear 12 = .ok (.iconst 0, 1) := by decide +kernel
theorem dX2_clear_13 : decode cX2_clear 13 = .ok (.putfield 37, 3) := by decide +kernel
theorem dX2_clear_16 : decode cX2_clear 16 = .ok (.aload_n 0, 1) := by decide +kernel
theorem dX2_clear_17 : decode cX2_clear 17 = .ok (.iconst 0, 1) := by decide +kernel
theorem dX2_clear_18 : decode cX2_clear 18 = .ok (.putfield 41, 3) := by decide +kernel
theorem dX2_clear_21 : decode cX2_clear 21 = .ok (.aload_n 0, 1) := by decide +kernel
theorem dX2_clear_22 : decode cX2_clear 22 = .ok (.iconst 0, 1) := by decide +kernel
theorem dX2_clear_23 : decode cX2_clear 23 = .ok (.putfield 44, 3) := by decide +kernel
theorem dX2_clear_26 : decode cX2_clear 26 = .ok (.return_, 1) := by decide +kernel
theorem dX2_heedThoseBelow_0 : decode cX2_heedThoseBelow 0 = .ok (.aload_n 0, 1) := by decide +kernel
theorem dX2_heedThoseBelow_1 : decode cX2_heedThoseBelow 1 = .ok (.getfield 41, 3) := by decide +kernel
theorem dX2_heedThoseBelow_4 : decode cX2_heedThoseBelow 4 = .ok (.aload_n 0, 1) := by decide +kernel
theorem dX2_heedThoseBelow_5 : decode cX2_heedThoseBelow 5 = .ok (.getfield 44, 3) := by decide +kernel
theorem dX2_heedThoseBelow_8 : decode cX2_heedThoseBelow 8 = .ok (.if_icmp .ge 57, 3) := by decide +kernel
theorem dX2_heedThoseBelow_11 : decode cX2_heedThoseBelow 11 = .ok (.aload_n 0, 1) := by decide +kernel
theorem dX2_heedThoseBelow_12 : decode cX2_heedThoseBelow 12 = .ok (.getfield 28, 3) := by decide +kernel
theorem dX2_heedThoseBelow_15 : decode cX2_heedThoseBelow 15 = .ok (.aload_n 0, 1) := by decide +kernel
theorem dX2_heedThoseBelow_16 : decode cX2_heedThoseBelow 16 = .ok (.getfield 41, 3) := by decide +kernel
theorem dX2_heedThoseBelow_19 : decode cX2_heedThoseBelow 19 = .ok (.iconst 3, 1) := by decide +kernel
theorem dX2_heedThoseBelow_20 : decode cX2_heedThoseBelow 20 = .ok (.iand, 1) := by decide +kernel
theorem dX2_heedThoseBelow_21 : decode cX2_heedThoseBelow 21 = .ok (.iaload, 1) := by decide +kernel
theorem dX2_heedThoseBelow_22 : decode cX2_heedThoseBelow 22 = .ok (.iload_n 1, 1) := by decide +kernel
theorem dX2_heedThoseBelow_23 : decode cX2_heedThoseBelow 23 = .ok (.if_icmp .ge 42, 3) := by decide +kernel
theorem dX2_heedThoseBelow_26 : decode cX2_heedThoseBelow 26 = .ok (.aload_n 0, 1) := by decide +kernel
theorem dX2_heedThoseBelow_27 : decode cX2_heedThoseBelow 27 = .ok (.aload_n 0, 1) := by decide +kernel
theorem dX2_heedThoseBelow_28 : decode cX2_heedThoseBelow 28 = .ok (.getfield 22, 3) := by decide +kernel
theorem dX2_heedThoseBelow_31 : decode cX2_heedThoseBelow 31 = .ok (.aload_n 0, 1) := by decide +kernel
theorem dX2_heedThoseBelow_32 : decode cX2_heedThoseBelow 32 = .ok (.getfield 41, 3) := by decide +kernel
theorem dX2_heedThoseBelow_35 : decode cX2_heedThoseBelow 35 = .ok (.iconst 3, 1) := by decide +kernel
theorem dX2_heedThoseBelow_36 : decode cX2_heedThoseBelow 36 = .ok (.iand, 1) := by decide +kernel
theorem dX2_heedThoseBelow_37 : decode cX2_heedThoseBelow 37 = .ok (.iaload, 1) := by decide +kernel
theorem dX2_heedThoseBelow_38 : decode cX2_heedThoseBelow 38 = .ok (.aload_n 0, 1) := by decide +kernel
theorem dX2_heedThoseBelow_39 : decode cX2_heedThoseBelow 39 = .ok (.getfield 25, 3) := by decide +kernel
theorem dX2_heedThoseBelow_42 : decode cX2_heedThoseBelow 42 = .ok (.aload_n 0, 1) := by decide +kernel
theorem dX2_heedThoseBelow_43 : decode cX2_heedThoseBelow 43 = .ok (.getfield 41, 3) := by decide +kernel
theorem dX2_heedThoseBelow_46 : decode cX2_heedThoseBelow 46 = .ok (.iconst 3, 1) := by decide +kernel
theorem dX2_heedThoseBelow_47 : decode cX2_heedThoseBelow 47 = .ok (.iand, 1) := by decide +kernel
theorem dX2_heedThoseBelow_48 : decode cX2_heedThoseBelow 48 = .ok (.iaload, 1) := by decide +kernel
theorem dX2_heedThoseBelow_49 : decode cX2_heedThoseBelow 49 = .ok (.invokevirtual 47, 3) := by decide +kernel
theorem dX2_heedThoseBelow_52 : decode cX2_heedThoseBelow 52 = .ok (.aload_n 0, 1) := by decide +kernel
theorem dX2_heedThoseBelow_53 : decode cX2_heedThoseBelow 53 = .ok (.dup, 1) := by decide +kernel
theorem dX2_heedThoseBelow_54 : decode cX2_heedThoseBelow 54 = .ok (.getfield 41, 3) := by decide +kernel
theorem dX2_heedThoseBelow_57 : decode cX2_heedThoseBelow 57 = .ok (.iconst 1, 1) := by decide +kernel
theorem dX2_heedThoseBelow_58 : decode cX2_heedThoseBelow 58 = .ok (.iadd, 1) := by decide +kernel
theorem dX2_heedThoseBelow_59 : decode cX2_heedThoseBelow 59 = .ok (.putfield 41, 3) := by decide +kernel
theorem dX2_heedThoseBelow_62 : decode cX2_heedThoseBelow 62 = .ok (.goto (-62), 3) := by decide +kernel
theorem dX2_heedThoseBelow_65 : decode cX2_heedThoseBelow 65 = .ok (.return_, 1) := by decide +kernel
theorem dX2_guess_0 : decode cX2_guess 0 = .ok (.aload_n 1, 1) := by decide +kernel
theorem dX2_guess_1 : decode cX2_guess 1 = .ok (.invokevirtual 51, 3) := by decide +kernel
theorem dX2_guess_4 : decode cX2_guess 4 = .ok (.ifCond .eq 38, 3) := by decide +kernel
theorem dX2_guess_7 : decode cX2_guess 7 = .ok (.aload_n 0, 1) := by decide +kernel
theorem dX2_guess_8 : decode cX2_guess 8 = .ok (.getfield 11, 3) := by decide +kernel
theorem dX2_guess_11 : decode cX2_guess 11 = .ok (.aload_n 1, 1) := by decide +kernel
theorem dX2_guess_12 : decode cX2_guess 12 = .ok (.getfield 57, 3) := by decide +kernel
theorem dX2_guess_15 : decode cX2_guess 15 = .ok (.bipush 63, 2) := by decide +kernel
theorem dX2_guess_17 : decode cX2_guess 17 = .ok (.iand, 1) := by decide +kernel
theorem dX2_guess_18 : decode cX2_guess 18 = .ok (.iaload, 1) := by decide +kernel
theorem dX2_guess_19 : decode cX2_guess 19 = .ok (.iconst 2, 1) := by decide +kernel
theorem dX2_guess_20 : decode cX2_guess 20 = .ok (.if_icmp .lt 15, 3) := by decide +kernel
theorem dX2_guess_23 : decode cX2_guess 23 = .ok (.aload_n 1, 1) := by decide +kernel
theorem dX2_guess_24 : decode cX2_guess 24 = .ok (.getfield 57, 3) := by decide +kernel
theorem dX2_guess_27 : decode cX2_guess 27 = .ok (.aload_n 1, 1) := by decide +kernel
theorem dX2_guess_28 : decode cX2_guess 28 = .ok (.getfield 60, 3) := by decide +kernel
theorem dX2_guess_31 : decode cX2_guess 31 = .ok (.iadd, 1) := by decide +kernel
theorem dX2_guess_32 : decode cX2_guess 32 = .ok (.goto 9, 3) := by decide +kernel
theorem dX2_guess_35 : decode cX2_guess 35 = .ok (.aload_n 1, 1) := by decide +kernel
theorem dX2_guess_36 : decode cX2_guess 36 = .ok (.getfield 57, 3) := by decide +kernel
theorem dX2_guess_39 : decode cX2_guess 39 = .ok (.iconst 1, 1) := by decide +kernel
theorem dX2_guess_40 : decode cX2_guess 40 = .ok (.iadd, 1) := by decide +kernel
theorem dX2_guess_41 : decode cX2_guess 41 = .ok (.ireturn, 1) := by decide +kernel
theorem dX2_guess_42 : decode cX2_guess 42 = .ok (.aload_n 1, 1) := by decide +kernel
theorem dX2_guess_43 : decode cX2_guess 43 = .ok (.getfield 63, 3) := by decide +kernel
theorem dX2_guess_46 : decode cX2_guess 46 = .ok (.bipush 44, 2) := by decide +kernel
theorem dX2_guess_48 : decode cX2_guess 48 = .ok (.if_icmp .ne 13, 3) := by decide +kernel
theorem dX2_guess_51 : decode cX2_guess 51 = .ok (.aload_n 1, 1) := by decide +kernel
theorem dX2_guess_52 : decode cX2_guess 52 = .ok (.getfield 57, 3) := by decide +kernel
theorem dX2_guess_55 : decode cX2_guess 55 = .ok (.aload_n 1, 1) := by decide +kernel
theorem dX2_guess_56 : decode cX2_guess 56 = .ok (.getfield 60, 3) := by decide +kernel
theorem dX2_guess_59 : decode cX2_guess 59 = .ok (.iadd, 1) := by decide +kernel
theorem dX2_guess_60 : decode cX2_guess 60 = .ok (.ireturn, 1) := by decide +kernel
theorem dX2_guess_61 : decode cX2_guess 61 = .ok (.aload_n 1, 1) := by decide +kernel
theorem dX2_guess_62 : decode cX2_guess 62 = .ok (.invokevirtual 66, 3) := by decide +kernel
theorem dX2_guess_65 : decode cX2_guess 65 = .ok (.ifCond .eq 21, 3) := by decide +kernel
theorem dX2_guess_68 : decode cX2_guess 68 = .ok (.aload_n 0, 1) := by decide +kernel
theorem dX2_guess_69 : decode cX2_guess 69 = .ok (.getfield 18, 3) := by decide +kernel
theorem dX2_guess_72 : decode cX2_guess 72 = .ok (.getfield 37, 3) := by decide +kernel
theorem dX2_guess_75 : decode cX2_guess 75 = .ok (.ifCond .le 11, 3) := by decide +kernel
theorem dX2_guess_78 : decode cX2_guess 78 = .ok (.aload_n 0, 1) := by decide +kernel
theorem dX2_guess_79 : decode cX2_guess 79 = .ok (.getfield 18, 3) := by decide +kernel
theorem dX2_guess_82 : decode cX2_guess 82 = .ok (.invokevirtual 69, 3) := by decide +kernel
theorem dX2_guess_85 : decode cX2_guess 85 = .ok (.ireturn, 1) := by decide +kernel
theorem dX2_guess_86 : decode cX2_guess 86 = .ok (.aload_n 1, 1) := by decide +kernel
theorem dX2_guess_87 : decode cX2_guess 87 = .ok (.getfield 57, 3) := by decide +kernel
theorem dX2_guess_90 : decode cX2_guess 90 = .ok (.iconst 1, 1) := by decide +kernel
theorem dX2_guess_91 : decode cX2_guess 91 = .ok (.iadd, 1) := by decide +kernel
theorem dX2_guess_92 : decode cX2_guess 92 = .ok (.ireturn, 1) := by decide +kernel
theorem dX2_hear_0 : decode cX2_hear 0 = .ok (.aload_n 1, 1) := by decide +kernel
theorem dX2_hear_1 : decode cX2_hear 1 = .ok (.invokevirtual 51, 3) := by decide +kernel
theorem dX2_hear_4 : decode cX2_hear 4 = .ok (.ifCond .eq 24, 3) := by decide +kernel
theorem dX2_hear_7 : decode cX2_hear 7 = .ok (.aload_n 0, 1) := by decide +kernel
theorem dX2_hear_8 : decode cX2_hear 8 = .ok (.iload_n 2, 1) := by decide +kernel
theorem dX2_hear_9 : decode cX2_hear 9 = .ok (.ifCond .eq 7, 3) := by decide +kernel
theorem dX2_hear_12 : decode cX2_hear 12 = .ok (.iconst 0, 1) := by decide +kernel
theorem dX2_hear_13 : decode cX2_hear 13 = .ok (.goto 4, 3) := by decide +kernel
theorem dX2_hear_16 : decode cX2_hear 16 = .ok (.iconst 1, 1) := by decide +kernel
theorem dX2_hear_17 : decode cX2_hear 17 = .ok (.aload_n 1, 1) := by decide +kernel
theorem dX2_hear_18 : decode cX2_hear 18 = .ok (.getfield 57, 3) := by decide +kernel
theorem dX2_hear_21 : decode cX2_hear 21 = .ok (.iload_n 3, 1) := by decide +kernel
theorem dX2_hear_22 : decode cX2_hear 22 = .ok (.invokevirtual 73, 3) := by decide +kernel
theorem dX2_hear_25 : decode cX2_hear 25 = .ok (.goto 40, 3) := by decide +kernel
theorem dX2_hear_28 : decode cX2_hear 28 = .ok (.aload_n 1, 1) := by decide +kernel
theorem dX2_hear_29 : decode cX2_hear 29 = .ok (.invokevirtual 77, 3) := by decide +kernel
theorem dX2_hear_32 : decode cX2_hear 32 = .ok (.ifCond .eq 16, 3) := by decide +kernel
theorem dX2_hear_35 : decode cX2_hear 35 = .ok (.aload_n 0, 1) := by decide +kernel
theorem dX2_hear_36 : decode cX2_hear 36 = .ok (.iconst 2, 1) := by decide +kernel
theorem dX2_hear_37 : decode cX2_hear 37 = .ok (.aload_n 1, 1) := by decide +kernel
theorem dX2_hear_38 : decode cX2_hear 38 = .ok (.getfield 57, 3) := by decide +kernel
theorem dX2_hear_41 : decode cX2_hear 41 = .ok (.iload_n 3, 1) := by decide +kernel
theorem dX2_hear_42 : decode cX2_hear 42 = .ok (.invokevirtual 73, 3) := by decide +kernel
theorem dX2_hear_45 : decode cX2_hear 45 = .ok (.goto 20, 3) := by decide +kernel
theorem dX2_hear_48 : decode cX2_hear 48 = .ok (.aload_n 1, 1) := by decide +kernel
theorem dX2_hear_49 : decode cX2_hear 49 = .ok (.invokevirtual 66, 3) := by decide +kernel
theorem dX2_hear_52 : decode cX2_hear 52 = .ok (.ifCond .eq 13, 3) := by decide +kernel
theorem dX2_hear_55 : decode cX2_hear 55 = .ok (.aload_n 0, 1) := by decide +kernel
theorem dX2_hear_56 : decode cX2_hear 56 = .ok (.iconst 3, 1) := by decide +kernel
theorem dX2_hear_57 : decode cX2_hear 57 = .ok (.aload_n 1, 1) := by decide +kernel
theorem dX2_hear_58 : decode cX2_hear 58 = .ok (.getfield 57, 3) := by decide +kernel
theorem dX2_hear_61 : decode cX2_hear 61 = .ok (.iload_n 3, 1) := by decide +kernel
theorem dX2_hear_62 : decode cX2_hear 62 = .ok (.invokevirtual 73, 3) := by decide +kernel
theorem dX2_hear_65 : decode cX2_hear 65 = .ok (.return_, 1) := by decide +kernel
theorem dX2_keep_0 : decode cX2_keep 0 = .ok (.aload_n 0, 1) := by decide +kernel
theorem dX2_keep_1 : decode cX2_keep 1 = .ok (.getfield 44, 3) := by decide +kernel
theorem dX2_keep_4 : decode cX2_keep 4 = .ok (.iconst 3, 1) := by decide +kernel
theorem dX2_keep_5 : decode cX2_keep 5 = .ok (.iand, 1) := by decide +kernel
theorem dX2_keep_6 : decode cX2_keep 6 = .ok (.istore 4, 2) := by decide +kernel
theorem dX2_keep_8 : decode cX2_keep 8 = .ok (.aload_n 0, 1) := by decide +kernel
theorem dX2_keep_9 : decode cX2_keep 9 = .ok (.getfield 22, 3) := by decide +kernel
theorem dX2_keep_12 : decode cX2_keep 12 = .ok (.iload 4, 2) := by decide +kernel
theorem dX2_keep_14 : decode cX2_keep 14 = .ok (.iload_n 1, 1) := by decide +kernel
theorem dX2_keep_15 : decode cX2_keep 15 = .ok (.iastore, 1) := by decide +kernel
theorem dX2_keep_16 : decode cX2_keep 16 = .ok (.aload_n 0, 1) := by decide +kernel
theorem dX2_keep_17 : decode cX2_keep 17 = .ok (.getfield 25, 3) := by decide +kernel
theorem dX2_keep_20 : decode cX2_keep 20 = .ok (.iload 4, 2) := by decide +kernel
theorem dX2_keep_22 : decode cX2_keep 22 = .ok (.iload_n 2, 1) := by decide +kernel
theorem dX2_keep_23 : decode cX2_keep 23 = .ok (.iastore, 1) := by decide +kernel
theorem dX2_keep_24 : decode cX2_keep 24 = .ok (.aload_n 0, 1) := by decide +kernel
theorem dX2_keep_25 : decode cX2_keep 25 = .ok (.getfield 28, 3) := by decide +kernel
theorem dX2_keep_28 : decode cX2_keep 28 = .ok (.iload 4, 2) := by decide +kernel
theorem dX2_keep_30 : decode cX2_keep 30 = .ok (.iload_n 3, 1) := by decide +kernel
theorem dX2_keep_31 : decode cX2_keep 31 = .ok (.iastore, 1) := by decide +kernel
theorem dX2_keep_32 : decode cX2_keep 32 = .ok (.aload_n 0, 1) := by decide +kernel
theorem dX2_keep_33 : decode cX2_keep 33 = .ok (.dup, 1) := by decide +kernel
theorem dX2_keep_34 : decode cX2_keep 34 = .ok (.getfield 44, 3) := by decide +kernel
theorem dX2_keep_37 : decode cX2_keep 37 = .ok (.iconst 1, 1) := by decide +kernel
theorem dX2_keep_38 : decode cX2_keep 38 = .ok (.iadd, 1) := by decide +kernel
theorem dX2_keep_39 : decode cX2_keep 39 = .ok (.putfield 44, 3) := by decide +kernel
theorem dX2_keep_42 : decode cX2_keep 42 = .ok (.return_, 1) := by decide +kernel
theorem dX2_heed_0 : decode cX2_heed 0 = .ok (.iload_n 2, 1) := by decide +kernel
theorem dX2_heed_1 : decode cX2_heed 1 = .ok (.bipush 63, 2) := by decide +kernel
theorem dX2_heed_3 : decode cX2_heed 3 = .ok (.iand, 1) := by decide +kernel
theorem dX2_heed_4 : decode cX2_heed 4 = .ok (.istore_n 3, 1) := by decide +kernel
theorem dX2_heed_5 : decode cX2_heed 5 = .ok (.iload_n 1, 1) := by decide +kernel
theorem dX2_heed_6 : decode cX2_heed 6 = .ok (.tableswitch 81 0 2 #[26, 47, 68], 26) := by decide +kernel
theorem dX2_heed_32 : decode cX2_heed 32 = .ok (.aload_n 0, 1) := by decide +kernel
theorem dX2_heed_33 : decode cX2_heed 33 = .ok (.getfield 11, 3) := by decide +kernel
theorem dX2_heed_36 : decode cX2_heed 36 = .ok (.iload_n 3, 1) := by decide +kernel
theorem dX2_heed_37 : decode cX2_heed 37 = .ok (.aload_n 0, 1) := by decide +kernel
theorem dX2_heed_38 : decode cX2_heed 38 = .ok (.getfield 11, 3) := by decide +kernel
theorem dX2_heed_41 : decode cX2_heed 41 = .ok (.iload_n 3, 1) := by decide +kernel
theorem dX2_heed_42 : decode cX2_heed 42 = .ok (.iaload, 1) := by decide +kernel
theorem dX2_heed_43 : decode cX2_heed 43 = .ok (.iconst 1, 1) := by decide +kernel
theorem dX2_heed_44 : decode cX2_heed 44 = .ok (.iadd, 1) := by decide +kernel
theorem dX2_heed_45 : decode cX2_heed 45 = .ok (.iconst 3, 1) := by decide +kernel
theorem dX2_heed_46 : decode cX2_heed 46 = .ok (.invokestatic 80, 3) := by decide +kernel
theorem dX2_heed_49 : decode cX2_heed 49 = .ok (.iastore, 1) := by decide +kernel
theorem dX2_heed_50 : decode cX2_heed 50 = .ok (.goto 44, 3) := by decide +kernel
theorem dX2_heed_53 : decode cX2_heed 53 = .ok (.aload_n 0, 1) := by decide +kernel
theorem dX2_heed_54 : decode cX2_heed 54 = .ok (.getfield 11, 3) := by decide +kernel
theorem dX2_heed_57 : decode cX2_heed 57 = .ok (.iload_n 3, 1) := by decide +kernel
theorem dX2_heed_58 : decode cX2_heed 58 = .ok (.aload_n 0, 1) := by decide +kernel
theorem dX2_heed_59 : decode cX2_heed 59 = .ok (.getfield 11, 3) := by decide +kernel
theorem dX2_heed_62 : decode cX2_heed 62 = .ok (.iload_n 3, 1) := by decide +kernel
theorem dX2_heed_63 : decode cX2_heed 63 = .ok (.iaload, 1) := by decide +kernel
theorem dX2_heed_64 : decode cX2_heed 64 = .ok (.iconst 1, 1) := by decide +kernel
theorem dX2_heed_65 : decode cX2_heed 65 = .ok (.isub, 1) := by decide +kernel
theorem dX2_heed_66 : decode cX2_heed 66 = .ok (.iconst 0, 1) := by decide +kernel
theorem dX2_heed_67 : decode cX2_heed 67 = .ok (.invokestatic 86, 3) := by decide +kernel
theorem dX2_heed_70 : decode cX2_heed 70 = .ok (.iastore, 1) := by decide +kernel
theorem dX2_heed_71 : decode cX2_heed 71 = .ok (.goto 23, 3) := by decide +kernel
theorem dX2_heed_74 : decode cX2_heed 74 = .ok (.aload_n 0, 1) := by decide +kernel
theorem dX2_heed_75 : decode cX2_heed 75 = .ok (.getfield 18, 3) := by decide +kernel
theorem dX2_heed_78 : decode cX2_heed 78 = .ok (.iload_n 2, 1) := by decide +kernel
theorem dX2_heed_79 : decode cX2_heed 79 = .ok (.iconst 1, 1) := by decide +kernel
theorem dX2_heed_80 : decode cX2_heed 80 = .ok (.iadd, 1) := by decide +kernel
theorem dX2_heed_81 : decode cX2_heed 81 = .ok (.invokevirtual 89, 3) := by decide +kernel
theorem dX2_heed_84 : decode cX2_heed 84 = .ok (.goto 10, 3) := by decide +kernel
theorem dX2_heed_87 : decode cX2_heed 87 = .ok (.aload_n 0, 1) := by decide +kernel
theorem dX2_heed_88 : decode cX2_heed 88 = .ok (.getfield 18, 3) := by decide +kernel
theorem dX2_heed_91 : decode cX2_heed 91 = .ok (.invokevirtual 93, 3) := by decide +kernel
theorem dX2_heed_94 : decode cX2_heed 94 = .ok (.return_, 1) := by decide +kernel
theorem dX4_init_0 : decode cX4_init 0 = .ok (.aload_n 0, 1) := by decide +kernel
theorem dX4_init_1 : decode cX4_init 1 = .ok (.invokespecial 3, 3) := by decide +kernel
theorem dX4_init_4 : decode cX4_init 4 = .ok (.aload_n 0, 1) := by decide +kernel
theorem dX4_init_5 : decode cX4_init 5 = .ok (.sipush 1024, 3) := by decide +kernel
theorem dX4_init_8 : decode cX4_init 8 = .ok (.newarray .int, 2) := by decide +kernel
theorem dX4_init_10 : decode cX4_init 10 = .ok (.putfield 9, 3) := by decide +kernel
theorem dX4_init_13 : decode cX4_init 13 = .ok (.aload_n 0, 1) := by decide +kernel
theorem dX4_init_14 : decode cX4_init 14 = .ok (.sipush 1024, 3) := by decide +kernel
theorem dX4_init_17 : decode cX4_init 17 = .ok (.newarray .int, 2) := by decide +kernel
theorem dX4_init_19 : decode cX4_init 19 = .ok (.putfield 15, 3) := by decide +kernel
theorem dX4_init_22 : decode cX4_init 22 = .ok (.aload_n 0, 1) := by decide +kernel
theorem dX4_init_23 : decode cX4_init 23 = .ok (.sipush 1024, 3) := by decide +kernel
theorem dX4_init_26 : decode cX4_init 26 = .ok (.newarray .int, 2) := by decide +kernel
theorem dX4_init_28 : decode cX4_init 28 = .ok (.putfield 18, 3) := by decide +kernel
theorem dX4_init_31 : decode cX4_init 31 = .ok (.aload_n 0, 1) := by decide +kernel
theorem dX4_init_32 : decode cX4_init 32 = .ok (.bipush 16, 2) := by decide +kernel
theorem dX4_init_34 : decode cX4_init 34 = .ok (.newarray .int, 2) := by decide +kernel
theorem dX4_init_36 : decode cX4_init 36 = .ok (.putfield 21, 3) := by decide +kernel
theorem dX4_init_39 : decode cX4_init 39 = .ok (.aload_n 0, 1) := by decide +kernel
theorem dX4_init_40 : decode cX4_init 40 = .ok (.new 24, 3) := by decide +kernel
theorem dX4_init_43 : decode cX4_init 43 = .ok (.dup, 1) := by decide +kernel
theorem dX4_init_44 : decode cX4_init 44 = .ok (.invokespecial 26, 3) := by decide +kernel
theorem dX4_init_47 : decode cX4_init 47 = .ok (.putfield 27, 3) := by decide +kernel
theorem dX4_init_50 : decode cX4_init 50 = .ok (.aload_n 0, 1) := by decide +kernel
theorem dX4_init_51 : decode cX4_init 51 = .ok (.new 31, 3) := by decide +kernel
theorem dX4_init_54 : decode cX4_init 54 = .ok (.dup, 1) := by decide +kernel
theorem dX4_init_55 : decode cX4_init 55 = .ok (.invokespecial 33, 3) := by decide +kernel
theorem dX4_init_58 : decode cX4_init 58 = .ok (.putfield 34, 3) := by decide +kernel
theorem dX4_init_61 : decode cX4_init 61 = .ok (.aload_n 0, 1) := by decide +kernel
theorem dX4_init_62 : decode cX4_init 62 = .ok (.sipush 1024, 3) := by decide +kernel
theorem dX4_init_65 : decode cX4_init 65 = .ok (.newarray .int, 2) := by decide +kernel
theorem dX4_init_67 : decode cX4_init 67 = .ok (.putfield 38, 3) := by decide +kernel
theorem dX4_init_70 : decode cX4_init 70 = .ok (.aload_n 0, 1) := by decide +kernel
theorem dX4_init_71 : decode cX4_init 71 = .ok (.new 41, 3) := by decide +kernel
theorem dX4_init_74 : decode cX4_init 74 = .ok (.dup, 1) := by decide +kernel
theorem dX4_init_75 : decode cX4_init 75 = .ok (.invokespecial 43, 3) := by decide +kernel
theorem dX4_init_78 : decode cX4_init 78 = .ok (.putfield 44, 3) := by decide +kernel
theorem dX4_init_81 : decode cX4_init 81 = .ok (.aload_n 0, 1) := by decide +kernel
theorem dX4_init_82 : decode cX4_init 82 = .ok (.new 48, 3) := by decide +kernel
theorem dX4_init_85 : decode cX4_init 85 = .ok (.dup, 1) := by decide +kernel
theorem dX4_init_86 : decode cX4_init 86 = .ok (.invokespecial 50, 3) := by decide +kernel
theorem dX4_init_89 : decode cX4_init 89 = .ok (.putfield 51, 3) := by decide +kernel
theorem dX4_init_92 : decode cX4_init 92 = .ok (.aload_n 0, 1) := by decide +kernel
theorem dX4_init_93 : decode cX4_init 93 = .ok (.new 55, 3) := by decide +kernel
theorem dX4_init_96 : decode cX4_init 96 = .ok (.dup, 1) := by decide +kernel
theorem dX4_init_97 : decode cX4_init 97 = .ok (.invokespecial 57, 3) := by decide +kernel
theorem dX4_init_100 : decode cX4_init 100 = .ok (.putfield 58, 3) := by decide +kernel
theorem dX4_init_103 : decode cX4_init 103 = .ok (.aload_n 0, 1) := by decide +kernel
theorem dX4_init_104 : decode cX4_init 104 = .ok (.new 62, 3) := by decide +kernel
theorem dX4_init_107 : decode cX4_init 107 = .ok (.dup, 1) := by decide +kernel
theorem dX4_init_108 : decode cX4_init 108 = .ok (.invokespecial 64, 3) := by decide +kernel
theorem dX4_init_111 : decode cX4_init 111 = .ok (.putfield 65, 3) := by decide +kernel
theorem dX4_init_114 : decode cX4_init 114 = .ok (.aload_n 0, 1) := by decide +kernel
theorem dX4_init_115 : decode cX4_init 115 = .ok (.new 69, 3) := by decide +kernel
theorem dX4_init_118 : decode cX4_init 118 = .ok (.dup, 1) := by decide +kernel
theorem dX4_init_119 : decode cX4_init 119 = .ok (.invokespecial 71, 3) := by decide +kernel
theorem dX4_init_122 : decode cX4_init 122 = .ok (.putfield 72, 3) := by decide +kernel
theorem dX4_init_125 : decode cX4_init 125 = .ok (.return_, 1) := by decide +kernel
theorem dX4_restart_0 : decode cX4_restart 0 = .ok (.aload_n 0, 1) := by decide +kernel
theorem dX4_restart_1 : decode cX4_restart 1 = .ok (.getfield 9, 3) := by decide +kernel
theorem dX4_restart_4 : decode cX4_restart 4 = .ok (.iconst 0, 1) := by decide +kernel
theorem dX4_restart_5 : decode cX4_restart 5 = .ok (.aload_n 0, 1) := by decide +kernel
theorem dX4_restart_6 : decode cX4_restart 6 = .ok (.getfield 38, 3) := by decide +kernel
theorem dX4_restart_9 : decode cX4_restart 9 = .ok (.iconst 0, 1) := by decide +kernel
theorem dX4_restart_10 : decode cX4_restart 10 = .ok (.sipush 1024, 3) := by decide +kernel
theorem dX4_restart_13 : decode cX4_restart 13 = .ok (.invokestatic 76, 3) := by decide +kernel
theorem dX4_restart_16 : decode cX4_restart 16 = .ok (.aload_n 0, 1) := by decide +kernel
theorem dX4_restart_17 : decode cX4_restart 17 = .ok (.getfield 15, 3) := by decide +kernel
theorem dX4_restart_20 : decode cX4_restart 20 = .ok (.iconst 0, 1) := by decide +kernel
theorem dX4_restart_21 : decode cX4_restart 21 = .ok (.aload_n 0, 1) := by decide +kernel
theorem dX4_restart_22 : decode cX4_restart 22 = .ok (.getfield 18, 3) := by decide +kernel
theorem dX4_restart_25 : decode cX4_restart 25 = .ok (.iconst 0, 1) := by decide +kernel
theorem dX4_restart_26 : decode cX4_restart 26 = .ok (.sipush 1024, 3) := by decide +kernel
theorem dX4_restart_29 : decode cX4_restart 29 = .ok (.invokestatic 76, 3) := by decide +kernel
theorem dX4_restart_32 : decode cX4_restart 32 = .ok (.aload_n 0, 1) := by decide +kernel
theorem dX4_restart_33 : decode cX4_restart 33 = .ok (.getfield 21, 3) := by decide +kernel
theorem dX4_restart_36 : decode cX4_restart 36 = .ok (.iconst 0, 1) := by decide +kernel
theorem dX4_restart_37 : decode cX4_restart 37 = .ok (.invokestatic 82, 3) := by decide +kernel
theorem dX4_restart_40 : decode cX4_restart 40 = .ok (.aload_n 0, 1) := by decide +kernel
theorem dX4_restart_41 : decode cX4_restart 41 = .ok (.getfield 27, 3) := by decide +kernel
theorem dX4_restart_44 : decode cX4_restart 44 = .ok (.iconst 0, 1) := by decide +kernel
theorem dX4_restart_45 : decode cX4_restart 45 = .ok (.putfield 88, 3) := by decide +kernel
theorem dX4_restart_48 : decode cX4_restart 48 = .ok (.aload_n 0, 1) := by decide +kernel
theorem dX4_restart_49 : decode cX4_restart 49 = .ok (.getfield 34, 3) := by decide +kernel
theorem dX4_restart_52 : decode cX4_restart 52 = .ok (.invokevirtual 92, 3) := by decide +kernel
theorem dX4_restart_55 : decode cX4_restart 55 = .ok (.aload_n 0, 1) := by decide +kernel
theorem dX4_restart_56 : decode cX4_restart 56 = .ok (.iconst 0, 1) := by decide +kernel
theorem dX4_restart_57 : decode cX4_restart 57 = .ok (.putfield 95, 3) := by decide +kernel
theorem dX4_restart_60 : decode cX4_restart 60 = .ok (.aload_n 0, 1) := by decide +kernel
theorem dX4_restart_61 : decode cX4_restart 61 = .ok (.getfield 58, 3) := by decide +kernel
theorem dX4_restart_64 : decode cX4_restart 64 = .ok (.invokevirtual 98, 3) := by decide +kernel
theorem dX4_restart_67 : decode cX4_restart 67 = .ok (.aload_n 0, 1) := by decide +kernel
theorem dX4_restart_68 : decode cX4_restart 68 = .ok (.getfield 65, 3) := by decide +kernel
theorem dX4_restart_71 : decode cX4_restart 71 = .ok (.invokevirtual 99, 3) := by decide +kernel
theorem dX4_restart_74 : decode cX4_restart 74 = .ok (.aload_n 0, 1) := by decide +kernel
theorem dX4_restart_75 : decode cX4_restart 75 = .ok (.getfield 72, 3) := by decide +kernel
theorem dX4_restart_78 : decode cX4_restart 78 = .ok (.invokevirtual 100, 3) := by decide +kernel
theorem dX4_restart_81 : decode cX4_restart 81 = .ok (.aload_n 0, 1) := by decide +kernel
theorem dX4_restart_82 : decode cX4_restart 82 = .ok (.iconst 0, 1) := by decide +kernel
theorem dX4_restart_83 : decode cX4_restart 83 = .ok (.invokevirtual 101, 3) := by decide +kernel
theorem dX4_restart_86 : decode cX4_restart 86 = .ok (.return_, 1) := by decide +kernel
theorem dX4_advance_0 : decode cX4_advance 0 = .ok (.aload_n 0, 1) := by decide +kernel
theorem dX4_advance_1 : decode cX4_advance 1 = .ok (.getfield 95, 3) := by decide +kernel
theorem dX4_advance_4 : decode cX4_advance 4 = .ok (.iload_n 1, 1) := by decide +kernel
theorem dX4_advance_5 : decode cX4_advance 5 = .ok (.iadd, 1) := by decide +kernel
theorem dX4_advance_6 : decode cX4_advance 6 = .ok (.ldc 105, 2) := by decide +kernel
theorem dX4_advance_8 : decode cX4_advance 8 = .ok (.invokestatic 106, 3) := by decide +kernel
theorem dX4_advance_11 : decode cX4_advance 11 = .ok (.istore_n 2, 1) := by decide +kernel
theorem dX4_advance_12 : decode cX4_advance 12 = .ok (.iconst 0, 1) := by decide +kernel
theorem dX4_advance_13 : decode cX4_advance 13 = .ok (.istore_n 3, 1) := by decide +kernel
theorem dX4_advance_14 : decode cX4_advance 14 = .ok (.iload_n 3, 1) := by decide +kernel
theorem dX4_advance_15 : decode cX4_advance 15 = .ok (.iload_n 1, 1) := by decide +kernel
theorem dX4_advance_16 : decode cX4_advance 16 = .ok (.if_icmp .ge 55, 3) := by decide +kernel
theorem dX4_advance_19 : decode cX4_advance 19 = .ok (.aload_n 0, 1) := by decide +kernel
theorem dX4_advance_20 : decode cX4_advance 20 = .ok (.getfield 34, 3) := by decide +kernel
theorem dX4_advance_23 : decode cX4_advance 23 = .ok (.getfield 112, 3) := by decide +kernel
theorem dX4_advance_26 : decode cX4_advance 26 = .ok (.ifCond .ne 45, 3) := by decide +kernel
theorem dX4_advance_29 : decode cX4_advance 29 = .ok (.aload_n 0, 1) := by decide +kernel
theorem dX4_advance_30 : decode cX4_advance 30 = .ok (.getfield 58, 3) := by decide +kernel
theorem dX4_advance_33 : decode cX4_advance 33 = .ok (.getfield 115, 3) := by decide +kernel
theorem dX4_advance_36 : decode cX4_advance 36 = .ok (.iload_n 2, 1) := by decide +kernel
theorem dX4_advance_37 : decode cX4_advance 37 = .ok (.if_icmp .gt 34, 3) := by decide +kernel
theorem dX4_advance_40 : decode cX4_advance 40 = .ok (.aload_n 0, 1) := by decide +kernel
theorem dX4_advance_41 : decode cX4_advance 41 = .ok (.invokevirtual 118, 3) := by decide +kernel
theorem dX4_advance_44 : decode cX4_advance 44 = .ok (.aload_n 0, 1) := by decide +kernel
theorem dX4_advance_45 : decode cX4_advance 45 = .ok (.getfield 34, 3) := by decide +kernel
theorem dX4_advance_48 : decode cX4_advance 48 = .ok (.getfield 112, 3) := by decide +kernel
theorem dX4_advance_51 : decode cX4_advance 51 = .ok (.ifCond .ne 14, 3) := by decide +kernel
theorem dX4_advance_54 : decode cX4_advance 54 = .ok (.aload_n 0, 1) := by decide +kernel
theorem dX4_advance_55 : decode cX4_advance 55 = .ok (.aload_n 0, 1) := by decide +kernel
theorem dX4_advance_56 : decode cX4_advance 56 = .ok (.getfield 51, 3) := by decide +kernel
theorem dX4_advance_59 : decode cX4_advance 59 = .ok (.getfield 121, 3) := by decide +kernel
theorem dX4_advance_62 : decode cX4_advance 62 = .ok (.invokevirtual 101, 3) := by decide +kernel
theorem dX4_advance_65 : decode cX4_advance 65 = .ok (.iinc 3 1, 3) := by decide +kernel
theorem dX4_advance_68 : decode cX4_advance 68 = .ok (.goto (-54), 3) := by decide +kernel
theorem dX4_advance_71 : decode cX4_advance 71 = .ok (.aload_n 0, 1) := by decide +kernel
theorem dX4_advance_72 : decode cX4_advance 72 = .ok (.aload_n 0, 1) := by decide +kernel
theorem dX4_advance_73 : decode cX4_advance 73 = .ok (.getfield 34, 3) := by decide +kernel
theorem dX4_advance_76 : decode cX4_advance 76 = .ok (.getfield 112, 3) := by decide +kernel
theorem dX4_advance_79 : decode cX4_advance 79 = .ok (.ifCond .ne 7, 3) := by decide +kernel
theorem dX4_advance_82 : decode cX4_advance 82 = .ok (.iload_n 2, 1) := by decide +kernel
theorem dX4_advance_83 : decode cX4_advance 83 = .ok (.goto 10, 3) := by decide +kernel
theorem dX4_advance_86 : decode cX4_advance 86 = .ok (.aload_n 0, 1) := by decide +kernel
theorem dX4_advance_87 : decode cX4_advance 87 = .ok (.getfield 58, 3) := by decide +kernel
theorem dX4_advance_90 : decode cX4_advance 90 = .ok (.getfield 115, 3) := by decide +kernel
theorem dX4_advance_93 : decode cX4_advance 93 = .ok (.putfield 95, 3) := by decide +kernel
theorem dX4_advance_96 : decode cX4_advance 96 = .ok (.aload_n 0, 1) := by decide +kernel
theorem dX4_advance_97 : decode cX4_advance 97 = .ok (.getfield 58, 3) := by decide +kernel
theorem dX4_advance_100 : decode cX4_advance 100 = .ok (.getfield 124, 3) := by decide +kernel
theorem dX4_advance_103 : decode cX4_advance 103 = .ok (.aload_n 0, 1) := by decide +kernel
theorem dX4_advance_104 : decode cX4_advance 104 = .ok (.getfield 95, 3) := by decide +kernel
theorem dX4_advance_107 : decode cX4_advance 107 = .ok (.if_icmp .gt 7, 3) := by decide +kernel
theorem dX4_advance_110 : decode cX4_advance 110 = .ok (.aload_n 0, 1) := by decide +kernel
theorem dX4_advance_111 : decode cX4_advance 111 = .ok (.invokevirtual 127, 3) := by decide +kernel
theorem dX4_advance_114 : decode cX4_advance 114 = .ok (.return_, 1) := by decide +kernel
theorem dX4_start_0 : decode cX4_start 0 = .ok (.aload_n 0, 1) := by decide +kernel
theorem dX4_start_1 : decode cX4_start 1 = .ok (.getfield 44, 3) := by decide +kernel
theorem dX4_start_4 : decode cX4_start 4 = .ok (.iload_n 1, 1) := by decide +kernel
theorem dX4_start_5 : decode cX4_start 5 = .ok (.aload_n 0, 1) := by decide +kernel
theorem dX4_start_6 : decode cX4_start 6 = .ok (.getfield 38, 3) := by decide +kernel
theorem dX4_start_9 : decode cX4_start 9 = .ok (.invokevirtual 130, 3) := by decide +kernel
theorem dX4_start_12 : decode cX4_start 12 = .ok (.aload_n 0, 1) := by decide +kernel
theorem dX4_start_13 : decode cX4_start 13 = .ok (.getfield 65, 3) := by decide +kernel
theorem dX4_start_16 : decode cX4_start 16 = .ok (.aload_n 0, 1) := by decide +kernel
theorem dX4_start_17 : decode cX4_start 17 = .ok (.getfield 58, 3) := by decide +kernel
theorem dX4_start_20 : decode cX4_start 20 = .ok (.getfield 134, 3) := by decide +kernel
theorem dX4_start_23 : decode cX4_start 23 = .ok (.invokevirtual 137, 3) := by decide +kernel
theorem dX4_start_26 : decode cX4_start 26 = .ok (.aload_n 0, 1) := by decide +kernel
theorem dX4_start_27 : decode cX4_start 27 = .ok (.getfield 65, 3) := by decide +kernel
theorem dX4_start_30 : decode cX4_start 30 = .ok (.aload_n 0, 1) := by decide +kernel
theorem dX4_start_31 : decode cX4_start 31 = .ok (.getfield 44, 3) := by decide +kernel
theorem dX4_start_34 : decode cX4_start 34 = .ok (.invokevirtual 140, 3) := by decide +kernel
theorem dX4_start_37 : decode cX4_start 37 = .ok (.istore_n 2, 1) := by decide +kernel
theorem dX4_start_38 : decode cX4_start 38 = .ok (.aload_n 0, 1) := by decide +kernel
theorem dX4_start_39 : decode cX4_start 39 = .ok (.getfield 51, 3) := by decide +kernel
theorem dX4_start_42 : decode cX4_start 42 = .ok (.aload_n 0, 1) := by decide +kernel
theorem dX4_start_43 : decode cX4_start 43 = .ok (.getfield 44, 3) := by decide +kernel
theorem dX4_start_46 : decode cX4_start 46 = .ok (.aload_n 0, 1) := by decide +kernel
theorem dX4_start_47 : decode cX4_start 47 = .ok (.getfield 21, 3) := by decide +kernel
theorem dX4_start_50 : decode cX4_start 50 = .ok (.aload_n 0, 1) := by decide +kernel
theorem dX4_start_51 : decode cX4_start 51 = .ok (.getfield 18, 3) := by decide +kernel
theorem dX4_start_54 : decode cX4_start 54 = .ok (.invokevirtual 144, 3) := by decide +kernel
theorem dX4_start_57 : decode cX4_start 57 = .ok (.aload_n 0, 1) := by decide +kernel
theorem dX4_start_58 : decode cX4_start 58 = .ok (.aload_n 0, 1) := by decide +kernel
theorem dX4_start_59 : decode cX4_start 59 = .ok (.getfield 51, 3) := by decide +kernel
theorem dX4_start_62 : decode cX4_start 62 = .ok (.aload_n 0, 1) := by decide +kernel
theorem dX4_start_63 : decode cX4_start 63 = .ok (.getfield 44, 3) := by decide +kernel
theorem dX4_start_66 : decode cX4_start 66 = .ok (.invokevirtual 148, 3) := by decide +kernel
theorem dX4_start_69 : decode cX4_start 69 = .ok (.ifCond .eq 24, 3) := by decide +kernel
theorem dX4_start_72 : decode cX4_start 72 = .ok (.aload_n 0, 1) := by decide +kernel
theorem dX4_start_73 : decode cX4_start 73 = .ok (.getfield 72, 3) := by decide +kernel
theorem dX4_start_76 : decode cX4_start 76 = .ok (.aload_n 0, 1) := by decide +kernel
theorem dX4_start_77 : decode cX4_start 77 = .ok (.getfield 51, 3) := by decide +kernel
theorem dX4_start_80 : decode cX4_start 80 = .ok (.getfield 152, 3) := by decide +kernel
theorem dX4_start_83 : decode cX4_start 83 = .ok (.invokevirtual 155, 3) := by decide +kernel
theorem dX4_start_86 : decode cX4_start 86 = .ok (.ifCond .eq 7, 3) := by decide +kernel
theorem dX4_start_89 : decode cX4_start 89 = .ok (.iconst 1, 1) := by decide +kernel
theorem dX4_start_90 : decode cX4_start 90 = .ok (.goto 4, 3) := by decide +kernel
theorem dX4_start_93 : decode cX4_start 93 = .ok (.iconst 0, 1) := by decide +kernel
theorem dX4_start_94 : decode cX4_start 94 = .ok (.putfield 159, 3) := by decide +kernel
theorem dX4_start_97 : decode cX4_start 97 = .ok (.aload_n 0, 1) := by decide +kernel
theorem dX4_start_98 : decode cX4_start 98 = .ok (.getfield 58, 3) := by decide +kernel
theorem dX4_start_101 : decode cX4_start 101 = .ok (.aload_n 0, 1) := by decide +kernel
theorem dX4_start_102 : decode cX4_start 102 = .ok (.getfield 44, 3) := by decide +kernel
theorem dX4_start_105 : decode cX4_start 105 = .ok (.aload_n 0, 1) := by decide +kernel
theorem dX4_start_106 : decode cX4_start 106 = .ok (.getfield 159, 3) := by decide +kernel
theorem dX4_start_109 : decode cX4_start 109 = .ok (.invokevirtual 163, 3) := by decide +kernel
theorem dX4_start_112 : decode cX4_start 112 = .ok (.aload_n 0, 1) := by decide +kernel
theorem dX4_start_113 : decode cX4_start 113 = .ok (.getfield 65, 3) := by decide +kernel
theorem dX4_start_116 : decode cX4_start 116 = .ok (.aload_n 0, 1) := by decide +kernel
theorem dX4_start_117 : decode cX4_start 117 = .ok (.getfield 44, 3) := by decide +kernel
theorem dX4_start_120 : decode cX4_start 120 = .ok (.aload_n 0, 1) := by decide +kernel
theorem dX4_start_121 : decode cX4_start 121 = .ok (.getfield 51, 3) := by decide +kernel
theorem dX4_start_124 : decode cX4_start 124 = .ok (.getfield 167, 3) := by decide +kernel
theorem dX4_start_127 : decode cX4_start 127 = .ok (.aload_n 0, 1) := by decide +kernel
theorem dX4_start_128 : decode cX4_start 128 = .ok (.getfield 58, 3) := by decide +kernel
theorem dX4_start_131 : decode cX4_start 131 = .ok (.getfield 170, 3) := by decide +kernel
theorem dX4_start_134 : decode cX4_start 134 = .ok (.invokevirtual 173, 3) := by decide +kernel
theorem dX4_start_137 : decode cX4_start 137 = .ok (.aload_n 0, 1) := by decide +kernel
theorem dX4_start_138 : decode cX4_start 138 = .ok (.iload_n 2, 1) := by decide +kernel
theorem dX4_start_139 : decode cX4_start 139 = .ok (.aload_n 0, 1) := by decide +kernel
theorem dX4_start_140 : decode cX4_start 140 = .ok (.getfield 51, 3) := by decide +kernel
theorem dX4_start_143 : decode cX4_start 143 = .ok (.getfield 121, 3) := by decide +kernel
theorem dX4_start_146 : decode cX4_start 146 = .ok (.if_icmp .ne 7, 3) := by decide +kernel
theorem dX4_start_149 : decode cX4_start 149 = .ok (.iconst 1, 1) := by decide +kernel
theorem dX4_start_150 : decode cX4_start 150 = .ok (.goto 4, 3) := by decide +kernel
theorem dX4_start_153 : decode cX4_start 153 = .ok (.iconst 0, 1) := by decide +kernel
theorem dX4_start_154 : decode cX4_start 154 = .ok (.putfield 177, 3) := by decide +kernel
theorem dX4_start_157 : decode cX4_start 157 = .ok (.return_, 1) := by decide +kernel
theorem dX4_finish_0 : decode cX4_finish 0 = .ok (.aload_n 0, 1) := by decide +kernel
theorem dX4_finish_1 : decode cX4_finish 1 = .ok (.getfield 34, 3) := by decide +kernel
theorem dX4_finish_4 : decode cX4_finish 4 = .ok (.aload_n 0, 1) := by decide +kernel
theorem dX4_finish_5 : decode cX4_finish 5 = .ok (.getfield 44, 3) := by decide +kernel
theorem dX4_finish_8 : decode cX4_finish 8 = .ok (.getfield 180, 3) := by decide +kernel
theorem dX4_finish_11 : decode cX4_finish 11 = .ok (.putfield 183, 3) := by decide +kernel
theorem dX4_finish_14 : decode cX4_finish 14 = .ok (.aload_n 0, 1) := by decide +kernel
theorem dX4_finish_15 : decode cX4_finish 15 = .ok (.getfield 51, 3) := by decide +kernel
theorem dX4_finish_18 : decode cX4_finish 18 = .ok (.getfield 186, 3) := by decide +kernel
theorem dX4_finish_21 : decode cX4_finish 21 = .ok (.ifCond .eq 32, 3) := by decide +kernel
theorem dX4_finish_24 : decode cX4_finish 24 = .ok (.aload_n 0, 1) := by decide +kernel
theorem dX4_finish_25 : decode cX4_finish 25 = .ok (.getfield 34, 3) := by decide +kernel
theorem dX4_finish_28 : decode cX4_finish 28 = .ok (.aload_n 0, 1) := by decide +kernel
theorem dX4_finish_29 : decode cX4_finish 29 = .ok (.getfield 51, 3) := by decide +kernel
theorem dX4_finish_32 : decode cX4_finish 32 = .ok (.getfield 186, 3) := by decide +kernel
theorem dX4_finish_35 : decode cX4_finish 35 = .ok (.putfield 112, 3) := by decide +kernel
theorem dX4_finish_38 : decode cX4_finish 38 = .ok (.aload_n 0, 1) := by decide +kernel
theorem dX4_finish_39 : decode cX4_finish 39 = .ok (.getfield 34, 3) := by decide +kernel
theorem dX4_finish_42 : decode cX4_finish 42 = .ok (.aload_n 0, 1) := by decide +kernel
theorem dX4_finish_43 : decode cX4_finish 43 = .ok (.getfield 51, 3) := by decide +kernel
theorem dX4_finish_46 : decode cX4_finish 46 = .ok (.getfield 187, 3) := by decide +kernel
theorem dX4_finish_49 : decode cX4_finish 49 = .ok (.putfield 190, 3) := by decide +kernel
theorem dX4_finish_52 : decode cX4_finish 52 = .ok (.return_, 1) := by decide +kernel
theorem dX4_finish_53 : decode cX4_finish 53 = .ok (.aload_n 0, 1) := by decide +kernel
theorem dX4_finish_54 : decode cX4_finish 54 = .ok (.invokevirtual 127, 3) := by decide +kernel
theorem dX4_finish_57 : decode cX4_finish 57 = .ok (.aload_n 0, 1) := by decide +kernel
theorem dX4_finish_58 : decode cX4_finish 58 = .ok (.getfield 44, 3) := by decide +kernel
theorem dX4_finish_61 : decode cX4_finish 61 = .ok (.invokevirtual 191, 3) := by decide +kernel
theorem dX4_finish_64 : decode cX4_finish 64 = .ok (.ifCond .eq 32, 3) := by decide +kernel
theorem dX4_finish_67 : decode cX4_finish 67 = .ok (.aload_n 0, 1) := by decide +kernel
theorem dX4_finish_68 : decode cX4_finish 68 = .ok (.getfield 44, 3) := by decide +kernel
theorem dX4_finish_71 : decode cX4_finish 71 = .ok (.getfield 195, 3) := by decide +kernel
theorem dX4_finish_74 : decode cX4_finish 74 = .ok (.ifCond .eq 22, 3) := by decide +kernel
theorem dX4_finish_77 : decode cX4_finish 77 = .ok (.aload_n 0, 1) := by decide +kernel
theorem dX4_finish_78 : decode cX4_finish 78 = .ok (.getfield 21, 3) := by decide +kernel
theorem dX4_finish_81 : decode cX4_finish 81 = .ok (.aload_n 0, 1) := by decide +kernel
theorem dX4_finish_82 : decode cX4_finish 82 = .ok (.getfield 44, 3) := by decide +kernel
theorem dX4_finish_85 : decode cX4_finish 85 = .ok (.getfield 195, 3) := by decide +kernel
theorem dX4_finish_88 : decode cX4_finish 88 = .ok (.aload_n 0, 1) := by decide +kernel
theorem dX4_finish_89 : decode cX4_finish 89 = .ok (.getfield 51, 3) := by decide +kernel
theorem dX4_finish_92 : decode cX4_finish 92 = .ok (.getfield 198, 3) := by decide +kernel
theorem dX4_finish_95 : decode cX4_finish 95 = .ok (.iastore, 1) := by decide +kernel
theorem dX4_finish_96 : decode cX4_finish 96 = .ok (.aload_n 0, 1) := by decide +kernel
theorem dX4_finish_97 : decode cX4_finish 97 = .ok (.getfield 44, 3) := by decide +kernel
theorem dX4_finish_100 : decode cX4_finish 100 = .ok (.getfield 201, 3) := by decide +kernel
theorem dX4_finish_103 : decode cX4_finish 103 = .ok (.bipush 49, 2) := by decide +kernel
theorem dX4_finish_105 : decode cX4_finish 105 = .ok (.if_icmp .ne 17, 3) := by decide +kernel
theorem dX4_finish_108 : decode cX4_finish 108 = .ok (.aload_n 0, 1) := by decide +kernel
theorem dX4_finish_109 : decode cX4_finish 109 = .ok (.getfield 27, 3) := by decide +kernel
theorem dX4_finish_112 : decode cX4_finish 112 = .ok (.aload_n 0, 1) := by decide +kernel
theorem dX4_finish_113 : decode cX4_finish 113 = .ok (.getfield 51, 3) := by decide +kernel
theorem dX4_finish_116 : decode cX4_finish 116 = .ok (.getfield 198, 3) := by decide +kernel
theorem dX4_finish_119 : decode cX4_finish 119 = .ok (.invokevirtual 204, 3) := by decide +kernel
theorem dX4_finish_122 : decode cX4_finish 122 = .ok (.aload_n 0, 1) := by decide +kernel
theorem dX4_finish_123 : decode cX4_finish 123 = .ok (.getfield 34, 3) := by decide +kernel
theorem dX4_finish_126 : decode cX4_finish 126 = .ok (.aload_n 0, 1) := by decide +kernel
theorem dX4_finish_127 : decode cX4_finish 127 = .ok (.getfield 177, 3) := by decide +kernel
theorem dX4_finish_130 : decode cX4_finish 130 = .ok (.aload_n 0, 1) := by decide +kernel
theorem dX4_finish_131 : decode cX4_finish 131 = .ok (.getfield 159, 3) := by decide +kernel
theorem dX4_finish_134 : decode cX4_finish 134 = .ok (.aload_n 0, 1) := by decide +kernel
theorem dX4_finish_135 : decode cX4_finish 135 = .ok (.getfield 51, 3) := by decide +kernel
theorem dX4_finish_138 : decode cX4_finish 138 = .ok (.getfield 167, 3) := by decide +kernel
theorem dX4_finish_141 : decode cX4_finish 141 = .ok (.invokevirtual 207, 3) := by decide +kernel
theorem dX4_finish_144 : decode cX4_finish 144 = .ok (.aload_n 0, 1) := by decide +kernel
theorem dX4_finish_145 : decode cX4_finish 145 = .ok (.getfield 58, 3) := by decide +kernel
theorem dX4_finish_148 : decode cX4_finish 148 = .ok (.aload_n 0, 1) := by decide +kernel
theorem dX4_finish_149 : decode cX4_finish 149 = .ok (.getfield 177, 3) := by decide +kernel
theorem dX4_finish_152 : decode cX4_finish 152 = .ok (.invokevirtual 211, 3) := by decide +kernel
theorem dX4_finish_155 : decode cX4_finish 155 = .ok (.return_, 1) := by decide +kernel
theorem dX4_storeWord_0 : decode cX4_storeWord 0 = .ok (.aload_n 0, 1) := by decide +kernel
theorem dX4_storeWord_1 : decode cX4_storeWord 1 = .ok (.getfield 51, 3) := by decide +kernel
theorem dX4_storeWord_4 : decode cX4_storeWord 4 = .ok (.aload_n 0, 1) := by decide +kernel
theorem dX4_storeWord_5 : decode cX4_storeWord 5 = .ok (.getfield 44, 3) := by decide +kernel
theorem dX4_storeWord_8 : decode cX4_storeWord 8 = .ok (.invokevirtual 215, 3) := by decide +kernel
theorem dX4_storeWord_11 : decode cX4_storeWord 11 = .ok (.ifCond .eq 22, 3) := by decide +kernel
theorem dX4_storeWord_14 : decode cX4_storeWord 14 = .ok (.aload_n 0, 1) := by decide +kernel
theorem dX4_storeWord_15 : decode cX4_storeWord 15 = .ok (.getfield 18, 3) := by decide +kernel
theorem dX4_storeWord_18 : decode cX4_storeWord 18 = .ok (.aload_n 0, 1) := by decide +kernel
theorem dX4_storeWord_19 : decode cX4_storeWord 19 = .ok (.getfield 51, 3) := by decide +kernel
theorem dX4_storeWord_22 : decode cX4_storeWord 22 = .ok (.getfield 152, 3) := by decide +kernel
theorem dX4_storeWord_25 : decode cX4_storeWord 25 = .ok (.aload_n 0, 1) := by decide +kernel
theorem dX4_storeWord_26 : decode cX4_storeWord 26 = .ok (.getfield 51, 3) := by decide +kernel
theorem dX4_storeWord_29 : decode cX4_storeWord 29 = .ok (.getfield 198, 3) := by decide +kernel
theorem dX4_storeWord_32 : decode cX4_storeWord 32 = .ok (.iastore, 1) := by decide +kernel
theorem dX4_storeWord_33 : decode cX4_storeWord 33 = .ok (.return_, 1) := by decide +kernel
theorem dXA_fill_0 : decode cXA_fill 0 = .ok (.iconst 0, 1) := by decide +kernel
theorem dXA_fill_1 : decode cXA_fill 1 = .ok (.istore_n 2, 1) := by decide +kernel
theorem dXA_fill_2 : decode cXA_fill 2 = .ok (.aload_n 0, 1) := by decide +kernel
theorem dXA_fill_3 : decode cXA_fill 3 = .ok (.arraylength, 1) := by decide +kernel
theorem dXA_fill_4 : decode cXA_fill 4 = .ok (.istore_n 3, 1) := by decide +kernel
theorem dXA_fill_5 : decode cXA_fill 5 = .ok (.iload_n 2, 1) := by decide +kernel
theorem dXA_fill_6 : decode cXA_fill 6 = .ok (.iload_n 3, 1) := by decide +kernel
theorem dXA_fill_7 : decode cXA_fill 7 = .ok (.if_icmp .ge 13, 3) := by decide +kernel
theorem dXA_fill_10 : decode cXA_fill 10 = .ok (.aload_n 0, 1) := by decide +kernel
theorem dXA_fill_11 : decode cXA_fill 11 = .ok (.iload_n 2, 1) := by decide +kernel
theorem dXA_fill_12 : decode cXA_fill 12 = .ok (.iload_n 1, 1) := by decide +kernel
theorem dXA_fill_13 : decode cXA_fill 13 = .ok (.iastore, 1) := by decide +kernel
theorem dXA_fill_14 : decode cXA_fill 14 = .ok (.iinc 2 1, 3) := by decide +kernel
theorem dXA_fill_17 : decode cXA_fill 17 = .ok (.goto (-12), 3) := by decide +kernel
theorem dXA_fill_20 : decode cXA_fill 20 = .ok (.return_, 1) := by decide +kernel
theorem dX9_init_0 : decode cX9_init 0 = .ok (.aload_n 0, 1) := by decide +kernel
theorem dX9_init_1 : decode cX9_init 1 = .ok (.invokespecial 3, 3) := by decide +kernel
theorem dX9_init_4 : decode cX9_init 4 = .ok (.aload_n 0, 1) := by decide +kernel
theorem dX9_init_5 : decode cX9_init 5 = .ok (.new 9, 3) := by decide +kernel
theorem dX9_init_8 : decode cX9_init 8 = .ok (.dup, 1) := by decide +kernel
theorem dX9_init_9 : decode cX9_init 9 = .ok (.invokespecial 11, 3) := by decide +kernel
theorem dX9_init_12 : decode cX9_init 12 = .ok (.putfield 12, 3) := by decide +kernel
theorem dX9_init_15 : decode cX9_init 15 = .ok (.aload_n 0, 1) := by decide +kernel
theorem dX9_init_16 : decode cX9_init 16 = .ok (.getfield 12, 3) := by decide +kernel
theorem dX9_init_19 : decode cX9_init 19 = .ok (.invokevirtual 16, 3) := by decide +kernel
theorem dX9_init_22 : decode cX9_init 22 = .ok (.return_, 1) := by decide +kernel
theorem dX9_code_0 : decode cX9_code 0 = .ok (.iload_n 1, 1) := by decide +kernel
theorem dX9_code_1 : decode cX9_code 1 = .ok (.ifCond .lt 10, 3) := by decide +kernel
theorem dX9_code_4 : decode cX9_code 4 = .ok (.iload_n 1, 1) := by decide +kernel
theorem dX9_code_5 : decode cX9_code 5 = .ok (.sipush 1024, 3) := by decide +kernel
theorem dX9_code_8 : decode cX9_code 8 = .ok (.if_icmp .lt 11, 3) := by decide +kernel
theorem dX9_code_11 : decode cX9_code 11 = .ok (.new 19, 3) := by decide +kernel
theorem dX9_code_14 : decode cX9_code 14 = .ok (.dup, 1) := by decide +kernel
theorem dX9_code_15 : decode cX9_code 15 = .ok (.invokespecial 21, 3) := by decide +kernel
theorem dX9_code_18 : decode cX9_code 18 = .ok (.athrow, 1) := by decide +kernel
theorem dX9_code_19 : decode cX9_code 19 = .ok (.aload_n 0, 1) := by decide +kernel
theorem dX9_code_20 : decode cX9_code 20 = .ok (.getfield 12, 3) := by decide +kernel
theorem dX9_code_23 : decode cX9_code 23 = .ok (.getfield 22, 3) := by decide +kernel
theorem dX9_code_26 : decode cX9_code 26 = .ok (.iload_n 1, 1) := by decide +kernel
theorem dX9_code_27 : decode cX9_code 27 = .ok (.iload_n 2, 1) := by decide +kernel
theorem dX9_code_28 : decode cX9_code 28 = .ok (.iastore, 1) := by decide +kernel
theorem dX9_code_29 : decode cX9_code 29 = .ok (.return_, 1) := by decide +kernel
theorem dX9_data_0 : decode cX9_data 0 = .ok (.iload_n 1, 1) := by decide +kernel
theorem dX9_data_1 : decode cX9_data 1 = .ok (.ifCond .lt 10, 3) := by decide +kernel
theorem dX9_data_4 : decode cX9_data 4 = .ok (.iload_n 1, 1) := by decide +kernel
theorem dX9_data_5 : decode cX9_data 5 = .ok (.sipush 1024, 3) := by decide +kernel
theorem dX9_data_8 : decode cX9_data 8 = .ok (.if_icmp .lt 11, 3) := by decide +kernel
theorem dX9_data_11 : decode cX9_data 11 = .ok (.new 19, 3) := by decide +kernel
theorem dX9_data_14 : decode cX9_data 14 = .ok (.dup, 1) := by decide +kernel
theorem dX9_data_15 : decode cX9_data 15 = .ok (.invokespecial 21, 3) := by decide +kernel
theorem dX9_data_18 : decode cX9_data 18 = .ok (.athrow, 1) := by decide +kernel
theorem dX9_data_19 : decode cX9_data 19 = .ok (.aload_n 0, 1) := by decide +kernel
theorem dX9_data_20 : decode cX9_data 20 = .ok (.getfield 12, 3) := by decide +kernel
theorem dX9_data_23 : decode cX9_data 23 = .ok (.getfield 26, 3) := by decide +kernel
theorem dX9_data_26 : decode cX9_data 26 = .ok (.iload_n 1, 1) := by decide +kernel
theorem dX9_data_27 : decode cX9_data 27 = .ok (.iload_n 2, 1) := by decide +kernel
theorem dX9_data_28 : decode cX9_data 28 = .ok (.iastore, 1) := by decide +kernel
theorem dX9_data_29 : decode cX9_data 29 = .ok (.return_, 1) := by decide +kernel
theorem dX9_begin_0 : decode cX9_begin 0 = .ok (.aload_n 0, 1) := by decide +kernel
theorem dX9_begin_1 : decode cX9_begin 1 = .ok (.getfield 12, 3) := by decide +kernel
theorem dX9_begin_4 : decode cX9_begin 4 = .ok (.invokevirtual 16, 3) := by decide +kernel
theorem dX9_begin_7 : decode cX9_begin 7 = .ok (.return_, 1) := by decide +kernel
theorem dX9_run_0 : decode cX9_run 0 = .ok (.iload_n 1, 1) := by decide +kernel
theorem dX9_run_1 : decode cX9_run 1 = .ok (.ifCond .lt 9, 3) := by decide +kernel
theorem dX9_run_4 : decode cX9_run 4 = .ok (.iload_n 1, 1) := by decide +kernel
theorem dX9_run_5 : decode cX9_run 5 = .ok (.ldc 29, 2) := by decide +kernel
theorem dX9_run_7 : decode cX9_run 7 = .ok (.if_icmp .le 11, 3) := by decide +kernel
theorem dX9_run_10 : decode cX9_run 10 = .ok (.new 30, 3) := by decide +kernel
theorem dX9_run_13 : decode cX9_run 13 = .ok (.dup, 1) := by decide +kernel
theorem dX9_run_14 : decode cX9_run 14 = .ok (.invokespecial 32, 3) := by decide +kernel
theorem dX9_run_17 : decode cX9_run 17 = .ok (.athrow, 1) := by decide +kernel
theorem dX9_run_18 : decode cX9_run 18 = .ok (.aload_n 0, 1) := by decide +kernel
theorem dX9_run_19 : decode cX9_run 19 = .ok (.getfield 12, 3) := by decide +kernel
theorem dX9_run_22 : decode cX9_run 22 = .ok (.iload_n 1, 1) := by decide +kernel
theorem dX9_run_23 : decode cX9_run 23 = .ok (.invokevirtual 33, 3) := by decide +kernel
theorem dX9_run_26 : decode cX9_run 26 = .ok (.aload_n 0, 1) := by decide +kernel
theorem dX9_run_27 : decode cX9_run 27 = .ok (.getfield 12, 3) := by decide +kernel
theorem dX9_run_30 : decode cX9_run 30 = .ok (.getfield 37, 3) := by decide +kernel
theorem dX9_run_33 : decode cX9_run 33 = .ok (.getfield 41, 3) := by decide +kernel
theorem dX9_run_36 : decode cX9_run 36 = .ok (.ireturn, 1) := by decide +kernel
theorem dX9_register_0 : decode cX9_register 0 = .ok (.iload_n 1, 1) := by decide +kernel
theorem dX9_register_1 : decode cX9_register 1 = .ok (.ifCond .lt 9, 3) := by decide +kernel
theorem dX9_register_4 : decode cX9_register 4 = .ok (.iload_n 1, 1) := by decide +kernel
theorem dX9_register_5 : decode cX9_register 5 = .ok (.bipush 16, 2) := by decide +kernel
theorem dX9_register_7 : decode cX9_register 7 = .ok (.if_icmp .lt 11, 3) := by decide +kernel
theorem dX9_register_10 : decode cX9_register 10 = .ok (.new 19, 3) := by decide +kernel
theorem dX9_register_13 : decode cX9_register 13 = .ok (.dup, 1) := by decide +kernel
theorem dX9_register_14 : decode cX9_register 14 = .ok (.invokespecial 21, 3) := by decide +kernel
theorem dX9_register_17 : decode cX9_register 17 = .ok (.athrow, 1) := by decide +kernel
theorem dX9_register_18 : decode cX9_register 18 = .ok (.aload_n 0, 1) := by decide +kernel
theorem dX9_register_19 : decode cX9_register 19 = .ok (.getfield 12, 3) := by decide +kernel
theorem dX9_register_22 : decode cX9_register 22 = .ok (.getfield 47, 3) := by decide +kernel
theorem dX9_register_25 : decode cX9_register 25 = .ok (.iload_n 1, 1) := by decide +kernel
theorem dX9_register_26 : decode cX9_register 26 = .ok (.iaload, 1) := by decide +kernel
theorem dX9_register_27 : decode cX9_register 27 = .ok (.ireturn, 1) := by decide +kernel
theorem dX9_memory_0 : decode cX9_memory 0 = .ok (.iload_n 1, 1) := by decide +kernel
theorem dX9_memory_1 : decode cX9_memory 1 = .ok (.ifCond .lt 10, 3) := by decide +kernel
theorem dX9_memory_4 : decode cX9_memory 4 = .ok (.iload_n 1, 1) := by decide +kernel
theorem dX9_memory_5 : decode cX9_memory 5 = .ok (.sipush 1024, 3) := by decide +kernel
theorem dX9_memory_8 : decode cX9_memory 8 = .ok (.if_icmp .lt 11, 3) := by decide +kernel
theorem dX9_memory_11 : decode cX9_memory 11 = .ok (.new 19, 3) := by decide +kernel
theorem dX9_memory_14 : decode cX9_memory 14 = .ok (.dup, 1) := by decide +kernel
theorem dX9_memory_15 : decode cX9_memory 15 = .ok (.invokespecial 21, 3) := by decide +kernel
theorem dX9_memory_18 : decode cX9_memory 18 = .ok (.athrow, 1) := by decide +kernel
theorem dX9_memory_19 : decode cX9_memory 19 = .ok (.aload_n 0, 1) := by decide +kernel
theorem dX9_memory_20 : decode cX9_memory 20 = .ok (.getfield 12, 3) := by decide +kernel
theorem dX9_memory_23 : decode cX9_memory 23 = .ok (.getfield 50, 3) := by decide +kernel
theorem dX9_memory_26 : decode cX9_memory 26 = .ok (.iload_n 1, 1) := by decide +kernel
theorem dX9_memory_27 : decode cX9_memory 27 = .ok (.iaload, 1) := by decide +kernel
theorem dX9_memory_28 : decode cX9_memory 28 = .ok (.ireturn, 1) := by decide +kernel
theorem dX9_output_0 : decode cX9_output 0 = .ok (.iload_n 1, 1) := by decide +kernel
theorem dX9_output_1 : decode cX9_output 1 = .ok (.ifCond .lt 17, 3) := by decide +kernel
theorem dX9_output_4 : decode cX9_output 4 = .ok (.iload_n 1, 1) := by decide +kernel
theorem dX9_output_5 : decode cX9_output 5 = .ok (.aload_n 0, 1) := by decide +kernel
theorem dX9_output_6 : decode cX9_output 6 = .ok (.getfield 12, 3) := by decide +kernel
theorem dX9_output_9 : decode cX9_output 9 = .ok (.getfield 53, 3) := by decide +kernel
theorem dX9_output_12 : decode cX9_output 12 = .ok (.invokevirtual 57, 3) := by decide +kernel
theorem dX9_output_15 : decode cX9_output 15 = .ok (.if_icmp .lt 11, 3) := by decide +kernel
theorem dX9_output_18 : decode cX9_output 18 = .ok (.new 19, 3) := by decide +kernel
theorem dX9_output_21 : decode cX9_output 21 = .ok (.dup, 1) := by decide +kernel
theorem dX9_output_22 : decode cX9_output 22 = .ok (.invokespecial 21, 3) := by decide +kernel
theorem dX9_output_25 : decode cX9_output 25 = .ok (.athrow, 1) := by decide +kernel
theorem dX9_output_26 : decode cX9_output 26 = .ok (.aload_n 0, 1) := by decide +kernel
theorem dX9_output_27 : decode cX9_output 27 = .ok (.getfield 12, 3) := by decide +kernel
theorem dX9_output_30 : decode cX9_output 30 = .ok (.getfield 53, 3) := by decide +kernel
theorem dX9_output_33 : decode cX9_output 33 = .ok (.getfield 63, 3) := by decide +kernel
theorem dX9_output_36 : decode cX9_output 36 = .ok (.iload_n 1, 1) := by decide +kernel
theorem dX9_output_37 : decode cX9_output 37 = .ok (.iaload, 1) := by decide +kernel
theorem dX9_output_38 : decode cX9_output 38 = .ok (.ireturn, 1) := by decide +kernel
theorem dX9_count_0 : decode cX9_count 0 = .ok (.aload_n 0, 1) := by decide +kernel
theorem dX9_count_1 : decode cX9_count 1 = .ok (.getfield 12, 3) := by decide +kernel
theorem dX9_count_4 : decode cX9_count 4 = .ok (.getfield 37, 3) := by decide +kernel
theorem dX9_count_7 : decode cX9_count 7 = .ok (.astore_n 2, 1) := by decide +kernel
theorem dX9_count_8 : decode cX9_count 8 = .ok (.iload_n 1, 1) := by decide +kernel
theorem dX9_count_9 : decode cX9_count 9 = .ok (.tableswitch 105 0 8 #[51, 56, 64, 69, 74, 79, 84, 89, 94], 51) := by decide +kernel
theorem dX9_count_60 : decode cX9_count 60 = .ok (.aload_n 2, 1) := by decide +kernel
theorem dX9_count_61 : decode cX9_count 61 = .ok (.getfield 41, 3) := by decide +kernel
theorem dX9_count_64 : decode cX9_count 64 = .ok (.ireturn, 1) := by decide +kernel
theorem dX9_count_65 : decode cX9_count 65 = .ok (.aload_n 0, 1) := by decide +kernel
theorem dX9_count_66 : decode cX9_count 66 = .ok (.getfield 12, 3) := by decide +kernel
theorem dX9_count_69 : decode cX9_count 69 = .ok (.getfield 66, 3) := by decide +kernel
theorem dX9_count_72 : decode cX9_count 72 = .ok (.ireturn, 1) := by decide +kernel
theorem dX9_count_73 : decode cX9_count 73 = .ok (.aload_n 2, 1) := by decide +kernel
theorem dX9_count_74 : decode cX9_count 74 = .ok (.getfield 69, 3) := by decide +kernel
theorem dX9_count_77 : decode cX9_count 77 = .ok (.ireturn, 1) := by decide +kernel
theorem dX9_count_78 : decode cX9_count 78 = .ok (.aload_n 2, 1) := by decide +kernel
theorem dX9_count_79 : decode cX9_count 79 = .ok (.getfield 72, 3) := by decide +kernel
theorem dX9_count_82 : decode cX9_count 82 = .ok (.ireturn, 1) := by decide +kernel
theorem dX9_count_83 : decode cX9_count 83 = .ok (.aload_n 2, 1) := by decide +kernel
theorem dX9_count_84 : decode cX9_count 84 = .ok (.getfield 75, 3) := by decide +kernel
theorem dX9_count_87 : decode cX9_count 87 = .ok (.ireturn, 1) := by decide +kernel
theorem dX9_count_88 : decode cX9_count 88 = .ok (.aload_n 2, 1) := by decide +kernel
theorem dX9_count_89 : decode cX9_count 89 = .ok (.getfield 78, 3) := by decide +kernel
theorem dX9_count_92 : decode cX9_count 92 = .ok (.ireturn, 1) := by decide +kernel
theorem dX9_count_93 : decode cX9_count 93 = .ok (.aload_n 2, 1) := by decide +kernel
theorem dX9_count_94 : decode cX9_count 94 = .ok (.getfield 81, 3) := by decide +kernel
theorem dX9_count_97 : decode cX9_count 97 = .ok (.ireturn, 1) := by decide +kernel
theorem dX9_count_98 : decode cX9_count 98 = .ok (.aload_n 2, 1) := by decide +kernel
theorem dX9_count_99 : decode cX9_count 99 = .ok (.getfield 84, 3) := by decide +kernel
theorem dX9_count_102 : decode cX9_count 102 = .ok (.ireturn, 1) := by decide +kernel
theorem dX9_count_103 : decode cX9_count 103 = .ok (.aload_n 0, 1) := by decide +kernel
theorem dX9_count_104 : decode cX9_count 104 = .ok (.getfield 12, 3) := by decide +kernel
theorem dX9_count_107 : decode cX9_count 107 = .ok (.getfield 53, 3) := by decide +kernel
theorem dX9_count_110 : decode cX9_count 110 = .ok (.getfield 87, 3) := by decide +kernel
theorem dX9_count_113 : decode cX9_count 113 = .ok (.ireturn, 1) := by decide +kernel
theorem dX9_count_114 : decode cX9_count 114 = .ok (.new 30, 3) := by decide +kernel
theorem dX9_count_117 : decode cX9_count 117 = .ok (.dup, 1) := by decide +kernel
theorem dX9_count_118 : decode cX9_count 118 = .ok (.invokespecial 32, 3) := by decide +kernel
theorem dX9_count_121 : decode cX9_count 121 = .ok (.athrow, 1) := by decide +kernel
