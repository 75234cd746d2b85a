theorem dX10_init_0 : decode cX10_init 0 = .ok (.aload_n 0, 1) := by decide +kernel
theorem dX10_init_1 : decode cX10_init 1 = .ok (.invokespecial 1, 3) := by decide +kernel
theorem dX10_init_4 : decode cX10_init 4 = .ok (.aload_n 0, 1) := by decide +kernel
theorem dX10_init_5 : decode cX10_init 5 = .ok (.sipush 1024, 3) := by decide +kernel
theorem dX10_init_8 : decode cX10_init 8 = .ok (.newarray .int, 2) := by decide +kernel
theorem dX10_init_10 : decode cX10_init 10 = .ok (.putfield 7, 3) := by decide +kernel
theorem dX10_init_13 : decode cX10_init 13 = .ok (.aload_n 0, 1) := by decide +kernel
theorem dX10_init_14 : decode cX10_init 14 = .ok (.sipush 1024, 3) := by decide +kernel
theorem dX10_init_17 : decode cX10_init 17 = .ok (.newarray .int, 2) := by decide +kernel
theorem dX10_init_19 : decode cX10_init 19 = .ok (.putfield 13, 3) := by decide +kernel
theorem dX10_init_22 : decode cX10_init 22 = .ok (.aload_n 0, 1) := by decide +kernel
theorem dX10_init_23 : decode cX10_init 23 = .ok (.sipush 1024, 3) := by decide +kernel
theorem dX10_init_26 : decode cX10_init 26 = .ok (.newarray .int, 2) := by decide +kernel
theorem dX10_init_28 : decode cX10_init 28 = .ok (.putfield 16, 3) := by decide +kernel
theorem dX10_init_31 : decode cX10_init 31 = .ok (.aload_n 0, 1) := by decide +kernel
theorem dX10_init_32 : decode cX10_init 32 = .ok (.bipush 16, 2) := by decide +kernel
theorem dX10_init_34 : decode cX10_init 34 = .ok (.newarray .int, 2) := by decide +kernel
theorem dX10_init_36 : decode cX10_init 36 = .ok (.putfield 19, 3) := by decide +kernel
theorem dX10_init_39 : decode cX10_init 39 = .ok (.aload_n 0, 1) := by decide +kernel
theorem dX10_init_40 : decode cX10_init 40 = .ok (.sipush 1024, 3) := by decide +kernel
theorem dX10_init_43 : decode cX10_init 43 = .ok (.newarray .int, 2) := by decide +kernel
theorem dX10_init_45 : decode cX10_init 45 = .ok (.putfield 22, 3) := by decide +kernel
theorem dX10_init_48 : decode cX10_init 48 = .ok (.aload_n 0, 1) := by decide +kernel
theorem dX10_init_49 : decode cX10_init 49 = .ok (.bipush 16, 2) := by decide +kernel
theorem dX10_init_51 : decode cX10_init 51 = .ok (.newarray .int, 2) := by decide +kernel
theorem dX10_init_53 : decode cX10_init 53 = .ok (.putfield 25, 3) := by decide +kernel
theorem dX10_init_56 : decode cX10_init 56 = .ok (.aload_n 0, 1) := by decide +kernel
theorem dX10_init_57 : decode cX10_init 57 = .ok (.sipush 1024, 3) := by decide +kernel
theorem dX10_init_60 : decode cX10_init 60 = .ok (.newarray .int, 2) := by decide +kernel
theorem dX10_init_62 : decode cX10_init 62 = .ok (.putfield 28, 3) := by decide +kernel
theorem dX10_init_65 : decode cX10_init 65 = .ok (.aload_n 0, 1) := by decide +kernel
theorem dX10_init_66 : decode cX10_init 66 = .ok (.sipush 1000, 3) := by decide +kernel
theorem dX10_init_69 : decode cX10_init 69 = .ok (.newarray .int, 2) := by decide +kernel
theorem dX10_init_71 : decode cX10_init 71 = .ok (.putfield 31, 3) := by decide +kernel
theorem dX10_init_74 : decode cX10_init 74 = .ok (.aload_n 0, 1) := by decide +kernel
theorem dX10_init_75 : decode cX10_init 75 = .ok (.bipush 16, 2) := by decide +kernel
theorem dX10_init_77 : decode cX10_init 77 = .ok (.newarray .long, 2) := by decide +kernel
theorem dX10_init_79 : decode cX10_init 79 = .ok (.putfield 34, 3) := by decide +kernel
theorem dX10_init_82 : decode cX10_init 82 = .ok (.aload_n 0, 1) := by decide +kernel
theorem dX10_init_83 : decode cX10_init 83 = .ok (.bipush 64, 2) := by decide +kernel
theorem dX10_init_85 : decode cX10_init 85 = .ok (.newarray .int, 2) := by decide +kernel
theorem dX10_init_87 : decode cX10_init 87 = .ok (.putfield 38, 3) := by decide +kernel
theorem dX10_init_90 : decode cX10_init 90 = .ok (.aload_n 0, 1) := by decide +kernel
theorem dX10_init_91 : decode cX10_init 91 = .ok (.bipush 8, 2) := by decide +kernel
theorem dX10_init_93 : decode cX10_init 93 = .ok (.newarray .int, 2) := by decide +kernel
theorem dX10_init_95 : decode cX10_init 95 = .ok (.putfield 41, 3) := by decide +kernel
theorem dX10_init_98 : decode cX10_init 98 = .ok (.aload_n 0, 1) := by decide +kernel
theorem dX10_init_99 : decode cX10_init 99 = .ok (.bipush 64, 2) := by decide +kernel
theorem dX10_init_101 : decode cX10_init 101 = .ok (.newarray .int, 2) := by decide +kernel
theorem dX10_init_103 : decode cX10_init 103 = .ok (.putfield 44, 3) := by decide +kernel
theorem dX10_init_106 : decode cX10_init 106 = .ok (.aload_n 0, 1) := by decide +kernel
theorem dX10_init_107 : decode cX10_init 107 = .ok (.bipush 64, 2) := by decide +kernel
theorem dX10_init_109 : decode cX10_init 109 = .ok (.newarray .int, 2) := by decide +kernel
theorem dX10_init_111 : decode cX10_init 111 = .ok (.putfield 47, 3) := by decide +kernel
theorem dX10_init_114 : decode cX10_init 114 = .ok (.aload_n 0, 1) := by decide +kernel
theorem dX10_init_115 : decode cX10_init 115 = .ok (.bipush 64, 2) := by decide +kernel
theorem dX10_init_117 : decode cX10_init 117 = .ok (.newarray .long, 2) := by decide +kernel
theorem dX10_init_119 : decode cX10_init 119 = .ok (.putfield 50, 3) := by decide +kernel
theorem dX10_init_122 : decode cX10_init 122 = .ok (.aload_n 0, 1) := by decide +kernel
theorem dX10_init_123 : decode cX10_init 123 = .ok (.bipush 16, 2) := by decide +kernel
theorem dX10_init_125 : decode cX10_init 125 = .ok (.newarray .int, 2) := by decide +kernel
theorem dX10_init_127 : decode cX10_init 127 = .ok (.putfield 53, 3) := by decide +kernel
theorem dX10_init_130 : decode cX10_init 130 = .ok (.aload_n 0, 1) := by decide +kernel
theorem dX10_init_131 : decode cX10_init 131 = .ok (.invokevirtual 56, 3) := by decide +kernel
theorem dX10_init_134 : decode cX10_init 134 = .ok (.return_, 1) := by decide +kernel
theorem dX10_thrown_0 : decode cX10_thrown 0 = .ok (.aload_n 0, 1) := by decide +kernel
theorem dX10_thrown_1 : decode cX10_thrown 1 = .ok (.getfield 59, 3) := by decide +kernel
theorem dX10_thrown_4 : decode cX10_thrown 4 = .ok (.ireturn, 1) := by decide +kernel
theorem dX10_fails_0 : decode cX10_fails 0 = .ok (.aload_n 0, 1) := by decide +kernel
theorem dX10_fails_1 : decode cX10_fails 1 = .ok (.iload_n 1, 1) := by decide +kernel
theorem dX10_fails_2 : decode cX10_fails 2 = .ok (.ifCond .eq 7, 3) := by decide +kernel
theorem dX10_fails_5 : decode cX10_fails 5 = .ok (.iload_n 2, 1) := by decide +kernel
theorem dX10_fails_6 : decode cX10_fails 6 = .ok (.goto 4, 3) := by decide +kernel
theorem dX10_fails_9 : decode cX10_fails 9 = .ok (.iconst 0, 1) := by decide +kernel
theorem dX10_fails_10 : decode cX10_fails 10 = .ok (.putfield 59, 3) := by decide +kernel
theorem dX10_fails_13 : decode cX10_fails 13 = .ok (.iload_n 1, 1) := by decide +kernel
theorem dX10_fails_14 : decode cX10_fails 14 = .ok (.ireturn, 1) := by decide +kernel
theorem dX10_code_0 : decode cX10_code 0 = .ok (.aload_n 0, 1) := by decide +kernel
theorem dX10_code_1 : decode cX10_code 1 = .ok (.iload_n 1, 1) := by decide +kernel
theorem dX10_code_2 : decode cX10_code 2 = .ok (.ifCond .lt 10, 3) := by decide +kernel
theorem dX10_code_5 : decode cX10_code 5 = .ok (.iload_n 1, 1) := by decide +kernel
theorem dX10_code_6 : decode cX10_code 6 = .ok (.sipush 1023, 3) := by decide +kernel
theorem dX10_code_9 : decode cX10_code 9 = .ok (.if_icmp .le 7, 3) := by decide +kernel
theorem dX10_code_12 : decode cX10_code 12 = .ok (.iconst 1, 1) := by decide +kernel
theorem dX10_code_13 : decode cX10_code 13 = .ok (.goto 4, 3) := by decide +kernel
theorem dX10_code_16 : decode cX10_code 16 = .ok (.iconst 0, 1) := by decide +kernel
theorem dX10_code_17 : decode cX10_code 17 = .ok (.iconst 1, 1) := by decide +kernel
theorem dX10_code_18 : decode cX10_code 18 = .ok (.invokevirtual 63, 3) := by decide +kernel
theorem dX10_code_21 : decode cX10_code 21 = .ok (.ifCond .ne 10, 3) := by decide +kernel
theorem dX10_code_24 : decode cX10_code 24 = .ok (.aload_n 0, 1) := by decide +kernel
theorem dX10_code_25 : decode cX10_code 25 = .ok (.getfield 7, 3) := by decide +kernel
theorem dX10_code_28 : decode cX10_code 28 = .ok (.iload_n 1, 1) := by decide +kernel
theorem dX10_code_29 : decode cX10_code 29 = .ok (.iload_n 2, 1) := by decide +kernel
theorem dX10_code_30 : decode cX10_code 30 = .ok (.iastore, 1) := by decide +kernel
theorem dX10_code_31 : decode cX10_code 31 = .ok (.return_, 1) := by decide +kernel
theorem dX10_data_0 : decode cX10_data 0 = .ok (.aload_n 0, 1) := by decide +kernel
theorem dX10_data_1 : decode cX10_data 1 = .ok (.iload_n 1, 1) := by decide +kernel
theorem dX10_data_2 : decode cX10_data 2 = .ok (.ifCond .lt 10, 3) := by decide +kernel
theorem dX10_data_5 : decode cX10_data 5 = .ok (.iload_n 1, 1) := by decide +kernel
theorem dX10_data_6 : decode cX10_data 6 = .ok (.sipush 1023, 3) := by decide +kernel
theorem dX10_data_9 : decode cX10_data 9 = .ok (.if_icmp .le 7, 3) := by decide +kernel
theorem dX10_data_12 : decode cX10_data 12 = .ok (.iconst 1, 1) := by decide +kernel
theorem dX10_data_13 : decode cX10_data 13 = .ok (.goto 4, 3) := by decide +kernel
theorem dX10_data_16 : decode cX10_data 16 = .ok (.iconst 0, 1) := by decide +kernel
theorem dX10_data_17 : decode cX10_data 17 = .ok (.iconst 1, 1) := by decide +kernel
theorem dX10_data_18 : decode cX10_data 18 = .ok (.invokevirtual 63, 3) := by decide +kernel
theorem dX10_data_21 : decode cX10_data 21 = .ok (.ifCond .ne 10, 3) := by decide +kernel
theorem dX10_data_24 : decode cX10_data 24 = .ok (.aload_n 0, 1) := by decide +kernel
theorem dX10_data_25 : decode cX10_data 25 = .ok (.getfield 13, 3) := by decide +kernel
theorem dX10_data_28 : decode cX10_data 28 = .ok (.iload_n 1, 1) := by decide +kernel
theorem dX10_data_29 : decode cX10_data 29 = .ok (.iload_n 2, 1) := by decide +kernel
theorem dX10_data_30 : decode cX10_data 30 = .ok (.iastore, 1) := by decide +kernel
theorem dX10_data_31 : decode cX10_data 31 = .ok (.return_, 1) := by decide +kernel
theorem dX10_begin_0 : decode cX10_begin 0 = .ok (.aload_n 0, 1) := by decide +kernel
theorem dX10_begin_1 : decode cX10_begin 1 = .ok (.iconst 0, 1) := by decide +kernel
theorem dX10_begin_2 : decode cX10_begin 2 = .ok (.putfield 59, 3) := by decide +kernel
theorem dX10_begin_5 : decode cX10_begin 5 = .ok (.iconst 0, 1) := by decide +kernel
theorem dX10_begin_6 : decode cX10_begin 6 = .ok (.istore_n 1, 1) := by decide +kernel
theorem dX10_begin_7 : decode cX10_begin 7 = .ok (.iload_n 1, 1) := by decide +kernel
theorem dX10_begin_8 : decode cX10_begin 8 = .ok (.sipush 1024, 3) := by decide +kernel
theorem dX10_begin_11 : decode cX10_begin 11 = .ok (.if_icmp .ge 45, 3) := by decide +kernel
theorem dX10_begin_14 : decode cX10_begin 14 = .ok (.aload_n 0, 1) := by decide +kernel
theorem dX10_begin_15 : decode cX10_begin 15 = .ok (.getfield 16, 3) := by decide +kernel
theorem dX10_begin_18 : decode cX10_begin 18 = .ok (.iload_n 1, 1) := by decide +kernel
theorem dX10_begin_19 : decode cX10_begin 19 = .ok (.aload_n 0, 1) := by decide +kernel
theorem dX10_begin_20 : decode cX10_begin 20 = .ok (.getfield 7, 3) := by decide +kernel
theorem dX10_begin_23 : decode cX10_begin 23 = .ok (.iload_n 1, 1) := by decide +kernel
theorem dX10_begin_24 : decode cX10_begin 24 = .ok (.iaload, 1) := by decide +kernel
theorem dX10_begin_25 : decode cX10_begin 25 = .ok (.iastore, 1) := by decide +kernel
theorem dX10_begin_26 : decode cX10_begin 26 = .ok (.aload_n 0, 1) := by decide +kernel
theorem dX10_begin_27 : decode cX10_begin 27 = .ok (.getfield 22, 3) := by decide +kernel
theorem dX10_begin_30 : decode cX10_begin 30 = .ok (.iload_n 1, 1) := by decide +kernel
theorem dX10_begin_31 : decode cX10_begin 31 = .ok (.aload_n 0, 1) := by decide +kernel
theorem dX10_begin_32 : decode cX10_begin 32 = .ok (.getfield 13, 3) := by decide +kernel
theorem dX10_begin_35 : decode cX10_begin 35 = .ok (.iload_n 1, 1) := by decide +kernel
theorem dX10_begin_36 : decode cX10_begin 36 = .ok (.iaload, 1) := by decide +kernel
theorem dX10_begin_37 : decode cX10_begin 37 = .ok (.iastore, 1) := by decide +kernel
theorem dX10_begin_38 : decode cX10_begin 38 = .ok (.aload_n 0, 1) := by decide +kernel
theorem dX10_begin_39 : decode cX10_begin 39 = .ok (.getfield 28, 3) := by decide +kernel
theorem dX10_begin_42 : decode cX10_begin 42 = .ok (.iload_n 1, 1) := by decide +kernel
theorem dX10_begin_43 : decode cX10_begin 43 = .ok (.aload_n 0, 1) := by decide +kernel
theorem dX10_begin_44 : decode cX10_begin 44 = .ok (.getfield 13, 3) := by decide +kernel
theorem dX10_begin_47 : decode cX10_begin 47 = .ok (.iload_n 1, 1) := by decide +kernel
theorem dX10_begin_48 : decode cX10_begin 48 = .ok (.iaload, 1) := by decide +kernel
theorem dX10_begin_49 : decode cX10_begin 49 = .ok (.iastore, 1) := by decide +kernel
theorem dX10_begin_50 : decode cX10_begin 50 = .ok (.iinc 1 1, 3) := by decide +kernel
theorem dX10_begin_53 : decode cX10_begin 53 = .ok (.goto (-46), 3) := by decide +kernel
theorem dX10_begin_56 : decode cX10_begin 56 = .ok (.iconst 0, 1) := by decide +kernel
theorem dX10_begin_57 : decode cX10_begin 57 = .ok (.istore_n 1, 1) := by decide +kernel
theorem dX10_begin_58 : decode cX10_begin 58 = .ok (.iload_n 1, 1) := by decide +kernel
theorem dX10_begin_59 : decode cX10_begin 59 = .ok (.bipush 16, 2) := by decide +kernel
theorem dX10_begin_61 : decode cX10_begin 61 = .ok (.if_icmp .ge 37, 3) := by decide +kernel
theorem dX10_begin_64 : decode cX10_begin 64 = .ok (.aload_n 0, 1) := by decide +kernel
theorem dX10_begin_65 : decode cX10_begin 65 = .ok (.getfield 19, 3) := by decide +kernel
theorem dX10_begin_68 : decode cX10_begin 68 = .ok (.iload_n 1, 1) := by decide +kernel
theorem dX10_begin_69 : decode cX10_begin 69 = .ok (.iconst 0, 1) := by decide +kernel
theorem dX10_begin_70 : decode cX10_begin 70 = .ok (.iastore, 1) := by decide +kernel
theorem dX10_begin_71 : decode cX10_begin 71 = .ok (.aload_n 0, 1) := by decide +kernel
theorem dX10_begin_72 : decode cX10_begin 72 = .ok (.getfield 25, 3) := by decide +kernel
theorem dX10_begin_75 : decode cX10_begin 75 = .ok (.iload_n 1, 1) := by decide +kernel
theorem dX10_begin_76 : decode cX10_begin 76 = .ok (.iconst 0, 1) := by decide +kernel
theorem dX10_begin_77 : decode cX10_begin 77 = .ok (.iastore, 1) := by decide +kernel
theorem dX10_begin_78 : decode cX10_begin 78 = .ok (.aload_n 0, 1) := by decide +kernel
theorem dX10_begin_79 : decode cX10_begin 79 = .ok (.getfield 34, 3) := by decide +kernel
theorem dX10_begin_82 : decode cX10_begin 82 = .ok (.iload_n 1, 1) := by decide +kernel
theorem dX10_begin_83 : decode cX10_begin 83 = .ok (.lconst 0, 1) := by decide +kernel
theorem dX10_begin_84 : decode cX10_begin 84 = .ok (.lastore, 1) := by decide +kernel
theorem dX10_begin_85 : decode cX10_begin 85 = .ok (.aload_n 0, 1) := by decide +kernel
theorem dX10_begin_86 : decode cX10_begin 86 = .ok (.getfield 53, 3) := by decide +kernel
theorem dX10_begin_89 : decode cX10_begin 89 = .ok (.iload_n 1, 1) := by decide +kernel
theorem dX10_begin_90 : decode cX10_begin 90 = .ok (.iconst (-1), 1) := by decide +kernel
theorem dX10_begin_91 : decode cX10_begin 91 = .ok (.iastore, 1) := by decide +kernel
theorem dX10_begin_92 : decode cX10_begin 92 = .ok (.iinc 1 1, 3) := by decide +kernel
theorem dX10_begin_95 : decode cX10_begin 95 = .ok (.goto (-37), 3) := by decide +kernel
theorem dX10_begin_98 : decode cX10_begin 98 = .ok (.iconst 0, 1) := by decide +kernel
theorem dX10_begin_99 : decode cX10_begin 99 = .ok (.istore_n 1, 1) := by decide +kernel
theorem dX10_begin_100 : decode cX10_begin 100 = .ok (.iload_n 1, 1) := by decide +kernel
theorem dX10_begin_101 : decode cX10_begin 101 = .ok (.bipush 64, 2) := by decide +kernel
theorem dX10_begin_103 : decode cX10_begin 103 = .ok (.if_icmp .ge 16, 3) := by decide +kernel
theorem dX10_begin_106 : decode cX10_begin 106 = .ok (.aload_n 0, 1) := by decide +kernel
theorem dX10_begin_107 : decode cX10_begin 107 = .ok (.getfield 38, 3) := by decide +kernel
theorem dX10_begin_110 : decode cX10_begin 110 = .ok (.iload_n 1, 1) := by decide +kernel
theorem dX10_begin_111 : decode cX10_begin 111 = .ok (.iconst 1, 1) := by decide +kernel
theorem dX10_begin_112 : decode cX10_begin 112 = .ok (.iastore, 1) := by decide +kernel
theorem dX10_begin_113 : decode cX10_begin 113 = .ok (.iinc 1 1, 3) := by decide +kernel
theorem dX10_begin_116 : decode cX10_begin 116 = .ok (.goto (-16), 3) := by decide +kernel
theorem dX10_begin_119 : decode cX10_begin 119 = .ok (.aload_n 0, 1) := by decide +kernel
theorem dX10_begin_120 : decode cX10_begin 120 = .ok (.iconst 0, 1) := by decide +kernel
theorem dX10_begin_121 : decode cX10_begin 121 = .ok (.putfield 67, 3) := by decide +kernel
theorem dX10_begin_124 : decode cX10_begin 124 = .ok (.aload_n 0, 1) := by decide +kernel
theorem dX10_begin_125 : decode cX10_begin 125 = .ok (.iconst 0, 1) := by decide +kernel
theorem dX10_begin_126 : decode cX10_begin 126 = .ok (.putfield 70, 3) := by decide +kernel
theorem dX10_begin_129 : decode cX10_begin 129 = .ok (.aload_n 0, 1) := by decide +kernel
theorem dX10_begin_130 : decode cX10_begin 130 = .ok (.iconst 0, 1) := by decide +kernel
theorem dX10_begin_131 : decode cX10_begin 131 = .ok (.putfield 73, 3) := by decide +kernel
theorem dX10_begin_134 : decode cX10_begin 134 = .ok (.aload_n 0, 1) := by decide +kernel
theorem dX10_begin_135 : decode cX10_begin 135 = .ok (.iconst 0, 1) := by decide +kernel
theorem dX10_begin_136 : decode cX10_begin 136 = .ok (.putfield 76, 3) := by decide +kernel
theorem dX10_begin_139 : decode cX10_begin 139 = .ok (.aload_n 0, 1) := by decide +kernel
theorem dX10_begin_140 : decode cX10_begin 140 = .ok (.iconst 0, 1) := by decide +kernel
theorem dX10_begin_141 : decode cX10_begin 141 = .ok (.putfield 79, 3) := by decide +kernel
theorem dX10_begin_144 : decode cX10_begin 144 = .ok (.aload_n 0, 1) := by decide +kernel
theorem dX10_begin_145 : decode cX10_begin 145 = .ok (.iconst 0, 1) := by decide +kernel
theorem dX10_begin_146 : decode cX10_begin 146 = .ok (.putfield 82, 3) := by decide +kernel
theorem dX10_begin_149 : decode cX10_begin 149 = .ok (.aload_n 0, 1) := by decide +kernel
theorem dX10_begin_150 : decode cX10_begin 150 = .ok (.iconst 0, 1) := by decide +kernel
theorem dX10_begin_151 : decode cX10_begin 151 = .ok (.putfield 85, 3) := by decide +kernel
theorem dX10_begin_154 : decode cX10_begin 154 = .ok (.aload_n 0, 1) := by decide +kernel
theorem dX10_begin_155 : decode cX10_begin 155 = .ok (.iconst 0, 1) := by decide +kernel
theorem dX10_begin_156 : decode cX10_begin 156 = .ok (.putfield 88, 3) := by decide +kernel
theorem dX10_begin_159 : decode cX10_begin 159 = .ok (.aload_n 0, 1) := by decide +kernel
theorem dX10_begin_160 : decode cX10_begin 160 = .ok (.iconst (-1), 1) := by decide +kernel
theorem dX10_begin_161 : decode cX10_begin 161 = .ok (.putfield 91, 3) := by decide +kernel
theorem dX10_begin_164 : decode cX10_begin 164 = .ok (.aload_n 0, 1) := by decide +kernel
theorem dX10_begin_165 : decode cX10_begin 165 = .ok (.iconst 0, 1) := by decide +kernel
theorem dX10_begin_166 : decode cX10_begin 166 = .ok (.putfield 94, 3) := by decide +kernel
theorem dX10_begin_169 : decode cX10_begin 169 = .ok (.aload_n 0, 1) := by decide +kernel
theorem dX10_begin_170 : decode cX10_begin 170 = .ok (.iconst 0, 1) := by decide +kernel
theorem dX10_begin_171 : decode cX10_begin 171 = .ok (.putfield 97, 3) := by decide +kernel
theorem dX10_begin_174 : decode cX10_begin 174 = .ok (.aload_n 0, 1) := by decide +kernel
theorem dX10_begin_175 : decode cX10_begin 175 = .ok (.iconst 0, 1) := by decide +kernel
theorem dX10_begin_176 : decode cX10_begin 176 = .ok (.putfield 100, 3) := by decide +kernel
theorem dX10_begin_179 : decode cX10_begin 179 = .ok (.aload_n 0, 1) := by decide +kernel
theorem dX10_begin_180 : decode cX10_begin 180 = .ok (.iconst 0, 1) := by decide +kernel
theorem dX10_begin_181 : decode cX10_begin 181 = .ok (.putfield 103, 3) := by decide +kernel
theorem dX10_begin_184 : decode cX10_begin 184 = .ok (.aload_n 0, 1) := by decide +kernel
theorem dX10_begin_185 : decode cX10_begin 185 = .ok (.iconst 0, 1) := by decide +kernel
theorem dX10_begin_186 : decode cX10_begin 186 = .ok (.putfield 106, 3) := by decide +kernel
theorem dX10_begin_189 : decode cX10_begin 189 = .ok (.aload_n 0, 1) := by decide +kernel
theorem dX10_begin_190 : decode cX10_begin 190 = .ok (.invokevirtual 110, 3) := by decide +kernel
theorem dX10_begin_193 : decode cX10_begin 193 = .ok (.return_, 1) := by decide +kernel
theorem dX10_run_0 : decode cX10_run 0 = .ok (.aload_n 0, 1) := by decide +kernel
theorem dX10_run_1 : decode cX10_run 1 = .ok (.iload_n 1, 1) := by decide +kernel
theorem dX10_run_2 : decode cX10_run 2 = .ok (.ifCond .lt 9, 3) := by decide +kernel
theorem dX10_run_5 : decode cX10_run 5 = .ok (.iload_n 1, 1) := by decide +kernel
theorem dX10_run_6 : decode cX10_run 6 = .ok (.ldc 113, 2) := by decide +kernel
theorem dX10_run_8 : decode cX10_run 8 = .ok (.if_icmp .le 7, 3) := by decide +kernel
theorem dX10_run_11 : decode cX10_run 11 = .ok (.iconst 1, 1) := by decide +kernel
theorem dX10_run_12 : decode cX10_run 12 = .ok (.goto 4, 3) := by decide +kernel
theorem dX10_run_15 : decode cX10_run 15 = .ok (.iconst 0, 1) := by decide +kernel
theorem dX10_run_16 : decode cX10_run 16 = .ok (.iconst 1, 1) := by decide +kernel
theorem dX10_run_17 : decode cX10_run 17 = .ok (.invokevirtual 63, 3) := by decide +kernel
theorem dX10_run_20 : decode cX10_run 20 = .ok (.ifCond .eq 5, 3) := by decide +kernel
theorem dX10_run_23 : decode cX10_run 23 = .ok (.iconst 0, 1) := by decide +kernel
theorem dX10_run_24 : decode cX10_run 24 = .ok (.ireturn, 1) := by decide +kernel
theorem dX10_run_25 : decode cX10_run 25 = .ok (.aload_n 0, 1) := by decide +kernel
theorem dX10_run_26 : decode cX10_run 26 = .ok (.getfield 70, 3) := by decide +kernel
theorem dX10_run_29 : decode cX10_run 29 = .ok (.i2l, 1) := by decide +kernel
theorem dX10_run_30 : decode cX10_run 30 = .ok (.iload_n 1, 1) := by decide +kernel
theorem dX10_run_31 : decode cX10_run 31 = .ok (.i2l, 1) := by decide +kernel
theorem dX10_run_32 : decode cX10_run 32 = .ok (.ladd, 1) := by decide +kernel
theorem dX10_run_33 : decode cX10_run 33 = .ok (.lstore_n 2, 1) := by decide +kernel
theorem dX10_run_34 : decode cX10_run 34 = .ok (.aload_n 0, 1) := by decide +kernel
theorem dX10_run_35 : decode cX10_run 35 = .ok (.getfield 73, 3) := by decide +kernel
theorem dX10_run_38 : decode cX10_run 38 = .ok (.ifCond .ne 60, 3) := by decide +kernel
theorem dX10_run_41 : decode cX10_run 41 = .ok (.aload_n 0, 1) := by decide +kernel
theorem dX10_run_42 : decode cX10_run 42 = .ok (.getfield 114, 3) := by decide +kernel
theorem dX10_run_45 : decode cX10_run 45 = .ok (.lload_n 2, 1) := by decide +kernel
theorem dX10_run_46 : decode cX10_run 46 = .ok (.lcmp, 1) := by decide +kernel
theorem dX10_run_47 : decode cX10_run 47 = .ok (.ifCond .gt 51, 3) := by decide +kernel
theorem dX10_run_50 : decode cX10_run 50 = .ok (.aload_n 0, 1) := by decide +kernel
theorem dX10_run_51 : decode cX10_run 51 = .ok (.invokevirtual 118, 3) := by decide +kernel
theorem dX10_run_54 : decode cX10_run 54 = .ok (.aload_n 0, 1) := by decide +kernel
theorem dX10_run_55 : decode cX10_run 55 = .ok (.getfield 121, 3) := by decide +kernel
theorem dX10_run_58 : decode cX10_run 58 = .ok (.ifCond .eq 33, 3) := by decide +kernel
theorem dX10_run_61 : decode cX10_run 61 = .ok (.aload_n 0, 1) := by decide +kernel
theorem dX10_run_62 : decode cX10_run 62 = .ok (.aload_n 0, 1) := by decide +kernel
theorem dX10_run_63 : decode cX10_run 63 = .ok (.getfield 76, 3) := by decide +kernel
theorem dX10_run_66 : decode cX10_run 66 = .ok (.ifCond .ne 7, 3) := by decide +kernel
theorem dX10_run_69 : decode cX10_run 69 = .ok (.iconst 1, 1) := by decide +kernel
theorem dX10_run_70 : decode cX10_run 70 = .ok (.goto 4, 3) := by decide +kernel
theorem dX10_run_73 : decode cX10_run 73 = .ok (.iconst 2, 1) := by decide +kernel
theorem dX10_run_74 : decode cX10_run 74 = .ok (.putfield 73, 3) := by decide +kernel
theorem dX10_run_77 : decode cX10_run 77 = .ok (.aload_n 0, 1) := by decide +kernel
theorem dX10_run_78 : decode cX10_run 78 = .ok (.aload_n 0, 1) := by decide +kernel
theorem dX10_run_79 : decode cX10_run 79 = .ok (.getfield 114, 3) := by decide +kernel
theorem dX10_run_82 : decode cX10_run 82 = .ok (.l2i, 1) := by decide +kernel
theorem dX10_run_83 : decode cX10_run 83 = .ok (.putfield 70, 3) := by decide +kernel
theorem dX10_run_86 : decode cX10_run 86 = .ok (.aload_n 0, 1) := by decide +kernel
theorem dX10_run_87 : decode cX10_run 87 = .ok (.getfield 73, 3) := by decide +kernel
theorem dX10_run_90 : decode cX10_run 90 = .ok (.ireturn, 1) := by decide +kernel
theorem dX10_run_91 : decode cX10_run 91 = .ok (.aload_n 0, 1) := by decide +kernel
theorem dX10_run_92 : decode cX10_run 92 = .ok (.invokevirtual 110, 3) := by decide +kernel
theorem dX10_run_95 : decode cX10_run 95 = .ok (.goto (-61), 3) := by decide +kernel
theorem dX10_run_98 : decode cX10_run 98 = .ok (.aload_n 0, 1) := by decide +kernel
theorem dX10_run_99 : decode cX10_run 99 = .ok (.getfield 73, 3) := by decide +kernel
theorem dX10_run_102 : decode cX10_run 102 = .ok (.ifCond .ne 22, 3) := by decide +kernel
theorem dX10_run_105 : decode cX10_run 105 = .ok (.aload_n 0, 1) := by decide +kernel
theorem dX10_run_106 : decode cX10_run 106 = .ok (.lload_n 2, 1) := by decide +kernel
theorem dX10_run_107 : decode cX10_run 107 = .ok (.l2i, 1) := by decide +kernel
theorem dX10_run_108 : decode cX10_run 108 = .ok (.putfield 70, 3) := by decide +kernel
theorem dX10_run_111 : decode cX10_run 111 = .ok (.aload_n 0, 1) := by decide +kernel
theorem dX10_run_112 : decode cX10_run 112 = .ok (.getfield 124, 3) := by decide +kernel
theorem dX10_run_115 : decode cX10_run 115 = .ok (.lload_n 2, 1) := by decide +kernel
theorem dX10_run_116 : decode cX10_run 116 = .ok (.lcmp, 1) := by decide +kernel
theorem dX10_run_117 : decode cX10_run 117 = .ok (.ifCond .gt 7, 3) := by decide +kernel
theorem dX10_run_120 : decode cX10_run 120 = .ok (.aload_n 0, 1) := by decide +kernel
theorem dX10_run_121 : decode cX10_run 121 = .ok (.invokevirtual 127, 3) := by decide +kernel
theorem dX10_run_124 : decode cX10_run 124 = .ok (.aload_n 0, 1) := by decide +kernel
theorem dX10_run_125 : decode cX10_run 125 = .ok (.getfield 73, 3) := by decide +kernel
theorem dX10_run_128 : decode cX10_run 128 = .ok (.ireturn, 1) := by decide +kernel
theorem dX10_store_0 : decode cX10_store 0 = .ok (.aload_n 0, 1) := by decide +kernel
theorem dX10_store_1 : decode cX10_store 1 = .ok (.getfield 130, 3) := by decide +kernel
theorem dX10_store_4 : decode cX10_store 4 = .ok (.ifCond .lt 23, 3) := by decide +kernel
theorem dX10_store_7 : decode cX10_store 7 = .ok (.aload_n 0, 1) := by decide +kernel
theorem dX10_store_8 : decode cX10_store 8 = .ok (.getfield 133, 3) := by decide +kernel
theorem dX10_store_11 : decode cX10_store 11 = .ok (.ifCond .ne 16, 3) := by decide +kernel
theorem dX10_store_14 : decode cX10_store 14 = .ok (.aload_n 0, 1) := by decide +kernel
theorem dX10_store_15 : decode cX10_store 15 = .ok (.getfield 28, 3) := by decide +kernel
theorem dX10_store_18 : decode cX10_store 18 = .ok (.aload_n 0, 1) := by decide +kernel
theorem dX10_store_19 : decode cX10_store 19 = .ok (.getfield 130, 3) := by decide +kernel
theorem dX10_store_22 : decode cX10_store 22 = .ok (.aload_n 0, 1) := by decide +kernel
theorem dX10_store_23 : decode cX10_store 23 = .ok (.getfield 136, 3) := by decide +kernel
theorem dX10_store_26 : decode cX10_store 26 = .ok (.iastore, 1) := by decide +kernel
theorem dX10_store_27 : decode cX10_store 27 = .ok (.aload_n 0, 1) := by decide +kernel
theorem dX10_store_28 : decode cX10_store 28 = .ok (.iconst 1, 1) := by decide +kernel
theorem dX10_store_29 : decode cX10_store 29 = .ok (.putfield 133, 3) := by decide +kernel
theorem dX10_store_32 : decode cX10_store 32 = .ok (.return_, 1) := by decide +kernel
theorem dX10_see_0 : decode cX10_see 0 = .ok (.aload_n 0, 1) := by decide +kernel
theorem dX10_see_1 : decode cX10_see 1 = .ok (.aload_n 0, 1) := by decide +kernel
theorem dX10_see_2 : decode cX10_see 2 = .ok (.getfield 139, 3) := by decide +kernel
theorem dX10_see_5 : decode cX10_see 5 = .ok (.putfield 91, 3) := by decide +kernel
theorem dX10_see_8 : decode cX10_see 8 = .ok (.aload_n 0, 1) := by decide +kernel
theorem dX10_see_9 : decode cX10_see 9 = .ok (.getfield 121, 3) := by decide +kernel
theorem dX10_see_12 : decode cX10_see 12 = .ok (.ifCond .eq 12, 3) := by decide +kernel
theorem dX10_see_15 : decode cX10_see 15 = .ok (.aload_n 0, 1) := by decide +kernel
theorem dX10_see_16 : decode cX10_see 16 = .ok (.aload_n 0, 1) := by decide +kernel
theorem dX10_see_17 : decode cX10_see 17 = .ok (.getfield 142, 3) := by decide +kernel
theorem dX10_see_20 : decode cX10_see 20 = .ok (.putfield 76, 3) := by decide +kernel
theorem dX10_see_23 : decode cX10_see 23 = .ok (.return_, 1) := by decide +kernel
theorem dX10_see_24 : decode cX10_see 24 = .ok (.aload_n 0, 1) := by decide +kernel
theorem dX10_see_25 : decode cX10_see 25 = .ok (.invokevirtual 127, 3) := by decide +kernel
theorem dX10_see_28 : decode cX10_see 28 = .ok (.aload_n 0, 1) := by decide +kernel
theorem dX10_see_29 : decode cX10_see 29 = .ok (.getfield 145, 3) := by decide +kernel
theorem dX10_see_32 : decode cX10_see 32 = .ok (.ifCond .le 16, 3) := by decide +kernel
theorem dX10_see_35 : decode cX10_see 35 = .ok (.aload_n 0, 1) := by decide +kernel
theorem dX10_see_36 : decode cX10_see 36 = .ok (.getfield 25, 3) := by decide +kernel
theorem dX10_see_39 : decode cX10_see 39 = .ok (.aload_n 0, 1) := by decide +kernel
theorem dX10_see_40 : decode cX10_see 40 = .ok (.getfield 145, 3) := by decide +kernel
theorem dX10_see_43 : decode cX10_see 43 = .ok (.aload_n 0, 1) := by decide +kernel
theorem dX10_see_44 : decode cX10_see 44 = .ok (.getfield 148, 3) := by decide +kernel
theorem dX10_see_47 : decode cX10_see 47 = .ok (.iastore, 1) := by decide +kernel
theorem dX10_see_48 : decode cX10_see 48 = .ok (.aload_n 0, 1) := by decide +kernel
theorem dX10_see_49 : decode cX10_see 49 = .ok (.getfield 151, 3) := by decide +kernel
theorem dX10_see_52 : decode cX10_see 52 = .ok (.ifCond .eq 36, 3) := by decide +kernel
theorem dX10_see_55 : decode cX10_see 55 = .ok (.aload_n 0, 1) := by decide +kernel
theorem dX10_see_56 : decode cX10_see 56 = .ok (.getfield 94, 3) := by decide +kernel
theorem dX10_see_59 : decode cX10_see 59 = .ok (.sipush 1000, 3) := by decide +kernel
theorem dX10_see_62 : decode cX10_see 62 = .ok (.if_icmp .ge 16, 3) := by decide +kernel
theorem dX10_see_65 : decode cX10_see 65 = .ok (.aload_n 0, 1) := by decide +kernel
theorem dX10_see_66 : decode cX10_see 66 = .ok (.getfield 31, 3) := by decide +kernel
theorem dX10_see_69 : decode cX10_see 69 = .ok (.aload_n 0, 1) := by decide +kernel
theorem dX10_see_70 : decode cX10_see 70 = .ok (.getfield 94, 3) := by decide +kernel
theorem dX10_see_73 : decode cX10_see 73 = .ok (.aload_n 0, 1) := by decide +kernel
theorem dX10_see_74 : decode cX10_see 74 = .ok (.getfield 154, 3) := by decide +kernel
theorem dX10_see_77 : decode cX10_see 77 = .ok (.iastore, 1) := by decide +kernel
theorem dX10_see_78 : decode cX10_see 78 = .ok (.aload_n 0, 1) := by decide +kernel
theorem dX10_see_79 : decode cX10_see 79 = .ok (.dup, 1) := by decide +kernel
theorem dX10_see_80 : decode cX10_see 80 = .ok (.getfield 94, 3) := by decide +kernel
theorem dX10_see_83 : decode cX10_see 83 = .ok (.iconst 1, 1) := by decide +kernel
theorem dX10_see_84 : decode cX10_see 84 = .ok (.iadd, 1) := by decide +kernel
theorem dX10_see_85 : decode cX10_see 85 = .ok (.putfield 94, 3) := by decide +kernel
theorem dX10_see_88 : decode cX10_see 88 = .ok (.aload_n 0, 1) := by decide +kernel
theorem dX10_see_89 : decode cX10_see 89 = .ok (.dup, 1) := by decide +kernel
theorem dX10_see_90 : decode cX10_see 90 = .ok (.getfield 79, 3) := by decide +kernel
theorem dX10_see_93 : decode cX10_see 93 = .ok (.iconst 1, 1) := by decide +kernel
theorem dX10_see_94 : decode cX10_see 94 = .ok (.iadd, 1) := by decide +kernel
theorem dX10_see_95 : decode cX10_see 95 = .ok (.putfield 79, 3) := by decide +kernel
theorem dX10_see_98 : decode cX10_see 98 = .ok (.aload_n 0, 1) := by decide +kernel
theorem dX10_see_99 : decode cX10_see 99 = .ok (.getfield 157, 3) := by decide +kernel
theorem dX10_see_102 : decode cX10_see 102 = .ok (.ifCond .ne 13, 3) := by decide +kernel
theorem dX10_see_105 : decode cX10_see 105 = .ok (.aload_n 0, 1) := by decide +kernel
theorem dX10_see_106 : decode cX10_see 106 = .ok (.dup, 1) := by decide +kernel
theorem dX10_see_107 : decode cX10_see 107 = .ok (.getfield 82, 3) := by decide +kernel
theorem dX10_see_110 : decode cX10_see 110 = .ok (.iconst 1, 1) := by decide +kernel
theorem dX10_see_111 : decode cX10_see 111 = .ok (.iadd, 1) := by decide +kernel
theorem dX10_see_112 : decode cX10_see 112 = .ok (.putfield 82, 3) := by decide +kernel
theorem dX10_see_115 : decode cX10_see 115 = .ok (.aload_n 0, 1) := by decide +kernel
theorem dX10_see_116 : decode cX10_see 116 = .ok (.getfield 160, 3) := by decide +kernel
theorem dX10_see_119 : decode cX10_see 119 = .ok (.ifCond .eq 13, 3) := by decide +kernel
theorem dX10_see_122 : decode cX10_see 122 = .ok (.aload_n 0, 1) := by decide +kernel
theorem dX10_see_123 : decode cX10_see 123 = .ok (.dup, 1) := by decide +kernel
theorem dX10_see_124 : decode cX10_see 124 = .ok (.getfield 85, 3) := by decide +kernel
theorem dX10_see_127 : decode cX10_see 127 = .ok (.iconst 1, 1) := by decide +kernel
theorem dX10_see_128 : decode cX10_see 128 = .ok (.iadd, 1) := by decide +kernel
theorem dX10_see_129 : decode cX10_see 129 = .ok (.putfield 85, 3) := by decide +kernel
theorem dX10_see_132 : decode cX10_see 132 = .ok (.aload_n 0, 1) := by decide +kernel
theorem dX10_see_133 : decode cX10_see 133 = .ok (.getfield 163, 3) := by decide +kernel
theorem dX10_see_136 : decode cX10_see 136 = .ok (.ifCond .eq 13, 3) := by decide +kernel
theorem dX10_see_139 : decode cX10_see 139 = .ok (.aload_n 0, 1) := by decide +kernel
theorem dX10_see_140 : decode cX10_see 140 = .ok (.dup, 1) := by decide +kernel
theorem dX10_see_141 : decode cX10_see 141 = .ok (.getfield 88, 3) := by decide +kernel
theorem dX10_see_144 : decode cX10_see 144 = .ok (.iconst 1, 1) := by decide +kernel
theorem dX10_see_145 : decode cX10_see 145 = .ok (.iadd, 1) := by decide +kernel
theorem dX10_see_146 : decode cX10_see 146 = .ok (.putfield 88, 3) := by decide +kernel
theorem dX10_see_149 : decode cX10_see 149 = .ok (.return_, 1) := by decide +kernel
theorem dX10_told_0 : decode cX10_told 0 = .ok (.aload_n 0, 1) := by decide +kernel
theorem dX10_told_1 : decode cX10_told 1 = .ok (.getfield 103, 3) := by decide +kernel
theorem dX10_told_4 : decode cX10_told 4 = .ok (.ifCond .le 223, 3) := by decide +kernel
theorem dX10_told_7 : decode cX10_told 7 = .ok (.aload_n 0, 1) := by decide +kernel
theorem dX10_told_8 : decode cX10_told 8 = .ok (.getfield 50, 3) := by decide +kernel
theorem dX10_told_11 : decode cX10_told 11 = .ok (.aload_n 0, 1) := by decide +kernel
theorem dX10_told_12 : decode cX10_told 12 = .ok (.getfield 100, 3) := by decide +kernel
theorem dX10_told_15 : decode cX10_told 15 = .ok (.laload, 1) := by decide +kernel
theorem dX10_told_16 : decode cX10_told 16 = .ok (.lload_n 1, 1) := by decide +kernel
theorem dX10_told_17 : decode cX10_told 17 = .ok (.lcmp, 1) := by decide +kernel
theorem dX10_told_18 : decode cX10_told 18 = .ok (.ifCond .ge 209, 3) := by decide +kernel
theorem dX10_told_21 : decode cX10_told 21 = .ok (.aload_n 0, 1) := by decide +kernel
theorem dX10_told_22 : decode cX10_told 22 = .ok (.getfield 44, 3) := by decide +kernel
theorem dX10_told_25 : decode cX10_told 25 = .ok (.aload_n 0, 1) := by decide +kernel
theorem dX10_told_26 : decode cX10_told 26 = .ok (.getfield 100, 3) := by decide +kernel
theorem dX10_told_29 : decode cX10_told 29 = .ok (.iaload, 1) := by decide +kernel
theorem dX10_told_30 : decode cX10_told 30 = .ok (.istore_n 3, 1) := by decide +kernel
theorem dX10_told_31 : decode cX10_told 31 = .ok (.aload_n 0, 1) := by decide +kernel
theorem dX10_told_32 : decode cX10_told 32 = .ok (.getfield 47, 3) := by decide +kernel
theorem dX10_told_35 : decode cX10_told 35 = .ok (.aload_n 0, 1) := by decide +kernel
theorem dX10_told_36 : decode cX10_told 36 = .ok (.getfield 100, 3) := by decide +kernel
theorem dX10_told_39 : decode cX10_told 39 = .ok (.iaload, 1) := by decide +kernel
theorem dX10_told_40 : decode cX10_told 40 = .ok (.istore 4, 2) := by decide +kernel
theorem dX10_told_42 : decode cX10_told 42 = .ok (.iload_n 3, 1) := by decide +kernel
theorem dX10_told_43 : decode cX10_told 43 = .ok (.bipush 63, 2) := by decide +kernel
theorem dX10_told_45 : decode cX10_told 45 = .ok (.iand, 1) := by decide +kernel
theorem dX10_told_46 : decode cX10_told 46 = .ok (.istore 5, 2) := by decide +kernel
theorem dX10_told_48 : decode cX10_told 48 = .ok (.iload 4, 2) := by decide +kernel
theorem dX10_told_50 : decode cX10_told 50 = .ok (.iconst 1, 1) := by decide +kernel
theorem dX10_told_51 : decode cX10_told 51 = .ok (.if_icmp .ne 26, 3) := by decide +kernel
theorem dX10_told_54 : decode cX10_told 54 = .ok (.aload_n 0, 1) := by decide +kernel
theorem dX10_told_55 : decode cX10_told 55 = .ok (.getfield 38, 3) := by decide +kernel
theorem dX10_told_58 : decode cX10_told 58 = .ok (.iload 5, 2) := by decide +kernel
theorem dX10_told_60 : decode cX10_told 60 = .ok (.iconst 3, 1) := by decide +kernel
theorem dX10_told_61 : decode cX10_told 61 = .ok (.aload_n 0, 1) := by decide +kernel
theorem dX10_told_62 : decode cX10_told 62 = .ok (.getfield 38, 3) := by decide +kernel
theorem dX10_told_65 : decode cX10_told 65 = .ok (.iload 5, 2) := by decide +kernel
theorem dX10_told_67 : decode cX10_told 67 = .ok (.iaload, 1) := by decide +kernel
theorem dX10_told_68 : decode cX10_told 68 = .ok (.iconst 1, 1) := by decide +kernel
theorem dX10_told_69 : decode cX10_told 69 = .ok (.iadd, 1) := by decide +kernel
theorem dX10_told_70 : decode cX10_told 70 = .ok (.invokestatic 166, 3) := by decide +kernel
theorem dX10_told_73 : decode cX10_told 73 = .ok (.iastore, 1) := by decide +kernel
theorem dX10_told_74 : decode cX10_told 74 = .ok (.goto 127, 3) := by decide +kernel
theorem dX10_told_77 : decode cX10_told 77 = .ok (.iload 4, 2) := by decide +kernel
theorem dX10_told_79 : decode cX10_told 79 = .ok (.ifCond .ne 26, 3) := by decide +kernel
theorem dX10_told_82 : decode cX10_told 82 = .ok (.aload_n 0, 1) := by decide +kernel
theorem dX10_told_83 : decode cX10_told 83 = .ok (.getfield 38, 3) := by decide +kernel
theorem dX10_told_86 : decode cX10_told 86 = .ok (.iload 5, 2) := by decide +kernel
theorem dX10_told_88 : decode cX10_told 88 = .ok (.iconst 0, 1) := by decide +kernel
theorem dX10_told_89 : decode cX10_told 89 = .ok (.aload_n 0, 1) := by decide +kernel
theorem dX10_told_90 : decode cX10_told 90 = .ok (.getfield 38, 3) := by decide +kernel
theorem dX10_told_93 : decode cX10_told 93 = .ok (.iload 5, 2) := by decide +kernel
theorem dX10_told_95 : decode cX10_told 95 = .ok (.iaload, 1) := by decide +kernel
theorem dX10_told_96 : decode cX10_told 96 = .ok (.iconst 1, 1) := by decide +kernel
theorem dX10_told_97 : decode cX10_told 97 = .ok (.isub, 1) := by decide +kernel
theorem dX10_told_98 : decode cX10_told 98 = .ok (.invokestatic 172, 3) := by decide +kernel
theorem dX10_told_101 : decode cX10_told 101 = .ok (.iastore, 1) := by decide +kernel
theorem dX10_told_102 : decode cX10_told 102 = .ok (.goto 99, 3) := by decide +kernel
theorem dX10_told_105 : decode cX10_told 105 = .ok (.iload 4, 2) := by decide +kernel
theorem dX10_told_107 : decode cX10_told 107 = .ok (.iconst 2, 1) := by decide +kernel
theorem dX10_told_108 : decode cX10_told 108 = .ok (.if_icmp .ne 76, 3) := by decide +kernel
theorem dX10_told_111 : decode cX10_told 111 = .ok (.aload_n 0, 1) := by decide +kernel
theorem dX10_told_112 : decode cX10_told 112 = .ok (.getfield 97, 3) := by decide +kernel
theorem dX10_told_115 : decode cX10_told 115 = .ok (.bipush 8, 2) := by decide +kernel
theorem dX10_told_117 : decode cX10_told 117 = .ok (.if_icmp .ne 45, 3) := by decide +kernel
theorem dX10_told_120 : decode cX10_told 120 = .ok (.iconst 1, 1) := by decide +kernel
theorem dX10_told_121 : decode cX10_told 121 = .ok (.istore 6, 2) := by decide +kernel
theorem dX10_told_123 : decode cX10_told 123 = .ok (.iload 6, 2) := by decide +kernel
theorem dX10_told_125 : decode cX10_told 125 = .ok (.bipush 8, 2) := by decide +kernel
theorem dX10_told_127 : decode cX10_told 127 = .ok (.if_icmp .ge 25, 3) := by decide +kernel
theorem dX10_told_130 : decode cX10_told 130 = .ok (.aload_n 0, 1) := by decide +kernel
theorem dX10_told_131 : decode cX10_told 131 = .ok (.getfield 41, 3) := by decide +kernel
theorem dX10_told_134 : decode cX10_told 134 = .ok (.iload 6, 2) := by decide +kernel
theorem dX10_told_136 : decode cX10_told 136 = .ok (.iconst 1, 1) := by decide +kernel
theorem dX10_told_137 : decode cX10_told 137 = .ok (.isub, 1) := by decide +kernel
theorem dX10_told_138 : decode cX10_told 138 = .ok (.aload_n 0, 1) := by decide +kernel
theorem dX10_told_139 : decode cX10_told 139 = .ok (.getfield 41, 3) := by decide +kernel
theorem dX10_told_142 : decode cX10_told 142 = .ok (.iload 6, 2) := by decide +kernel
theorem dX10_told_144 : decode cX10_told 144 = .ok (.iaload, 1) := by decide +kernel
theorem dX10_told_145 : decode cX10_told 145 = .ok (.iastore, 1) := by decide +kernel
theorem dX10_told_146 : decode cX10_told 146 = .ok (.iinc 6 1, 3) := by decide +kernel
theorem dX10_told_149 : decode cX10_told 149 = .ok (.goto (-26), 3) := by decide +kernel
theorem dX10_told_152 : decode cX10_told 152 = .ok (.aload_n 0, 1) := by decide +kernel
theorem dX10_told_153 : decode cX10_told 153 = .ok (.dup, 1) := by decide +kernel
theorem dX10_told_154 : decode cX10_told 154 = .ok (.getfield 97, 3) := by decide +kernel
theorem dX10_told_157 : decode cX10_told 157 = .ok (.iconst 1, 1) := by decide +kernel
theorem dX10_told_158 : decode cX10_told 158 = .ok (.isub, 1) := by decide +kernel
theorem dX10_told_159 : decode cX10_told 159 = .ok (.putfield 97, 3) := by decide +kernel
theorem dX10_told_162 : decode cX10_told 162 = .ok (.aload_n 0, 1) := by decide +kernel
theorem dX10_told_163 : decode cX10_told 163 = .ok (.getfield 41, 3) := by decide +kernel
theorem dX10_told_166 : decode cX10_told 166 = .ok (.aload_n 0, 1) := by decide +kernel
theorem dX10_told_167 : decode cX10_told 167 = .ok (.dup, 1) := by decide +kernel
theorem dX10_told_168 : decode cX10_told 168 = .ok (.getfield 97, 3) := by decide +kernel
theorem dX10_told_171 : decode cX10_told 171 = .ok (.dup_x1, 1) := by decide +kernel
theorem dX10_told_172 : decode cX10_told 172 = .ok (.iconst 1, 1) := by decide +kernel
theorem dX10_told_173 : decode cX10_told 173 = .ok (.iadd, 1) := by decide +kernel
theorem dX10_told_174 : decode cX10_told 174 = .ok (.putfield 97, 3) := by decide +kernel
theorem dX10_told_177 : decode cX10_told 177 = .ok (.iload_n 3, 1) := by decide +kernel
theorem dX10_told_178 : decode cX10_told 178 = .ok (.iconst 1, 1) := by decide +kernel
theorem dX10_told_179 : decode cX10_told 179 = .ok (.iadd, 1) := by decide +kernel
theorem dX10_told_180 : decode cX10_told 180 = .ok (.iastore, 1) := by decide +kernel
theorem dX10_told_181 : decode cX10_told 181 = .ok (.goto 20, 3) := by decide +kernel
theorem dX10_told_184 : decode cX10_told 184 = .ok (.aload_n 0, 1) := by decide +kernel
theorem dX10_told_185 : decode cX10_told 185 = .ok (.getfield 97, 3) := by decide +kernel
theorem dX10_told_188 : decode cX10_told 188 = .ok (.ifCond .le 13, 3) := by decide +kernel
theorem dX10_told_191 : decode cX10_told 191 = .ok (.aload_n 0, 1) := by decide +kernel
theorem dX10_told_192 : decode cX10_told 192 = .ok (.dup, 1) := by decide +kernel
theorem dX10_told_193 : decode cX10_told 193 = .ok (.getfield 97, 3) := by decide +kernel
theorem dX10_told_196 : decode cX10_told 196 = .ok (.iconst 1, 1) := by decide +kernel
theorem dX10_told_197 : decode cX10_told 197 = .ok (.isub, 1) := by decide +kernel
theorem dX10_told_198 : decode cX10_told 198 = .ok (.putfield 97, 3) := by decide +kernel
theorem dX10_told_201 : decode cX10_told 201 = .ok (.aload_n 0, 1) := by decide +kernel
theorem dX10_told_202 : decode cX10_told 202 = .ok (.aload_n 0, 1) := by decide +kernel
theorem dX10_told_203 : decode cX10_told 203 = .ok (.getfield 100, 3) := by decide +kernel
theorem dX10_told_206 : decode cX10_told 206 = .ok (.iconst 1, 1) := by decide +kernel
theorem dX10_told_207 : decode cX10_told 207 = .ok (.iadd, 1) := by decide +kernel
theorem dX10_told_208 : decode cX10_told 208 = .ok (.bipush 64, 2) := by decide +kernel
theorem dX10_told_210 : decode cX10_told 210 = .ok (.irem, 1) := by decide +kernel
theorem dX10_told_211 : decode cX10_told 211 = .ok (.putfield 100, 3) := by decide +kernel
theorem dX10_told_214 : decode cX10_told 214 = .ok (.aload_n 0, 1) := by decide +kernel
theorem dX10_told_215 : decode cX10_told 215 = .ok (.dup, 1) := by decide +kernel
theorem dX10_told_216 : decode cX10_told 216 = .ok (.getfield 103, 3) := by decide +kernel
theorem dX10_told_219 : decode cX10_told 219 = .ok (.iconst 1, 1) := by decide +kernel
theorem dX10_told_220 : decode cX10_told 220 = .ok (.isub, 1) := by decide +kernel
theorem dX10_told_221 : decode cX10_told 221 = .ok (.putfield 103, 3) := by decide +kernel
theorem dX10_told_224 : decode cX10_told 224 = .ok (.goto (-224), 3) := by decide +kernel
theorem dX10_told_227 : decode cX10_told 227 = .ok (.return_, 1) := by decide +kernel
theorem dX10_tell_0 : decode cX10_tell 0 = .ok (.aload_n 0, 1) := by decide +kernel
theorem dX10_tell_1 : decode cX10_tell 1 = .ok (.getfield 100, 3) := by decide +kernel
theorem dX10_tell_4 : decode cX10_tell 4 = .ok (.aload_n 0, 1) := by decide +kernel
theorem dX10_tell_5 : decode cX10_tell 5 = .ok (.dup, 1) := by decide +kernel
theorem dX10_tell_6 : decode cX10_tell 6 = .ok (.getfield 103, 3) := by decide +kernel
theorem dX10_tell_9 : decode cX10_tell 9 = .ok (.dup_x1, 1) := by decide +kernel
theorem dX10_tell_10 : decode cX10_tell 10 = .ok (.iconst 1, 1) := by decide +kernel
theorem dX10_tell_11 : decode cX10_tell 11 = .ok (.iadd, 1) := by decide +kernel
theorem dX10_tell_12 : decode cX10_tell 12 = .ok (.putfield 103, 3) := by decide +kernel
theorem dX10_tell_15 : decode cX10_tell 15 = .ok (.iadd, 1) := by decide +kernel
theorem dX10_tell_16 : decode cX10_tell 16 = .ok (.bipush 64, 2) := by decide +kernel
theorem dX10_tell_18 : decode cX10_tell 18 = .ok (.irem, 1) := by decide +kernel
theorem dX10_tell_19 : decode cX10_tell 19 = .ok (.istore_n 2, 1) := by decide +kernel
theorem dX10_tell_20 : decode cX10_tell 20 = .ok (.aload_n 0, 1) := by decide +kernel
theorem dX10_tell_21 : decode cX10_tell 21 = .ok (.getfield 44, 3) := by decide +kernel
theorem dX10_tell_24 : decode cX10_tell 24 = .ok (.iload_n 2, 1) := by decide +kernel
theorem dX10_tell_25 : decode cX10_tell 25 = .ok (.aload_n 0, 1) := by decide +kernel
theorem dX10_tell_26 : decode cX10_tell 26 = .ok (.getfield 139, 3) := by decide +kernel
theorem dX10_tell_29 : decode cX10_tell 29 = .ok (.iastore, 1) := by decide +kernel
theorem dX10_tell_30 : decode cX10_tell 30 = .ok (.aload_n 0, 1) := by decide +kernel
theorem dX10_tell_31 : decode cX10_tell 31 = .ok (.getfield 47, 3) := by decide +kernel
theorem dX10_tell_34 : decode cX10_tell 34 = .ok (.iload_n 2, 1) := by decide +kernel
theorem dX10_tell_35 : decode cX10_tell 35 = .ok (.iload_n 1, 1) := by decide +kernel
theorem dX10_tell_36 : decode cX10_tell 36 = .ok (.iastore, 1) := by decide +kernel
theorem dX10_tell_37 : decode cX10_tell 37 = .ok (.aload_n 0, 1) := by decide +kernel
theorem dX10_tell_38 : decode cX10_tell 38 = .ok (.getfield 50, 3) := by decide +kernel
theorem dX10_tell_41 : decode cX10_tell 41 = .ok (.iload_n 2, 1) := by decide +kernel
theorem dX10_tell_42 : decode cX10_tell 42 = .ok (.aload_n 0, 1) := by decide +kernel
theorem dX10_tell_43 : decode cX10_tell 43 = .ok (.getfield 175, 3) := by decide +kernel
theorem dX10_tell_46 : decode cX10_tell 46 = .ok (.lastore, 1) := by decide +kernel
theorem dX10_tell_47 : decode cX10_tell 47 = .ok (.return_, 1) := by decide +kernel
theorem dX10_guess_0 : decode cX10_guess 0 = .ok (.iload_n 1, 1) := by decide +kernel
theorem dX10_guess_1 : decode cX10_guess 1 = .ok (.bipush 40, 2) := by decide +kernel
theorem dX10_guess_3 : decode cX10_guess 3 = .ok (.if_icmp .lt 42, 3) := by decide +kernel
theorem dX10_guess_6 : decode cX10_guess 6 = .ok (.iload_n 1, 1) := by decide +kernel
theorem dX10_guess_7 : decode cX10_guess 7 = .ok (.bipush 43, 2) := by decide +kernel
theorem dX10_guess_9 : decode cX10_guess 9 = .ok (.if_icmp .gt 36, 3) := by decide +kernel
theorem dX10_guess_12 : decode cX10_guess 12 = .ok (.aload_n 0, 1) := by decide +kernel
theorem dX10_guess_13 : decode cX10_guess 13 = .ok (.getfield 38, 3) := by decide +kernel
theorem dX10_guess_16 : decode cX10_guess 16 = .ok (.aload_n 0, 1) := by decide +kernel
theorem dX10_guess_17 : decode cX10_guess 17 = .ok (.getfield 139, 3) := by decide +kernel
theorem dX10_guess_20 : decode cX10_guess 20 = .ok (.bipush 63, 2) := by decide +kernel
theorem dX10_guess_22 : decode cX10_guess 22 = .ok (.iand, 1) := by decide +kernel
theorem dX10_guess_23 : decode cX10_guess 23 = .ok (.iaload, 1) := by decide +kernel
theorem dX10_guess_24 : decode cX10_guess 24 = .ok (.iconst 1, 1) := by decide +kernel
theorem dX10_guess_25 : decode cX10_guess 25 = .ok (.if_icmp .le 13, 3) := by decide +kernel
theorem dX10_guess_28 : decode cX10_guess 28 = .ok (.aload_n 0, 1) := by decide +kernel
theorem dX10_guess_29 : decode cX10_guess 29 = .ok (.getfield 139, 3) := by decide +kernel
theorem dX10_guess_32 : decode cX10_guess 32 = .ok (.iload 4, 2) := by decide +kernel
theorem dX10_guess_34 : decode cX10_guess 34 = .ok (.iadd, 1) := by decide +kernel
theorem dX10_guess_35 : decode cX10_guess 35 = .ok (.goto 9, 3) := by decide +kernel
theorem dX10_guess_38 : decode cX10_guess 38 = .ok (.aload_n 0, 1) := by decide +kernel
theorem dX10_guess_39 : decode cX10_guess 39 = .ok (.getfield 139, 3) := by decide +kernel
theorem dX10_guess_42 : decode cX10_guess 42 = .ok (.iconst 1, 1) := by decide +kernel
theorem dX10_guess_43 : decode cX10_guess 43 = .ok (.iadd, 1) := by decide +kernel
theorem dX10_guess_44 : decode cX10_guess 44 = .ok (.ireturn, 1) := by decide +kernel
theorem dX10_guess_45 : decode cX10_guess 45 = .ok (.iload_n 1, 1) := by decide +kernel
theorem dX10_guess_46 : decode cX10_guess 46 = .ok (.bipush 44, 2) := by decide +kernel
theorem dX10_guess_48 : decode cX10_guess 48 = .ok (.if_icmp .ne 11, 3) := by decide +kernel
theorem dX10_guess_51 : decode cX10_guess 51 = .ok (.aload_n 0, 1) := by decide +kernel
theorem dX10_guess_52 : decode cX10_guess 52 = .ok (.getfield 139, 3) := by decide +kernel
theorem dX10_guess_55 : decode cX10_guess 55 = .ok (.iload 4, 2) := by decide +kernel
theorem dX10_guess_57 : decode cX10_guess 57 = .ok (.iadd, 1) := by decide +kernel
theorem dX10_guess_58 : decode cX10_guess 58 = .ok (.ireturn, 1) := by decide +kernel
theorem dX10_guess_59 : decode cX10_guess 59 = .ok (.iload_n 1, 1) := by decide +kernel
theorem dX10_guess_60 : decode cX10_guess 60 = .ok (.bipush 45, 2) := by decide +kernel
theorem dX10_guess_62 : decode cX10_guess 62 = .ok (.if_icmp .ne 32, 3) := by decide +kernel
theorem dX10_guess_65 : decode cX10_guess 65 = .ok (.iload_n 2, 1) := by decide +kernel
theorem dX10_guess_66 : decode cX10_guess 66 = .ok (.bipush 15, 2) := by decide +kernel
theorem dX10_guess_68 : decode cX10_guess 68 = .ok (.if_icmp .ne 26, 3) := by decide +kernel
theorem dX10_guess_71 : decode cX10_guess 71 = .ok (.iload_n 3, 1) := by decide +kernel
theorem dX10_guess_72 : decode cX10_guess 72 = .ok (.ifCond .ne 22, 3) := by decide +kernel
theorem dX10_guess_75 : decode cX10_guess 75 = .ok (.aload_n 0, 1) := by decide +kernel
theorem dX10_guess_76 : decode cX10_guess 76 = .ok (.getfield 97, 3) := by decide +kernel
theorem dX10_guess_79 : decode cX10_guess 79 = .ok (.ifCond .le 15, 3) := by decide +kernel
theorem dX10_guess_82 : decode cX10_guess 82 = .ok (.aload_n 0, 1) := by decide +kernel
theorem dX10_guess_83 : decode cX10_guess 83 = .ok (.getfield 41, 3) := by decide +kernel
theorem dX10_guess_86 : decode cX10_guess 86 = .ok (.aload_n 0, 1) := by decide +kernel
theorem dX10_guess_87 : decode cX10_guess 87 = .ok (.getfield 97, 3) := by decide +kernel
theorem dX10_guess_90 : decode cX10_guess 90 = .ok (.iconst 1, 1) := by decide +kernel
theorem dX10_guess_91 : decode cX10_guess 91 = .ok (.isub, 1) := by decide +kernel
theorem dX10_guess_92 : decode cX10_guess 92 = .ok (.iaload, 1) := by decide +kernel
theorem dX10_guess_93 : decode cX10_guess 93 = .ok (.ireturn, 1) := by decide +kernel
theorem dX10_guess_94 : decode cX10_guess 94 = .ok (.aload_n 0, 1) := by decide +kernel
theorem dX10_guess_95 : decode cX10_guess 95 = .ok (.getfield 139, 3) := by decide +kernel
theorem dX10_guess_98 : decode cX10_guess 98 = .ok (.iconst 1, 1) := by decide +kernel
theorem dX10_guess_99 : decode cX10_guess 99 = .ok (.iadd, 1) := by decide +kernel
theorem dX10_guess_100 : decode cX10_guess 100 = .ok (.ireturn, 1) := by decide +kernel
theorem dX10_after_0 : decode cX10_after 0 = .ok (.iload 4, 2) := by decide +kernel
theorem dX10_after_2 : decode cX10_after 2 = .ok (.ifCond .eq 33, 3) := by decide +kernel
theorem dX10_after_5 : decode cX10_after 5 = .ok (.iload_n 3, 1) := by decide +kernel
theorem dX10_after_6 : decode cX10_after 6 = .ok (.ifCond .eq 29, 3) := by decide +kernel
theorem dX10_after_9 : decode cX10_after 9 = .ok (.aload_n 0, 1) := by decide +kernel
theorem dX10_after_10 : decode cX10_after 10 = .ok (.getfield 34, 3) := by decide +kernel
theorem dX10_after_13 : decode cX10_after 13 = .ok (.iload_n 3, 1) := by decide +kernel
theorem dX10_after_14 : decode cX10_after 14 = .ok (.laload, 1) := by decide +kernel
theorem dX10_after_15 : decode cX10_after 15 = .ok (.lconst 0, 1) := by decide +kernel
theorem dX10_after_16 : decode cX10_after 16 = .ok (.lcmp, 1) := by decide +kernel
theorem dX10_after_17 : decode cX10_after 17 = .ok (.ifCond .le 18, 3) := by decide +kernel
theorem dX10_after_20 : decode cX10_after 20 = .ok (.lload_n 1, 1) := by decide +kernel
theorem dX10_after_21 : decode cX10_after 21 = .ok (.aload_n 0, 1) := by decide +kernel
theorem dX10_after_22 : decode cX10_after 22 = .ok (.getfield 34, 3) := by decide +kernel
theorem dX10_after_25 : decode cX10_after 25 = .ok (.iload_n 3, 1) := by decide +kernel
theorem dX10_after_26 : decode cX10_after 26 = .ok (.laload, 1) := by decide +kernel
theorem dX10_after_27 : decode cX10_after 27 = .ok (.lconst 1, 1) := by decide +kernel
theorem dX10_after_28 : decode cX10_after 28 = .ok (.ladd, 1) := by decide +kernel
theorem dX10_after_29 : decode cX10_after 29 = .ok (.invokestatic 178, 3) := by decide +kernel
theorem dX10_after_32 : decode cX10_after 32 = .ok (.goto 4, 3) := by decide +kernel
theorem dX10_after_35 : decode cX10_after 35 = .ok (.lload_n 1, 1) := by decide +kernel
theorem dX10_after_36 : decode cX10_after 36 = .ok (.lreturn, 1) := by decide +kernel
theorem dX10_stop_0 : decode cX10_stop 0 = .ok (.aload_n 0, 1) := by decide +kernel
theorem dX10_stop_1 : decode cX10_stop 1 = .ok (.iconst 1, 1) := by decide +kernel
theorem dX10_stop_2 : decode cX10_stop 2 = .ok (.putfield 121, 3) := by decide +kernel
theorem dX10_stop_5 : decode cX10_stop 5 = .ok (.aload_n 0, 1) := by decide +kernel
theorem dX10_stop_6 : decode cX10_stop 6 = .ok (.iload_n 1, 1) := by decide +kernel
theorem dX10_stop_7 : decode cX10_stop 7 = .ok (.putfield 142, 3) := by decide +kernel
theorem dX10_stop_10 : decode cX10_stop 10 = .ok (.return_, 1) := by decide +kernel
theorem dX10_gets_0 : decode cX10_gets 0 = .ok (.aload_n 0, 1) := by decide +kernel
theorem dX10_gets_1 : decode cX10_gets 1 = .ok (.iload_n 1, 1) := by decide +kernel
theorem dX10_gets_2 : decode cX10_gets 2 = .ok (.putfield 145, 3) := by decide +kernel
theorem dX10_gets_5 : decode cX10_gets 5 = .ok (.aload_n 0, 1) := by decide +kernel
theorem dX10_gets_6 : decode cX10_gets 6 = .ok (.iload_n 2, 1) := by decide +kernel
theorem dX10_gets_7 : decode cX10_gets 7 = .ok (.putfield 148, 3) := by decide +kernel
theorem dX10_gets_10 : decode cX10_gets 10 = .ok (.iload_n 1, 1) := by decide +kernel
theorem dX10_gets_11 : decode cX10_gets 11 = .ok (.ifCond .eq 10, 3) := by decide +kernel
theorem dX10_gets_14 : decode cX10_gets 14 = .ok (.aload_n 0, 1) := by decide +kernel
theorem dX10_gets_15 : decode cX10_gets 15 = .ok (.getfield 19, 3) := by decide +kernel
theorem dX10_gets_18 : decode cX10_gets 18 = .ok (.iload_n 1, 1) := by decide +kernel
theorem dX10_gets_19 : decode cX10_gets 19 = .ok (.iload_n 2, 1) := by decide +kernel
theorem dX10_gets_20 : decode cX10_gets 20 = .ok (.iastore, 1) := by decide +kernel
theorem dX10_gets_21 : decode cX10_gets 21 = .ok (.return_, 1) := by decide +kernel
theorem dX10_sum_0 : decode cX10_sum 0 = .ok (.iload_n 0, 1) := by decide +kernel
theorem dX10_sum_1 : decode cX10_sum 1 = .ok (.tableswitch 151 0 11 #[63, 67, 71, 75, 79, 83, 90, 97, 104, 115, 132, 136], 63) := by decide +kernel
theorem dX10_sum_64 : decode cX10_sum 64 = .ok (.iload_n 1, 1) := by decide +kernel
theorem dX10_sum_65 : decode cX10_sum 65 = .ok (.iload_n 2, 1) := by decide +kernel
theorem dX10_sum_66 : decode cX10_sum 66 = .ok (.iadd, 1) := by decide +kernel
theorem dX10_sum_67 : decode cX10_sum 67 = .ok (.ireturn, 1) := by decide +kernel
theorem dX10_sum_68 : decode cX10_sum 68 = .ok (.iload_n 1, 1) := by decide +kernel
theorem dX10_sum_69 : decode cX10_sum 69 = .ok (.iload_n 2, 1) := by decide +kernel
theorem dX10_sum_70 : decode cX10_sum 70 = .ok (.isub, 1) := by decide +kernel
theorem dX10_sum_71 : decode cX10_sum 71 = .ok (.ireturn, 1) := by decide +kernel
theorem dX10_sum_72 : decode cX10_sum 72 = .ok (.iload_n 1, 1) := by decide +kernel
theorem dX10_sum_73 : decode cX10_sum 73 = .ok (.iload_n 2, 1) := by decide +kernel
theorem dX10_sum_74 : decode cX10_sum 74 = .ok (.iand, 1) := by decide +kernel
theorem dX10_sum_75 : decode cX10_sum 75 = .ok (.ireturn, 1) := by decide +kernel
theorem dX10_sum_76 : decode cX10_sum 76 = .ok (.iload_n 1, 1) := by decide +kernel
theorem dX10_sum_77 : decode cX10_sum 77 = .ok (.iload_n 2, 1) := by decide +kernel
theorem dX10_sum_78 : decode cX10_sum 78 = .ok (.ior, 1) := by decide +kernel
theorem dX10_sum_79 : decode cX10_sum 79 = .ok (.ireturn, 1) := by decide +kernel
theorem dX10_sum_80 : decode cX10_sum 80 = .ok (.iload_n 1, 1) := by decide +kernel
theorem dX10_sum_81 : decode cX10_sum 81 = .ok (.iload_n 2, 1) := by decide +kernel
theorem dX10_sum_82 : decode cX10_sum 82 = .ok (.ixor, 1) := by decide +kernel
theorem dX10_sum_83 : decode cX10_sum 83 = .ok (.ireturn, 1) := by decide +kernel
theorem dX10_sum_84 : decode cX10_sum 84 = .ok (.iload_n 1, 1) := by decide +kernel
theorem dX10_sum_85 : decode cX10_sum 85 = .ok (.iload_n 2, 1) := by decide +kernel
theorem dX10_sum_86 : decode cX10_sum 86 = .ok (.bipush 31, 2) := by decide +kernel
theorem dX10_sum_88 : decode cX10_sum 88 = .ok (.iand, 1) := by decide +kernel
theorem dX10_sum_89 : decode cX10_sum 89 = .ok (.ishl, 1) := by decide +kernel
theorem dX10_sum_90 : decode cX10_sum 90 = .ok (.ireturn, 1) := by decide +kernel
theorem dX10_sum_91 : decode cX10_sum 91 = .ok (.iload_n 1, 1) := by decide +kernel
theorem dX10_sum_92 : decode cX10_sum 92 = .ok (.iload_n 2, 1) := by decide +kernel
theorem dX10_sum_93 : decode cX10_sum 93 = .ok (.bipush 31, 2) := by decide +kernel
theorem dX10_sum_95 : decode cX10_sum 95 = .ok (.iand, 1) := by decide +kernel
theorem dX10_sum_96 : decode cX10_sum 96 = .ok (.iushr, 1) := by decide +kernel
theorem dX10_sum_97 : decode cX10_sum 97 = .ok (.ireturn, 1) := by decide +kernel
theorem dX10_sum_98 : decode cX10_sum 98 = .ok (.iload_n 1, 1) := by decide +kernel
theorem dX10_sum_99 : decode cX10_sum 99 = .ok (.iload_n 2, 1) := by decide +kernel
theorem dX10_sum_100 : decode cX10_sum 100 = .ok (.bipush 31, 2) := by decide +kernel
theorem dX10_sum_102 : decode cX10_sum 102 = .ok (.iand, 1) := by decide +kernel
theorem dX10_sum_103 : decode cX10_sum 103 = .ok (.ishr, 1) := by decide +kernel
theorem dX10_sum_104 : decode cX10_sum 104 = .ok (.ireturn, 1) := by decide +kernel
theorem dX10_sum_105 : decode cX10_sum 105 = .ok (.iload_n 1, 1) := by decide +kernel
theorem dX10_sum_106 : decode cX10_sum 106 = .ok (.iload_n 2, 1) := by decide +kernel
theorem dX10_sum_107 : decode cX10_sum 107 = .ok (.if_icmp .ge 7, 3) := by decide +kernel
theorem dX10_sum_110 : decode cX10_sum 110 = .ok (.iconst 1, 1) := by decide +kernel
theorem dX10_sum_111 : decode cX10_sum 111 = .ok (.goto 4, 3) := by decide +kernel
theorem dX10_sum_114 : decode cX10_sum 114 = .ok (.iconst 0, 1) := by decide +kernel
theorem dX10_sum_115 : decode cX10_sum 115 = .ok (.ireturn, 1) := by decide +kernel
theorem dX10_sum_116 : decode cX10_sum 116 = .ok (.iload_n 1, 1) := by decide +kernel
theorem dX10_sum_117 : decode cX10_sum 117 = .ok (.ldc 228, 2) := by decide +kernel
theorem dX10_sum_119 : decode cX10_sum 119 = .ok (.ixor, 1) := by decide +kernel
theorem dX10_sum_120 : decode cX10_sum 120 = .ok (.iload_n 2, 1) := by decide +kernel
theorem dX10_sum_121 : decode cX10_sum 121 = .ok (.ldc 228, 2) := by decide +kernel
theorem dX10_sum_123 : decode cX10_sum 123 = .ok (.ixor, 1) := by decide +kernel
theorem dX10_sum_124 : decode cX10_sum 124 = .ok (.if_icmp .ge 7, 3) := by decide +kernel
theorem dX10_sum_127 : decode cX10_sum 127 = .ok (.iconst 1, 1) := by decide +kernel
theorem dX10_sum_128 : decode cX10_sum 128 = .ok (.goto 4, 3) := by decide +kernel
theorem dX10_sum_131 : decode cX10_sum 131 = .ok (.iconst 0, 1) := by decide +kernel
theorem dX10_sum_132 : decode cX10_sum 132 = .ok (.ireturn, 1) := by decide +kernel
theorem dX10_sum_133 : decode cX10_sum 133 = .ok (.iload_n 1, 1) := by decide +kernel
theorem dX10_sum_134 : decode cX10_sum 134 = .ok (.iload_n 2, 1) := by decide +kernel
theorem dX10_sum_135 : decode cX10_sum 135 = .ok (.imul, 1) := by decide +kernel
theorem dX10_sum_136 : decode cX10_sum 136 = .ok (.ireturn, 1) := by decide +kernel
theorem dX10_sum_137 : decode cX10_sum 137 = .ok (.iload_n 2, 1) := by decide +kernel
theorem dX10_sum_138 : decode cX10_sum 138 = .ok (.ifCond .ne 7, 3) := by decide +kernel
theorem dX10_sum_141 : decode cX10_sum 141 = .ok (.iconst (-1), 1) := by decide +kernel
theorem dX10_sum_142 : decode cX10_sum 142 = .ok (.goto 9, 3) := by decide +kernel
theorem dX10_sum_145 : decode cX10_sum 145 = .ok (.iload_n 1, 1) := by decide +kernel
theorem dX10_sum_146 : decode cX10_sum 146 = .ok (.i2l, 1) := by decide +kernel
theorem dX10_sum_147 : decode cX10_sum 147 = .ok (.iload_n 2, 1) := by decide +kernel
theorem dX10_sum_148 : decode cX10_sum 148 = .ok (.i2l, 1) := by decide +kernel
theorem dX10_sum_149 : decode cX10_sum 149 = .ok (.ldiv, 1) := by decide +kernel
theorem dX10_sum_150 : decode cX10_sum 150 = .ok (.l2i, 1) := by decide +kernel
theorem dX10_sum_151 : decode cX10_sum 151 = .ok (.ireturn, 1) := by decide +kernel
theorem dX10_sum_152 : decode cX10_sum 152 = .ok (.iload_n 2, 1) := by decide +kernel
theorem dX10_sum_153 : decode cX10_sum 153 = .ok (.ifCond .ne 7, 3) := by decide +kernel
theorem dX10_sum_156 : decode cX10_sum 156 = .ok (.iload_n 1, 1) := by decide +kernel
theorem dX10_sum_157 : decode cX10_sum 157 = .ok (.goto 9, 3) := by decide +kernel
theorem dX10_sum_160 : decode cX10_sum 160 = .ok (.iload_n 1, 1) := by decide +kernel
theorem dX10_sum_161 : decode cX10_sum 161 = .ok (.i2l, 1) := by decide +kernel
theorem dX10_sum_162 : decode cX10_sum 162 = .ok (.iload_n 2, 1) := by decide +kernel
theorem dX10_sum_163 : decode cX10_sum 163 = .ok (.i2l, 1) := by decide +kernel
theorem dX10_sum_164 : decode cX10_sum 164 = .ok (.lrem, 1) := by decide +kernel
theorem dX10_sum_165 : decode cX10_sum 165 = .ok (.l2i, 1) := by decide +kernel
theorem dX10_sum_166 : decode cX10_sum 166 = .ok (.ireturn, 1) := by decide +kernel
theorem dX10_register_0 : decode cX10_register 0 = .ok (.aload_n 0, 1) := by decide +kernel
theorem dX10_register_1 : decode cX10_register 1 = .ok (.iload_n 1, 1) := by decide +kernel
theorem dX10_register_2 : decode cX10_register 2 = .ok (.ifCond .lt 9, 3) := by decide +kernel
theorem dX10_register_5 : decode cX10_register 5 = .ok (.iload_n 1, 1) := by decide +kernel
theorem dX10_register_6 : decode cX10_register 6 = .ok (.bipush 15, 2) := by decide +kernel
theorem dX10_register_8 : decode cX10_register 8 = .ok (.if_icmp .le 7, 3) := by decide +kernel
theorem dX10_register_11 : decode cX10_register 11 = .ok (.iconst 1, 1) := by decide +kernel
theorem dX10_register_12 : decode cX10_register 12 = .ok (.goto 4, 3) := by decide +kernel
theorem dX10_register_15 : decode cX10_register 15 = .ok (.iconst 0, 1) := by decide +kernel
theorem dX10_register_16 : decode cX10_register 16 = .ok (.iconst 1, 1) := by decide +kernel
theorem dX10_register_17 : decode cX10_register 17 = .ok (.invokevirtual 63, 3) := by decide +kernel
theorem dX10_register_20 : decode cX10_register 20 = .ok (.ifCond .eq 7, 3) := by decide +kernel
theorem dX10_register_23 : decode cX10_register 23 = .ok (.iconst 0, 1) := by decide +kernel
theorem dX10_register_24 : decode cX10_register 24 = .ok (.goto 9, 3) := by decide +kernel
theorem dX10_register_27 : decode cX10_register 27 = .ok (.aload_n 0, 1) := by decide +kernel
theorem dX10_register_28 : decode cX10_register 28 = .ok (.getfield 25, 3) := by decide +kernel
theorem dX10_register_31 : decode cX10_register 31 = .ok (.iload_n 1, 1) := by decide +kernel
theorem dX10_register_32 : decode cX10_register 32 = .ok (.iaload, 1) := by decide +kernel
theorem dX10_register_33 : decode cX10_register 33 = .ok (.ireturn, 1) := by decide +kernel
theorem dX10_memory_0 : decode cX10_memory 0 = .ok (.aload_n 0, 1) := by decide +kernel
theorem dX10_memory_1 : decode cX10_memory 1 = .ok (.iload_n 1, 1) := by decide +kernel
theorem dX10_memory_2 : decode cX10_memory 2 = .ok (.ifCond .lt 10, 3) := by decide +kernel
theorem dX10_memory_5 : decode cX10_memory 5 = .ok (.iload_n 1, 1) := by decide +kernel
theorem dX10_memory_6 : decode cX10_memory 6 = .ok (.sipush 1023, 3) := by decide +kernel
theorem dX10_memory_9 : decode cX10_memory 9 = .ok (.if_icmp .le 7, 3) := by decide +kernel
theorem dX10_memory_12 : decode cX10_memory 12 = .ok (.iconst 1, 1) := by decide +kernel
theorem dX10_memory_13 : decode cX10_memory 13 = .ok (.goto 4, 3) := by decide +kernel
theorem dX10_memory_16 : decode cX10_memory 16 = .ok (.iconst 0, 1) := by decide +kernel
theorem dX10_memory_17 : decode cX10_memory 17 = .ok (.iconst 1, 1) := by decide +kernel
theorem dX10_memory_18 : decode cX10_memory 18 = .ok (.invokevirtual 63, 3) := by decide +kernel
theorem dX10_memory_21 : decode cX10_memory 21 = .ok (.ifCond .eq 7, 3) := by decide +kernel
theorem dX10_memory_24 : decode cX10_memory 24 = .ok (.iconst 0, 1) := by decide +kernel
theorem dX10_memory_25 : decode cX10_memory 25 = .ok (.goto 9, 3) := by decide +kernel
theorem dX10_memory_28 : decode cX10_memory 28 = .ok (.aload_n 0, 1) := by decide +kernel
theorem dX10_memory_29 : decode cX10_memory 29 = .ok (.getfield 28, 3) := by decide +kernel
theorem dX10_memory_32 : decode cX10_memory 32 = .ok (.iload_n 1, 1) := by decide +kernel
theorem dX10_memory_33 : decode cX10_memory 33 = .ok (.iaload, 1) := by decide +kernel
theorem dX10_memory_34 : decode cX10_memory 34 = .ok (.ireturn, 1) := by decide +kernel
theorem dX10_output_0 : decode cX10_output 0 = .ok (.aload_n 0, 1) := by decide +kernel
theorem dX10_output_1 : decode cX10_output 1 = .ok (.iload_n 1, 1) := by decide +kernel
theorem dX10_output_2 : decode cX10_output 2 = .ok (.ifCond .lt 18, 3) := by decide +kernel
theorem dX10_output_5 : decode cX10_output 5 = .ok (.iload_n 1, 1) := by decide +kernel
theorem dX10_output_6 : decode cX10_output 6 = .ok (.aload_n 0, 1) := by decide +kernel
theorem dX10_output_7 : decode cX10_output 7 = .ok (.getfield 94, 3) := by decide +kernel
theorem dX10_output_10 : decode cX10_output 10 = .ok (.if_icmp .ge 10, 3) := by decide +kernel
theorem dX10_output_13 : decode cX10_output 13 = .ok (.iload_n 1, 1) := by decide +kernel
theorem dX10_output_14 : decode cX10_output 14 = .ok (.sipush 1000, 3) := by decide +kernel
theorem dX10_output_17 : decode cX10_output 17 = .ok (.if_icmp .lt 7, 3) := by decide +kernel
theorem dX10_output_20 : decode cX10_output 20 = .ok (.iconst 1, 1) := by decide +kernel
theorem dX10_output_21 : decode cX10_output 21 = .ok (.goto 4, 3) := by decide +kernel
theorem dX10_output_24 : decode cX10_output 24 = .ok (.iconst 0, 1) := by decide +kernel
theorem dX10_output_25 : decode cX10_output 25 = .ok (.iconst 1, 1) := by decide +kernel
theorem dX10_output_26 : decode cX10_output 26 = .ok (.invokevirtual 63, 3) := by decide +kernel
theorem dX10_output_29 : decode cX10_output 29 = .ok (.ifCond .eq 7, 3) := by decide +kernel
theorem dX10_output_32 : decode cX10_output 32 = .ok (.iconst 0, 1) := by decide +kernel
theorem dX10_output_33 : decode cX10_output 33 = .ok (.goto 9, 3) := by decide +kernel
theorem dX10_output_36 : decode cX10_output 36 = .ok (.aload_n 0, 1) := by decide +kernel
theorem dX10_output_37 : decode cX10_output 37 = .ok (.getfield 31, 3) := by decide +kernel
theorem dX10_output_40 : decode cX10_output 40 = .ok (.iload_n 1, 1) := by decide +kernel
theorem dX10_output_41 : decode cX10_output 41 = .ok (.iaload, 1) := by decide +kernel
theorem dX10_output_42 : decode cX10_output 42 = .ok (.ireturn, 1) := by decide +kernel
theorem dX10_count_0 : decode cX10_count 0 = .ok (.aload_n 0, 1) := by decide +kernel
theorem dX10_count_1 : decode cX10_count 1 = .ok (.iload_n 1, 1) := by decide +kernel
theorem dX10_count_2 : decode cX10_count 2 = .ok (.ifCond .lt 9, 3) := by decide +kernel
theorem dX10_count_5 : decode cX10_count 5 = .ok (.iload_n 1, 1) := by decide +kernel
theorem dX10_count_6 : decode cX10_count 6 = .ok (.bipush 8, 2) := by decide +kernel
theorem dX10_count_8 : decode cX10_count 8 = .ok (.if_icmp .le 7, 3) := by decide +kernel
theorem dX10_count_11 : decode cX10_count 11 = .ok (.iconst 1, 1) := by decide +kernel
theorem dX10_count_12 : decode cX10_count 12 = .ok (.goto 4, 3) := by decide +kernel
theorem dX10_count_15 : decode cX10_count 15 = .ok (.iconst 0, 1) := by decide +kernel
theorem dX10_count_16 : decode cX10_count 16 = .ok (.iconst 1, 1) := by decide +kernel
theorem dX10_count_17 : decode cX10_count 17 = .ok (.invokevirtual 63, 3) := by decide +kernel
theorem dX10_count_20 : decode cX10_count 20 = .ok (.ifCond .eq 5, 3) := by decide +kernel
theorem dX10_count_23 : decode cX10_count 23 = .ok (.iconst 0, 1) := by decide +kernel
theorem dX10_count_24 : decode cX10_count 24 = .ok (.ireturn, 1) := by decide +kernel
theorem dX10_count_25 : decode cX10_count 25 = .ok (.iload_n 1, 1) := by decide +kernel
theorem dX10_count_26 : decode cX10_count 26 = .ok (.tableswitch 86 0 7 #[46, 51, 56, 61, 66, 71, 76, 81], 46) := by decide +kernel
theorem dX10_count_72 : decode cX10_count 72 = .ok (.aload_n 0, 1) := by decide +kernel
theorem dX10_count_73 : decode cX10_count 73 = .ok (.getfield 73, 3) := by decide +kernel
theorem dX10_count_76 : decode cX10_count 76 = .ok (.ireturn, 1) := by decide +kernel
theorem dX10_count_77 : decode cX10_count 77 = .ok (.aload_n 0, 1) := by decide +kernel
theorem dX10_count_78 : decode cX10_count 78 = .ok (.getfield 70, 3) := by decide +kernel
theorem dX10_count_81 : decode cX10_count 81 = .ok (.ireturn, 1) := by decide +kernel
theorem dX10_count_82 : decode cX10_count 82 = .ok (.aload_n 0, 1) := by decide +kernel
theorem dX10_count_83 : decode cX10_count 83 = .ok (.getfield 79, 3) := by decide +kernel
theorem dX10_count_86 : decode cX10_count 86 = .ok (.ireturn, 1) := by decide +kernel
theorem dX10_count_87 : decode cX10_count 87 = .ok (.aload_n 0, 1) := by decide +kernel
theorem dX10_count_88 : decode cX10_count 88 = .ok (.getfield 82, 3) := by decide +kernel
theorem dX10_count_91 : decode cX10_count 91 = .ok (.ireturn, 1) := by decide +kernel
theorem dX10_count_92 : decode cX10_count 92 = .ok (.aload_n 0, 1) := by decide +kernel
theorem dX10_count_93 : decode cX10_count 93 = .ok (.getfield 85, 3) := by decide +kernel
theorem dX10_count_96 : decode cX10_count 96 = .ok (.ireturn, 1) := by decide +kernel
theorem dX10_count_97 : decode cX10_count 97 = .ok (.aload_n 0, 1) := by decide +kernel
theorem dX10_count_98 : decode cX10_count 98 = .ok (.getfield 88, 3) := by decide +kernel
theorem dX10_count_101 : decode cX10_count 101 = .ok (.ireturn, 1) := by decide +kernel
theorem dX10_count_102 : decode cX10_count 102 = .ok (.aload_n 0, 1) := by decide +kernel
theorem dX10_count_103 : decode cX10_count 103 = .ok (.getfield 76, 3) := by decide +kernel
theorem dX10_count_106 : decode cX10_count 106 = .ok (.ireturn, 1) := by decide +kernel
theorem dX10_count_107 : decode cX10_count 107 = .ok (.aload_n 0, 1) := by decide +kernel
theorem dX10_count_108 : decode cX10_count 108 = .ok (.getfield 91, 3) := by decide +kernel
theorem dX10_count_111 : decode cX10_count 111 = .ok (.ireturn, 1) := by decide +kernel
theorem dX10_count_112 : decode cX10_count 112 = .ok (.aload_n 0, 1) := by decide +kernel
theorem dX10_count_113 : decode cX10_count 113 = .ok (.getfield 94, 3) := by decide +kernel
theorem dX10_count_116 : decode cX10_count 116 = .ok (.ireturn, 1) := by decide +kernel
