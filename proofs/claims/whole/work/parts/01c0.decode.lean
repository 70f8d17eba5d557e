theorem dX6_init_0 : decode cX6_init 0 = .ok (.aload_n 0, 1) := by decide +kernel
theorem dX6_init_1 : decode cX6_init 1 = .ok (.invokespecial 1, 3) := by decide +kernel
theorem dX6_init_4 : decode cX6_init 4 = .ok (.aload_n 0, 1) := by decide +kernel
theorem dX6_init_5 : decode cX6_init 5 = .ok (.bipush 13, 2) := by decide +kernel
theorem dX6_init_7 : decode cX6_init 7 = .ok (.newarray .int, 2) := by decide +kernel
theorem dX6_init_9 : decode cX6_init 9 = .ok (.putfield 7, 3) := by decide +kernel
theorem dX6_init_12 : decode cX6_init 12 = .ok (.aload_n 0, 1) := by decide +kernel
theorem dX6_init_13 : decode cX6_init 13 = .ok (.iconst 4, 1) := by decide +kernel
theorem dX6_init_14 : decode cX6_init 14 = .ok (.newarray .int, 2) := by decide +kernel
theorem dX6_init_16 : decode cX6_init 16 = .ok (.putfield 13, 3) := by decide +kernel
theorem dX6_init_19 : decode cX6_init 19 = .ok (.aload_n 0, 1) := by decide +kernel
theorem dX6_init_20 : decode cX6_init 20 = .ok (.iconst 4, 1) := by decide +kernel
theorem dX6_init_21 : decode cX6_init 21 = .ok (.newarray .int, 2) := by decide +kernel
theorem dX6_init_23 : decode cX6_init 23 = .ok (.putfield 16, 3) := by decide +kernel
theorem dX6_init_26 : decode cX6_init 26 = .ok (.aload_n 0, 1) := by decide +kernel
theorem dX6_init_27 : decode cX6_init 27 = .ok (.iconst 4, 1) := by decide +kernel
theorem dX6_init_28 : decode cX6_init 28 = .ok (.newarray .int, 2) := by decide +kernel
theorem dX6_init_30 : decode cX6_init 30 = .ok (.putfield 19, 3) := by decide +kernel
theorem dX6_init_33 : decode cX6_init 33 = .ok (.aload_n 0, 1) := by decide +kernel
theorem dX6_init_34 : decode cX6_init 34 = .ok (.iconst 4, 1) := by decide +kernel
theorem dX6_init_35 : decode cX6_init 35 = .ok (.newarray .int, 2) := by decide +kernel
theorem dX6_init_37 : decode cX6_init 37 = .ok (.putfield 22, 3) := by decide +kernel
theorem dX6_init_40 : decode cX6_init 40 = .ok (.aload_n 0, 1) := by decide +kernel
theorem dX6_init_41 : decode cX6_init 41 = .ok (.bipush 52, 2) := by decide +kernel
theorem dX6_init_43 : decode cX6_init 43 = .ok (.newarray .int, 2) := by decide +kernel
theorem dX6_init_45 : decode cX6_init 45 = .ok (.putfield 25, 3) := by decide +kernel
theorem dX6_init_48 : decode cX6_init 48 = .ok (.aload_n 0, 1) := by decide +kernel
theorem dX6_init_49 : decode cX6_init 49 = .ok (.sipush 128, 3) := by decide +kernel
theorem dX6_init_52 : decode cX6_init 52 = .ok (.newarray .long, 2) := by decide +kernel
theorem dX6_init_54 : decode cX6_init 54 = .ok (.putfield 28, 3) := by decide +kernel
theorem dX6_init_57 : decode cX6_init 57 = .ok (.aload_n 0, 1) := by decide +kernel
theorem dX6_init_58 : decode cX6_init 58 = .ok (.sipush 256, 3) := by decide +kernel
theorem dX6_init_61 : decode cX6_init 61 = .ok (.newarray .int, 2) := by decide +kernel
theorem dX6_init_63 : decode cX6_init 63 = .ok (.putfield 32, 3) := by decide +kernel
theorem dX6_init_66 : decode cX6_init 66 = .ok (.aload_n 0, 1) := by decide +kernel
theorem dX6_init_67 : decode cX6_init 67 = .ok (.sipush 256, 3) := by decide +kernel
theorem dX6_init_70 : decode cX6_init 70 = .ok (.newarray .long, 2) := by decide +kernel
theorem dX6_init_72 : decode cX6_init 72 = .ok (.putfield 35, 3) := by decide +kernel
theorem dX6_init_75 : decode cX6_init 75 = .ok (.aload_n 0, 1) := by decide +kernel
theorem dX6_init_76 : decode cX6_init 76 = .ok (.iconst 4, 1) := by decide +kernel
theorem dX6_init_77 : decode cX6_init 77 = .ok (.newarray .int, 2) := by decide +kernel
theorem dX6_init_79 : decode cX6_init 79 = .ok (.putfield 38, 3) := by decide +kernel
theorem dX6_init_82 : decode cX6_init 82 = .ok (.aload_n 0, 1) := by decide +kernel
theorem dX6_init_83 : decode cX6_init 83 = .ok (.bipush 12, 2) := by decide +kernel
theorem dX6_init_85 : decode cX6_init 85 = .ok (.newarray .int, 2) := by decide +kernel
theorem dX6_init_87 : decode cX6_init 87 = .ok (.putfield 41, 3) := by decide +kernel
theorem dX6_init_90 : decode cX6_init 90 = .ok (.aload_n 0, 1) := by decide +kernel
theorem dX6_init_91 : decode cX6_init 91 = .ok (.bipush 12, 2) := by decide +kernel
theorem dX6_init_93 : decode cX6_init 93 = .ok (.newarray .int, 2) := by decide +kernel
theorem dX6_init_95 : decode cX6_init 95 = .ok (.putfield 44, 3) := by decide +kernel
theorem dX6_init_98 : decode cX6_init 98 = .ok (.aload_n 0, 1) := by decide +kernel
theorem dX6_init_99 : decode cX6_init 99 = .ok (.sipush 700, 3) := by decide +kernel
theorem dX6_init_102 : decode cX6_init 102 = .ok (.newarray .int, 2) := by decide +kernel
theorem dX6_init_104 : decode cX6_init 104 = .ok (.putfield 47, 3) := by decide +kernel
theorem dX6_init_107 : decode cX6_init 107 = .ok (.aload_n 0, 1) := by decide +kernel
theorem dX6_init_108 : decode cX6_init 108 = .ok (.bipush 40, 2) := by decide +kernel
theorem dX6_init_110 : decode cX6_init 110 = .ok (.newarray .long, 2) := by decide +kernel
theorem dX6_init_112 : decode cX6_init 112 = .ok (.putfield 50, 3) := by decide +kernel
theorem dX6_init_115 : decode cX6_init 115 = .ok (.aload_n 0, 1) := by decide +kernel
theorem dX6_init_116 : decode cX6_init 116 = .ok (.bipush 40, 2) := by decide +kernel
theorem dX6_init_118 : decode cX6_init 118 = .ok (.newarray .long, 2) := by decide +kernel
theorem dX6_init_120 : decode cX6_init 120 = .ok (.putfield 53, 3) := by decide +kernel
theorem dX6_init_123 : decode cX6_init 123 = .ok (.aload_n 0, 1) := by decide +kernel
theorem dX6_init_124 : decode cX6_init 124 = .ok (.bipush 40, 2) := by decide +kernel
theorem dX6_init_126 : decode cX6_init 126 = .ok (.newarray .int, 2) := by decide +kernel
theorem dX6_init_128 : decode cX6_init 128 = .ok (.putfield 56, 3) := by decide +kernel
theorem dX6_init_131 : decode cX6_init 131 = .ok (.aload_n 0, 1) := by decide +kernel
theorem dX6_init_132 : decode cX6_init 132 = .ok (.getfield 7, 3) := by decide +kernel
theorem dX6_init_135 : decode cX6_init 135 = .ok (.iconst 1, 1) := by decide +kernel
theorem dX6_init_136 : decode cX6_init 136 = .ok (.iconst 1, 1) := by decide +kernel
theorem dX6_init_137 : decode cX6_init 137 = .ok (.iastore, 1) := by decide +kernel
theorem dX6_init_138 : decode cX6_init 138 = .ok (.aload_n 0, 1) := by decide +kernel
theorem dX6_init_139 : decode cX6_init 139 = .ok (.getfield 7, 3) := by decide +kernel
theorem dX6_init_142 : decode cX6_init 142 = .ok (.iconst 2, 1) := by decide +kernel
theorem dX6_init_143 : decode cX6_init 143 = .ok (.bipush 50, 2) := by decide +kernel
theorem dX6_init_145 : decode cX6_init 145 = .ok (.iastore, 1) := by decide +kernel
theorem dX6_init_146 : decode cX6_init 146 = .ok (.aload_n 0, 1) := by decide +kernel
theorem dX6_init_147 : decode cX6_init 147 = .ok (.getfield 7, 3) := by decide +kernel
theorem dX6_init_150 : decode cX6_init 150 = .ok (.iconst 3, 1) := by decide +kernel
theorem dX6_init_151 : decode cX6_init 151 = .ok (.bipush 17, 2) := by decide +kernel
theorem dX6_init_153 : decode cX6_init 153 = .ok (.iastore, 1) := by decide +kernel
theorem dX6_init_154 : decode cX6_init 154 = .ok (.aload_n 0, 1) := by decide +kernel
theorem dX6_init_155 : decode cX6_init 155 = .ok (.getfield 7, 3) := by decide +kernel
theorem dX6_init_158 : decode cX6_init 158 = .ok (.iconst 4, 1) := by decide +kernel
theorem dX6_init_159 : decode cX6_init 159 = .ok (.bipush 8, 2) := by decide +kernel
theorem dX6_init_161 : decode cX6_init 161 = .ok (.iastore, 1) := by decide +kernel
theorem dX6_init_162 : decode cX6_init 162 = .ok (.aload_n 0, 1) := by decide +kernel
theorem dX6_init_163 : decode cX6_init 163 = .ok (.getfield 7, 3) := by decide +kernel
theorem dX6_init_166 : decode cX6_init 166 = .ok (.iconst 5, 1) := by decide +kernel
theorem dX6_init_167 : decode cX6_init 167 = .ok (.iconst 5, 1) := by decide +kernel
theorem dX6_init_168 : decode cX6_init 168 = .ok (.iastore, 1) := by decide +kernel
theorem dX6_init_169 : decode cX6_init 169 = .ok (.aload_n 0, 1) := by decide +kernel
theorem dX6_init_170 : decode cX6_init 170 = .ok (.getfield 7, 3) := by decide +kernel
theorem dX6_init_173 : decode cX6_init 173 = .ok (.bipush 6, 2) := by decide +kernel
theorem dX6_init_175 : decode cX6_init 175 = .ok (.iconst 3, 1) := by decide +kernel
theorem dX6_init_176 : decode cX6_init 176 = .ok (.iastore, 1) := by decide +kernel
theorem dX6_init_177 : decode cX6_init 177 = .ok (.aload_n 0, 1) := by decide +kernel
theorem dX6_init_178 : decode cX6_init 178 = .ok (.getfield 7, 3) := by decide +kernel
theorem dX6_init_181 : decode cX6_init 181 = .ok (.bipush 7, 2) := by decide +kernel
theorem dX6_init_183 : decode cX6_init 183 = .ok (.iconst 2, 1) := by decide +kernel
theorem dX6_init_184 : decode cX6_init 184 = .ok (.iastore, 1) := by decide +kernel
theorem dX6_init_185 : decode cX6_init 185 = .ok (.aload_n 0, 1) := by decide +kernel
theorem dX6_init_186 : decode cX6_init 186 = .ok (.getfield 7, 3) := by decide +kernel
theorem dX6_init_189 : decode cX6_init 189 = .ok (.bipush 8, 2) := by decide +kernel
theorem dX6_init_191 : decode cX6_init 191 = .ok (.iconst 2, 1) := by decide +kernel
theorem dX6_init_192 : decode cX6_init 192 = .ok (.iastore, 1) := by decide +kernel
theorem dX6_init_193 : decode cX6_init 193 = .ok (.aload_n 0, 1) := by decide +kernel
theorem dX6_init_194 : decode cX6_init 194 = .ok (.getfield 7, 3) := by decide +kernel
theorem dX6_init_197 : decode cX6_init 197 = .ok (.bipush 9, 2) := by decide +kernel
theorem dX6_init_199 : decode cX6_init 199 = .ok (.iconst 1, 1) := by decide +kernel
theorem dX6_init_200 : decode cX6_init 200 = .ok (.iastore, 1) := by decide +kernel
theorem dX6_init_201 : decode cX6_init 201 = .ok (.aload_n 0, 1) := by decide +kernel
theorem dX6_init_202 : decode cX6_init 202 = .ok (.getfield 7, 3) := by decide +kernel
theorem dX6_init_205 : decode cX6_init 205 = .ok (.bipush 10, 2) := by decide +kernel
theorem dX6_init_207 : decode cX6_init 207 = .ok (.iconst 1, 1) := by decide +kernel
theorem dX6_init_208 : decode cX6_init 208 = .ok (.iastore, 1) := by decide +kernel
theorem dX6_init_209 : decode cX6_init 209 = .ok (.aload_n 0, 1) := by decide +kernel
theorem dX6_init_210 : decode cX6_init 210 = .ok (.getfield 7, 3) := by decide +kernel
theorem dX6_init_213 : decode cX6_init 213 = .ok (.bipush 11, 2) := by decide +kernel
theorem dX6_init_215 : decode cX6_init 215 = .ok (.iconst 1, 1) := by decide +kernel
theorem dX6_init_216 : decode cX6_init 216 = .ok (.iastore, 1) := by decide +kernel
theorem dX6_init_217 : decode cX6_init 217 = .ok (.aload_n 0, 1) := by decide +kernel
theorem dX6_init_218 : decode cX6_init 218 = .ok (.getfield 7, 3) := by decide +kernel
theorem dX6_init_221 : decode cX6_init 221 = .ok (.bipush 12, 2) := by decide +kernel
theorem dX6_init_223 : decode cX6_init 223 = .ok (.bipush 9, 2) := by decide +kernel
theorem dX6_init_225 : decode cX6_init 225 = .ok (.iastore, 1) := by decide +kernel
theorem dX6_init_226 : decode cX6_init 226 = .ok (.return_, 1) := by decide +kernel
theorem dX6_degree_0 : decode cX6_degree 0 = .ok (.iload_n 1, 1) := by decide +kernel
theorem dX6_degree_1 : decode cX6_degree 1 = .ok (.iconst 1, 1) := by decide +kernel
theorem dX6_degree_2 : decode cX6_degree 2 = .ok (.if_icmp .lt 9, 3) := by decide +kernel
theorem dX6_degree_5 : decode cX6_degree 5 = .ok (.iload_n 1, 1) := by decide +kernel
theorem dX6_degree_6 : decode cX6_degree 6 = .ok (.bipush 12, 2) := by decide +kernel
theorem dX6_degree_8 : decode cX6_degree 8 = .ok (.if_icmp .le 5, 3) := by decide +kernel
theorem dX6_degree_11 : decode cX6_degree 11 = .ok (.iconst (-1), 1) := by decide +kernel
theorem dX6_degree_12 : decode cX6_degree 12 = .ok (.ireturn, 1) := by decide +kernel
theorem dX6_degree_13 : decode cX6_degree 13 = .ok (.iload_n 2, 1) := by decide +kernel
theorem dX6_degree_14 : decode cX6_degree 14 = .ok (.ifCond .lt 9, 3) := by decide +kernel
theorem dX6_degree_17 : decode cX6_degree 17 = .ok (.iload_n 2, 1) := by decide +kernel
theorem dX6_degree_18 : decode cX6_degree 18 = .ok (.bipush 100, 2) := by decide +kernel
theorem dX6_degree_20 : decode cX6_degree 20 = .ok (.if_icmp .le 6, 3) := by decide +kernel
theorem dX6_degree_23 : decode cX6_degree 23 = .ok (.bipush (-2), 2) := by decide +kernel
theorem dX6_degree_25 : decode cX6_degree 25 = .ok (.ireturn, 1) := by decide +kernel
theorem dX6_degree_26 : decode cX6_degree 26 = .ok (.aload_n 0, 1) := by decide +kernel
theorem dX6_degree_27 : decode cX6_degree 27 = .ok (.getfield 7, 3) := by decide +kernel
theorem dX6_degree_30 : decode cX6_degree 30 = .ok (.iload_n 1, 1) := by decide +kernel
theorem dX6_degree_31 : decode cX6_degree 31 = .ok (.iaload, 1) := by decide +kernel
theorem dX6_degree_32 : decode cX6_degree 32 = .ok (.istore_n 3, 1) := by decide +kernel
theorem dX6_degree_33 : decode cX6_degree 33 = .ok (.aload_n 0, 1) := by decide +kernel
theorem dX6_degree_34 : decode cX6_degree 34 = .ok (.getfield 7, 3) := by decide +kernel
theorem dX6_degree_37 : decode cX6_degree 37 = .ok (.iload_n 1, 1) := by decide +kernel
theorem dX6_degree_38 : decode cX6_degree 38 = .ok (.iload_n 2, 1) := by decide +kernel
theorem dX6_degree_39 : decode cX6_degree 39 = .ok (.iastore, 1) := by decide +kernel
theorem dX6_degree_40 : decode cX6_degree 40 = .ok (.iload_n 3, 1) := by decide +kernel
theorem dX6_degree_41 : decode cX6_degree 41 = .ok (.ireturn, 1) := by decide +kernel
theorem dX6_source_0 : decode cX6_source 0 = .ok (.iload_n 1, 1) := by decide +kernel
theorem dX6_source_1 : decode cX6_source 1 = .ok (.iconst 1, 1) := by decide +kernel
theorem dX6_source_2 : decode cX6_source 2 = .ok (.if_icmp .lt 30, 3) := by decide +kernel
theorem dX6_source_5 : decode cX6_source 5 = .ok (.iload_n 1, 1) := by decide +kernel
theorem dX6_source_6 : decode cX6_source 6 = .ok (.bipush 32, 2) := by decide +kernel
theorem dX6_source_8 : decode cX6_source 8 = .ok (.if_icmp .gt 24, 3) := by decide +kernel
theorem dX6_source_11 : decode cX6_source 11 = .ok (.iload_n 2, 1) := by decide +kernel
theorem dX6_source_12 : decode cX6_source 12 = .ok (.ifCond .lt 20, 3) := by decide +kernel
theorem dX6_source_15 : decode cX6_source 15 = .ok (.iload_n 2, 1) := by decide +kernel
theorem dX6_source_16 : decode cX6_source 16 = .ok (.bipush 8, 2) := by decide +kernel
theorem dX6_source_18 : decode cX6_source 18 = .ok (.if_icmp .gt 14, 3) := by decide +kernel
theorem dX6_source_21 : decode cX6_source 21 = .ok (.iload_n 3, 1) := by decide +kernel
theorem dX6_source_22 : decode cX6_source 22 = .ok (.iconst 1, 1) := by decide +kernel
theorem dX6_source_23 : decode cX6_source 23 = .ok (.if_icmp .lt 9, 3) := by decide +kernel
theorem dX6_source_26 : decode cX6_source 26 = .ok (.iload_n 3, 1) := by decide +kernel
theorem dX6_source_27 : decode cX6_source 27 = .ok (.bipush 8, 2) := by decide +kernel
theorem dX6_source_29 : decode cX6_source 29 = .ok (.if_icmp .le 6, 3) := by decide +kernel
theorem dX6_source_32 : decode cX6_source 32 = .ok (.bipush (-2), 2) := by decide +kernel
theorem dX6_source_34 : decode cX6_source 34 = .ok (.ireturn, 1) := by decide +kernel
theorem dX6_source_35 : decode cX6_source 35 = .ok (.iconst 0, 1) := by decide +kernel
theorem dX6_source_36 : decode cX6_source 36 = .ok (.istore 5, 2) := by decide +kernel
theorem dX6_source_38 : decode cX6_source 38 = .ok (.iconst 1, 1) := by decide +kernel
theorem dX6_source_39 : decode cX6_source 39 = .ok (.istore 6, 2) := by decide +kernel
theorem dX6_source_41 : decode cX6_source 41 = .ok (.iload 6, 2) := by decide +kernel
theorem dX6_source_43 : decode cX6_source 43 = .ok (.bipush 13, 2) := by decide +kernel
theorem dX6_source_45 : decode cX6_source 45 = .ok (.if_icmp .ge 21, 3) := by decide +kernel
theorem dX6_source_48 : decode cX6_source 48 = .ok (.iload 5, 2) := by decide +kernel
theorem dX6_source_50 : decode cX6_source 50 = .ok (.aload_n 0, 1) := by decide +kernel
theorem dX6_source_51 : decode cX6_source 51 = .ok (.getfield 7, 3) := by decide +kernel
theorem dX6_source_54 : decode cX6_source 54 = .ok (.iload 6, 2) := by decide +kernel
theorem dX6_source_56 : decode cX6_source 56 = .ok (.iaload, 1) := by decide +kernel
theorem dX6_source_57 : decode cX6_source 57 = .ok (.iadd, 1) := by decide +kernel
theorem dX6_source_58 : decode cX6_source 58 = .ok (.istore 5, 2) := by decide +kernel
theorem dX6_source_60 : decode cX6_source 60 = .ok (.iinc 6 1, 3) := by decide +kernel
theorem dX6_source_63 : decode cX6_source 63 = .ok (.goto (-22), 3) := by decide +kernel
theorem dX6_source_66 : decode cX6_source 66 = .ok (.iload 5, 2) := by decide +kernel
theorem dX6_source_68 : decode cX6_source 68 = .ok (.ifCond .ne 6, 3) := by decide +kernel
theorem dX6_source_71 : decode cX6_source 71 = .ok (.bipush (-3), 2) := by decide +kernel
theorem dX6_source_73 : decode cX6_source 73 = .ok (.ireturn, 1) := by decide +kernel
theorem dX6_source_74 : decode cX6_source 74 = .ok (.aload_n 0, 1) := by decide +kernel
theorem dX6_source_75 : decode cX6_source 75 = .ok (.getfield 59, 3) := by decide +kernel
theorem dX6_source_78 : decode cX6_source 78 = .ok (.iconst 4, 1) := by decide +kernel
theorem dX6_source_79 : decode cX6_source 79 = .ok (.if_icmp .ne 6, 3) := by decide +kernel
theorem dX6_source_82 : decode cX6_source 82 = .ok (.bipush (-4), 2) := by decide +kernel
theorem dX6_source_84 : decode cX6_source 84 = .ok (.ireturn, 1) := by decide +kernel
theorem dX6_source_85 : decode cX6_source 85 = .ok (.aload_n 0, 1) := by decide +kernel
theorem dX6_source_86 : decode cX6_source 86 = .ok (.getfield 59, 3) := by decide +kernel
theorem dX6_source_89 : decode cX6_source 89 = .ok (.istore 6, 2) := by decide +kernel
theorem dX6_source_91 : decode cX6_source 91 = .ok (.aload_n 0, 1) := by decide +kernel
theorem dX6_source_92 : decode cX6_source 92 = .ok (.getfield 13, 3) := by decide +kernel
theorem dX6_source_95 : decode cX6_source 95 = .ok (.iload 6, 2) := by decide +kernel
theorem dX6_source_97 : decode cX6_source 97 = .ok (.iload_n 1, 1) := by decide +kernel
theorem dX6_source_98 : decode cX6_source 98 = .ok (.iastore, 1) := by decide +kernel
theorem dX6_source_99 : decode cX6_source 99 = .ok (.aload_n 0, 1) := by decide +kernel
theorem dX6_source_100 : decode cX6_source 100 = .ok (.getfield 16, 3) := by decide +kernel
theorem dX6_source_103 : decode cX6_source 103 = .ok (.iload 6, 2) := by decide +kernel
theorem dX6_source_105 : decode cX6_source 105 = .ok (.iload_n 2, 1) := by decide +kernel
theorem dX6_source_106 : decode cX6_source 106 = .ok (.iastore, 1) := by decide +kernel
theorem dX6_source_107 : decode cX6_source 107 = .ok (.aload_n 0, 1) := by decide +kernel
theorem dX6_source_108 : decode cX6_source 108 = .ok (.getfield 19, 3) := by decide +kernel
theorem dX6_source_111 : decode cX6_source 111 = .ok (.iload 6, 2) := by decide +kernel
theorem dX6_source_113 : decode cX6_source 113 = .ok (.iload_n 3, 1) := by decide +kernel
theorem dX6_source_114 : decode cX6_source 114 = .ok (.iastore, 1) := by decide +kernel
theorem dX6_source_115 : decode cX6_source 115 = .ok (.aload_n 0, 1) := by decide +kernel
theorem dX6_source_116 : decode cX6_source 116 = .ok (.getfield 22, 3) := by decide +kernel
theorem dX6_source_119 : decode cX6_source 119 = .ok (.iload 6, 2) := by decide +kernel
theorem dX6_source_121 : decode cX6_source 121 = .ok (.iload 4, 2) := by decide +kernel
theorem dX6_source_123 : decode cX6_source 123 = .ok (.iastore, 1) := by decide +kernel
theorem dX6_source_124 : decode cX6_source 124 = .ok (.iconst 0, 1) := by decide +kernel
theorem dX6_source_125 : decode cX6_source 125 = .ok (.istore 7, 2) := by decide +kernel
theorem dX6_source_127 : decode cX6_source 127 = .ok (.iload 7, 2) := by decide +kernel
theorem dX6_source_129 : decode cX6_source 129 = .ok (.bipush 13, 2) := by decide +kernel
theorem dX6_source_131 : decode cX6_source 131 = .ok (.if_icmp .ge 29, 3) := by decide +kernel
theorem dX6_source_134 : decode cX6_source 134 = .ok (.aload_n 0, 1) := by decide +kernel
theorem dX6_source_135 : decode cX6_source 135 = .ok (.getfield 25, 3) := by decide +kernel
theorem dX6_source_138 : decode cX6_source 138 = .ok (.bipush 13, 2) := by decide +kernel
theorem dX6_source_140 : decode cX6_source 140 = .ok (.iload 6, 2) := by decide +kernel
theorem dX6_source_142 : decode cX6_source 142 = .ok (.imul, 1) := by decide +kernel
theorem dX6_source_143 : decode cX6_source 143 = .ok (.iload 7, 2) := by decide +kernel
theorem dX6_source_145 : decode cX6_source 145 = .ok (.iadd, 1) := by decide +kernel
theorem dX6_source_146 : decode cX6_source 146 = .ok (.aload_n 0, 1) := by decide +kernel
theorem dX6_source_147 : decode cX6_source 147 = .ok (.getfield 7, 3) := by decide +kernel
theorem dX6_source_150 : decode cX6_source 150 = .ok (.iload 7, 2) := by decide +kernel
theorem dX6_source_152 : decode cX6_source 152 = .ok (.iaload, 1) := by decide +kernel
theorem dX6_source_153 : decode cX6_source 153 = .ok (.iastore, 1) := by decide +kernel
theorem dX6_source_154 : decode cX6_source 154 = .ok (.iinc 7 1, 3) := by decide +kernel
theorem dX6_source_157 : decode cX6_source 157 = .ok (.goto (-30), 3) := by decide +kernel
theorem dX6_source_160 : decode cX6_source 160 = .ok (.iconst 0, 1) := by decide +kernel
theorem dX6_source_161 : decode cX6_source 161 = .ok (.istore 7, 2) := by decide +kernel
theorem dX6_source_163 : decode cX6_source 163 = .ok (.iload 7, 2) := by decide +kernel
theorem dX6_source_165 : decode cX6_source 165 = .ok (.bipush 32, 2) := by decide +kernel
theorem dX6_source_167 : decode cX6_source 167 = .ok (.if_icmp .ge 23, 3) := by decide +kernel
theorem dX6_source_170 : decode cX6_source 170 = .ok (.aload_n 0, 1) := by decide +kernel
theorem dX6_source_171 : decode cX6_source 171 = .ok (.getfield 28, 3) := by decide +kernel
theorem dX6_source_174 : decode cX6_source 174 = .ok (.bipush 32, 2) := by decide +kernel
theorem dX6_source_176 : decode cX6_source 176 = .ok (.iload 6, 2) := by decide +kernel
theorem dX6_source_178 : decode cX6_source 178 = .ok (.imul, 1) := by decide +kernel
theorem dX6_source_179 : decode cX6_source 179 = .ok (.iload 7, 2) := by decide +kernel
theorem dX6_source_181 : decode cX6_source 181 = .ok (.iadd, 1) := by decide +kernel
theorem dX6_source_182 : decode cX6_source 182 = .ok (.lconst 0, 1) := by decide +kernel
theorem dX6_source_183 : decode cX6_source 183 = .ok (.lastore, 1) := by decide +kernel
theorem dX6_source_184 : decode cX6_source 184 = .ok (.iinc 7 1, 3) := by decide +kernel
theorem dX6_source_187 : decode cX6_source 187 = .ok (.goto (-24), 3) := by decide +kernel
theorem dX6_source_190 : decode cX6_source 190 = .ok (.aload_n 0, 1) := by decide +kernel
theorem dX6_source_191 : decode cX6_source 191 = .ok (.getfield 38, 3) := by decide +kernel
theorem dX6_source_194 : decode cX6_source 194 = .ok (.iload 6, 2) := by decide +kernel
theorem dX6_source_196 : decode cX6_source 196 = .ok (.iconst 0, 1) := by decide +kernel
theorem dX6_source_197 : decode cX6_source 197 = .ok (.iastore, 1) := by decide +kernel
theorem dX6_source_198 : decode cX6_source 198 = .ok (.iconst 0, 1) := by decide +kernel
theorem dX6_source_199 : decode cX6_source 199 = .ok (.istore 7, 2) := by decide +kernel
theorem dX6_source_201 : decode cX6_source 201 = .ok (.iload 7, 2) := by decide +kernel
theorem dX6_source_203 : decode cX6_source 203 = .ok (.iconst 3, 1) := by decide +kernel
theorem dX6_source_204 : decode cX6_source 204 = .ok (.if_icmp .ge 22, 3) := by decide +kernel
theorem dX6_source_207 : decode cX6_source 207 = .ok (.aload_n 0, 1) := by decide +kernel
theorem dX6_source_208 : decode cX6_source 208 = .ok (.getfield 41, 3) := by decide +kernel
theorem dX6_source_211 : decode cX6_source 211 = .ok (.iconst 3, 1) := by decide +kernel
theorem dX6_source_212 : decode cX6_source 212 = .ok (.iload 6, 2) := by decide +kernel
theorem dX6_source_214 : decode cX6_source 214 = .ok (.imul, 1) := by decide +kernel
theorem dX6_source_215 : decode cX6_source 215 = .ok (.iload 7, 2) := by decide +kernel
theorem dX6_source_217 : decode cX6_source 217 = .ok (.iadd, 1) := by decide +kernel
theorem dX6_source_218 : decode cX6_source 218 = .ok (.iconst 0, 1) := by decide +kernel
theorem dX6_source_219 : decode cX6_source 219 = .ok (.iastore, 1) := by decide +kernel
theorem dX6_source_220 : decode cX6_source 220 = .ok (.iinc 7 1, 3) := by decide +kernel
theorem dX6_source_223 : decode cX6_source 223 = .ok (.goto (-22), 3) := by decide +kernel
theorem dX6_source_226 : decode cX6_source 226 = .ok (.aload_n 0, 1) := by decide +kernel
theorem dX6_source_227 : decode cX6_source 227 = .ok (.dup, 1) := by decide +kernel
theorem dX6_source_228 : decode cX6_source 228 = .ok (.getfield 59, 3) := by decide +kernel
theorem dX6_source_231 : decode cX6_source 231 = .ok (.iconst 1, 1) := by decide +kernel
theorem dX6_source_232 : decode cX6_source 232 = .ok (.iadd, 1) := by decide +kernel
theorem dX6_source_233 : decode cX6_source 233 = .ok (.putfield 59, 3) := by decide +kernel
theorem dX6_source_236 : decode cX6_source 236 = .ok (.iload 6, 2) := by decide +kernel
theorem dX6_source_238 : decode cX6_source 238 = .ok (.ireturn, 1) := by decide +kernel
theorem dX6_isSource_0 : decode cX6_isSource 0 = .ok (.iload_n 1, 1) := by decide +kernel
theorem dX6_isSource_1 : decode cX6_isSource 1 = .ok (.ifCond .lt 15, 3) := by decide +kernel
theorem dX6_isSource_4 : decode cX6_isSource 4 = .ok (.iload_n 1, 1) := by decide +kernel
theorem dX6_isSource_5 : decode cX6_isSource 5 = .ok (.aload_n 0, 1) := by decide +kernel
theorem dX6_isSource_6 : decode cX6_isSource 6 = .ok (.getfield 59, 3) := by decide +kernel
theorem dX6_isSource_9 : decode cX6_isSource 9 = .ok (.if_icmp .ge 7, 3) := by decide +kernel
theorem dX6_isSource_12 : decode cX6_isSource 12 = .ok (.iconst 1, 1) := by decide +kernel
theorem dX6_isSource_13 : decode cX6_isSource 13 = .ok (.goto 4, 3) := by decide +kernel
theorem dX6_isSource_16 : decode cX6_isSource 16 = .ok (.iconst 0, 1) := by decide +kernel
theorem dX6_isSource_17 : decode cX6_isSource 17 = .ok (.ireturn, 1) := by decide +kernel
theorem dX6_parts_0 : decode cX6_parts 0 = .ok (.aload_n 0, 1) := by decide +kernel
theorem dX6_parts_1 : decode cX6_parts 1 = .ok (.getfield 13, 3) := by decide +kernel
theorem dX6_parts_4 : decode cX6_parts 4 = .ok (.iload_n 1, 1) := by decide +kernel
theorem dX6_parts_5 : decode cX6_parts 5 = .ok (.iaload, 1) := by decide +kernel
theorem dX6_parts_6 : decode cX6_parts 6 = .ok (.aload_n 0, 1) := by decide +kernel
theorem dX6_parts_7 : decode cX6_parts 7 = .ok (.getfield 16, 3) := by decide +kernel
theorem dX6_parts_10 : decode cX6_parts 10 = .ok (.iload_n 1, 1) := by decide +kernel
theorem dX6_parts_11 : decode cX6_parts 11 = .ok (.iaload, 1) := by decide +kernel
theorem dX6_parts_12 : decode cX6_parts 12 = .ok (.iadd, 1) := by decide +kernel
theorem dX6_parts_13 : decode cX6_parts 13 = .ok (.ireturn, 1) := by decide +kernel
theorem dX6_isPart_0 : decode cX6_isPart 0 = .ok (.aload_n 0, 1) := by decide +kernel
theorem dX6_isPart_1 : decode cX6_isPart 1 = .ok (.iload_n 1, 1) := by decide +kernel
theorem dX6_isPart_2 : decode cX6_isPart 2 = .ok (.invokevirtual 63, 3) := by decide +kernel
theorem dX6_isPart_5 : decode cX6_isPart 5 = .ok (.ifCond .eq 20, 3) := by decide +kernel
theorem dX6_isPart_8 : decode cX6_isPart 8 = .ok (.iload_n 2, 1) := by decide +kernel
theorem dX6_isPart_9 : decode cX6_isPart 9 = .ok (.ifCond .lt 16, 3) := by decide +kernel
theorem dX6_isPart_12 : decode cX6_isPart 12 = .ok (.iload_n 2, 1) := by decide +kernel
theorem dX6_isPart_13 : decode cX6_isPart 13 = .ok (.aload_n 0, 1) := by decide +kernel
theorem dX6_isPart_14 : decode cX6_isPart 14 = .ok (.iload_n 1, 1) := by decide +kernel
theorem dX6_isPart_15 : decode cX6_isPart 15 = .ok (.invokevirtual 67, 3) := by decide +kernel
theorem dX6_isPart_18 : decode cX6_isPart 18 = .ok (.if_icmp .ge 7, 3) := by decide +kernel
theorem dX6_isPart_21 : decode cX6_isPart 21 = .ok (.iconst 1, 1) := by decide +kernel
theorem dX6_isPart_22 : decode cX6_isPart 22 = .ok (.goto 4, 3) := by decide +kernel
theorem dX6_isPart_25 : decode cX6_isPart 25 = .ok (.iconst 0, 1) := by decide +kernel
theorem dX6_isPart_26 : decode cX6_isPart 26 = .ok (.ireturn, 1) := by decide +kernel
theorem dX6_lowest_0 : decode cX6_lowest 0 = .ok (.aload_n 0, 1) := by decide +kernel
theorem dX6_lowest_1 : decode cX6_lowest 1 = .ok (.getfield 19, 3) := by decide +kernel
theorem dX6_lowest_4 : decode cX6_lowest 4 = .ok (.iload_n 1, 1) := by decide +kernel
theorem dX6_lowest_5 : decode cX6_lowest 5 = .ok (.iaload, 1) := by decide +kernel
theorem dX6_lowest_6 : decode cX6_lowest 6 = .ok (.bipush 8, 2) := by decide +kernel
theorem dX6_lowest_8 : decode cX6_lowest 8 = .ok (.if_icmp .ne 7, 3) := by decide +kernel
theorem dX6_lowest_11 : decode cX6_lowest 11 = .ok (.lload_n 2, 1) := by decide +kernel
theorem dX6_lowest_12 : decode cX6_lowest 12 = .ok (.goto 18, 3) := by decide +kernel
theorem dX6_lowest_15 : decode cX6_lowest 15 = .ok (.lload_n 2, 1) := by decide +kernel
theorem dX6_lowest_16 : decode cX6_lowest 16 = .ok (.lconst 1, 1) := by decide +kernel
theorem dX6_lowest_17 : decode cX6_lowest 17 = .ok (.bipush 8, 2) := by decide +kernel
theorem dX6_lowest_19 : decode cX6_lowest 19 = .ok (.aload_n 0, 1) := by decide +kernel
theorem dX6_lowest_20 : decode cX6_lowest 20 = .ok (.getfield 19, 3) := by decide +kernel
theorem dX6_lowest_23 : decode cX6_lowest 23 = .ok (.iload_n 1, 1) := by decide +kernel
theorem dX6_lowest_24 : decode cX6_lowest 24 = .ok (.iaload, 1) := by decide +kernel
theorem dX6_lowest_25 : decode cX6_lowest 25 = .ok (.imul, 1) := by decide +kernel
theorem dX6_lowest_26 : decode cX6_lowest 26 = .ok (.lshl, 1) := by decide +kernel
theorem dX6_lowest_27 : decode cX6_lowest 27 = .ok (.lconst 1, 1) := by decide +kernel
theorem dX6_lowest_28 : decode cX6_lowest 28 = .ok (.lsub, 1) := by decide +kernel
theorem dX6_lowest_29 : decode cX6_lowest 29 = .ok (.land, 1) := by decide +kernel
theorem dX6_lowest_30 : decode cX6_lowest 30 = .ok (.lreturn, 1) := by decide +kernel
theorem dX6_symbol_0 : decode cX6_symbol 0 = .ok (.aload_n 0, 1) := by decide +kernel
theorem dX6_symbol_1 : decode cX6_symbol 1 = .ok (.iload_n 1, 1) := by decide +kernel
theorem dX6_symbol_2 : decode cX6_symbol 2 = .ok (.invokevirtual 63, 3) := by decide +kernel
theorem dX6_symbol_5 : decode cX6_symbol 5 = .ok (.ifCond .eq 17, 3) := by decide +kernel
theorem dX6_symbol_8 : decode cX6_symbol 8 = .ok (.iload_n 2, 1) := by decide +kernel
theorem dX6_symbol_9 : decode cX6_symbol 9 = .ok (.ifCond .lt 13, 3) := by decide +kernel
theorem dX6_symbol_12 : decode cX6_symbol 12 = .ok (.iload_n 2, 1) := by decide +kernel
theorem dX6_symbol_13 : decode cX6_symbol 13 = .ok (.aload_n 0, 1) := by decide +kernel
theorem dX6_symbol_14 : decode cX6_symbol 14 = .ok (.getfield 13, 3) := by decide +kernel
theorem dX6_symbol_17 : decode cX6_symbol 17 = .ok (.iload_n 1, 1) := by decide +kernel
theorem dX6_symbol_18 : decode cX6_symbol 18 = .ok (.iaload, 1) := by decide +kernel
theorem dX6_symbol_19 : decode cX6_symbol 19 = .ok (.if_icmp .lt 5, 3) := by decide +kernel
theorem dX6_symbol_22 : decode cX6_symbol 22 = .ok (.iconst (-1), 1) := by decide +kernel
theorem dX6_symbol_23 : decode cX6_symbol 23 = .ok (.ireturn, 1) := by decide +kernel
theorem dX6_symbol_24 : decode cX6_symbol 24 = .ok (.aload_n 0, 1) := by decide +kernel
theorem dX6_symbol_25 : decode cX6_symbol 25 = .ok (.getfield 28, 3) := by decide +kernel
theorem dX6_symbol_28 : decode cX6_symbol 28 = .ok (.bipush 32, 2) := by decide +kernel
theorem dX6_symbol_30 : decode cX6_symbol 30 = .ok (.iload_n 1, 1) := by decide +kernel
theorem dX6_symbol_31 : decode cX6_symbol 31 = .ok (.imul, 1) := by decide +kernel
theorem dX6_symbol_32 : decode cX6_symbol 32 = .ok (.iload_n 2, 1) := by decide +kernel
theorem dX6_symbol_33 : decode cX6_symbol 33 = .ok (.iadd, 1) := by decide +kernel
theorem dX6_symbol_34 : decode cX6_symbol 34 = .ok (.aload_n 0, 1) := by decide +kernel
theorem dX6_symbol_35 : decode cX6_symbol 35 = .ok (.iload_n 1, 1) := by decide +kernel
theorem dX6_symbol_36 : decode cX6_symbol 36 = .ok (.lload_n 3, 1) := by decide +kernel
theorem dX6_symbol_37 : decode cX6_symbol 37 = .ok (.invokevirtual 71, 3) := by decide +kernel
theorem dX6_symbol_40 : decode cX6_symbol 40 = .ok (.lastore, 1) := by decide +kernel
theorem dX6_symbol_41 : decode cX6_symbol 41 = .ok (.iconst 1, 1) := by decide +kernel
theorem dX6_symbol_42 : decode cX6_symbol 42 = .ok (.ireturn, 1) := by decide +kernel
theorem dX6_drawn_0 : decode cX6_drawn 0 = .ok (.aload_n 0, 1) := by decide +kernel
theorem dX6_drawn_1 : decode cX6_drawn 1 = .ok (.aload_n 0, 1) := by decide +kernel
theorem dX6_drawn_2 : decode cX6_drawn 2 = .ok (.getfield 75, 3) := by decide +kernel
theorem dX6_drawn_5 : decode cX6_drawn 5 = .ok (.ldc 78, 2) := by decide +kernel
theorem dX6_drawn_7 : decode cX6_drawn 7 = .ok (.imul, 1) := by decide +kernel
theorem dX6_drawn_8 : decode cX6_drawn 8 = .ok (.ldc 79, 2) := by decide +kernel
theorem dX6_drawn_10 : decode cX6_drawn 10 = .ok (.iadd, 1) := by decide +kernel
theorem dX6_drawn_11 : decode cX6_drawn 11 = .ok (.putfield 75, 3) := by decide +kernel
theorem dX6_drawn_14 : decode cX6_drawn 14 = .ok (.aload_n 0, 1) := by decide +kernel
theorem dX6_drawn_15 : decode cX6_drawn 15 = .ok (.getfield 75, 3) := by decide +kernel
theorem dX6_drawn_18 : decode cX6_drawn 18 = .ok (.iconst 1, 1) := by decide +kernel
theorem dX6_drawn_19 : decode cX6_drawn 19 = .ok (.iushr, 1) := by decide +kernel
theorem dX6_drawn_20 : decode cX6_drawn 20 = .ok (.ireturn, 1) := by decide +kernel
theorem dX6_sumOf_0 : decode cX6_sumOf 0 = .ok (.aload_n 0, 1) := by decide +kernel
theorem dX6_sumOf_1 : decode cX6_sumOf 1 = .ok (.aload_n 0, 1) := by decide +kernel
theorem dX6_sumOf_2 : decode cX6_sumOf 2 = .ok (.getfield 22, 3) := by decide +kernel
theorem dX6_sumOf_5 : decode cX6_sumOf 5 = .ok (.iload_n 1, 1) := by decide +kernel
theorem dX6_sumOf_6 : decode cX6_sumOf 6 = .ok (.iaload, 1) := by decide +kernel
theorem dX6_sumOf_7 : decode cX6_sumOf 7 = .ok (.ldc 80, 2) := by decide +kernel
theorem dX6_sumOf_9 : decode cX6_sumOf 9 = .ok (.iload_n 2, 1) := by decide +kernel
theorem dX6_sumOf_10 : decode cX6_sumOf 10 = .ok (.iconst 1, 1) := by decide +kernel
theorem dX6_sumOf_11 : decode cX6_sumOf 11 = .ok (.iadd, 1) := by decide +kernel
theorem dX6_sumOf_12 : decode cX6_sumOf 12 = .ok (.imul, 1) := by decide +kernel
theorem dX6_sumOf_13 : decode cX6_sumOf 13 = .ok (.iadd, 1) := by decide +kernel
theorem dX6_sumOf_14 : decode cX6_sumOf 14 = .ok (.putfield 75, 3) := by decide +kernel
theorem dX6_sumOf_17 : decode cX6_sumOf 17 = .ok (.lconst 0, 1) := by decide +kernel
theorem dX6_sumOf_18 : decode cX6_sumOf 18 = .ok (.lstore_n 3, 1) := by decide +kernel
theorem dX6_sumOf_19 : decode cX6_sumOf 19 = .ok (.iconst 0, 1) := by decide +kernel
theorem dX6_sumOf_20 : decode cX6_sumOf 20 = .ok (.istore 5, 2) := by decide +kernel
theorem dX6_sumOf_22 : decode cX6_sumOf 22 = .ok (.iload 5, 2) := by decide +kernel
theorem dX6_sumOf_24 : decode cX6_sumOf 24 = .ok (.aload_n 0, 1) := by decide +kernel
theorem dX6_sumOf_25 : decode cX6_sumOf 25 = .ok (.getfield 13, 3) := by decide +kernel
theorem dX6_sumOf_28 : decode cX6_sumOf 28 = .ok (.iload_n 1, 1) := by decide +kernel
theorem dX6_sumOf_29 : decode cX6_sumOf 29 = .ok (.iaload, 1) := by decide +kernel
theorem dX6_sumOf_30 : decode cX6_sumOf 30 = .ok (.if_icmp .ge 25, 3) := by decide +kernel
theorem dX6_sumOf_33 : decode cX6_sumOf 33 = .ok (.lload_n 3, 1) := by decide +kernel
theorem dX6_sumOf_34 : decode cX6_sumOf 34 = .ok (.aload_n 0, 1) := by decide +kernel
theorem dX6_sumOf_35 : decode cX6_sumOf 35 = .ok (.invokevirtual 81, 3) := by decide +kernel
theorem dX6_sumOf_38 : decode cX6_sumOf 38 = .ok (.bipush 30, 2) := by decide +kernel
theorem dX6_sumOf_40 : decode cX6_sumOf 40 = .ok (.ishr, 1) := by decide +kernel
theorem dX6_sumOf_41 : decode cX6_sumOf 41 = .ok (.iconst 1, 1) := by decide +kernel
theorem dX6_sumOf_42 : decode cX6_sumOf 42 = .ok (.iand, 1) := by decide +kernel
theorem dX6_sumOf_43 : decode cX6_sumOf 43 = .ok (.i2l, 1) := by decide +kernel
theorem dX6_sumOf_44 : decode cX6_sumOf 44 = .ok (.iload 5, 2) := by decide +kernel
theorem dX6_sumOf_46 : decode cX6_sumOf 46 = .ok (.lshl, 1) := by decide +kernel
theorem dX6_sumOf_47 : decode cX6_sumOf 47 = .ok (.lor, 1) := by decide +kernel
theorem dX6_sumOf_48 : decode cX6_sumOf 48 = .ok (.lstore_n 3, 1) := by decide +kernel
theorem dX6_sumOf_49 : decode cX6_sumOf 49 = .ok (.iinc 5 1, 3) := by decide +kernel
theorem dX6_sumOf_52 : decode cX6_sumOf 52 = .ok (.goto (-30), 3) := by decide +kernel
theorem dX6_sumOf_55 : decode cX6_sumOf 55 = .ok (.lload_n 3, 1) := by decide +kernel
theorem dX6_sumOf_56 : decode cX6_sumOf 56 = .ok (.lreturn, 1) := by decide +kernel
theorem dX6_rowOf_0 : decode cX6_rowOf 0 = .ok (.iload_n 2, 1) := by decide +kernel
theorem dX6_rowOf_1 : decode cX6_rowOf 1 = .ok (.aload_n 0, 1) := by decide +kernel
theorem dX6_rowOf_2 : decode cX6_rowOf 2 = .ok (.getfield 13, 3) := by decide +kernel
theorem dX6_rowOf_5 : decode cX6_rowOf 5 = .ok (.iload_n 1, 1) := by decide +kernel
theorem dX6_rowOf_6 : decode cX6_rowOf 6 = .ok (.iaload, 1) := by decide +kernel
theorem dX6_rowOf_7 : decode cX6_rowOf 7 = .ok (.if_icmp .ge 7, 3) := by decide +kernel
theorem dX6_rowOf_10 : decode cX6_rowOf 10 = .ok (.lconst 1, 1) := by decide +kernel
theorem dX6_rowOf_11 : decode cX6_rowOf 11 = .ok (.iload_n 2, 1) := by decide +kernel
theorem dX6_rowOf_12 : decode cX6_rowOf 12 = .ok (.lshl, 1) := by decide +kernel
theorem dX6_rowOf_13 : decode cX6_rowOf 13 = .ok (.lreturn, 1) := by decide +kernel
theorem dX6_rowOf_14 : decode cX6_rowOf 14 = .ok (.aload_n 0, 1) := by decide +kernel
theorem dX6_rowOf_15 : decode cX6_rowOf 15 = .ok (.aload_n 0, 1) := by decide +kernel
theorem dX6_rowOf_16 : decode cX6_rowOf 16 = .ok (.getfield 22, 3) := by decide +kernel
theorem dX6_rowOf_19 : decode cX6_rowOf 19 = .ok (.iload_n 1, 1) := by decide +kernel
theorem dX6_rowOf_20 : decode cX6_rowOf 20 = .ok (.iaload, 1) := by decide +kernel
theorem dX6_rowOf_21 : decode cX6_rowOf 21 = .ok (.iload_n 2, 1) := by decide +kernel
theorem dX6_rowOf_22 : decode cX6_rowOf 22 = .ok (.ldc 80, 2) := by decide +kernel
theorem dX6_rowOf_24 : decode cX6_rowOf 24 = .ok (.imul, 1) := by decide +kernel
theorem dX6_rowOf_25 : decode cX6_rowOf 25 = .ok (.ixor, 1) := by decide +kernel
theorem dX6_rowOf_26 : decode cX6_rowOf 26 = .ok (.putfield 75, 3) := by decide +kernel
theorem dX6_rowOf_29 : decode cX6_rowOf 29 = .ok (.iconst 0, 1) := by decide +kernel
theorem dX6_rowOf_30 : decode cX6_rowOf 30 = .ok (.istore_n 3, 1) := by decide +kernel
theorem dX6_rowOf_31 : decode cX6_rowOf 31 = .ok (.iconst 1, 1) := by decide +kernel
theorem dX6_rowOf_32 : decode cX6_rowOf 32 = .ok (.istore 4, 2) := by decide +kernel
theorem dX6_rowOf_34 : decode cX6_rowOf 34 = .ok (.iload 4, 2) := by decide +kernel
theorem dX6_rowOf_36 : decode cX6_rowOf 36 = .ok (.bipush 13, 2) := by decide +kernel
theorem dX6_rowOf_38 : decode cX6_rowOf 38 = .ok (.if_icmp .ge 24, 3) := by decide +kernel
theorem dX6_rowOf_41 : decode cX6_rowOf 41 = .ok (.iload_n 3, 1) := by decide +kernel
theorem dX6_rowOf_42 : decode cX6_rowOf 42 = .ok (.aload_n 0, 1) := by decide +kernel
theorem dX6_rowOf_43 : decode cX6_rowOf 43 = .ok (.getfield 25, 3) := by decide +kernel
theorem dX6_rowOf_46 : decode cX6_rowOf 46 = .ok (.bipush 13, 2) := by decide +kernel
theorem dX6_rowOf_48 : decode cX6_rowOf 48 = .ok (.iload_n 1, 1) := by decide +kernel
theorem dX6_rowOf_49 : decode cX6_rowOf 49 = .ok (.imul, 1) := by decide +kernel
theorem dX6_rowOf_50 : decode cX6_rowOf 50 = .ok (.iload 4, 2) := by decide +kernel
theorem dX6_rowOf_52 : decode cX6_rowOf 52 = .ok (.iadd, 1) := by decide +kernel
theorem dX6_rowOf_53 : decode cX6_rowOf 53 = .ok (.iaload, 1) := by decide +kernel
theorem dX6_rowOf_54 : decode cX6_rowOf 54 = .ok (.iadd, 1) := by decide +kernel
theorem dX6_rowOf_55 : decode cX6_rowOf 55 = .ok (.istore_n 3, 1) := by decide +kernel
theorem dX6_rowOf_56 : decode cX6_rowOf 56 = .ok (.iinc 4 1, 3) := by decide +kernel
theorem dX6_rowOf_59 : decode cX6_rowOf 59 = .ok (.goto (-25), 3) := by decide +kernel
theorem dX6_rowOf_62 : decode cX6_rowOf 62 = .ok (.aload_n 0, 1) := by decide +kernel
theorem dX6_rowOf_63 : decode cX6_rowOf 63 = .ok (.invokevirtual 81, 3) := by decide +kernel
theorem dX6_rowOf_66 : decode cX6_rowOf 66 = .ok (.iload_n 3, 1) := by decide +kernel
theorem dX6_rowOf_67 : decode cX6_rowOf 67 = .ok (.irem, 1) := by decide +kernel
theorem dX6_rowOf_68 : decode cX6_rowOf 68 = .ok (.istore 4, 2) := by decide +kernel
theorem dX6_rowOf_70 : decode cX6_rowOf 70 = .ok (.iconst 0, 1) := by decide +kernel
theorem dX6_rowOf_71 : decode cX6_rowOf 71 = .ok (.istore 5, 2) := by decide +kernel
theorem dX6_rowOf_73 : decode cX6_rowOf 73 = .ok (.iconst 0, 1) := by decide +kernel
theorem dX6_rowOf_74 : decode cX6_rowOf 74 = .ok (.istore 6, 2) := by decide +kernel
theorem dX6_rowOf_76 : decode cX6_rowOf 76 = .ok (.iload 6, 2) := by decide +kernel
theorem dX6_rowOf_78 : decode cX6_rowOf 78 = .ok (.iload 4, 2) := by decide +kernel
theorem dX6_rowOf_80 : decode cX6_rowOf 80 = .ok (.if_icmp .gt 26, 3) := by decide +kernel
theorem dX6_rowOf_83 : decode cX6_rowOf 83 = .ok (.iinc 5 1, 3) := by decide +kernel
theorem dX6_rowOf_86 : decode cX6_rowOf 86 = .ok (.iload 6, 2) := by decide +kernel
theorem dX6_rowOf_88 : decode cX6_rowOf 88 = .ok (.aload_n 0, 1) := by decide +kernel
theorem dX6_rowOf_89 : decode cX6_rowOf 89 = .ok (.getfield 25, 3) := by decide +kernel
theorem dX6_rowOf_92 : decode cX6_rowOf 92 = .ok (.bipush 13, 2) := by decide +kernel
theorem dX6_rowOf_94 : decode cX6_rowOf 94 = .ok (.iload_n 1, 1) := by decide +kernel
theorem dX6_rowOf_95 : decode cX6_rowOf 95 = .ok (.imul, 1) := by decide +kernel
theorem dX6_rowOf_96 : decode cX6_rowOf 96 = .ok (.iload 5, 2) := by decide +kernel
theorem dX6_rowOf_98 : decode cX6_rowOf 98 = .ok (.iadd, 1) := by decide +kernel
theorem dX6_rowOf_99 : decode cX6_rowOf 99 = .ok (.iaload, 1) := by decide +kernel
theorem dX6_rowOf_100 : decode cX6_rowOf 100 = .ok (.iadd, 1) := by decide +kernel
theorem dX6_rowOf_101 : decode cX6_rowOf 101 = .ok (.istore 6, 2) := by decide +kernel
theorem dX6_rowOf_103 : decode cX6_rowOf 103 = .ok (.goto (-27), 3) := by decide +kernel
theorem dX6_rowOf_106 : decode cX6_rowOf 106 = .ok (.aload_n 0, 1) := by decide +kernel
theorem dX6_rowOf_107 : decode cX6_rowOf 107 = .ok (.iload_n 1, 1) := by decide +kernel
theorem dX6_rowOf_108 : decode cX6_rowOf 108 = .ok (.invokevirtual 67, 3) := by decide +kernel
theorem dX6_rowOf_111 : decode cX6_rowOf 111 = .ok (.istore 7, 2) := by decide +kernel
theorem dX6_rowOf_113 : decode cX6_rowOf 113 = .ok (.iload 5, 2) := by decide +kernel
theorem dX6_rowOf_115 : decode cX6_rowOf 115 = .ok (.iload 7, 2) := by decide +kernel
theorem dX6_rowOf_117 : decode cX6_rowOf 117 = .ok (.if_icmp .ge 8, 3) := by decide +kernel
theorem dX6_rowOf_120 : decode cX6_rowOf 120 = .ok (.iload 5, 2) := by decide +kernel
theorem dX6_rowOf_122 : decode cX6_rowOf 122 = .ok (.goto 5, 3) := by decide +kernel
theorem dX6_rowOf_125 : decode cX6_rowOf 125 = .ok (.iload 7, 2) := by decide +kernel
theorem dX6_rowOf_127 : decode cX6_rowOf 127 = .ok (.istore 5, 2) := by decide +kernel
theorem dX6_rowOf_129 : decode cX6_rowOf 129 = .ok (.lconst 0, 1) := by decide +kernel
theorem dX6_rowOf_130 : decode cX6_rowOf 130 = .ok (.lstore 8, 2) := by decide +kernel
theorem dX6_rowOf_132 : decode cX6_rowOf 132 = .ok (.iconst 0, 1) := by decide +kernel
theorem dX6_rowOf_133 : decode cX6_rowOf 133 = .ok (.istore 10, 2) := by decide +kernel
theorem dX6_rowOf_135 : decode cX6_rowOf 135 = .ok (.iload 10, 2) := by decide +kernel
theorem dX6_rowOf_137 : decode cX6_rowOf 137 = .ok (.iload 5, 2) := by decide +kernel
theorem dX6_rowOf_139 : decode cX6_rowOf 139 = .ok (.if_icmp .ge 51, 3) := by decide +kernel
theorem dX6_rowOf_142 : decode cX6_rowOf 142 = .ok (.aload_n 0, 1) := by decide +kernel
theorem dX6_rowOf_143 : decode cX6_rowOf 143 = .ok (.invokevirtual 81, 3) := by decide +kernel
theorem dX6_rowOf_146 : decode cX6_rowOf 146 = .ok (.iload 7, 2) := by decide +kernel
theorem dX6_rowOf_148 : decode cX6_rowOf 148 = .ok (.irem, 1) := by decide +kernel
theorem dX6_rowOf_149 : decode cX6_rowOf 149 = .ok (.istore 11, 2) := by decide +kernel
theorem dX6_rowOf_151 : decode cX6_rowOf 151 = .ok (.lload 8, 2) := by decide +kernel
theorem dX6_rowOf_153 : decode cX6_rowOf 153 = .ok (.iload 11, 2) := by decide +kernel
theorem dX6_rowOf_155 : decode cX6_rowOf 155 = .ok (.lshr, 1) := by decide +kernel
theorem dX6_rowOf_156 : decode cX6_rowOf 156 = .ok (.lconst 1, 1) := by decide +kernel
theorem dX6_rowOf_157 : decode cX6_rowOf 157 = .ok (.land, 1) := by decide +kernel
theorem dX6_rowOf_158 : decode cX6_rowOf 158 = .ok (.lconst 1, 1) := by decide +kernel
theorem dX6_rowOf_159 : decode cX6_rowOf 159 = .ok (.lcmp, 1) := by decide +kernel
theorem dX6_rowOf_160 : decode cX6_rowOf 160 = .ok (.ifCond .ne 15, 3) := by decide +kernel
theorem dX6_rowOf_163 : decode cX6_rowOf 163 = .ok (.iload 11, 2) := by decide +kernel
theorem dX6_rowOf_165 : decode cX6_rowOf 165 = .ok (.iconst 1, 1) := by decide +kernel
theorem dX6_rowOf_166 : decode cX6_rowOf 166 = .ok (.iadd, 1) := by decide +kernel
theorem dX6_rowOf_167 : decode cX6_rowOf 167 = .ok (.iload 7, 2) := by decide +kernel
theorem dX6_rowOf_169 : decode cX6_rowOf 169 = .ok (.irem, 1) := by decide +kernel
theorem dX6_rowOf_170 : decode cX6_rowOf 170 = .ok (.istore 11, 2) := by decide +kernel
theorem dX6_rowOf_172 : decode cX6_rowOf 172 = .ok (.goto (-21), 3) := by decide +kernel
theorem dX6_rowOf_175 : decode cX6_rowOf 175 = .ok (.lload 8, 2) := by decide +kernel
theorem dX6_rowOf_177 : decode cX6_rowOf 177 = .ok (.lconst 1, 1) := by decide +kernel
theorem dX6_rowOf_178 : decode cX6_rowOf 178 = .ok (.iload 11, 2) := by decide +kernel
theorem dX6_rowOf_180 : decode cX6_rowOf 180 = .ok (.lshl, 1) := by decide +kernel
theorem dX6_rowOf_181 : decode cX6_rowOf 181 = .ok (.lor, 1) := by decide +kernel
theorem dX6_rowOf_182 : decode cX6_rowOf 182 = .ok (.lstore 8, 2) := by decide +kernel
theorem dX6_rowOf_184 : decode cX6_rowOf 184 = .ok (.iinc 10 1, 3) := by decide +kernel
theorem dX6_rowOf_187 : decode cX6_rowOf 187 = .ok (.goto (-52), 3) := by decide +kernel
theorem dX6_rowOf_190 : decode cX6_rowOf 190 = .ok (.lload 8, 2) := by decide +kernel
theorem dX6_rowOf_192 : decode cX6_rowOf 192 = .ok (.lreturn, 1) := by decide +kernel
theorem dX6_partOf_0 : decode cX6_partOf 0 = .ok (.iload_n 2, 1) := by decide +kernel
theorem dX6_partOf_1 : decode cX6_partOf 1 = .ok (.aload_n 0, 1) := by decide +kernel
theorem dX6_partOf_2 : decode cX6_partOf 2 = .ok (.getfield 13, 3) := by decide +kernel
theorem dX6_partOf_5 : decode cX6_partOf 5 = .ok (.iload_n 1, 1) := by decide +kernel
theorem dX6_partOf_6 : decode cX6_partOf 6 = .ok (.iaload, 1) := by decide +kernel
theorem dX6_partOf_7 : decode cX6_partOf 7 = .ok (.if_icmp .ge 15, 3) := by decide +kernel
theorem dX6_partOf_10 : decode cX6_partOf 10 = .ok (.aload_n 0, 1) := by decide +kernel
theorem dX6_partOf_11 : decode cX6_partOf 11 = .ok (.getfield 28, 3) := by decide +kernel
theorem dX6_partOf_14 : decode cX6_partOf 14 = .ok (.bipush 32, 2) := by decide +kernel
theorem dX6_partOf_16 : decode cX6_partOf 16 = .ok (.iload_n 1, 1) := by decide +kernel
theorem dX6_partOf_17 : decode cX6_partOf 17 = .ok (.imul, 1) := by decide +kernel
theorem dX6_partOf_18 : decode cX6_partOf 18 = .ok (.iload_n 2, 1) := by decide +kernel
theorem dX6_partOf_19 : decode cX6_partOf 19 = .ok (.iadd, 1) := by decide +kernel
theorem dX6_partOf_20 : decode cX6_partOf 20 = .ok (.laload, 1) := by decide +kernel
theorem dX6_partOf_21 : decode cX6_partOf 21 = .ok (.lreturn, 1) := by decide +kernel
theorem dX6_partOf_22 : decode cX6_partOf 22 = .ok (.aload_n 0, 1) := by decide +kernel
theorem dX6_partOf_23 : decode cX6_partOf 23 = .ok (.iload_n 1, 1) := by decide +kernel
theorem dX6_partOf_24 : decode cX6_partOf 24 = .ok (.aload_n 0, 1) := by decide +kernel
theorem dX6_partOf_25 : decode cX6_partOf 25 = .ok (.iload_n 1, 1) := by decide +kernel
theorem dX6_partOf_26 : decode cX6_partOf 26 = .ok (.iload_n 2, 1) := by decide +kernel
theorem dX6_partOf_27 : decode cX6_partOf 27 = .ok (.aload_n 0, 1) := by decide +kernel
theorem dX6_partOf_28 : decode cX6_partOf 28 = .ok (.getfield 13, 3) := by decide +kernel
theorem dX6_partOf_31 : decode cX6_partOf 31 = .ok (.iload_n 1, 1) := by decide +kernel
theorem dX6_partOf_32 : decode cX6_partOf 32 = .ok (.iaload, 1) := by decide +kernel
theorem dX6_partOf_33 : decode cX6_partOf 33 = .ok (.isub, 1) := by decide +kernel
theorem dX6_partOf_34 : decode cX6_partOf 34 = .ok (.invokevirtual 85, 3) := by decide +kernel
theorem dX6_partOf_37 : decode cX6_partOf 37 = .ok (.invokevirtual 89, 3) := by decide +kernel
theorem dX6_partOf_40 : decode cX6_partOf 40 = .ok (.lreturn, 1) := by decide +kernel
theorem dX6_all_0 : decode cX6_all 0 = .ok (.lconst 0, 1) := by decide +kernel
theorem dX6_all_1 : decode cX6_all 1 = .ok (.lstore 4, 2) := by decide +kernel
theorem dX6_all_3 : decode cX6_all 3 = .ok (.iconst 0, 1) := by decide +kernel
theorem dX6_all_4 : decode cX6_all 4 = .ok (.istore 6, 2) := by decide +kernel
theorem dX6_all_6 : decode cX6_all 6 = .ok (.iload 6, 2) := by decide +kernel
theorem dX6_all_8 : decode cX6_all 8 = .ok (.aload_n 0, 1) := by decide +kernel
theorem dX6_all_9 : decode cX6_all 9 = .ok (.getfield 13, 3) := by decide +kernel
theorem dX6_all_12 : decode cX6_all 12 = .ok (.iload_n 1, 1) := by decide +kernel
theorem dX6_all_13 : decode cX6_all 13 = .ok (.iaload, 1) := by decide +kernel
theorem dX6_all_14 : decode cX6_all 14 = .ok (.if_icmp .ge 41, 3) := by decide +kernel
theorem dX6_all_17 : decode cX6_all 17 = .ok (.lload 4, 2) := by decide +kernel
theorem dX6_all_19 : decode cX6_all 19 = .ok (.lload_n 2, 1) := by decide +kernel
theorem dX6_all_20 : decode cX6_all 20 = .ok (.iload 6, 2) := by decide +kernel
theorem dX6_all_22 : decode cX6_all 22 = .ok (.lshr, 1) := by decide +kernel
theorem dX6_all_23 : decode cX6_all 23 = .ok (.lconst 1, 1) := by decide +kernel
theorem dX6_all_24 : decode cX6_all 24 = .ok (.land, 1) := by decide +kernel
theorem dX6_all_25 : decode cX6_all 25 = .ok (.lconst 1, 1) := by decide +kernel
theorem dX6_all_26 : decode cX6_all 26 = .ok (.lcmp, 1) := by decide +kernel
theorem dX6_all_27 : decode cX6_all 27 = .ok (.ifCond .ne 18, 3) := by decide +kernel
theorem dX6_all_30 : decode cX6_all 30 = .ok (.aload_n 0, 1) := by decide +kernel
theorem dX6_all_31 : decode cX6_all 31 = .ok (.getfield 28, 3) := by decide +kernel
theorem dX6_all_34 : decode cX6_all 34 = .ok (.bipush 32, 2) := by decide +kernel
theorem dX6_all_36 : decode cX6_all 36 = .ok (.iload_n 1, 1) := by decide +kernel
theorem dX6_all_37 : decode cX6_all 37 = .ok (.imul, 1) := by decide +kernel
theorem dX6_all_38 : decode cX6_all 38 = .ok (.iload 6, 2) := by decide +kernel
theorem dX6_all_40 : decode cX6_all 40 = .ok (.iadd, 1) := by decide +kernel
theorem dX6_all_41 : decode cX6_all 41 = .ok (.laload, 1) := by decide +kernel
theorem dX6_all_42 : decode cX6_all 42 = .ok (.goto 4, 3) := by decide +kernel
theorem dX6_all_45 : decode cX6_all 45 = .ok (.lconst 0, 1) := by decide +kernel
theorem dX6_all_46 : decode cX6_all 46 = .ok (.lxor, 1) := by decide +kernel
theorem dX6_all_47 : decode cX6_all 47 = .ok (.lstore 4, 2) := by decide +kernel
theorem dX6_all_49 : decode cX6_all 49 = .ok (.iinc 6 1, 3) := by decide +kernel
theorem dX6_all_52 : decode cX6_all 52 = .ok (.goto (-46), 3) := by decide +kernel
theorem dX6_all_55 : decode cX6_all 55 = .ok (.lload 4, 2) := by decide +kernel
theorem dX6_all_57 : decode cX6_all 57 = .ok (.lreturn, 1) := by decide +kernel
theorem dX6_output_0 : decode cX6_output 0 = .ok (.aload_n 0, 1) := by decide +kernel
theorem dX6_output_1 : decode cX6_output 1 = .ok (.iload_n 1, 1) := by decide +kernel
theorem dX6_output_2 : decode cX6_output 2 = .ok (.iload_n 2, 1) := by decide +kernel
theorem dX6_output_3 : decode cX6_output 3 = .ok (.invokevirtual 92, 3) := by decide +kernel
theorem dX6_output_6 : decode cX6_output 6 = .ok (.lstore_n 3, 1) := by decide +kernel
theorem dX6_output_7 : decode cX6_output 7 = .ok (.aload_n 0, 1) := by decide +kernel
theorem dX6_output_8 : decode cX6_output 8 = .ok (.iload_n 1, 1) := by decide +kernel
theorem dX6_output_9 : decode cX6_output 9 = .ok (.lload_n 3, 1) := by decide +kernel
theorem dX6_output_10 : decode cX6_output 10 = .ok (.invokevirtual 89, 3) := by decide +kernel
theorem dX6_output_13 : decode cX6_output 13 = .ok (.lstore 5, 2) := by decide +kernel
theorem dX6_output_15 : decode cX6_output 15 = .ok (.iconst 0, 1) := by decide +kernel
theorem dX6_output_16 : decode cX6_output 16 = .ok (.istore 7, 2) := by decide +kernel
theorem dX6_output_18 : decode cX6_output 18 = .ok (.iload 7, 2) := by decide +kernel
theorem dX6_output_20 : decode cX6_output 20 = .ok (.aload_n 0, 1) := by decide +kernel
theorem dX6_output_21 : decode cX6_output 21 = .ok (.getfield 16, 3) := by decide +kernel
theorem dX6_output_24 : decode cX6_output 24 = .ok (.iload_n 1, 1) := by decide +kernel
theorem dX6_output_25 : decode cX6_output 25 = .ok (.iaload, 1) := by decide +kernel
theorem dX6_output_26 : decode cX6_output 26 = .ok (.if_icmp .ge 48, 3) := by decide +kernel
theorem dX6_output_29 : decode cX6_output 29 = .ok (.lload 5, 2) := by decide +kernel
theorem dX6_output_31 : decode cX6_output 31 = .ok (.lload_n 3, 1) := by decide +kernel
theorem dX6_output_32 : decode cX6_output 32 = .ok (.aload_n 0, 1) := by decide +kernel
theorem dX6_output_33 : decode cX6_output 33 = .ok (.getfield 13, 3) := by decide +kernel
theorem dX6_output_36 : decode cX6_output 36 = .ok (.iload_n 1, 1) := by decide +kernel
theorem dX6_output_37 : decode cX6_output 37 = .ok (.iaload, 1) := by decide +kernel
theorem dX6_output_38 : decode cX6_output 38 = .ok (.iload 7, 2) := by decide +kernel
theorem dX6_output_40 : decode cX6_output 40 = .ok (.iadd, 1) := by decide +kernel
theorem dX6_output_41 : decode cX6_output 41 = .ok (.lshr, 1) := by decide +kernel
theorem dX6_output_42 : decode cX6_output 42 = .ok (.lconst 1, 1) := by decide +kernel
theorem dX6_output_43 : decode cX6_output 43 = .ok (.land, 1) := by decide +kernel
theorem dX6_output_44 : decode cX6_output 44 = .ok (.lconst 1, 1) := by decide +kernel
theorem dX6_output_45 : decode cX6_output 45 = .ok (.lcmp, 1) := by decide +kernel
theorem dX6_output_46 : decode cX6_output 46 = .ok (.ifCond .ne 18, 3) := by decide +kernel
theorem dX6_output_49 : decode cX6_output 49 = .ok (.aload_n 0, 1) := by decide +kernel
theorem dX6_output_50 : decode cX6_output 50 = .ok (.iload_n 1, 1) := by decide +kernel
theorem dX6_output_51 : decode cX6_output 51 = .ok (.aload_n 0, 1) := by decide +kernel
theorem dX6_output_52 : decode cX6_output 52 = .ok (.iload_n 1, 1) := by decide +kernel
theorem dX6_output_53 : decode cX6_output 53 = .ok (.iload 7, 2) := by decide +kernel
theorem dX6_output_55 : decode cX6_output 55 = .ok (.invokevirtual 85, 3) := by decide +kernel
theorem dX6_output_58 : decode cX6_output 58 = .ok (.invokevirtual 89, 3) := by decide +kernel
theorem dX6_output_61 : decode cX6_output 61 = .ok (.goto 4, 3) := by decide +kernel
theorem dX6_output_64 : decode cX6_output 64 = .ok (.lconst 0, 1) := by decide +kernel
theorem dX6_output_65 : decode cX6_output 65 = .ok (.lxor, 1) := by decide +kernel
theorem dX6_output_66 : decode cX6_output 66 = .ok (.lstore 5, 2) := by decide +kernel
theorem dX6_output_68 : decode cX6_output 68 = .ok (.iinc 7 1, 3) := by decide +kernel
theorem dX6_output_71 : decode cX6_output 71 = .ok (.goto (-53), 3) := by decide +kernel
theorem dX6_output_74 : decode cX6_output 74 = .ok (.lload 5, 2) := by decide +kernel
theorem dX6_output_76 : decode cX6_output 76 = .ok (.lreturn, 1) := by decide +kernel
theorem dX6_row_0 : decode cX6_row 0 = .ok (.aload_n 0, 1) := by decide +kernel
theorem dX6_row_1 : decode cX6_row 1 = .ok (.iload_n 1, 1) := by decide +kernel
theorem dX6_row_2 : decode cX6_row 2 = .ok (.invokevirtual 63, 3) := by decide +kernel
theorem dX6_row_5 : decode cX6_row 5 = .ok (.ifCond .ne 9, 3) := by decide +kernel
theorem dX6_row_8 : decode cX6_row 8 = .ok (.ldc2_w 95, 3) := by decide +kernel
theorem dX6_row_11 : decode cX6_row 11 = .ok (.goto 25, 3) := by decide +kernel
theorem dX6_row_14 : decode cX6_row 14 = .ok (.iload_n 2, 1) := by decide +kernel
theorem dX6_row_15 : decode cX6_row 15 = .ok (.ifCond .lt 9, 3) := by decide +kernel
theorem dX6_row_18 : decode cX6_row 18 = .ok (.iload_n 2, 1) := by decide +kernel
theorem dX6_row_19 : decode cX6_row 19 = .ok (.ldc 97, 2) := by decide +kernel
theorem dX6_row_21 : decode cX6_row 21 = .ok (.if_icmp .le 9, 3) := by decide +kernel
theorem dX6_row_24 : decode cX6_row 24 = .ok (.ldc2_w 98, 3) := by decide +kernel
theorem dX6_row_27 : decode cX6_row 27 = .ok (.goto 9, 3) := by decide +kernel
theorem dX6_row_30 : decode cX6_row 30 = .ok (.aload_n 0, 1) := by decide +kernel
theorem dX6_row_31 : decode cX6_row 31 = .ok (.iload_n 1, 1) := by decide +kernel
theorem dX6_row_32 : decode cX6_row 32 = .ok (.iload_n 2, 1) := by decide +kernel
theorem dX6_row_33 : decode cX6_row 33 = .ok (.invokevirtual 92, 3) := by decide +kernel
theorem dX6_row_36 : decode cX6_row 36 = .ok (.lreturn, 1) := by decide +kernel
theorem dX6_sumRow_0 : decode cX6_sumRow 0 = .ok (.aload_n 0, 1) := by decide +kernel
theorem dX6_sumRow_1 : decode cX6_sumRow 1 = .ok (.iload_n 1, 1) := by decide +kernel
theorem dX6_sumRow_2 : decode cX6_sumRow 2 = .ok (.invokevirtual 63, 3) := by decide +kernel
theorem dX6_sumRow_5 : decode cX6_sumRow 5 = .ok (.ifCond .eq 17, 3) := by decide +kernel
theorem dX6_sumRow_8 : decode cX6_sumRow 8 = .ok (.iload_n 2, 1) := by decide +kernel
theorem dX6_sumRow_9 : decode cX6_sumRow 9 = .ok (.ifCond .lt 13, 3) := by decide +kernel
theorem dX6_sumRow_12 : decode cX6_sumRow 12 = .ok (.iload_n 2, 1) := by decide +kernel
theorem dX6_sumRow_13 : decode cX6_sumRow 13 = .ok (.aload_n 0, 1) := by decide +kernel
theorem dX6_sumRow_14 : decode cX6_sumRow 14 = .ok (.getfield 16, 3) := by decide +kernel
theorem dX6_sumRow_17 : decode cX6_sumRow 17 = .ok (.iload_n 1, 1) := by decide +kernel
theorem dX6_sumRow_18 : decode cX6_sumRow 18 = .ok (.iaload, 1) := by decide +kernel
theorem dX6_sumRow_19 : decode cX6_sumRow 19 = .ok (.if_icmp .lt 9, 3) := by decide +kernel
theorem dX6_sumRow_22 : decode cX6_sumRow 22 = .ok (.ldc2_w 95, 3) := by decide +kernel
theorem dX6_sumRow_25 : decode cX6_sumRow 25 = .ok (.goto 9, 3) := by decide +kernel
theorem dX6_sumRow_28 : decode cX6_sumRow 28 = .ok (.aload_n 0, 1) := by decide +kernel
theorem dX6_sumRow_29 : decode cX6_sumRow 29 = .ok (.iload_n 1, 1) := by decide +kernel
theorem dX6_sumRow_30 : decode cX6_sumRow 30 = .ok (.iload_n 2, 1) := by decide +kernel
theorem dX6_sumRow_31 : decode cX6_sumRow 31 = .ok (.invokevirtual 85, 3) := by decide +kernel
theorem dX6_sumRow_34 : decode cX6_sumRow 34 = .ok (.lreturn, 1) := by decide +kernel
theorem dX6_part_0 : decode cX6_part 0 = .ok (.aload_n 0, 1) := by decide +kernel
theorem dX6_part_1 : decode cX6_part 1 = .ok (.iload_n 1, 1) := by decide +kernel
theorem dX6_part_2 : decode cX6_part 2 = .ok (.iload_n 2, 1) := by decide +kernel
theorem dX6_part_3 : decode cX6_part 3 = .ok (.invokevirtual 100, 3) := by decide +kernel
theorem dX6_part_6 : decode cX6_part 6 = .ok (.ifCond .eq 12, 3) := by decide +kernel
theorem dX6_part_9 : decode cX6_part 9 = .ok (.aload_n 0, 1) := by decide +kernel
theorem dX6_part_10 : decode cX6_part 10 = .ok (.iload_n 1, 1) := by decide +kernel
theorem dX6_part_11 : decode cX6_part 11 = .ok (.iload_n 2, 1) := by decide +kernel
theorem dX6_part_12 : decode cX6_part 12 = .ok (.invokevirtual 104, 3) := by decide +kernel
theorem dX6_part_15 : decode cX6_part 15 = .ok (.goto 4, 3) := by decide +kernel
theorem dX6_part_18 : decode cX6_part 18 = .ok (.lconst 0, 1) := by decide +kernel
theorem dX6_part_19 : decode cX6_part 19 = .ok (.lreturn, 1) := by decide +kernel
theorem dX6_sum_0 : decode cX6_sum 0 = .ok (.ldc 97, 2) := by decide +kernel
theorem dX6_sum_2 : decode cX6_sum 2 = .ok (.istore_n 3, 1) := by decide +kernel
theorem dX6_sum_3 : decode cX6_sum 3 = .ok (.iconst 0, 1) := by decide +kernel
theorem dX6_sum_4 : decode cX6_sum 4 = .ok (.istore 4, 2) := by decide +kernel
theorem dX6_sum_6 : decode cX6_sum 6 = .ok (.iload 4, 2) := by decide +kernel
theorem dX6_sum_8 : decode cX6_sum 8 = .ok (.iload_n 2, 1) := by decide +kernel
theorem dX6_sum_9 : decode cX6_sum 9 = .ok (.if_icmp .ge 58, 3) := by decide +kernel
theorem dX6_sum_12 : decode cX6_sum 12 = .ok (.iload_n 3, 1) := by decide +kernel
theorem dX6_sum_13 : decode cX6_sum 13 = .ok (.aload_n 1, 1) := by decide +kernel
theorem dX6_sum_14 : decode cX6_sum 14 = .ok (.iload 4, 2) := by decide +kernel
theorem dX6_sum_16 : decode cX6_sum 16 = .ok (.iaload, 1) := by decide +kernel
theorem dX6_sum_17 : decode cX6_sum 17 = .ok (.bipush 8, 2) := by decide +kernel
theorem dX6_sum_19 : decode cX6_sum 19 = .ok (.ishl, 1) := by decide +kernel
theorem dX6_sum_20 : decode cX6_sum 20 = .ok (.ixor, 1) := by decide +kernel
theorem dX6_sum_21 : decode cX6_sum 21 = .ok (.istore_n 3, 1) := by decide +kernel
theorem dX6_sum_22 : decode cX6_sum 22 = .ok (.iconst 0, 1) := by decide +kernel
theorem dX6_sum_23 : decode cX6_sum 23 = .ok (.istore 5, 2) := by decide +kernel
theorem dX6_sum_25 : decode cX6_sum 25 = .ok (.iload 5, 2) := by decide +kernel
theorem dX6_sum_27 : decode cX6_sum 27 = .ok (.bipush 8, 2) := by decide +kernel
theorem dX6_sum_29 : decode cX6_sum 29 = .ok (.if_icmp .ge 32, 3) := by decide +kernel
theorem dX6_sum_32 : decode cX6_sum 32 = .ok (.iload_n 3, 1) := by decide +kernel
theorem dX6_sum_33 : decode cX6_sum 33 = .ok (.iconst 1, 1) := by decide +kernel
theorem dX6_sum_34 : decode cX6_sum 34 = .ok (.ishl, 1) := by decide +kernel
theorem dX6_sum_35 : decode cX6_sum 35 = .ok (.istore_n 3, 1) := by decide +kernel
theorem dX6_sum_36 : decode cX6_sum 36 = .ok (.iload_n 3, 1) := by decide +kernel
theorem dX6_sum_37 : decode cX6_sum 37 = .ok (.ldc 97, 2) := by decide +kernel
theorem dX6_sum_39 : decode cX6_sum 39 = .ok (.if_icmp .le 14, 3) := by decide +kernel
theorem dX6_sum_42 : decode cX6_sum 42 = .ok (.iload_n 3, 1) := by decide +kernel
theorem dX6_sum_43 : decode cX6_sum 43 = .ok (.sipush 4129, 3) := by decide +kernel
theorem dX6_sum_46 : decode cX6_sum 46 = .ok (.ixor, 1) := by decide +kernel
theorem dX6_sum_47 : decode cX6_sum 47 = .ok (.ldc 97, 2) := by decide +kernel
theorem dX6_sum_49 : decode cX6_sum 49 = .ok (.iand, 1) := by decide +kernel
theorem dX6_sum_50 : decode cX6_sum 50 = .ok (.goto 4, 3) := by decide +kernel
theorem dX6_sum_53 : decode cX6_sum 53 = .ok (.iload_n 3, 1) := by decide +kernel
theorem dX6_sum_54 : decode cX6_sum 54 = .ok (.istore_n 3, 1) := by decide +kernel
theorem dX6_sum_55 : decode cX6_sum 55 = .ok (.iinc 5 1, 3) := by decide +kernel
theorem dX6_sum_58 : decode cX6_sum 58 = .ok (.goto (-33), 3) := by decide +kernel
theorem dX6_sum_61 : decode cX6_sum 61 = .ok (.iinc 4 1, 3) := by decide +kernel
theorem dX6_sum_64 : decode cX6_sum 64 = .ok (.goto (-58), 3) := by decide +kernel
theorem dX6_sum_67 : decode cX6_sum 67 = .ok (.iload_n 3, 1) := by decide +kernel
theorem dX6_sum_68 : decode cX6_sum 68 = .ok (.ireturn, 1) := by decide +kernel
theorem dX6_frame_0 : decode cX6_frame 0 = .ok (.aload_n 0, 1) := by decide +kernel
theorem dX6_frame_1 : decode cX6_frame 1 = .ok (.iload_n 1, 1) := by decide +kernel
theorem dX6_frame_2 : decode cX6_frame 2 = .ok (.invokevirtual 63, 3) := by decide +kernel
theorem dX6_frame_5 : decode cX6_frame 5 = .ok (.ifCond .ne 5, 3) := by decide +kernel
theorem dX6_frame_8 : decode cX6_frame 8 = .ok (.iconst (-1), 1) := by decide +kernel
theorem dX6_frame_9 : decode cX6_frame 9 = .ok (.ireturn, 1) := by decide +kernel
theorem dX6_frame_10 : decode cX6_frame 10 = .ok (.iload_n 2, 1) := by decide +kernel
theorem dX6_frame_11 : decode cX6_frame 11 = .ok (.ifCond .lt 9, 3) := by decide +kernel
theorem dX6_frame_14 : decode cX6_frame 14 = .ok (.iload_n 2, 1) := by decide +kernel
theorem dX6_frame_15 : decode cX6_frame 15 = .ok (.ldc 97, 2) := by decide +kernel
theorem dX6_frame_17 : decode cX6_frame 17 = .ok (.if_icmp .le 6, 3) := by decide +kernel
theorem dX6_frame_20 : decode cX6_frame 20 = .ok (.bipush (-2), 2) := by decide +kernel
theorem dX6_frame_22 : decode cX6_frame 22 = .ok (.ireturn, 1) := by decide +kernel
theorem dX6_frame_23 : decode cX6_frame 23 = .ok (.aload_n 0, 1) := by decide +kernel
theorem dX6_frame_24 : decode cX6_frame 24 = .ok (.iconst 1, 1) := by decide +kernel
theorem dX6_frame_25 : decode cX6_frame 25 = .ok (.putfield 107, 3) := by decide +kernel
theorem dX6_frame_28 : decode cX6_frame 28 = .ok (.aload_n 0, 1) := by decide +kernel
theorem dX6_frame_29 : decode cX6_frame 29 = .ok (.iload_n 1, 1) := by decide +kernel
theorem dX6_frame_30 : decode cX6_frame 30 = .ok (.putfield 111, 3) := by decide +kernel
theorem dX6_frame_33 : decode cX6_frame 33 = .ok (.aload_n 0, 1) := by decide +kernel
theorem dX6_frame_34 : decode cX6_frame 34 = .ok (.getfield 19, 3) := by decide +kernel
theorem dX6_frame_37 : decode cX6_frame 37 = .ok (.iload_n 1, 1) := by decide +kernel
theorem dX6_frame_38 : decode cX6_frame 38 = .ok (.iaload, 1) := by decide +kernel
theorem dX6_frame_39 : decode cX6_frame 39 = .ok (.istore_n 3, 1) := by decide +kernel
theorem dX6_frame_40 : decode cX6_frame 40 = .ok (.aload_n 0, 1) := by decide +kernel
theorem dX6_frame_41 : decode cX6_frame 41 = .ok (.iload_n 3, 1) := by decide +kernel
theorem dX6_frame_42 : decode cX6_frame 42 = .ok (.iconst 4, 1) := by decide +kernel
theorem dX6_frame_43 : decode cX6_frame 43 = .ok (.iadd, 1) := by decide +kernel
theorem dX6_frame_44 : decode cX6_frame 44 = .ok (.putfield 114, 3) := by decide +kernel
theorem dX6_frame_47 : decode cX6_frame 47 = .ok (.aload_n 0, 1) := by decide +kernel
theorem dX6_frame_48 : decode cX6_frame 48 = .ok (.getfield 44, 3) := by decide +kernel
theorem dX6_frame_51 : decode cX6_frame 51 = .ok (.iconst 0, 1) := by decide +kernel
theorem dX6_frame_52 : decode cX6_frame 52 = .ok (.iload_n 2, 1) := by decide +kernel
theorem dX6_frame_53 : decode cX6_frame 53 = .ok (.bipush 8, 2) := by decide +kernel
theorem dX6_frame_55 : decode cX6_frame 55 = .ok (.ishr, 1) := by decide +kernel
theorem dX6_frame_56 : decode cX6_frame 56 = .ok (.iastore, 1) := by decide +kernel
theorem dX6_frame_57 : decode cX6_frame 57 = .ok (.aload_n 0, 1) := by decide +kernel
theorem dX6_frame_58 : decode cX6_frame 58 = .ok (.getfield 44, 3) := by decide +kernel
theorem dX6_frame_61 : decode cX6_frame 61 = .ok (.iconst 1, 1) := by decide +kernel
theorem dX6_frame_62 : decode cX6_frame 62 = .ok (.iload_n 2, 1) := by decide +kernel
theorem dX6_frame_63 : decode cX6_frame 63 = .ok (.sipush 255, 3) := by decide +kernel
theorem dX6_frame_66 : decode cX6_frame 66 = .ok (.iand, 1) := by decide +kernel
theorem dX6_frame_67 : decode cX6_frame 67 = .ok (.iastore, 1) := by decide +kernel
theorem dX6_frame_68 : decode cX6_frame 68 = .ok (.aload_n 0, 1) := by decide +kernel
theorem dX6_frame_69 : decode cX6_frame 69 = .ok (.iload_n 1, 1) := by decide +kernel
theorem dX6_frame_70 : decode cX6_frame 70 = .ok (.iload_n 2, 1) := by decide +kernel
theorem dX6_frame_71 : decode cX6_frame 71 = .ok (.invokevirtual 117, 3) := by decide +kernel
theorem dX6_frame_74 : decode cX6_frame 74 = .ok (.lstore 4, 2) := by decide +kernel
theorem dX6_frame_76 : decode cX6_frame 76 = .ok (.iconst 0, 1) := by decide +kernel
theorem dX6_frame_77 : decode cX6_frame 77 = .ok (.istore 6, 2) := by decide +kernel
theorem dX6_frame_79 : decode cX6_frame 79 = .ok (.iload 6, 2) := by decide +kernel
theorem dX6_frame_81 : decode cX6_frame 81 = .ok (.iload_n 3, 1) := by decide +kernel
theorem dX6_frame_82 : decode cX6_frame 82 = .ok (.if_icmp .ge 35, 3) := by decide +kernel
theorem dX6_frame_85 : decode cX6_frame 85 = .ok (.aload_n 0, 1) := by decide +kernel
theorem dX6_frame_86 : decode cX6_frame 86 = .ok (.getfield 44, 3) := by decide +kernel
theorem dX6_frame_89 : decode cX6_frame 89 = .ok (.iconst 2, 1) := by decide +kernel
theorem dX6_frame_90 : decode cX6_frame 90 = .ok (.iload 6, 2) := by decide +kernel
theorem dX6_frame_92 : decode cX6_frame 92 = .ok (.iadd, 1) := by decide +kernel
theorem dX6_frame_93 : decode cX6_frame 93 = .ok (.lload 4, 2) := by decide +kernel
theorem dX6_frame_95 : decode cX6_frame 95 = .ok (.bipush 8, 2) := by decide +kernel
theorem dX6_frame_97 : decode cX6_frame 97 = .ok (.iload_n 3, 1) := by decide +kernel
theorem dX6_frame_98 : decode cX6_frame 98 = .ok (.iconst 1, 1) := by decide +kernel
theorem dX6_frame_99 : decode cX6_frame 99 = .ok (.isub, 1) := by decide +kernel
theorem dX6_frame_100 : decode cX6_frame 100 = .ok (.iload 6, 2) := by decide +kernel
theorem dX6_frame_102 : decode cX6_frame 102 = .ok (.isub, 1) := by decide +kernel
theorem dX6_frame_103 : decode cX6_frame 103 = .ok (.imul, 1) := by decide +kernel
