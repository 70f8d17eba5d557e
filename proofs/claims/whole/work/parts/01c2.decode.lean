theorem dX6_told_92 : decode cX6_told 92 = .ok (.iload_n 3, 1) := by decide +kernel
theorem dX6_told_93 : decode cX6_told 93 = .ok (.aload_n 0, 1) := by decide +kernel
theorem dX6_told_94 : decode cX6_told 94 = .ok (.iload 4, 2) := by decide +kernel
theorem dX6_told_96 : decode cX6_told 96 = .ok (.invokevirtual 173, 3) := by decide +kernel
theorem dX6_told_99 : decode cX6_told 99 = .ok (.ifCond .eq 7, 3) := by decide +kernel
theorem dX6_told_102 : decode cX6_told 102 = .ok (.iconst 1, 1) := by decide +kernel
theorem dX6_told_103 : decode cX6_told 103 = .ok (.goto 4, 3) := by decide +kernel
theorem dX6_told_106 : decode cX6_told 106 = .ok (.iconst 0, 1) := by decide +kernel
theorem dX6_told_107 : decode cX6_told 107 = .ok (.iadd, 1) := by decide +kernel
theorem dX6_told_108 : decode cX6_told 108 = .ok (.istore_n 3, 1) := by decide +kernel
theorem dX6_told_109 : decode cX6_told 109 = .ok (.iinc 4 1, 3) := by decide +kernel
theorem dX6_told_112 : decode cX6_told 112 = .ok (.goto (-30), 3) := by decide +kernel
theorem dX6_told_115 : decode cX6_told 115 = .ok (.iload_n 3, 1) := by decide +kernel
theorem dX6_told_116 : decode cX6_told 116 = .ok (.ireturn, 1) := by decide +kernel
theorem dX6_told_117 : decode cX6_told 117 = .ok (.iload_n 2, 1) := by decide +kernel
theorem dX6_told_118 : decode cX6_told 118 = .ok (.bipush 7, 2) := by decide +kernel
theorem dX6_told_120 : decode cX6_told 120 = .ok (.if_icmp .ge 30, 3) := by decide +kernel
theorem dX6_told_123 : decode cX6_told 123 = .ok (.aload_n 0, 1) := by decide +kernel
theorem dX6_told_124 : decode cX6_told 124 = .ok (.iload_n 1, 1) := by decide +kernel
theorem dX6_told_125 : decode cX6_told 125 = .ok (.iload_n 2, 1) := by decide +kernel
theorem dX6_told_126 : decode cX6_told 126 = .ok (.iconst 4, 1) := by decide +kernel
theorem dX6_told_127 : decode cX6_told 127 = .ok (.if_icmp .ne 7, 3) := by decide +kernel
theorem dX6_told_130 : decode cX6_told 130 = .ok (.iconst 1, 1) := by decide +kernel
theorem dX6_told_131 : decode cX6_told 131 = .ok (.goto 13, 3) := by decide +kernel
theorem dX6_told_134 : decode cX6_told 134 = .ok (.iload_n 2, 1) := by decide +kernel
theorem dX6_told_135 : decode cX6_told 135 = .ok (.iconst 5, 1) := by decide +kernel
theorem dX6_told_136 : decode cX6_told 136 = .ok (.if_icmp .ne 7, 3) := by decide +kernel
theorem dX6_told_139 : decode cX6_told 139 = .ok (.iconst 2, 1) := by decide +kernel
theorem dX6_told_140 : decode cX6_told 140 = .ok (.goto 4, 3) := by decide +kernel
theorem dX6_told_143 : decode cX6_told 143 = .ok (.iconst 0, 1) := by decide +kernel
theorem dX6_told_144 : decode cX6_told 144 = .ok (.invokevirtual 176, 3) := by decide +kernel
theorem dX6_told_147 : decode cX6_told 147 = .ok (.goto 16, 3) := by decide +kernel
theorem dX6_told_150 : decode cX6_told 150 = .ok (.aload_n 0, 1) := by decide +kernel
theorem dX6_told_151 : decode cX6_told 151 = .ok (.getfield 41, 3) := by decide +kernel
theorem dX6_told_154 : decode cX6_told 154 = .ok (.iconst 3, 1) := by decide +kernel
theorem dX6_told_155 : decode cX6_told 155 = .ok (.iload_n 1, 1) := by decide +kernel
theorem dX6_told_156 : decode cX6_told 156 = .ok (.imul, 1) := by decide +kernel
theorem dX6_told_157 : decode cX6_told 157 = .ok (.iload_n 2, 1) := by decide +kernel
theorem dX6_told_158 : decode cX6_told 158 = .ok (.iadd, 1) := by decide +kernel
theorem dX6_told_159 : decode cX6_told 159 = .ok (.bipush 7, 2) := by decide +kernel
theorem dX6_told_161 : decode cX6_told 161 = .ok (.isub, 1) := by decide +kernel
theorem dX6_told_162 : decode cX6_told 162 = .ok (.iaload, 1) := by decide +kernel
theorem dX6_told_163 : decode cX6_told 163 = .ok (.ireturn, 1) := by decide +kernel
theorem dX6_taken_0 : decode cX6_taken 0 = .ok (.aload_n 0, 1) := by decide +kernel
theorem dX6_taken_1 : decode cX6_taken 1 = .ok (.iload_n 1, 1) := by decide +kernel
theorem dX6_taken_2 : decode cX6_taken 2 = .ok (.invokevirtual 63, 3) := by decide +kernel
theorem dX6_taken_5 : decode cX6_taken 5 = .ok (.ifCond .eq 17, 3) := by decide +kernel
theorem dX6_taken_8 : decode cX6_taken 8 = .ok (.iload_n 2, 1) := by decide +kernel
theorem dX6_taken_9 : decode cX6_taken 9 = .ok (.ifCond .lt 13, 3) := by decide +kernel
theorem dX6_taken_12 : decode cX6_taken 12 = .ok (.iload_n 2, 1) := by decide +kernel
theorem dX6_taken_13 : decode cX6_taken 13 = .ok (.aload_n 0, 1) := by decide +kernel
theorem dX6_taken_14 : decode cX6_taken 14 = .ok (.getfield 38, 3) := by decide +kernel
theorem dX6_taken_17 : decode cX6_taken 17 = .ok (.iload_n 1, 1) := by decide +kernel
theorem dX6_taken_18 : decode cX6_taken 18 = .ok (.iaload, 1) := by decide +kernel
theorem dX6_taken_19 : decode cX6_taken 19 = .ok (.if_icmp .lt 7, 3) := by decide +kernel
theorem dX6_taken_22 : decode cX6_taken 22 = .ok (.iconst (-1), 1) := by decide +kernel
theorem dX6_taken_23 : decode cX6_taken 23 = .ok (.goto 14, 3) := by decide +kernel
theorem dX6_taken_26 : decode cX6_taken 26 = .ok (.aload_n 0, 1) := by decide +kernel
theorem dX6_taken_27 : decode cX6_taken 27 = .ok (.getfield 32, 3) := by decide +kernel
theorem dX6_taken_30 : decode cX6_taken 30 = .ok (.bipush 64, 2) := by decide +kernel
theorem dX6_taken_32 : decode cX6_taken 32 = .ok (.iload_n 1, 1) := by decide +kernel
theorem dX6_taken_33 : decode cX6_taken 33 = .ok (.imul, 1) := by decide +kernel
theorem dX6_taken_34 : decode cX6_taken 34 = .ok (.iload_n 2, 1) := by decide +kernel
theorem dX6_taken_35 : decode cX6_taken 35 = .ok (.iadd, 1) := by decide +kernel
theorem dX6_taken_36 : decode cX6_taken 36 = .ok (.iaload, 1) := by decide +kernel
theorem dX6_taken_37 : decode cX6_taken 37 = .ok (.ireturn, 1) := by decide +kernel
theorem dX6_isKnown_0 : decode cX6_isKnown 0 = .ok (.aload_n 0, 1) := by decide +kernel
theorem dX6_isKnown_1 : decode cX6_isKnown 1 = .ok (.iload_n 1, 1) := by decide +kernel
theorem dX6_isKnown_2 : decode cX6_isKnown 2 = .ok (.iload_n 2, 1) := by decide +kernel
theorem dX6_isKnown_3 : decode cX6_isKnown 3 = .ok (.invokevirtual 100, 3) := by decide +kernel
theorem dX6_isKnown_6 : decode cX6_isKnown 6 = .ok (.ifCond .ne 5, 3) := by decide +kernel
theorem dX6_isKnown_9 : decode cX6_isKnown 9 = .ok (.iconst (-1), 1) := by decide +kernel
theorem dX6_isKnown_10 : decode cX6_isKnown 10 = .ok (.ireturn, 1) := by decide +kernel
theorem dX6_isKnown_11 : decode cX6_isKnown 11 = .ok (.aload_n 0, 1) := by decide +kernel
theorem dX6_isKnown_12 : decode cX6_isKnown 12 = .ok (.iload_n 1, 1) := by decide +kernel
theorem dX6_isKnown_13 : decode cX6_isKnown 13 = .ok (.invokevirtual 147, 3) := by decide +kernel
theorem dX6_isKnown_16 : decode cX6_isKnown 16 = .ok (.aload_n 0, 1) := by decide +kernel
theorem dX6_isKnown_17 : decode cX6_isKnown 17 = .ok (.iload_n 2, 1) := by decide +kernel
theorem dX6_isKnown_18 : decode cX6_isKnown 18 = .ok (.invokevirtual 173, 3) := by decide +kernel
theorem dX6_isKnown_21 : decode cX6_isKnown 21 = .ok (.ifCond .eq 7, 3) := by decide +kernel
theorem dX6_isKnown_24 : decode cX6_isKnown 24 = .ok (.iconst 1, 1) := by decide +kernel
theorem dX6_isKnown_25 : decode cX6_isKnown 25 = .ok (.goto 4, 3) := by decide +kernel
theorem dX6_isKnown_28 : decode cX6_isKnown 28 = .ok (.iconst 0, 1) := by decide +kernel
theorem dX6_isKnown_29 : decode cX6_isKnown 29 = .ok (.ireturn, 1) := by decide +kernel
theorem dX6_known_0 : decode cX6_known 0 = .ok (.aload_n 0, 1) := by decide +kernel
theorem dX6_known_1 : decode cX6_known 1 = .ok (.iload_n 1, 1) := by decide +kernel
theorem dX6_known_2 : decode cX6_known 2 = .ok (.iload_n 2, 1) := by decide +kernel
theorem dX6_known_3 : decode cX6_known 3 = .ok (.invokevirtual 100, 3) := by decide +kernel
theorem dX6_known_6 : decode cX6_known 6 = .ok (.ifCond .ne 5, 3) := by decide +kernel
theorem dX6_known_9 : decode cX6_known 9 = .ok (.lconst 0, 1) := by decide +kernel
theorem dX6_known_10 : decode cX6_known 10 = .ok (.lreturn, 1) := by decide +kernel
theorem dX6_known_11 : decode cX6_known 11 = .ok (.aload_n 0, 1) := by decide +kernel
theorem dX6_known_12 : decode cX6_known 12 = .ok (.iload_n 1, 1) := by decide +kernel
theorem dX6_known_13 : decode cX6_known 13 = .ok (.invokevirtual 147, 3) := by decide +kernel
theorem dX6_known_16 : decode cX6_known 16 = .ok (.aload_n 0, 1) := by decide +kernel
theorem dX6_known_17 : decode cX6_known 17 = .ok (.iload_n 2, 1) := by decide +kernel
theorem dX6_known_18 : decode cX6_known 18 = .ok (.invokevirtual 173, 3) := by decide +kernel
theorem dX6_known_21 : decode cX6_known 21 = .ok (.ifCond .eq 10, 3) := by decide +kernel
theorem dX6_known_24 : decode cX6_known 24 = .ok (.aload_n 0, 1) := by decide +kernel
theorem dX6_known_25 : decode cX6_known 25 = .ok (.getfield 131, 3) := by decide +kernel
theorem dX6_known_28 : decode cX6_known 28 = .ok (.goto 4, 3) := by decide +kernel
theorem dX6_known_31 : decode cX6_known 31 = .ok (.lconst 0, 1) := by decide +kernel
theorem dX6_known_32 : decode cX6_known 32 = .ok (.lreturn, 1) := by decide +kernel
theorem dX6_peeled_0 : decode cX6_peeled 0 = .ok (.aload_n 0, 1) := by decide +kernel
theorem dX6_peeled_1 : decode cX6_peeled 1 = .ok (.iload_n 1, 1) := by decide +kernel
theorem dX6_peeled_2 : decode cX6_peeled 2 = .ok (.iload_n 2, 1) := by decide +kernel
theorem dX6_peeled_3 : decode cX6_peeled 3 = .ok (.invokevirtual 100, 3) := by decide +kernel
theorem dX6_peeled_6 : decode cX6_peeled 6 = .ok (.ifCond .ne 5, 3) := by decide +kernel
theorem dX6_peeled_9 : decode cX6_peeled 9 = .ok (.iconst (-1), 1) := by decide +kernel
theorem dX6_peeled_10 : decode cX6_peeled 10 = .ok (.ireturn, 1) := by decide +kernel
theorem dX6_peeled_11 : decode cX6_peeled 11 = .ok (.aload_n 0, 1) := by decide +kernel
theorem dX6_peeled_12 : decode cX6_peeled 12 = .ok (.iload_n 1, 1) := by decide +kernel
theorem dX6_peeled_13 : decode cX6_peeled 13 = .ok (.invokevirtual 170, 3) := by decide +kernel
theorem dX6_peeled_16 : decode cX6_peeled 16 = .ok (.aload_n 0, 1) := by decide +kernel
theorem dX6_peeled_17 : decode cX6_peeled 17 = .ok (.getfield 56, 3) := by decide +kernel
theorem dX6_peeled_20 : decode cX6_peeled 20 = .ok (.iload_n 2, 1) := by decide +kernel
theorem dX6_peeled_21 : decode cX6_peeled 21 = .ok (.iaload, 1) := by decide +kernel
theorem dX6_peeled_22 : decode cX6_peeled 22 = .ok (.ireturn, 1) := by decide +kernel
theorem dX6_say_0 : decode cX6_say 0 = .ok (.iload_n 3, 1) := by decide +kernel
theorem dX6_say_1 : decode cX6_say 1 = .ok (.iconst 1, 1) := by decide +kernel
theorem dX6_say_2 : decode cX6_say 2 = .ok (.isub, 1) := by decide +kernel
theorem dX6_say_3 : decode cX6_say 3 = .ok (.istore 4, 2) := by decide +kernel
theorem dX6_say_5 : decode cX6_say 5 = .ok (.iload 4, 2) := by decide +kernel
theorem dX6_say_7 : decode cX6_say 7 = .ok (.ifCond .lt 40, 3) := by decide +kernel
theorem dX6_say_10 : decode cX6_say 10 = .ok (.aload_n 0, 1) := by decide +kernel
theorem dX6_say_11 : decode cX6_say 11 = .ok (.getfield 47, 3) := by decide +kernel
theorem dX6_say_14 : decode cX6_say 14 = .ok (.aload_n 0, 1) := by decide +kernel
theorem dX6_say_15 : decode cX6_say 15 = .ok (.getfield 179, 3) := by decide +kernel
theorem dX6_say_18 : decode cX6_say 18 = .ok (.lload_n 1, 1) := by decide +kernel
theorem dX6_say_19 : decode cX6_say 19 = .ok (.bipush 8, 2) := by decide +kernel
theorem dX6_say_21 : decode cX6_say 21 = .ok (.iload 4, 2) := by decide +kernel
theorem dX6_say_23 : decode cX6_say 23 = .ok (.imul, 1) := by decide +kernel
theorem dX6_say_24 : decode cX6_say 24 = .ok (.lshr, 1) := by decide +kernel
theorem dX6_say_25 : decode cX6_say 25 = .ok (.l2i, 1) := by decide +kernel
theorem dX6_say_26 : decode cX6_say 26 = .ok (.sipush 255, 3) := by decide +kernel
theorem dX6_say_29 : decode cX6_say 29 = .ok (.iand, 1) := by decide +kernel
theorem dX6_say_30 : decode cX6_say 30 = .ok (.iastore, 1) := by decide +kernel
theorem dX6_say_31 : decode cX6_say 31 = .ok (.aload_n 0, 1) := by decide +kernel
theorem dX6_say_32 : decode cX6_say 32 = .ok (.dup, 1) := by decide +kernel
theorem dX6_say_33 : decode cX6_say 33 = .ok (.getfield 179, 3) := by decide +kernel
theorem dX6_say_36 : decode cX6_say 36 = .ok (.iconst 1, 1) := by decide +kernel
theorem dX6_say_37 : decode cX6_say 37 = .ok (.iadd, 1) := by decide +kernel
theorem dX6_say_38 : decode cX6_say 38 = .ok (.putfield 179, 3) := by decide +kernel
theorem dX6_say_41 : decode cX6_say 41 = .ok (.iinc 4 (-1), 3) := by decide +kernel
theorem dX6_say_44 : decode cX6_say 44 = .ok (.goto (-39), 3) := by decide +kernel
theorem dX6_say_47 : decode cX6_say 47 = .ok (.return_, 1) := by decide +kernel
theorem dX6_image_0 : decode cX6_image 0 = .ok (.aload_n 0, 1) := by decide +kernel
theorem dX6_image_1 : decode cX6_image 1 = .ok (.iload_n 1, 1) := by decide +kernel
theorem dX6_image_2 : decode cX6_image 2 = .ok (.invokevirtual 63, 3) := by decide +kernel
theorem dX6_image_5 : decode cX6_image 5 = .ok (.ifCond .ne 5, 3) := by decide +kernel
theorem dX6_image_8 : decode cX6_image 8 = .ok (.iconst (-1), 1) := by decide +kernel
theorem dX6_image_9 : decode cX6_image 9 = .ok (.ireturn, 1) := by decide +kernel
theorem dX6_image_10 : decode cX6_image 10 = .ok (.aload_n 0, 1) := by decide +kernel
theorem dX6_image_11 : decode cX6_image 11 = .ok (.iconst 0, 1) := by decide +kernel
theorem dX6_image_12 : decode cX6_image 12 = .ok (.putfield 179, 3) := by decide +kernel
theorem dX6_image_15 : decode cX6_image 15 = .ok (.aload_n 0, 1) := by decide +kernel
theorem dX6_image_16 : decode cX6_image 16 = .ok (.aload_n 0, 1) := by decide +kernel
theorem dX6_image_17 : decode cX6_image 17 = .ok (.getfield 13, 3) := by decide +kernel
theorem dX6_image_20 : decode cX6_image 20 = .ok (.iload_n 1, 1) := by decide +kernel
theorem dX6_image_21 : decode cX6_image 21 = .ok (.iaload, 1) := by decide +kernel
theorem dX6_image_22 : decode cX6_image 22 = .ok (.i2l, 1) := by decide +kernel
theorem dX6_image_23 : decode cX6_image 23 = .ok (.iconst 1, 1) := by decide +kernel
theorem dX6_image_24 : decode cX6_image 24 = .ok (.invokevirtual 182, 3) := by decide +kernel
theorem dX6_image_27 : decode cX6_image 27 = .ok (.aload_n 0, 1) := by decide +kernel
theorem dX6_image_28 : decode cX6_image 28 = .ok (.aload_n 0, 1) := by decide +kernel
theorem dX6_image_29 : decode cX6_image 29 = .ok (.getfield 16, 3) := by decide +kernel
theorem dX6_image_32 : decode cX6_image 32 = .ok (.iload_n 1, 1) := by decide +kernel
theorem dX6_image_33 : decode cX6_image 33 = .ok (.iaload, 1) := by decide +kernel
theorem dX6_image_34 : decode cX6_image 34 = .ok (.i2l, 1) := by decide +kernel
theorem dX6_image_35 : decode cX6_image 35 = .ok (.iconst 1, 1) := by decide +kernel
theorem dX6_image_36 : decode cX6_image 36 = .ok (.invokevirtual 182, 3) := by decide +kernel
theorem dX6_image_39 : decode cX6_image 39 = .ok (.aload_n 0, 1) := by decide +kernel
theorem dX6_image_40 : decode cX6_image 40 = .ok (.aload_n 0, 1) := by decide +kernel
theorem dX6_image_41 : decode cX6_image 41 = .ok (.getfield 19, 3) := by decide +kernel
theorem dX6_image_44 : decode cX6_image 44 = .ok (.iload_n 1, 1) := by decide +kernel
theorem dX6_image_45 : decode cX6_image 45 = .ok (.iaload, 1) := by decide +kernel
theorem dX6_image_46 : decode cX6_image 46 = .ok (.i2l, 1) := by decide +kernel
theorem dX6_image_47 : decode cX6_image 47 = .ok (.iconst 1, 1) := by decide +kernel
theorem dX6_image_48 : decode cX6_image 48 = .ok (.invokevirtual 182, 3) := by decide +kernel
theorem dX6_image_51 : decode cX6_image 51 = .ok (.aload_n 0, 1) := by decide +kernel
theorem dX6_image_52 : decode cX6_image 52 = .ok (.aload_n 0, 1) := by decide +kernel
theorem dX6_image_53 : decode cX6_image 53 = .ok (.getfield 22, 3) := by decide +kernel
theorem dX6_image_56 : decode cX6_image 56 = .ok (.iload_n 1, 1) := by decide +kernel
theorem dX6_image_57 : decode cX6_image 57 = .ok (.iaload, 1) := by decide +kernel
theorem dX6_image_58 : decode cX6_image 58 = .ok (.i2l, 1) := by decide +kernel
theorem dX6_image_59 : decode cX6_image 59 = .ok (.iconst 4, 1) := by decide +kernel
theorem dX6_image_60 : decode cX6_image 60 = .ok (.invokevirtual 182, 3) := by decide +kernel
theorem dX6_image_63 : decode cX6_image 63 = .ok (.aload_n 0, 1) := by decide +kernel
theorem dX6_image_64 : decode cX6_image 64 = .ok (.aload_n 0, 1) := by decide +kernel
theorem dX6_image_65 : decode cX6_image 65 = .ok (.getfield 38, 3) := by decide +kernel
theorem dX6_image_68 : decode cX6_image 68 = .ok (.iload_n 1, 1) := by decide +kernel
theorem dX6_image_69 : decode cX6_image 69 = .ok (.iaload, 1) := by decide +kernel
theorem dX6_image_70 : decode cX6_image 70 = .ok (.i2l, 1) := by decide +kernel
theorem dX6_image_71 : decode cX6_image 71 = .ok (.iconst 2, 1) := by decide +kernel
theorem dX6_image_72 : decode cX6_image 72 = .ok (.invokevirtual 182, 3) := by decide +kernel
theorem dX6_image_75 : decode cX6_image 75 = .ok (.iconst 0, 1) := by decide +kernel
theorem dX6_image_76 : decode cX6_image 76 = .ok (.istore_n 2, 1) := by decide +kernel
theorem dX6_image_77 : decode cX6_image 77 = .ok (.iload_n 2, 1) := by decide +kernel
theorem dX6_image_78 : decode cX6_image 78 = .ok (.aload_n 0, 1) := by decide +kernel
theorem dX6_image_79 : decode cX6_image 79 = .ok (.getfield 38, 3) := by decide +kernel
theorem dX6_image_82 : decode cX6_image 82 = .ok (.iload_n 1, 1) := by decide +kernel
theorem dX6_image_83 : decode cX6_image 83 = .ok (.iaload, 1) := by decide +kernel
theorem dX6_image_84 : decode cX6_image 84 = .ok (.if_icmp .ge 47, 3) := by decide +kernel
theorem dX6_image_87 : decode cX6_image 87 = .ok (.aload_n 0, 1) := by decide +kernel
theorem dX6_image_88 : decode cX6_image 88 = .ok (.aload_n 0, 1) := by decide +kernel
theorem dX6_image_89 : decode cX6_image 89 = .ok (.getfield 32, 3) := by decide +kernel
theorem dX6_image_92 : decode cX6_image 92 = .ok (.bipush 64, 2) := by decide +kernel
theorem dX6_image_94 : decode cX6_image 94 = .ok (.iload_n 1, 1) := by decide +kernel
theorem dX6_image_95 : decode cX6_image 95 = .ok (.imul, 1) := by decide +kernel
theorem dX6_image_96 : decode cX6_image 96 = .ok (.iload_n 2, 1) := by decide +kernel
theorem dX6_image_97 : decode cX6_image 97 = .ok (.iadd, 1) := by decide +kernel
theorem dX6_image_98 : decode cX6_image 98 = .ok (.iaload, 1) := by decide +kernel
theorem dX6_image_99 : decode cX6_image 99 = .ok (.i2l, 1) := by decide +kernel
theorem dX6_image_100 : decode cX6_image 100 = .ok (.iconst 2, 1) := by decide +kernel
theorem dX6_image_101 : decode cX6_image 101 = .ok (.invokevirtual 182, 3) := by decide +kernel
theorem dX6_image_104 : decode cX6_image 104 = .ok (.aload_n 0, 1) := by decide +kernel
theorem dX6_image_105 : decode cX6_image 105 = .ok (.aload_n 0, 1) := by decide +kernel
theorem dX6_image_106 : decode cX6_image 106 = .ok (.getfield 35, 3) := by decide +kernel
theorem dX6_image_109 : decode cX6_image 109 = .ok (.bipush 64, 2) := by decide +kernel
theorem dX6_image_111 : decode cX6_image 111 = .ok (.iload_n 1, 1) := by decide +kernel
theorem dX6_image_112 : decode cX6_image 112 = .ok (.imul, 1) := by decide +kernel
theorem dX6_image_113 : decode cX6_image 113 = .ok (.iload_n 2, 1) := by decide +kernel
theorem dX6_image_114 : decode cX6_image 114 = .ok (.iadd, 1) := by decide +kernel
theorem dX6_image_115 : decode cX6_image 115 = .ok (.laload, 1) := by decide +kernel
theorem dX6_image_116 : decode cX6_image 116 = .ok (.aload_n 0, 1) := by decide +kernel
theorem dX6_image_117 : decode cX6_image 117 = .ok (.getfield 19, 3) := by decide +kernel
theorem dX6_image_120 : decode cX6_image 120 = .ok (.iload_n 1, 1) := by decide +kernel
theorem dX6_image_121 : decode cX6_image 121 = .ok (.iaload, 1) := by decide +kernel
theorem dX6_image_122 : decode cX6_image 122 = .ok (.invokevirtual 182, 3) := by decide +kernel
theorem dX6_image_125 : decode cX6_image 125 = .ok (.iinc 2 1, 3) := by decide +kernel
theorem dX6_image_128 : decode cX6_image 128 = .ok (.goto (-51), 3) := by decide +kernel
theorem dX6_image_131 : decode cX6_image 131 = .ok (.aload_n 0, 1) := by decide +kernel
theorem dX6_image_132 : decode cX6_image 132 = .ok (.aload_n 0, 1) := by decide +kernel
theorem dX6_image_133 : decode cX6_image 133 = .ok (.aload_n 0, 1) := by decide +kernel
theorem dX6_image_134 : decode cX6_image 134 = .ok (.getfield 47, 3) := by decide +kernel
theorem dX6_image_137 : decode cX6_image 137 = .ok (.aload_n 0, 1) := by decide +kernel
theorem dX6_image_138 : decode cX6_image 138 = .ok (.getfield 179, 3) := by decide +kernel
theorem dX6_image_141 : decode cX6_image 141 = .ok (.invokevirtual 123, 3) := by decide +kernel
theorem dX6_image_144 : decode cX6_image 144 = .ok (.i2l, 1) := by decide +kernel
theorem dX6_image_145 : decode cX6_image 145 = .ok (.iconst 2, 1) := by decide +kernel
theorem dX6_image_146 : decode cX6_image 146 = .ok (.invokevirtual 182, 3) := by decide +kernel
theorem dX6_image_149 : decode cX6_image 149 = .ok (.aload_n 0, 1) := by decide +kernel
theorem dX6_image_150 : decode cX6_image 150 = .ok (.getfield 179, 3) := by decide +kernel
theorem dX6_image_153 : decode cX6_image 153 = .ok (.ireturn, 1) := by decide +kernel
theorem dX6_imageByte_0 : decode cX6_imageByte 0 = .ok (.iload_n 1, 1) := by decide +kernel
theorem dX6_imageByte_1 : decode cX6_imageByte 1 = .ok (.ifCond .lt 11, 3) := by decide +kernel
theorem dX6_imageByte_4 : decode cX6_imageByte 4 = .ok (.iload_n 1, 1) := by decide +kernel
theorem dX6_imageByte_5 : decode cX6_imageByte 5 = .ok (.aload_n 0, 1) := by decide +kernel
theorem dX6_imageByte_6 : decode cX6_imageByte 6 = .ok (.getfield 179, 3) := by decide +kernel
theorem dX6_imageByte_9 : decode cX6_imageByte 9 = .ok (.if_icmp .lt 7, 3) := by decide +kernel
theorem dX6_imageByte_12 : decode cX6_imageByte 12 = .ok (.iconst (-1), 1) := by decide +kernel
theorem dX6_imageByte_13 : decode cX6_imageByte 13 = .ok (.goto 9, 3) := by decide +kernel
theorem dX6_imageByte_16 : decode cX6_imageByte 16 = .ok (.aload_n 0, 1) := by decide +kernel
theorem dX6_imageByte_17 : decode cX6_imageByte 17 = .ok (.getfield 47, 3) := by decide +kernel
theorem dX6_imageByte_20 : decode cX6_imageByte 20 = .ok (.iload_n 1, 1) := by decide +kernel
theorem dX6_imageByte_21 : decode cX6_imageByte 21 = .ok (.iaload, 1) := by decide +kernel
theorem dX6_imageByte_22 : decode cX6_imageByte 22 = .ok (.ireturn, 1) := by decide +kernel
theorem dX6_setByte_0 : decode cX6_setByte 0 = .ok (.iload_n 1, 1) := by decide +kernel
theorem dX6_setByte_1 : decode cX6_setByte 1 = .ok (.ifCond .lt 11, 3) := by decide +kernel
theorem dX6_setByte_4 : decode cX6_setByte 4 = .ok (.iload_n 1, 1) := by decide +kernel
theorem dX6_setByte_5 : decode cX6_setByte 5 = .ok (.aload_n 0, 1) := by decide +kernel
theorem dX6_setByte_6 : decode cX6_setByte 6 = .ok (.getfield 179, 3) := by decide +kernel
theorem dX6_setByte_9 : decode cX6_setByte 9 = .ok (.if_icmp .lt 5, 3) := by decide +kernel
theorem dX6_setByte_12 : decode cX6_setByte 12 = .ok (.iconst (-1), 1) := by decide +kernel
theorem dX6_setByte_13 : decode cX6_setByte 13 = .ok (.ireturn, 1) := by decide +kernel
theorem dX6_setByte_14 : decode cX6_setByte 14 = .ok (.aload_n 0, 1) := by decide +kernel
theorem dX6_setByte_15 : decode cX6_setByte 15 = .ok (.getfield 47, 3) := by decide +kernel
theorem dX6_setByte_18 : decode cX6_setByte 18 = .ok (.iload_n 1, 1) := by decide +kernel
theorem dX6_setByte_19 : decode cX6_setByte 19 = .ok (.iaload, 1) := by decide +kernel
theorem dX6_setByte_20 : decode cX6_setByte 20 = .ok (.istore_n 3, 1) := by decide +kernel
theorem dX6_setByte_21 : decode cX6_setByte 21 = .ok (.aload_n 0, 1) := by decide +kernel
theorem dX6_setByte_22 : decode cX6_setByte 22 = .ok (.getfield 47, 3) := by decide +kernel
theorem dX6_setByte_25 : decode cX6_setByte 25 = .ok (.iload_n 1, 1) := by decide +kernel
theorem dX6_setByte_26 : decode cX6_setByte 26 = .ok (.iload_n 2, 1) := by decide +kernel
theorem dX6_setByte_27 : decode cX6_setByte 27 = .ok (.sipush 255, 3) := by decide +kernel
theorem dX6_setByte_30 : decode cX6_setByte 30 = .ok (.iand, 1) := by decide +kernel
theorem dX6_setByte_31 : decode cX6_setByte 31 = .ok (.iastore, 1) := by decide +kernel
theorem dX6_setByte_32 : decode cX6_setByte 32 = .ok (.iload_n 3, 1) := by decide +kernel
theorem dX6_setByte_33 : decode cX6_setByte 33 = .ok (.ireturn, 1) := by decide +kernel
theorem dX6_cut_0 : decode cX6_cut 0 = .ok (.iload_n 1, 1) := by decide +kernel
theorem dX6_cut_1 : decode cX6_cut 1 = .ok (.ifCond .lt 11, 3) := by decide +kernel
theorem dX6_cut_4 : decode cX6_cut 4 = .ok (.iload_n 1, 1) := by decide +kernel
theorem dX6_cut_5 : decode cX6_cut 5 = .ok (.aload_n 0, 1) := by decide +kernel
theorem dX6_cut_6 : decode cX6_cut 6 = .ok (.getfield 179, 3) := by decide +kernel
theorem dX6_cut_9 : decode cX6_cut 9 = .ok (.if_icmp .le 6, 3) := by decide +kernel
theorem dX6_cut_12 : decode cX6_cut 12 = .ok (.bipush (-2), 2) := by decide +kernel
theorem dX6_cut_14 : decode cX6_cut 14 = .ok (.ireturn, 1) := by decide +kernel
theorem dX6_cut_15 : decode cX6_cut 15 = .ok (.aload_n 0, 1) := by decide +kernel
theorem dX6_cut_16 : decode cX6_cut 16 = .ok (.getfield 179, 3) := by decide +kernel
theorem dX6_cut_19 : decode cX6_cut 19 = .ok (.istore_n 2, 1) := by decide +kernel
theorem dX6_cut_20 : decode cX6_cut 20 = .ok (.aload_n 0, 1) := by decide +kernel
theorem dX6_cut_21 : decode cX6_cut 21 = .ok (.iload_n 1, 1) := by decide +kernel
theorem dX6_cut_22 : decode cX6_cut 22 = .ok (.putfield 179, 3) := by decide +kernel
theorem dX6_cut_25 : decode cX6_cut 25 = .ok (.iload_n 2, 1) := by decide +kernel
theorem dX6_cut_26 : decode cX6_cut 26 = .ok (.ireturn, 1) := by decide +kernel
theorem dX6_number_0 : decode cX6_number 0 = .ok (.lconst 0, 1) := by decide +kernel
theorem dX6_number_1 : decode cX6_number 1 = .ok (.lstore_n 3, 1) := by decide +kernel
theorem dX6_number_2 : decode cX6_number 2 = .ok (.iconst 0, 1) := by decide +kernel
theorem dX6_number_3 : decode cX6_number 3 = .ok (.istore 5, 2) := by decide +kernel
theorem dX6_number_5 : decode cX6_number 5 = .ok (.iload 5, 2) := by decide +kernel
theorem dX6_number_7 : decode cX6_number 7 = .ok (.iload_n 2, 1) := by decide +kernel
theorem dX6_number_8 : decode cX6_number 8 = .ok (.if_icmp .ge 25, 3) := by decide +kernel
theorem dX6_number_11 : decode cX6_number 11 = .ok (.lload_n 3, 1) := by decide +kernel
theorem dX6_number_12 : decode cX6_number 12 = .ok (.bipush 8, 2) := by decide +kernel
theorem dX6_number_14 : decode cX6_number 14 = .ok (.lshl, 1) := by decide +kernel
theorem dX6_number_15 : decode cX6_number 15 = .ok (.aload_n 0, 1) := by decide +kernel
theorem dX6_number_16 : decode cX6_number 16 = .ok (.getfield 47, 3) := by decide +kernel
theorem dX6_number_19 : decode cX6_number 19 = .ok (.iload_n 1, 1) := by decide +kernel
theorem dX6_number_20 : decode cX6_number 20 = .ok (.iload 5, 2) := by decide +kernel
theorem dX6_number_22 : decode cX6_number 22 = .ok (.iadd, 1) := by decide +kernel
theorem dX6_number_23 : decode cX6_number 23 = .ok (.iaload, 1) := by decide +kernel
theorem dX6_number_24 : decode cX6_number 24 = .ok (.i2l, 1) := by decide +kernel
theorem dX6_number_25 : decode cX6_number 25 = .ok (.lor, 1) := by decide +kernel
theorem dX6_number_26 : decode cX6_number 26 = .ok (.lstore_n 3, 1) := by decide +kernel
theorem dX6_number_27 : decode cX6_number 27 = .ok (.iinc 5 1, 3) := by decide +kernel
theorem dX6_number_30 : decode cX6_number 30 = .ok (.goto (-25), 3) := by decide +kernel
theorem dX6_number_33 : decode cX6_number 33 = .ok (.lload_n 3, 1) := by decide +kernel
theorem dX6_number_34 : decode cX6_number 34 = .ok (.lreturn, 1) := by decide +kernel
theorem dX6_resume_0 : decode cX6_resume 0 = .ok (.aload_n 0, 1) := by decide +kernel
theorem dX6_resume_1 : decode cX6_resume 1 = .ok (.iload_n 1, 1) := by decide +kernel
theorem dX6_resume_2 : decode cX6_resume 2 = .ok (.invokevirtual 63, 3) := by decide +kernel
theorem dX6_resume_5 : decode cX6_resume 5 = .ok (.ifCond .ne 5, 3) := by decide +kernel
theorem dX6_resume_8 : decode cX6_resume 8 = .ok (.iconst (-1), 1) := by decide +kernel
theorem dX6_resume_9 : decode cX6_resume 9 = .ok (.ireturn, 1) := by decide +kernel
theorem dX6_resume_10 : decode cX6_resume 10 = .ok (.aload_n 0, 1) := by decide +kernel
theorem dX6_resume_11 : decode cX6_resume 11 = .ok (.getfield 179, 3) := by decide +kernel
theorem dX6_resume_14 : decode cX6_resume 14 = .ok (.bipush 11, 2) := by decide +kernel
theorem dX6_resume_16 : decode cX6_resume 16 = .ok (.if_icmp .ge 6, 3) := by decide +kernel
theorem dX6_resume_19 : decode cX6_resume 19 = .ok (.bipush (-11), 2) := by decide +kernel
theorem dX6_resume_21 : decode cX6_resume 21 = .ok (.ireturn, 1) := by decide +kernel
theorem dX6_resume_22 : decode cX6_resume 22 = .ok (.aload_n 0, 1) := by decide +kernel
theorem dX6_resume_23 : decode cX6_resume 23 = .ok (.getfield 47, 3) := by decide +kernel
theorem dX6_resume_26 : decode cX6_resume 26 = .ok (.iconst 0, 1) := by decide +kernel
theorem dX6_resume_27 : decode cX6_resume 27 = .ok (.iaload, 1) := by decide +kernel
theorem dX6_resume_28 : decode cX6_resume 28 = .ok (.aload_n 0, 1) := by decide +kernel
theorem dX6_resume_29 : decode cX6_resume 29 = .ok (.getfield 13, 3) := by decide +kernel
theorem dX6_resume_32 : decode cX6_resume 32 = .ok (.iload_n 1, 1) := by decide +kernel
theorem dX6_resume_33 : decode cX6_resume 33 = .ok (.iaload, 1) := by decide +kernel
theorem dX6_resume_34 : decode cX6_resume 34 = .ok (.if_icmp .ne 49, 3) := by decide +kernel
theorem dX6_resume_37 : decode cX6_resume 37 = .ok (.aload_n 0, 1) := by decide +kernel
theorem dX6_resume_38 : decode cX6_resume 38 = .ok (.getfield 47, 3) := by decide +kernel
theorem dX6_resume_41 : decode cX6_resume 41 = .ok (.iconst 1, 1) := by decide +kernel
theorem dX6_resume_42 : decode cX6_resume 42 = .ok (.iaload, 1) := by decide +kernel
theorem dX6_resume_43 : decode cX6_resume 43 = .ok (.aload_n 0, 1) := by decide +kernel
theorem dX6_resume_44 : decode cX6_resume 44 = .ok (.getfield 16, 3) := by decide +kernel
theorem dX6_resume_47 : decode cX6_resume 47 = .ok (.iload_n 1, 1) := by decide +kernel
theorem dX6_resume_48 : decode cX6_resume 48 = .ok (.iaload, 1) := by decide +kernel
theorem dX6_resume_49 : decode cX6_resume 49 = .ok (.if_icmp .ne 34, 3) := by decide +kernel
theorem dX6_resume_52 : decode cX6_resume 52 = .ok (.aload_n 0, 1) := by decide +kernel
theorem dX6_resume_53 : decode cX6_resume 53 = .ok (.getfield 47, 3) := by decide +kernel
theorem dX6_resume_56 : decode cX6_resume 56 = .ok (.iconst 2, 1) := by decide +kernel
theorem dX6_resume_57 : decode cX6_resume 57 = .ok (.iaload, 1) := by decide +kernel
theorem dX6_resume_58 : decode cX6_resume 58 = .ok (.aload_n 0, 1) := by decide +kernel
theorem dX6_resume_59 : decode cX6_resume 59 = .ok (.getfield 19, 3) := by decide +kernel
theorem dX6_resume_62 : decode cX6_resume 62 = .ok (.iload_n 1, 1) := by decide +kernel
theorem dX6_resume_63 : decode cX6_resume 63 = .ok (.iaload, 1) := by decide +kernel
theorem dX6_resume_64 : decode cX6_resume 64 = .ok (.if_icmp .ne 19, 3) := by decide +kernel
theorem dX6_resume_67 : decode cX6_resume 67 = .ok (.aload_n 0, 1) := by decide +kernel
theorem dX6_resume_68 : decode cX6_resume 68 = .ok (.iconst 3, 1) := by decide +kernel
theorem dX6_resume_69 : decode cX6_resume 69 = .ok (.iconst 4, 1) := by decide +kernel
theorem dX6_resume_70 : decode cX6_resume 70 = .ok (.invokevirtual 186, 3) := by decide +kernel
theorem dX6_resume_73 : decode cX6_resume 73 = .ok (.l2i, 1) := by decide +kernel
theorem dX6_resume_74 : decode cX6_resume 74 = .ok (.aload_n 0, 1) := by decide +kernel
theorem dX6_resume_75 : decode cX6_resume 75 = .ok (.getfield 22, 3) := by decide +kernel
theorem dX6_resume_78 : decode cX6_resume 78 = .ok (.iload_n 1, 1) := by decide +kernel
theorem dX6_resume_79 : decode cX6_resume 79 = .ok (.iaload, 1) := by decide +kernel
theorem dX6_resume_80 : decode cX6_resume 80 = .ok (.if_icmp .eq 6, 3) := by decide +kernel
theorem dX6_resume_83 : decode cX6_resume 83 = .ok (.bipush (-12), 2) := by decide +kernel
theorem dX6_resume_85 : decode cX6_resume 85 = .ok (.ireturn, 1) := by decide +kernel
theorem dX6_resume_86 : decode cX6_resume 86 = .ok (.aload_n 0, 1) := by decide +kernel
theorem dX6_resume_87 : decode cX6_resume 87 = .ok (.bipush 7, 2) := by decide +kernel
theorem dX6_resume_89 : decode cX6_resume 89 = .ok (.iconst 2, 1) := by decide +kernel
theorem dX6_resume_90 : decode cX6_resume 90 = .ok (.invokevirtual 186, 3) := by decide +kernel
theorem dX6_resume_93 : decode cX6_resume 93 = .ok (.l2i, 1) := by decide +kernel
theorem dX6_resume_94 : decode cX6_resume 94 = .ok (.istore_n 2, 1) := by decide +kernel
theorem dX6_resume_95 : decode cX6_resume 95 = .ok (.iconst 2, 1) := by decide +kernel
theorem dX6_resume_96 : decode cX6_resume 96 = .ok (.aload_n 0, 1) := by decide +kernel
theorem dX6_resume_97 : decode cX6_resume 97 = .ok (.getfield 19, 3) := by decide +kernel
theorem dX6_resume_100 : decode cX6_resume 100 = .ok (.iload_n 1, 1) := by decide +kernel
theorem dX6_resume_101 : decode cX6_resume 101 = .ok (.iaload, 1) := by decide +kernel
theorem dX6_resume_102 : decode cX6_resume 102 = .ok (.iadd, 1) := by decide +kernel
theorem dX6_resume_103 : decode cX6_resume 103 = .ok (.istore_n 3, 1) := by decide +kernel
theorem dX6_resume_104 : decode cX6_resume 104 = .ok (.aload_n 0, 1) := by decide +kernel
theorem dX6_resume_105 : decode cX6_resume 105 = .ok (.getfield 179, 3) := by decide +kernel
theorem dX6_resume_108 : decode cX6_resume 108 = .ok (.bipush 11, 2) := by decide +kernel
theorem dX6_resume_110 : decode cX6_resume 110 = .ok (.iload_n 2, 1) := by decide +kernel
theorem dX6_resume_111 : decode cX6_resume 111 = .ok (.iload_n 3, 1) := by decide +kernel
theorem dX6_resume_112 : decode cX6_resume 112 = .ok (.imul, 1) := by decide +kernel
theorem dX6_resume_113 : decode cX6_resume 113 = .ok (.iadd, 1) := by decide +kernel
theorem dX6_resume_114 : decode cX6_resume 114 = .ok (.if_icmp .eq 6, 3) := by decide +kernel
theorem dX6_resume_117 : decode cX6_resume 117 = .ok (.bipush (-13), 2) := by decide +kernel
theorem dX6_resume_119 : decode cX6_resume 119 = .ok (.ireturn, 1) := by decide +kernel
theorem dX6_resume_120 : decode cX6_resume 120 = .ok (.aload_n 0, 1) := by decide +kernel
theorem dX6_resume_121 : decode cX6_resume 121 = .ok (.aload_n 0, 1) := by decide +kernel
theorem dX6_resume_122 : decode cX6_resume 122 = .ok (.getfield 179, 3) := by decide +kernel
theorem dX6_resume_125 : decode cX6_resume 125 = .ok (.iconst 2, 1) := by decide +kernel
theorem dX6_resume_126 : decode cX6_resume 126 = .ok (.isub, 1) := by decide +kernel
theorem dX6_resume_127 : decode cX6_resume 127 = .ok (.iconst 2, 1) := by decide +kernel
theorem dX6_resume_128 : decode cX6_resume 128 = .ok (.invokevirtual 186, 3) := by decide +kernel
theorem dX6_resume_131 : decode cX6_resume 131 = .ok (.aload_n 0, 1) := by decide +kernel
theorem dX6_resume_132 : decode cX6_resume 132 = .ok (.aload_n 0, 1) := by decide +kernel
theorem dX6_resume_133 : decode cX6_resume 133 = .ok (.getfield 47, 3) := by decide +kernel
theorem dX6_resume_136 : decode cX6_resume 136 = .ok (.aload_n 0, 1) := by decide +kernel
theorem dX6_resume_137 : decode cX6_resume 137 = .ok (.getfield 179, 3) := by decide +kernel
theorem dX6_resume_140 : decode cX6_resume 140 = .ok (.iconst 2, 1) := by decide +kernel
theorem dX6_resume_141 : decode cX6_resume 141 = .ok (.isub, 1) := by decide +kernel
theorem dX6_resume_142 : decode cX6_resume 142 = .ok (.invokevirtual 123, 3) := by decide +kernel
theorem dX6_resume_145 : decode cX6_resume 145 = .ok (.i2l, 1) := by decide +kernel
theorem dX6_resume_146 : decode cX6_resume 146 = .ok (.lcmp, 1) := by decide +kernel
theorem dX6_resume_147 : decode cX6_resume 147 = .ok (.ifCond .eq 6, 3) := by decide +kernel
theorem dX6_resume_150 : decode cX6_resume 150 = .ok (.bipush (-14), 2) := by decide +kernel
theorem dX6_resume_152 : decode cX6_resume 152 = .ok (.ireturn, 1) := by decide +kernel
theorem dX6_resume_153 : decode cX6_resume 153 = .ok (.aload_n 0, 1) := by decide +kernel
theorem dX6_resume_154 : decode cX6_resume 154 = .ok (.getfield 38, 3) := by decide +kernel
theorem dX6_resume_157 : decode cX6_resume 157 = .ok (.iload_n 1, 1) := by decide +kernel
theorem dX6_resume_158 : decode cX6_resume 158 = .ok (.iconst 0, 1) := by decide +kernel
theorem dX6_resume_159 : decode cX6_resume 159 = .ok (.iastore, 1) := by decide +kernel
theorem dX6_resume_160 : decode cX6_resume 160 = .ok (.iconst 0, 1) := by decide +kernel
theorem dX6_resume_161 : decode cX6_resume 161 = .ok (.istore 4, 2) := by decide +kernel
theorem dX6_resume_163 : decode cX6_resume 163 = .ok (.iload 4, 2) := by decide +kernel
theorem dX6_resume_165 : decode cX6_resume 165 = .ok (.iload_n 2, 1) := by decide +kernel
theorem dX6_resume_166 : decode cX6_resume 166 = .ok (.if_icmp .ge 85, 3) := by decide +kernel
theorem dX6_resume_169 : decode cX6_resume 169 = .ok (.aload_n 0, 1) := by decide +kernel
theorem dX6_resume_170 : decode cX6_resume 170 = .ok (.bipush 9, 2) := by decide +kernel
theorem dX6_resume_172 : decode cX6_resume 172 = .ok (.iload 4, 2) := by decide +kernel
theorem dX6_resume_174 : decode cX6_resume 174 = .ok (.iload_n 3, 1) := by decide +kernel
theorem dX6_resume_175 : decode cX6_resume 175 = .ok (.imul, 1) := by decide +kernel
theorem dX6_resume_176 : decode cX6_resume 176 = .ok (.iadd, 1) := by decide +kernel
theorem dX6_resume_177 : decode cX6_resume 177 = .ok (.iconst 2, 1) := by decide +kernel
theorem dX6_resume_178 : decode cX6_resume 178 = .ok (.invokevirtual 186, 3) := by decide +kernel
theorem dX6_resume_181 : decode cX6_resume 181 = .ok (.l2i, 1) := by decide +kernel
theorem dX6_resume_182 : decode cX6_resume 182 = .ok (.istore 5, 2) := by decide +kernel
theorem dX6_resume_184 : decode cX6_resume 184 = .ok (.aload_n 0, 1) := by decide +kernel
theorem dX6_resume_185 : decode cX6_resume 185 = .ok (.bipush 11, 2) := by decide +kernel
theorem dX6_resume_187 : decode cX6_resume 187 = .ok (.iload 4, 2) := by decide +kernel
theorem dX6_resume_189 : decode cX6_resume 189 = .ok (.iload_n 3, 1) := by decide +kernel
theorem dX6_resume_190 : decode cX6_resume 190 = .ok (.imul, 1) := by decide +kernel
theorem dX6_resume_191 : decode cX6_resume 191 = .ok (.iadd, 1) := by decide +kernel
theorem dX6_resume_192 : decode cX6_resume 192 = .ok (.aload_n 0, 1) := by decide +kernel
theorem dX6_resume_193 : decode cX6_resume 193 = .ok (.getfield 19, 3) := by decide +kernel
theorem dX6_resume_196 : decode cX6_resume 196 = .ok (.iload_n 1, 1) := by decide +kernel
theorem dX6_resume_197 : decode cX6_resume 197 = .ok (.iaload, 1) := by decide +kernel
theorem dX6_resume_198 : decode cX6_resume 198 = .ok (.invokevirtual 186, 3) := by decide +kernel
theorem dX6_resume_201 : decode cX6_resume 201 = .ok (.lstore 6, 2) := by decide +kernel
theorem dX6_resume_203 : decode cX6_resume 203 = .ok (.aload_n 0, 1) := by decide +kernel
theorem dX6_resume_204 : decode cX6_resume 204 = .ok (.iload_n 1, 1) := by decide +kernel
theorem dX6_resume_205 : decode cX6_resume 205 = .ok (.iload 5, 2) := by decide +kernel
theorem dX6_resume_207 : decode cX6_resume 207 = .ok (.invokevirtual 151, 3) := by decide +kernel
theorem dX6_resume_210 : decode cX6_resume 210 = .ok (.ifCond .ne 35, 3) := by decide +kernel
theorem dX6_resume_213 : decode cX6_resume 213 = .ok (.aload_n 0, 1) := by decide +kernel
theorem dX6_resume_214 : decode cX6_resume 214 = .ok (.getfield 38, 3) := by decide +kernel
theorem dX6_resume_217 : decode cX6_resume 217 = .ok (.iload_n 1, 1) := by decide +kernel
theorem dX6_resume_218 : decode cX6_resume 218 = .ok (.iaload, 1) := by decide +kernel
theorem dX6_resume_219 : decode cX6_resume 219 = .ok (.bipush 64, 2) := by decide +kernel
theorem dX6_resume_221 : decode cX6_resume 221 = .ok (.if_icmp .ge 24, 3) := by decide +kernel
theorem dX6_resume_224 : decode cX6_resume 224 = .ok (.aload_n 0, 1) := by decide +kernel
theorem dX6_resume_225 : decode cX6_resume 225 = .ok (.iload_n 1, 1) := by decide +kernel
theorem dX6_resume_226 : decode cX6_resume 226 = .ok (.iload 5, 2) := by decide +kernel
theorem dX6_resume_228 : decode cX6_resume 228 = .ok (.lload 6, 2) := by decide +kernel
theorem dX6_resume_230 : decode cX6_resume 230 = .ok (.invokevirtual 154, 3) := by decide +kernel
theorem dX6_resume_233 : decode cX6_resume 233 = .ok (.ifCond .ne 12, 3) := by decide +kernel
theorem dX6_resume_236 : decode cX6_resume 236 = .ok (.aload_n 0, 1) := by decide +kernel
theorem dX6_resume_237 : decode cX6_resume 237 = .ok (.iload_n 1, 1) := by decide +kernel
theorem dX6_resume_238 : decode cX6_resume 238 = .ok (.iload 5, 2) := by decide +kernel
theorem dX6_resume_240 : decode cX6_resume 240 = .ok (.lload 6, 2) := by decide +kernel
theorem dX6_resume_242 : decode cX6_resume 242 = .ok (.invokevirtual 158, 3) := by decide +kernel
theorem dX6_resume_245 : decode cX6_resume 245 = .ok (.iinc 4 1, 3) := by decide +kernel
theorem dX6_resume_248 : decode cX6_resume 248 = .ok (.goto (-85), 3) := by decide +kernel
theorem dX6_resume_251 : decode cX6_resume 251 = .ok (.aload_n 0, 1) := by decide +kernel
theorem dX6_resume_252 : decode cX6_resume 252 = .ok (.iload_n 1, 1) := by decide +kernel
theorem dX6_resume_253 : decode cX6_resume 253 = .ok (.invokevirtual 147, 3) := by decide +kernel
theorem dX6_resume_256 : decode cX6_resume 256 = .ok (.aload_n 0, 1) := by decide +kernel
theorem dX6_resume_257 : decode cX6_resume 257 = .ok (.getfield 138, 3) := by decide +kernel
theorem dX6_resume_260 : decode cX6_resume 260 = .ok (.ireturn, 1) := by decide +kernel
