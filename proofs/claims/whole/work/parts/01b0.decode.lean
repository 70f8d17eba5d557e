theorem dX5_init_0 : decode cX5_init 0 = .ok (.aload_n 0, 1) := by decide +kernel
theorem dX5_init_1 : decode cX5_init 1 = .ok (.invokespecial 3, 3) := by decide +kernel
theorem dX5_init_4 : decode cX5_init 4 = .ok (.aload_n 0, 1) := by decide +kernel
theorem dX5_init_5 : decode cX5_init 5 = .ok (.bipush 12, 2) := by decide +kernel
theorem dX5_init_7 : decode cX5_init 7 = .ok (.newarray .int, 2) := by decide +kernel
theorem dX5_init_9 : decode cX5_init 9 = .ok (.putfield 9, 3) := by decide +kernel
theorem dX5_init_12 : decode cX5_init 12 = .ok (.getstatic 13, 3) := by decide +kernel
theorem dX5_init_15 : decode cX5_init 15 = .ok (.iconst 0, 1) := by decide +kernel
theorem dX5_init_16 : decode cX5_init 16 = .ok (.aload_n 0, 1) := by decide +kernel
theorem dX5_init_17 : decode cX5_init 17 = .ok (.getfield 9, 3) := by decide +kernel
theorem dX5_init_20 : decode cX5_init 20 = .ok (.iconst 0, 1) := by decide +kernel
theorem dX5_init_21 : decode cX5_init 21 = .ok (.bipush 12, 2) := by decide +kernel
theorem dX5_init_23 : decode cX5_init 23 = .ok (.invokestatic 16, 3) := by decide +kernel
theorem dX5_init_26 : decode cX5_init 26 = .ok (.aload_n 0, 1) := by decide +kernel
theorem dX5_init_27 : decode cX5_init 27 = .ok (.iconst 4, 1) := by decide +kernel
theorem dX5_init_28 : decode cX5_init 28 = .ok (.anewarray 22, 3) := by decide +kernel
theorem dX5_init_31 : decode cX5_init 31 = .ok (.putfield 24, 3) := by decide +kernel
theorem dX5_init_34 : decode cX5_init 34 = .ok (.aload_n 0, 1) := by decide +kernel
theorem dX5_init_35 : decode cX5_init 35 = .ok (.iconst 4, 1) := by decide +kernel
theorem dX5_init_36 : decode cX5_init 36 = .ok (.anewarray 28, 3) := by decide +kernel
theorem dX5_init_39 : decode cX5_init 39 = .ok (.putfield 30, 3) := by decide +kernel
theorem dX5_init_42 : decode cX5_init 42 = .ok (.aload_n 0, 1) := by decide +kernel
theorem dX5_init_43 : decode cX5_init 43 = .ok (.iconst 0, 1) := by decide +kernel
theorem dX5_init_44 : decode cX5_init 44 = .ok (.putfield 34, 3) := by decide +kernel
theorem dX5_init_47 : decode cX5_init 47 = .ok (.aload_n 0, 1) := by decide +kernel
theorem dX5_init_48 : decode cX5_init 48 = .ok (.new 38, 3) := by decide +kernel
theorem dX5_init_51 : decode cX5_init 51 = .ok (.dup, 1) := by decide +kernel
theorem dX5_init_52 : decode cX5_init 52 = .ok (.bipush 12, 2) := by decide +kernel
theorem dX5_init_54 : decode cX5_init 54 = .ok (.invokespecial 40, 3) := by decide +kernel
theorem dX5_init_57 : decode cX5_init 57 = .ok (.putfield 43, 3) := by decide +kernel
theorem dX5_init_60 : decode cX5_init 60 = .ok (.aload_n 0, 1) := by decide +kernel
theorem dX5_init_61 : decode cX5_init 61 = .ok (.iconst (-1), 1) := by decide +kernel
theorem dX5_init_62 : decode cX5_init 62 = .ok (.putfield 47, 3) := by decide +kernel
theorem dX5_init_65 : decode cX5_init 65 = .ok (.aload_n 0, 1) := by decide +kernel
theorem dX5_init_66 : decode cX5_init 66 = .ok (.new 38, 3) := by decide +kernel
theorem dX5_init_69 : decode cX5_init 69 = .ok (.dup, 1) := by decide +kernel
theorem dX5_init_70 : decode cX5_init 70 = .ok (.sipush 651, 3) := by decide +kernel
theorem dX5_init_73 : decode cX5_init 73 = .ok (.invokespecial 40, 3) := by decide +kernel
theorem dX5_init_76 : decode cX5_init 76 = .ok (.putfield 50, 3) := by decide +kernel
theorem dX5_init_79 : decode cX5_init 79 = .ok (.return_, 1) := by decide +kernel
theorem dX5_degree_0 : decode cX5_degree 0 = .ok (.iload_n 1, 1) := by decide +kernel
theorem dX5_degree_1 : decode cX5_degree 1 = .ok (.iconst 1, 1) := by decide +kernel
theorem dX5_degree_2 : decode cX5_degree 2 = .ok (.if_icmp .lt 9, 3) := by decide +kernel
theorem dX5_degree_5 : decode cX5_degree 5 = .ok (.iload_n 1, 1) := by decide +kernel
theorem dX5_degree_6 : decode cX5_degree 6 = .ok (.bipush 12, 2) := by decide +kernel
theorem dX5_degree_8 : decode cX5_degree 8 = .ok (.if_icmp .le 5, 3) := by decide +kernel
theorem dX5_degree_11 : decode cX5_degree 11 = .ok (.iconst (-1), 1) := by decide +kernel
theorem dX5_degree_12 : decode cX5_degree 12 = .ok (.ireturn, 1) := by decide +kernel
theorem dX5_degree_13 : decode cX5_degree 13 = .ok (.iload_n 2, 1) := by decide +kernel
theorem dX5_degree_14 : decode cX5_degree 14 = .ok (.ifCond .lt 9, 3) := by decide +kernel
theorem dX5_degree_17 : decode cX5_degree 17 = .ok (.iload_n 2, 1) := by decide +kernel
theorem dX5_degree_18 : decode cX5_degree 18 = .ok (.bipush 100, 2) := by decide +kernel
theorem dX5_degree_20 : decode cX5_degree 20 = .ok (.if_icmp .le 6, 3) := by decide +kernel
theorem dX5_degree_23 : decode cX5_degree 23 = .ok (.bipush (-2), 2) := by decide +kernel
theorem dX5_degree_25 : decode cX5_degree 25 = .ok (.ireturn, 1) := by decide +kernel
theorem dX5_degree_26 : decode cX5_degree 26 = .ok (.aload_n 0, 1) := by decide +kernel
theorem dX5_degree_27 : decode cX5_degree 27 = .ok (.getfield 9, 3) := by decide +kernel
theorem dX5_degree_30 : decode cX5_degree 30 = .ok (.iload_n 1, 1) := by decide +kernel
theorem dX5_degree_31 : decode cX5_degree 31 = .ok (.iconst 1, 1) := by decide +kernel
theorem dX5_degree_32 : decode cX5_degree 32 = .ok (.isub, 1) := by decide +kernel
theorem dX5_degree_33 : decode cX5_degree 33 = .ok (.iaload, 1) := by decide +kernel
theorem dX5_degree_34 : decode cX5_degree 34 = .ok (.istore_n 3, 1) := by decide +kernel
theorem dX5_degree_35 : decode cX5_degree 35 = .ok (.aload_n 0, 1) := by decide +kernel
theorem dX5_degree_36 : decode cX5_degree 36 = .ok (.getfield 9, 3) := by decide +kernel
theorem dX5_degree_39 : decode cX5_degree 39 = .ok (.iload_n 1, 1) := by decide +kernel
theorem dX5_degree_40 : decode cX5_degree 40 = .ok (.iconst 1, 1) := by decide +kernel
theorem dX5_degree_41 : decode cX5_degree 41 = .ok (.isub, 1) := by decide +kernel
theorem dX5_degree_42 : decode cX5_degree 42 = .ok (.iload_n 2, 1) := by decide +kernel
theorem dX5_degree_43 : decode cX5_degree 43 = .ok (.iastore, 1) := by decide +kernel
theorem dX5_degree_44 : decode cX5_degree 44 = .ok (.iload_n 3, 1) := by decide +kernel
theorem dX5_degree_45 : decode cX5_degree 45 = .ok (.ireturn, 1) := by decide +kernel
theorem dX5_source_0 : decode cX5_source 0 = .ok (.iload_n 1, 1) := by decide +kernel
theorem dX5_source_1 : decode cX5_source 1 = .ok (.iconst 1, 1) := by decide +kernel
theorem dX5_source_2 : decode cX5_source 2 = .ok (.if_icmp .lt 30, 3) := by decide +kernel
theorem dX5_source_5 : decode cX5_source 5 = .ok (.iload_n 1, 1) := by decide +kernel
theorem dX5_source_6 : decode cX5_source 6 = .ok (.bipush 32, 2) := by decide +kernel
theorem dX5_source_8 : decode cX5_source 8 = .ok (.if_icmp .gt 24, 3) := by decide +kernel
theorem dX5_source_11 : decode cX5_source 11 = .ok (.iload_n 2, 1) := by decide +kernel
theorem dX5_source_12 : decode cX5_source 12 = .ok (.ifCond .lt 20, 3) := by decide +kernel
theorem dX5_source_15 : decode cX5_source 15 = .ok (.iload_n 2, 1) := by decide +kernel
theorem dX5_source_16 : decode cX5_source 16 = .ok (.bipush 8, 2) := by decide +kernel
theorem dX5_source_18 : decode cX5_source 18 = .ok (.if_icmp .gt 14, 3) := by decide +kernel
theorem dX5_source_21 : decode cX5_source 21 = .ok (.iload_n 3, 1) := by decide +kernel
theorem dX5_source_22 : decode cX5_source 22 = .ok (.iconst 1, 1) := by decide +kernel
theorem dX5_source_23 : decode cX5_source 23 = .ok (.if_icmp .lt 9, 3) := by decide +kernel
theorem dX5_source_26 : decode cX5_source 26 = .ok (.iload_n 3, 1) := by decide +kernel
theorem dX5_source_27 : decode cX5_source 27 = .ok (.bipush 8, 2) := by decide +kernel
theorem dX5_source_29 : decode cX5_source 29 = .ok (.if_icmp .le 6, 3) := by decide +kernel
theorem dX5_source_32 : decode cX5_source 32 = .ok (.bipush (-2), 2) := by decide +kernel
theorem dX5_source_34 : decode cX5_source 34 = .ok (.ireturn, 1) := by decide +kernel
theorem dX5_source_35 : decode cX5_source 35 = .ok (.aload_n 0, 1) := by decide +kernel
theorem dX5_source_36 : decode cX5_source 36 = .ok (.getfield 9, 3) := by decide +kernel
theorem dX5_source_39 : decode cX5_source 39 = .ok (.invokestatic 53, 3) := by decide +kernel
theorem dX5_source_42 : decode cX5_source 42 = .ok (.ifCond .ne 6, 3) := by decide +kernel
theorem dX5_source_45 : decode cX5_source 45 = .ok (.bipush (-3), 2) := by decide +kernel
theorem dX5_source_47 : decode cX5_source 47 = .ok (.ireturn, 1) := by decide +kernel
theorem dX5_source_48 : decode cX5_source 48 = .ok (.aload_n 0, 1) := by decide +kernel
theorem dX5_source_49 : decode cX5_source 49 = .ok (.getfield 34, 3) := by decide +kernel
theorem dX5_source_52 : decode cX5_source 52 = .ok (.iconst 4, 1) := by decide +kernel
theorem dX5_source_53 : decode cX5_source 53 = .ok (.if_icmp .lt 6, 3) := by decide +kernel
theorem dX5_source_56 : decode cX5_source 56 = .ok (.bipush (-4), 2) := by decide +kernel
theorem dX5_source_58 : decode cX5_source 58 = .ok (.ireturn, 1) := by decide +kernel
theorem dX5_source_59 : decode cX5_source 59 = .ok (.new 22, 3) := by decide +kernel
theorem dX5_source_62 : decode cX5_source 62 = .ok (.dup, 1) := by decide +kernel
theorem dX5_source_63 : decode cX5_source 63 = .ok (.iload_n 1, 1) := by decide +kernel
theorem dX5_source_64 : decode cX5_source 64 = .ok (.iload_n 2, 1) := by decide +kernel
theorem dX5_source_65 : decode cX5_source 65 = .ok (.iload_n 3, 1) := by decide +kernel
theorem dX5_source_66 : decode cX5_source 66 = .ok (.iload 4, 2) := by decide +kernel
theorem dX5_source_68 : decode cX5_source 68 = .ok (.aload_n 0, 1) := by decide +kernel
theorem dX5_source_69 : decode cX5_source 69 = .ok (.getfield 9, 3) := by decide +kernel
theorem dX5_source_72 : decode cX5_source 72 = .ok (.invokespecial 57, 3) := by decide +kernel
theorem dX5_source_75 : decode cX5_source 75 = .ok (.astore 5, 2) := by decide +kernel
theorem dX5_source_77 : decode cX5_source 77 = .ok (.aload_n 0, 1) := by decide +kernel
theorem dX5_source_78 : decode cX5_source 78 = .ok (.getfield 24, 3) := by decide +kernel
theorem dX5_source_81 : decode cX5_source 81 = .ok (.aload_n 0, 1) := by decide +kernel
theorem dX5_source_82 : decode cX5_source 82 = .ok (.getfield 34, 3) := by decide +kernel
theorem dX5_source_85 : decode cX5_source 85 = .ok (.aload 5, 2) := by decide +kernel
theorem dX5_source_87 : decode cX5_source 87 = .ok (.aastore, 1) := by decide +kernel
theorem dX5_source_88 : decode cX5_source 88 = .ok (.aload_n 0, 1) := by decide +kernel
theorem dX5_source_89 : decode cX5_source 89 = .ok (.getfield 30, 3) := by decide +kernel
theorem dX5_source_92 : decode cX5_source 92 = .ok (.aload_n 0, 1) := by decide +kernel
theorem dX5_source_93 : decode cX5_source 93 = .ok (.getfield 34, 3) := by decide +kernel
theorem dX5_source_96 : decode cX5_source 96 = .ok (.new 28, 3) := by decide +kernel
theorem dX5_source_99 : decode cX5_source 99 = .ok (.dup, 1) := by decide +kernel
theorem dX5_source_100 : decode cX5_source 100 = .ok (.aload 5, 2) := by decide +kernel
theorem dX5_source_102 : decode cX5_source 102 = .ok (.invokespecial 60, 3) := by decide +kernel
theorem dX5_source_105 : decode cX5_source 105 = .ok (.aastore, 1) := by decide +kernel
theorem dX5_source_106 : decode cX5_source 106 = .ok (.aload_n 0, 1) := by decide +kernel
theorem dX5_source_107 : decode cX5_source 107 = .ok (.dup, 1) := by decide +kernel
theorem dX5_source_108 : decode cX5_source 108 = .ok (.getfield 34, 3) := by decide +kernel
theorem dX5_source_111 : decode cX5_source 111 = .ok (.iconst 1, 1) := by decide +kernel
theorem dX5_source_112 : decode cX5_source 112 = .ok (.iadd, 1) := by decide +kernel
theorem dX5_source_113 : decode cX5_source 113 = .ok (.putfield 34, 3) := by decide +kernel
theorem dX5_source_116 : decode cX5_source 116 = .ok (.aload_n 0, 1) := by decide +kernel
theorem dX5_source_117 : decode cX5_source 117 = .ok (.getfield 34, 3) := by decide +kernel
theorem dX5_source_120 : decode cX5_source 120 = .ok (.iconst 1, 1) := by decide +kernel
theorem dX5_source_121 : decode cX5_source 121 = .ok (.isub, 1) := by decide +kernel
theorem dX5_source_122 : decode cX5_source 122 = .ok (.ireturn, 1) := by decide +kernel
theorem dX5_symbol_0 : decode cX5_symbol 0 = .ok (.aload_n 0, 1) := by decide +kernel
theorem dX5_symbol_1 : decode cX5_symbol 1 = .ok (.iload_n 1, 1) := by decide +kernel
theorem dX5_symbol_2 : decode cX5_symbol 2 = .ok (.invokevirtual 63, 3) := by decide +kernel
theorem dX5_symbol_5 : decode cX5_symbol 5 = .ok (.astore 5, 2) := by decide +kernel
theorem dX5_symbol_7 : decode cX5_symbol 7 = .ok (.aload 5, 2) := by decide +kernel
theorem dX5_symbol_9 : decode cX5_symbol 9 = .ok (.ifnull 12, 3) := by decide +kernel
theorem dX5_symbol_12 : decode cX5_symbol 12 = .ok (.aload 5, 2) := by decide +kernel
theorem dX5_symbol_14 : decode cX5_symbol 14 = .ok (.iload_n 2, 1) := by decide +kernel
theorem dX5_symbol_15 : decode cX5_symbol 15 = .ok (.invokevirtual 67, 3) := by decide +kernel
theorem dX5_symbol_18 : decode cX5_symbol 18 = .ok (.ifCond .ne 5, 3) := by decide +kernel
theorem dX5_symbol_21 : decode cX5_symbol 21 = .ok (.iconst (-1), 1) := by decide +kernel
theorem dX5_symbol_22 : decode cX5_symbol 22 = .ok (.ireturn, 1) := by decide +kernel
theorem dX5_symbol_23 : decode cX5_symbol 23 = .ok (.aload 5, 2) := by decide +kernel
theorem dX5_symbol_25 : decode cX5_symbol 25 = .ok (.iload_n 2, 1) := by decide +kernel
theorem dX5_symbol_26 : decode cX5_symbol 26 = .ok (.lload_n 3, 1) := by decide +kernel
theorem dX5_symbol_27 : decode cX5_symbol 27 = .ok (.invokevirtual 71, 3) := by decide +kernel
theorem dX5_symbol_30 : decode cX5_symbol 30 = .ok (.iconst 1, 1) := by decide +kernel
theorem dX5_symbol_31 : decode cX5_symbol 31 = .ok (.ireturn, 1) := by decide +kernel
theorem dX5_row_0 : decode cX5_row 0 = .ok (.aload_n 0, 1) := by decide +kernel
theorem dX5_row_1 : decode cX5_row 1 = .ok (.iload_n 1, 1) := by decide +kernel
theorem dX5_row_2 : decode cX5_row 2 = .ok (.invokevirtual 63, 3) := by decide +kernel
theorem dX5_row_5 : decode cX5_row 5 = .ok (.astore_n 3, 1) := by decide +kernel
theorem dX5_row_6 : decode cX5_row 6 = .ok (.aload_n 3, 1) := by decide +kernel
theorem dX5_row_7 : decode cX5_row 7 = .ok (.ifnonnull 7, 3) := by decide +kernel
theorem dX5_row_10 : decode cX5_row 10 = .ok (.ldc2_w 75, 3) := by decide +kernel
theorem dX5_row_13 : decode cX5_row 13 = .ok (.lreturn, 1) := by decide +kernel
theorem dX5_row_14 : decode cX5_row 14 = .ok (.iload_n 2, 1) := by decide +kernel
theorem dX5_row_15 : decode cX5_row 15 = .ok (.invokestatic 77, 3) := by decide +kernel
theorem dX5_row_18 : decode cX5_row 18 = .ok (.ifCond .eq 11, 3) := by decide +kernel
theorem dX5_row_21 : decode cX5_row 21 = .ok (.aload_n 3, 1) := by decide +kernel
theorem dX5_row_22 : decode cX5_row 22 = .ok (.iload_n 2, 1) := by decide +kernel
theorem dX5_row_23 : decode cX5_row 23 = .ok (.invokevirtual 80, 3) := by decide +kernel
theorem dX5_row_26 : decode cX5_row 26 = .ok (.goto 6, 3) := by decide +kernel
theorem dX5_row_29 : decode cX5_row 29 = .ok (.ldc2_w 84, 3) := by decide +kernel
theorem dX5_row_32 : decode cX5_row 32 = .ok (.lreturn, 1) := by decide +kernel
theorem dX5_sumRow_0 : decode cX5_sumRow 0 = .ok (.aload_n 0, 1) := by decide +kernel
theorem dX5_sumRow_1 : decode cX5_sumRow 1 = .ok (.iload_n 1, 1) := by decide +kernel
theorem dX5_sumRow_2 : decode cX5_sumRow 2 = .ok (.invokevirtual 63, 3) := by decide +kernel
theorem dX5_sumRow_5 : decode cX5_sumRow 5 = .ok (.astore_n 3, 1) := by decide +kernel
theorem dX5_sumRow_6 : decode cX5_sumRow 6 = .ok (.aload_n 3, 1) := by decide +kernel
theorem dX5_sumRow_7 : decode cX5_sumRow 7 = .ok (.ifnull 19, 3) := by decide +kernel
theorem dX5_sumRow_10 : decode cX5_sumRow 10 = .ok (.aload_n 3, 1) := by decide +kernel
theorem dX5_sumRow_11 : decode cX5_sumRow 11 = .ok (.iload_n 2, 1) := by decide +kernel
theorem dX5_sumRow_12 : decode cX5_sumRow 12 = .ok (.invokevirtual 86, 3) := by decide +kernel
theorem dX5_sumRow_15 : decode cX5_sumRow 15 = .ok (.ifCond .eq 11, 3) := by decide +kernel
theorem dX5_sumRow_18 : decode cX5_sumRow 18 = .ok (.aload_n 3, 1) := by decide +kernel
theorem dX5_sumRow_19 : decode cX5_sumRow 19 = .ok (.iload_n 2, 1) := by decide +kernel
theorem dX5_sumRow_20 : decode cX5_sumRow 20 = .ok (.invokevirtual 89, 3) := by decide +kernel
theorem dX5_sumRow_23 : decode cX5_sumRow 23 = .ok (.goto 6, 3) := by decide +kernel
theorem dX5_sumRow_26 : decode cX5_sumRow 26 = .ok (.ldc2_w 75, 3) := by decide +kernel
theorem dX5_sumRow_29 : decode cX5_sumRow 29 = .ok (.lreturn, 1) := by decide +kernel
theorem dX5_part_0 : decode cX5_part 0 = .ok (.aload_n 0, 1) := by decide +kernel
theorem dX5_part_1 : decode cX5_part 1 = .ok (.iload_n 1, 1) := by decide +kernel
theorem dX5_part_2 : decode cX5_part 2 = .ok (.invokevirtual 63, 3) := by decide +kernel
theorem dX5_part_5 : decode cX5_part 5 = .ok (.astore_n 3, 1) := by decide +kernel
theorem dX5_part_6 : decode cX5_part 6 = .ok (.aload_n 3, 1) := by decide +kernel
theorem dX5_part_7 : decode cX5_part 7 = .ok (.ifnull 19, 3) := by decide +kernel
theorem dX5_part_10 : decode cX5_part 10 = .ok (.aload_n 3, 1) := by decide +kernel
theorem dX5_part_11 : decode cX5_part 11 = .ok (.iload_n 2, 1) := by decide +kernel
theorem dX5_part_12 : decode cX5_part 12 = .ok (.invokevirtual 92, 3) := by decide +kernel
theorem dX5_part_15 : decode cX5_part 15 = .ok (.ifCond .eq 11, 3) := by decide +kernel
theorem dX5_part_18 : decode cX5_part 18 = .ok (.aload_n 3, 1) := by decide +kernel
theorem dX5_part_19 : decode cX5_part 19 = .ok (.iload_n 2, 1) := by decide +kernel
theorem dX5_part_20 : decode cX5_part 20 = .ok (.invokevirtual 95, 3) := by decide +kernel
theorem dX5_part_23 : decode cX5_part 23 = .ok (.goto 4, 3) := by decide +kernel
theorem dX5_part_26 : decode cX5_part 26 = .ok (.lconst 0, 1) := by decide +kernel
theorem dX5_part_27 : decode cX5_part 27 = .ok (.lreturn, 1) := by decide +kernel
theorem dX5_frame_0 : decode cX5_frame 0 = .ok (.aload_n 0, 1) := by decide +kernel
theorem dX5_frame_1 : decode cX5_frame 1 = .ok (.iload_n 1, 1) := by decide +kernel
theorem dX5_frame_2 : decode cX5_frame 2 = .ok (.invokevirtual 63, 3) := by decide +kernel
theorem dX5_frame_5 : decode cX5_frame 5 = .ok (.astore_n 3, 1) := by decide +kernel
theorem dX5_frame_6 : decode cX5_frame 6 = .ok (.aload_n 3, 1) := by decide +kernel
theorem dX5_frame_7 : decode cX5_frame 7 = .ok (.ifnonnull 5, 3) := by decide +kernel
theorem dX5_frame_10 : decode cX5_frame 10 = .ok (.iconst (-1), 1) := by decide +kernel
theorem dX5_frame_11 : decode cX5_frame 11 = .ok (.ireturn, 1) := by decide +kernel
theorem dX5_frame_12 : decode cX5_frame 12 = .ok (.iload_n 2, 1) := by decide +kernel
theorem dX5_frame_13 : decode cX5_frame 13 = .ok (.invokestatic 77, 3) := by decide +kernel
theorem dX5_frame_16 : decode cX5_frame 16 = .ok (.ifCond .ne 6, 3) := by decide +kernel
theorem dX5_frame_19 : decode cX5_frame 19 = .ok (.bipush (-2), 2) := by decide +kernel
theorem dX5_frame_21 : decode cX5_frame 21 = .ok (.ireturn, 1) := by decide +kernel
theorem dX5_frame_22 : decode cX5_frame 22 = .ok (.aload_n 0, 1) := by decide +kernel
theorem dX5_frame_23 : decode cX5_frame 23 = .ok (.iload_n 1, 1) := by decide +kernel
theorem dX5_frame_24 : decode cX5_frame 24 = .ok (.putfield 47, 3) := by decide +kernel
theorem dX5_frame_27 : decode cX5_frame 27 = .ok (.aload_n 0, 1) := by decide +kernel
theorem dX5_frame_28 : decode cX5_frame 28 = .ok (.getfield 43, 3) := by decide +kernel
theorem dX5_frame_31 : decode cX5_frame 31 = .ok (.iconst 0, 1) := by decide +kernel
theorem dX5_frame_32 : decode cX5_frame 32 = .ok (.invokevirtual 98, 3) := by decide +kernel
theorem dX5_frame_35 : decode cX5_frame 35 = .ok (.aload_n 0, 1) := by decide +kernel
theorem dX5_frame_36 : decode cX5_frame 36 = .ok (.getfield 43, 3) := by decide +kernel
theorem dX5_frame_39 : decode cX5_frame 39 = .ok (.iload_n 2, 1) := by decide +kernel
theorem dX5_frame_40 : decode cX5_frame 40 = .ok (.i2l, 1) := by decide +kernel
theorem dX5_frame_41 : decode cX5_frame 41 = .ok (.iconst 2, 1) := by decide +kernel
theorem dX5_frame_42 : decode cX5_frame 42 = .ok (.invokevirtual 101, 3) := by decide +kernel
theorem dX5_frame_45 : decode cX5_frame 45 = .ok (.aload_n 0, 1) := by decide +kernel
theorem dX5_frame_46 : decode cX5_frame 46 = .ok (.getfield 43, 3) := by decide +kernel
theorem dX5_frame_49 : decode cX5_frame 49 = .ok (.aload_n 3, 1) := by decide +kernel
theorem dX5_frame_50 : decode cX5_frame 50 = .ok (.iload_n 2, 1) := by decide +kernel
theorem dX5_frame_51 : decode cX5_frame 51 = .ok (.invokevirtual 105, 3) := by decide +kernel
theorem dX5_frame_54 : decode cX5_frame 54 = .ok (.aload_n 3, 1) := by decide +kernel
theorem dX5_frame_55 : decode cX5_frame 55 = .ok (.getfield 108, 3) := by decide +kernel
theorem dX5_frame_58 : decode cX5_frame 58 = .ok (.invokevirtual 101, 3) := by decide +kernel
theorem dX5_frame_61 : decode cX5_frame 61 = .ok (.aload_n 0, 1) := by decide +kernel
theorem dX5_frame_62 : decode cX5_frame 62 = .ok (.getfield 43, 3) := by decide +kernel
theorem dX5_frame_65 : decode cX5_frame 65 = .ok (.aload_n 0, 1) := by decide +kernel
theorem dX5_frame_66 : decode cX5_frame 66 = .ok (.getfield 43, 3) := by decide +kernel
theorem dX5_frame_69 : decode cX5_frame 69 = .ok (.aload_n 0, 1) := by decide +kernel
theorem dX5_frame_70 : decode cX5_frame 70 = .ok (.getfield 43, 3) := by decide +kernel
theorem dX5_frame_73 : decode cX5_frame 73 = .ok (.getfield 111, 3) := by decide +kernel
theorem dX5_frame_76 : decode cX5_frame 76 = .ok (.invokevirtual 114, 3) := by decide +kernel
theorem dX5_frame_79 : decode cX5_frame 79 = .ok (.i2l, 1) := by decide +kernel
theorem dX5_frame_80 : decode cX5_frame 80 = .ok (.iconst 2, 1) := by decide +kernel
theorem dX5_frame_81 : decode cX5_frame 81 = .ok (.invokevirtual 101, 3) := by decide +kernel
theorem dX5_frame_84 : decode cX5_frame 84 = .ok (.aload_n 0, 1) := by decide +kernel
theorem dX5_frame_85 : decode cX5_frame 85 = .ok (.getfield 43, 3) := by decide +kernel
theorem dX5_frame_88 : decode cX5_frame 88 = .ok (.getfield 111, 3) := by decide +kernel
theorem dX5_frame_91 : decode cX5_frame 91 = .ok (.ireturn, 1) := by decide +kernel
theorem dX5_frameByte_0 : decode cX5_frameByte 0 = .ok (.aload_n 0, 1) := by decide +kernel
theorem dX5_frameByte_1 : decode cX5_frameByte 1 = .ok (.getfield 47, 3) := by decide +kernel
theorem dX5_frameByte_4 : decode cX5_frameByte 4 = .ok (.ifCond .ge 6, 3) := by decide +kernel
theorem dX5_frameByte_7 : decode cX5_frameByte 7 = .ok (.bipush (-3), 2) := by decide +kernel
theorem dX5_frameByte_9 : decode cX5_frameByte 9 = .ok (.ireturn, 1) := by decide +kernel
theorem dX5_frameByte_10 : decode cX5_frameByte 10 = .ok (.aload_n 0, 1) := by decide +kernel
theorem dX5_frameByte_11 : decode cX5_frameByte 11 = .ok (.getfield 43, 3) := by decide +kernel
theorem dX5_frameByte_14 : decode cX5_frameByte 14 = .ok (.iload_n 1, 1) := by decide +kernel
theorem dX5_frameByte_15 : decode cX5_frameByte 15 = .ok (.invokevirtual 118, 3) := by decide +kernel
theorem dX5_frameByte_18 : decode cX5_frameByte 18 = .ok (.ifCond .eq 14, 3) := by decide +kernel
theorem dX5_frameByte_21 : decode cX5_frameByte 21 = .ok (.aload_n 0, 1) := by decide +kernel
theorem dX5_frameByte_22 : decode cX5_frameByte 22 = .ok (.getfield 43, 3) := by decide +kernel
theorem dX5_frameByte_25 : decode cX5_frameByte 25 = .ok (.iload_n 1, 1) := by decide +kernel
theorem dX5_frameByte_26 : decode cX5_frameByte 26 = .ok (.invokevirtual 121, 3) := by decide +kernel
theorem dX5_frameByte_29 : decode cX5_frameByte 29 = .ok (.goto 4, 3) := by decide +kernel
theorem dX5_frameByte_32 : decode cX5_frameByte 32 = .ok (.iconst (-1), 1) := by decide +kernel
theorem dX5_frameByte_33 : decode cX5_frameByte 33 = .ok (.ireturn, 1) := by decide +kernel
theorem dX5_poke_0 : decode cX5_poke 0 = .ok (.aload_n 0, 1) := by decide +kernel
theorem dX5_poke_1 : decode cX5_poke 1 = .ok (.getfield 47, 3) := by decide +kernel
theorem dX5_poke_4 : decode cX5_poke 4 = .ok (.ifCond .ge 6, 3) := by decide +kernel
theorem dX5_poke_7 : decode cX5_poke 7 = .ok (.bipush (-3), 2) := by decide +kernel
theorem dX5_poke_9 : decode cX5_poke 9 = .ok (.ireturn, 1) := by decide +kernel
theorem dX5_poke_10 : decode cX5_poke 10 = .ok (.aload_n 0, 1) := by decide +kernel
theorem dX5_poke_11 : decode cX5_poke 11 = .ok (.getfield 43, 3) := by decide +kernel
theorem dX5_poke_14 : decode cX5_poke 14 = .ok (.iload_n 1, 1) := by decide +kernel
theorem dX5_poke_15 : decode cX5_poke 15 = .ok (.invokevirtual 118, 3) := by decide +kernel
theorem dX5_poke_18 : decode cX5_poke 18 = .ok (.ifCond .ne 5, 3) := by decide +kernel
theorem dX5_poke_21 : decode cX5_poke 21 = .ok (.iconst (-1), 1) := by decide +kernel
theorem dX5_poke_22 : decode cX5_poke 22 = .ok (.ireturn, 1) := by decide +kernel
theorem dX5_poke_23 : decode cX5_poke 23 = .ok (.aload_n 0, 1) := by decide +kernel
theorem dX5_poke_24 : decode cX5_poke 24 = .ok (.getfield 43, 3) := by decide +kernel
theorem dX5_poke_27 : decode cX5_poke 27 = .ok (.iload_n 1, 1) := by decide +kernel
theorem dX5_poke_28 : decode cX5_poke 28 = .ok (.aload_n 0, 1) := by decide +kernel
theorem dX5_poke_29 : decode cX5_poke 29 = .ok (.getfield 43, 3) := by decide +kernel
theorem dX5_poke_32 : decode cX5_poke 32 = .ok (.iload_n 1, 1) := by decide +kernel
theorem dX5_poke_33 : decode cX5_poke 33 = .ok (.invokevirtual 121, 3) := by decide +kernel
theorem dX5_poke_36 : decode cX5_poke 36 = .ok (.iload_n 2, 1) := by decide +kernel
theorem dX5_poke_37 : decode cX5_poke 37 = .ok (.ixor, 1) := by decide +kernel
theorem dX5_poke_38 : decode cX5_poke 38 = .ok (.invokevirtual 124, 3) := by decide +kernel
theorem dX5_poke_41 : decode cX5_poke 41 = .ok (.aload_n 0, 1) := by decide +kernel
theorem dX5_poke_42 : decode cX5_poke 42 = .ok (.getfield 43, 3) := by decide +kernel
theorem dX5_poke_45 : decode cX5_poke 45 = .ok (.iload_n 1, 1) := by decide +kernel
theorem dX5_poke_46 : decode cX5_poke 46 = .ok (.invokevirtual 121, 3) := by decide +kernel
theorem dX5_poke_49 : decode cX5_poke 49 = .ok (.ireturn, 1) := by decide +kernel
theorem dX5_sign_0 : decode cX5_sign 0 = .ok (.aload_n 0, 1) := by decide +kernel
theorem dX5_sign_1 : decode cX5_sign 1 = .ok (.getfield 47, 3) := by decide +kernel
theorem dX5_sign_4 : decode cX5_sign 4 = .ok (.ifCond .ge 6, 3) := by decide +kernel
theorem dX5_sign_7 : decode cX5_sign 7 = .ok (.bipush (-3), 2) := by decide +kernel
theorem dX5_sign_9 : decode cX5_sign 9 = .ok (.ireturn, 1) := by decide +kernel
theorem dX5_sign_10 : decode cX5_sign 10 = .ok (.aload_n 0, 1) := by decide +kernel
theorem dX5_sign_11 : decode cX5_sign 11 = .ok (.getfield 43, 3) := by decide +kernel
theorem dX5_sign_14 : decode cX5_sign 14 = .ok (.getfield 111, 3) := by decide +kernel
theorem dX5_sign_17 : decode cX5_sign 17 = .ok (.iconst 2, 1) := by decide +kernel
theorem dX5_sign_18 : decode cX5_sign 18 = .ok (.isub, 1) := by decide +kernel
theorem dX5_sign_19 : decode cX5_sign 19 = .ok (.istore_n 1, 1) := by decide +kernel
theorem dX5_sign_20 : decode cX5_sign 20 = .ok (.aload_n 0, 1) := by decide +kernel
theorem dX5_sign_21 : decode cX5_sign 21 = .ok (.getfield 43, 3) := by decide +kernel
theorem dX5_sign_24 : decode cX5_sign 24 = .ok (.iload_n 1, 1) := by decide +kernel
theorem dX5_sign_25 : decode cX5_sign 25 = .ok (.invokevirtual 114, 3) := by decide +kernel
theorem dX5_sign_28 : decode cX5_sign 28 = .ok (.istore_n 2, 1) := by decide +kernel
theorem dX5_sign_29 : decode cX5_sign 29 = .ok (.aload_n 0, 1) := by decide +kernel
theorem dX5_sign_30 : decode cX5_sign 30 = .ok (.getfield 43, 3) := by decide +kernel
theorem dX5_sign_33 : decode cX5_sign 33 = .ok (.iload_n 1, 1) := by decide +kernel
theorem dX5_sign_34 : decode cX5_sign 34 = .ok (.invokevirtual 98, 3) := by decide +kernel
theorem dX5_sign_37 : decode cX5_sign 37 = .ok (.aload_n 0, 1) := by decide +kernel
theorem dX5_sign_38 : decode cX5_sign 38 = .ok (.getfield 43, 3) := by decide +kernel
theorem dX5_sign_41 : decode cX5_sign 41 = .ok (.iload_n 2, 1) := by decide +kernel
theorem dX5_sign_42 : decode cX5_sign 42 = .ok (.i2l, 1) := by decide +kernel
theorem dX5_sign_43 : decode cX5_sign 43 = .ok (.iconst 2, 1) := by decide +kernel
theorem dX5_sign_44 : decode cX5_sign 44 = .ok (.invokevirtual 101, 3) := by decide +kernel
theorem dX5_sign_47 : decode cX5_sign 47 = .ok (.iload_n 2, 1) := by decide +kernel
theorem dX5_sign_48 : decode cX5_sign 48 = .ok (.ireturn, 1) := by decide +kernel
theorem dX5_take_0 : decode cX5_take 0 = .ok (.aload_n 0, 1) := by decide +kernel
theorem dX5_take_1 : decode cX5_take 1 = .ok (.aload_n 0, 1) := by decide +kernel
theorem dX5_take_2 : decode cX5_take 2 = .ok (.getfield 47, 3) := by decide +kernel
theorem dX5_take_5 : decode cX5_take 5 = .ok (.invokevirtual 128, 3) := by decide +kernel
theorem dX5_take_8 : decode cX5_take 8 = .ok (.astore_n 1, 1) := by decide +kernel
theorem dX5_take_9 : decode cX5_take 9 = .ok (.aload_n 1, 1) := by decide +kernel
theorem dX5_take_10 : decode cX5_take 10 = .ok (.ifnonnull 8, 3) := by decide +kernel
theorem dX5_take_13 : decode cX5_take 13 = .ok (.bipush (-3), 2) := by decide +kernel
theorem dX5_take_15 : decode cX5_take 15 = .ok (.goto 11, 3) := by decide +kernel
theorem dX5_take_18 : decode cX5_take 18 = .ok (.aload_n 1, 1) := by decide +kernel
theorem dX5_take_19 : decode cX5_take 19 = .ok (.aload_n 0, 1) := by decide +kernel
theorem dX5_take_20 : decode cX5_take 20 = .ok (.getfield 43, 3) := by decide +kernel
theorem dX5_take_23 : decode cX5_take 23 = .ok (.invokevirtual 132, 3) := by decide +kernel
theorem dX5_take_26 : decode cX5_take 26 = .ok (.ireturn, 1) := by decide +kernel
theorem dX5_told_0 : decode cX5_told 0 = .ok (.aload_n 0, 1) := by decide +kernel
theorem dX5_told_1 : decode cX5_told 1 = .ok (.iload_n 1, 1) := by decide +kernel
theorem dX5_told_2 : decode cX5_told 2 = .ok (.invokevirtual 128, 3) := by decide +kernel
theorem dX5_told_5 : decode cX5_told 5 = .ok (.astore_n 3, 1) := by decide +kernel
theorem dX5_told_6 : decode cX5_told 6 = .ok (.aload_n 3, 1) := by decide +kernel
theorem dX5_told_7 : decode cX5_told 7 = .ok (.ifnonnull 7, 3) := by decide +kernel
theorem dX5_told_10 : decode cX5_told 10 = .ok (.iconst (-1), 1) := by decide +kernel
theorem dX5_told_11 : decode cX5_told 11 = .ok (.goto 8, 3) := by decide +kernel
theorem dX5_told_14 : decode cX5_told 14 = .ok (.aload_n 3, 1) := by decide +kernel
theorem dX5_told_15 : decode cX5_told 15 = .ok (.iload_n 2, 1) := by decide +kernel
theorem dX5_told_16 : decode cX5_told 16 = .ok (.invokevirtual 136, 3) := by decide +kernel
theorem dX5_told_19 : decode cX5_told 19 = .ok (.ireturn, 1) := by decide +kernel
theorem dX5_taken_0 : decode cX5_taken 0 = .ok (.aload_n 0, 1) := by decide +kernel
theorem dX5_taken_1 : decode cX5_taken 1 = .ok (.iload_n 1, 1) := by decide +kernel
theorem dX5_taken_2 : decode cX5_taken 2 = .ok (.invokevirtual 128, 3) := by decide +kernel
theorem dX5_taken_5 : decode cX5_taken 5 = .ok (.astore_n 3, 1) := by decide +kernel
theorem dX5_taken_6 : decode cX5_taken 6 = .ok (.aload_n 3, 1) := by decide +kernel
theorem dX5_taken_7 : decode cX5_taken 7 = .ok (.ifnull 20, 3) := by decide +kernel
theorem dX5_taken_10 : decode cX5_taken 10 = .ok (.aload_n 3, 1) := by decide +kernel
theorem dX5_taken_11 : decode cX5_taken 11 = .ok (.iload_n 2, 1) := by decide +kernel
theorem dX5_taken_12 : decode cX5_taken 12 = .ok (.invokevirtual 139, 3) := by decide +kernel
theorem dX5_taken_15 : decode cX5_taken 15 = .ok (.ifCond .eq 12, 3) := by decide +kernel
theorem dX5_taken_18 : decode cX5_taken 18 = .ok (.aload_n 3, 1) := by decide +kernel
theorem dX5_taken_19 : decode cX5_taken 19 = .ok (.getfield 142, 3) := by decide +kernel
theorem dX5_taken_22 : decode cX5_taken 22 = .ok (.iload_n 2, 1) := by decide +kernel
theorem dX5_taken_23 : decode cX5_taken 23 = .ok (.iaload, 1) := by decide +kernel
theorem dX5_taken_24 : decode cX5_taken 24 = .ok (.goto 4, 3) := by decide +kernel
theorem dX5_taken_27 : decode cX5_taken 27 = .ok (.iconst (-1), 1) := by decide +kernel
theorem dX5_taken_28 : decode cX5_taken 28 = .ok (.ireturn, 1) := by decide +kernel
theorem dX5_isKnown_0 : decode cX5_isKnown 0 = .ok (.aload_n 0, 1) := by decide +kernel
theorem dX5_isKnown_1 : decode cX5_isKnown 1 = .ok (.iload_n 1, 1) := by decide +kernel
theorem dX5_isKnown_2 : decode cX5_isKnown 2 = .ok (.invokevirtual 128, 3) := by decide +kernel
theorem dX5_isKnown_5 : decode cX5_isKnown 5 = .ok (.astore_n 3, 1) := by decide +kernel
theorem dX5_isKnown_6 : decode cX5_isKnown 6 = .ok (.aload_n 3, 1) := by decide +kernel
theorem dX5_isKnown_7 : decode cX5_isKnown 7 = .ok (.ifnull 14, 3) := by decide +kernel
theorem dX5_isKnown_10 : decode cX5_isKnown 10 = .ok (.aload_n 3, 1) := by decide +kernel
theorem dX5_isKnown_11 : decode cX5_isKnown 11 = .ok (.getfield 145, 3) := by decide +kernel
theorem dX5_isKnown_14 : decode cX5_isKnown 14 = .ok (.iload_n 2, 1) := by decide +kernel
theorem dX5_isKnown_15 : decode cX5_isKnown 15 = .ok (.invokevirtual 92, 3) := by decide +kernel
theorem dX5_isKnown_18 : decode cX5_isKnown 18 = .ok (.ifCond .ne 5, 3) := by decide +kernel
theorem dX5_isKnown_21 : decode cX5_isKnown 21 = .ok (.iconst (-1), 1) := by decide +kernel
theorem dX5_isKnown_22 : decode cX5_isKnown 22 = .ok (.ireturn, 1) := by decide +kernel
theorem dX5_isKnown_23 : decode cX5_isKnown 23 = .ok (.aload_n 3, 1) := by decide +kernel
theorem dX5_isKnown_24 : decode cX5_isKnown 24 = .ok (.getfield 149, 3) := by decide +kernel
theorem dX5_isKnown_27 : decode cX5_isKnown 27 = .ok (.iload_n 2, 1) := by decide +kernel
theorem dX5_isKnown_28 : decode cX5_isKnown 28 = .ok (.invokevirtual 153, 3) := by decide +kernel
theorem dX5_isKnown_31 : decode cX5_isKnown 31 = .ok (.ifCond .eq 7, 3) := by decide +kernel
theorem dX5_isKnown_34 : decode cX5_isKnown 34 = .ok (.iconst 1, 1) := by decide +kernel
theorem dX5_isKnown_35 : decode cX5_isKnown 35 = .ok (.goto 4, 3) := by decide +kernel
theorem dX5_isKnown_38 : decode cX5_isKnown 38 = .ok (.iconst 0, 1) := by decide +kernel
theorem dX5_isKnown_39 : decode cX5_isKnown 39 = .ok (.ireturn, 1) := by decide +kernel
theorem dX5_known_0 : decode cX5_known 0 = .ok (.aload_n 0, 1) := by decide +kernel
theorem dX5_known_1 : decode cX5_known 1 = .ok (.iload_n 1, 1) := by decide +kernel
theorem dX5_known_2 : decode cX5_known 2 = .ok (.invokevirtual 128, 3) := by decide +kernel
theorem dX5_known_5 : decode cX5_known 5 = .ok (.astore_n 3, 1) := by decide +kernel
theorem dX5_known_6 : decode cX5_known 6 = .ok (.aload_n 3, 1) := by decide +kernel
theorem dX5_known_7 : decode cX5_known 7 = .ok (.ifnull 26, 3) := by decide +kernel
theorem dX5_known_10 : decode cX5_known 10 = .ok (.aload_n 3, 1) := by decide +kernel
theorem dX5_known_11 : decode cX5_known 11 = .ok (.getfield 149, 3) := by decide +kernel
theorem dX5_known_14 : decode cX5_known 14 = .ok (.iload_n 2, 1) := by decide +kernel
theorem dX5_known_15 : decode cX5_known 15 = .ok (.invokevirtual 153, 3) := by decide +kernel
theorem dX5_known_18 : decode cX5_known 18 = .ok (.ifCond .eq 15, 3) := by decide +kernel
theorem dX5_known_21 : decode cX5_known 21 = .ok (.aload_n 3, 1) := by decide +kernel
theorem dX5_known_22 : decode cX5_known 22 = .ok (.getfield 149, 3) := by decide +kernel
theorem dX5_known_25 : decode cX5_known 25 = .ok (.getfield 158, 3) := by decide +kernel
theorem dX5_known_28 : decode cX5_known 28 = .ok (.iload_n 2, 1) := by decide +kernel
theorem dX5_known_29 : decode cX5_known 29 = .ok (.laload, 1) := by decide +kernel
theorem dX5_known_30 : decode cX5_known 30 = .ok (.goto 4, 3) := by decide +kernel
theorem dX5_known_33 : decode cX5_known 33 = .ok (.lconst 0, 1) := by decide +kernel
theorem dX5_known_34 : decode cX5_known 34 = .ok (.lreturn, 1) := by decide +kernel
theorem dX5_peeled_0 : decode cX5_peeled 0 = .ok (.aload_n 0, 1) := by decide +kernel
theorem dX5_peeled_1 : decode cX5_peeled 1 = .ok (.iload_n 1, 1) := by decide +kernel
theorem dX5_peeled_2 : decode cX5_peeled 2 = .ok (.invokevirtual 128, 3) := by decide +kernel
theorem dX5_peeled_5 : decode cX5_peeled 5 = .ok (.astore_n 3, 1) := by decide +kernel
theorem dX5_peeled_6 : decode cX5_peeled 6 = .ok (.aload_n 3, 1) := by decide +kernel
theorem dX5_peeled_7 : decode cX5_peeled 7 = .ok (.ifnull 22, 3) := by decide +kernel
theorem dX5_peeled_10 : decode cX5_peeled 10 = .ok (.aload_n 3, 1) := by decide +kernel
theorem dX5_peeled_11 : decode cX5_peeled 11 = .ok (.getfield 145, 3) := by decide +kernel
theorem dX5_peeled_14 : decode cX5_peeled 14 = .ok (.iload_n 2, 1) := by decide +kernel
theorem dX5_peeled_15 : decode cX5_peeled 15 = .ok (.invokevirtual 92, 3) := by decide +kernel
theorem dX5_peeled_18 : decode cX5_peeled 18 = .ok (.ifCond .eq 11, 3) := by decide +kernel
theorem dX5_peeled_21 : decode cX5_peeled 21 = .ok (.aload_n 3, 1) := by decide +kernel
theorem dX5_peeled_22 : decode cX5_peeled 22 = .ok (.iload_n 2, 1) := by decide +kernel
theorem dX5_peeled_23 : decode cX5_peeled 23 = .ok (.invokevirtual 162, 3) := by decide +kernel
theorem dX5_peeled_26 : decode cX5_peeled 26 = .ok (.goto 4, 3) := by decide +kernel
theorem dX5_peeled_29 : decode cX5_peeled 29 = .ok (.iconst (-1), 1) := by decide +kernel
theorem dX5_peeled_30 : decode cX5_peeled 30 = .ok (.ireturn, 1) := by decide +kernel
theorem dX5_image_0 : decode cX5_image 0 = .ok (.aload_n 0, 1) := by decide +kernel
theorem dX5_image_1 : decode cX5_image 1 = .ok (.iload_n 1, 1) := by decide +kernel
theorem dX5_image_2 : decode cX5_image 2 = .ok (.invokevirtual 128, 3) := by decide +kernel
theorem dX5_image_5 : decode cX5_image 5 = .ok (.astore_n 2, 1) := by decide +kernel
theorem dX5_image_6 : decode cX5_image 6 = .ok (.aload_n 2, 1) := by decide +kernel
theorem dX5_image_7 : decode cX5_image 7 = .ok (.ifnonnull 5, 3) := by decide +kernel
theorem dX5_image_10 : decode cX5_image 10 = .ok (.iconst (-1), 1) := by decide +kernel
theorem dX5_image_11 : decode cX5_image 11 = .ok (.ireturn, 1) := by decide +kernel
theorem dX5_image_12 : decode cX5_image 12 = .ok (.aload_n 2, 1) := by decide +kernel
theorem dX5_image_13 : decode cX5_image 13 = .ok (.aload_n 0, 1) := by decide +kernel
theorem dX5_image_14 : decode cX5_image 14 = .ok (.getfield 50, 3) := by decide +kernel
theorem dX5_image_17 : decode cX5_image 17 = .ok (.invokevirtual 165, 3) := by decide +kernel
theorem dX5_image_20 : decode cX5_image 20 = .ok (.aload_n 0, 1) := by decide +kernel
theorem dX5_image_21 : decode cX5_image 21 = .ok (.getfield 50, 3) := by decide +kernel
theorem dX5_image_24 : decode cX5_image 24 = .ok (.getfield 111, 3) := by decide +kernel
theorem dX5_image_27 : decode cX5_image 27 = .ok (.ireturn, 1) := by decide +kernel
theorem dX5_imageByte_0 : decode cX5_imageByte 0 = .ok (.aload_n 0, 1) := by decide +kernel
theorem dX5_imageByte_1 : decode cX5_imageByte 1 = .ok (.getfield 50, 3) := by decide +kernel
theorem dX5_imageByte_4 : decode cX5_imageByte 4 = .ok (.iload_n 1, 1) := by decide +kernel
theorem dX5_imageByte_5 : decode cX5_imageByte 5 = .ok (.invokevirtual 118, 3) := by decide +kernel
theorem dX5_imageByte_8 : decode cX5_imageByte 8 = .ok (.ifCond .eq 14, 3) := by decide +kernel
theorem dX5_imageByte_11 : decode cX5_imageByte 11 = .ok (.aload_n 0, 1) := by decide +kernel
theorem dX5_imageByte_12 : decode cX5_imageByte 12 = .ok (.getfield 50, 3) := by decide +kernel
theorem dX5_imageByte_15 : decode cX5_imageByte 15 = .ok (.iload_n 1, 1) := by decide +kernel
theorem dX5_imageByte_16 : decode cX5_imageByte 16 = .ok (.invokevirtual 121, 3) := by decide +kernel
theorem dX5_imageByte_19 : decode cX5_imageByte 19 = .ok (.goto 4, 3) := by decide +kernel
theorem dX5_imageByte_22 : decode cX5_imageByte 22 = .ok (.iconst (-1), 1) := by decide +kernel
theorem dX5_imageByte_23 : decode cX5_imageByte 23 = .ok (.ireturn, 1) := by decide +kernel
theorem dX5_setByte_0 : decode cX5_setByte 0 = .ok (.aload_n 0, 1) := by decide +kernel
theorem dX5_setByte_1 : decode cX5_setByte 1 = .ok (.getfield 50, 3) := by decide +kernel
theorem dX5_setByte_4 : decode cX5_setByte 4 = .ok (.iload_n 1, 1) := by decide +kernel
theorem dX5_setByte_5 : decode cX5_setByte 5 = .ok (.invokevirtual 118, 3) := by decide +kernel
theorem dX5_setByte_8 : decode cX5_setByte 8 = .ok (.ifCond .ne 5, 3) := by decide +kernel
theorem dX5_setByte_11 : decode cX5_setByte 11 = .ok (.iconst (-1), 1) := by decide +kernel
theorem dX5_setByte_12 : decode cX5_setByte 12 = .ok (.ireturn, 1) := by decide +kernel
theorem dX5_setByte_13 : decode cX5_setByte 13 = .ok (.aload_n 0, 1) := by decide +kernel
theorem dX5_setByte_14 : decode cX5_setByte 14 = .ok (.getfield 50, 3) := by decide +kernel
theorem dX5_setByte_17 : decode cX5_setByte 17 = .ok (.iload_n 1, 1) := by decide +kernel
theorem dX5_setByte_18 : decode cX5_setByte 18 = .ok (.invokevirtual 121, 3) := by decide +kernel
theorem dX5_setByte_21 : decode cX5_setByte 21 = .ok (.istore_n 3, 1) := by decide +kernel
theorem dX5_setByte_22 : decode cX5_setByte 22 = .ok (.aload_n 0, 1) := by decide +kernel
theorem dX5_setByte_23 : decode cX5_setByte 23 = .ok (.getfield 50, 3) := by decide +kernel
theorem dX5_setByte_26 : decode cX5_setByte 26 = .ok (.iload_n 1, 1) := by decide +kernel
theorem dX5_setByte_27 : decode cX5_setByte 27 = .ok (.iload_n 2, 1) := by decide +kernel
theorem dX5_setByte_28 : decode cX5_setByte 28 = .ok (.invokevirtual 124, 3) := by decide +kernel
theorem dX5_setByte_31 : decode cX5_setByte 31 = .ok (.iload_n 3, 1) := by decide +kernel
theorem dX5_setByte_32 : decode cX5_setByte 32 = .ok (.ireturn, 1) := by decide +kernel
theorem dX5_cut_0 : decode cX5_cut 0 = .ok (.aload_n 0, 1) := by decide +kernel
theorem dX5_cut_1 : decode cX5_cut 1 = .ok (.getfield 50, 3) := by decide +kernel
theorem dX5_cut_4 : decode cX5_cut 4 = .ok (.getfield 111, 3) := by decide +kernel
theorem dX5_cut_7 : decode cX5_cut 7 = .ok (.istore_n 2, 1) := by decide +kernel
theorem dX5_cut_8 : decode cX5_cut 8 = .ok (.iload_n 1, 1) := by decide +kernel
theorem dX5_cut_9 : decode cX5_cut 9 = .ok (.ifCond .lt 8, 3) := by decide +kernel
theorem dX5_cut_12 : decode cX5_cut 12 = .ok (.iload_n 1, 1) := by decide +kernel
theorem dX5_cut_13 : decode cX5_cut 13 = .ok (.iload_n 2, 1) := by decide +kernel
theorem dX5_cut_14 : decode cX5_cut 14 = .ok (.if_icmp .le 6, 3) := by decide +kernel
theorem dX5_cut_17 : decode cX5_cut 17 = .ok (.bipush (-2), 2) := by decide +kernel
theorem dX5_cut_19 : decode cX5_cut 19 = .ok (.ireturn, 1) := by decide +kernel
theorem dX5_cut_20 : decode cX5_cut 20 = .ok (.aload_n 0, 1) := by decide +kernel
theorem dX5_cut_21 : decode cX5_cut 21 = .ok (.getfield 50, 3) := by decide +kernel
theorem dX5_cut_24 : decode cX5_cut 24 = .ok (.iload_n 1, 1) := by decide +kernel
theorem dX5_cut_25 : decode cX5_cut 25 = .ok (.invokevirtual 98, 3) := by decide +kernel
theorem dX5_cut_28 : decode cX5_cut 28 = .ok (.iload_n 2, 1) := by decide +kernel
theorem dX5_cut_29 : decode cX5_cut 29 = .ok (.ireturn, 1) := by decide +kernel
theorem dX5_resume_0 : decode cX5_resume 0 = .ok (.aload_n 0, 1) := by decide +kernel
theorem dX5_resume_1 : decode cX5_resume 1 = .ok (.iload_n 1, 1) := by decide +kernel
theorem dX5_resume_2 : decode cX5_resume 2 = .ok (.invokevirtual 128, 3) := by decide +kernel
theorem dX5_resume_5 : decode cX5_resume 5 = .ok (.astore_n 2, 1) := by decide +kernel
theorem dX5_resume_6 : decode cX5_resume 6 = .ok (.aload_n 2, 1) := by decide +kernel
theorem dX5_resume_7 : decode cX5_resume 7 = .ok (.ifnonnull 5, 3) := by decide +kernel
theorem dX5_resume_10 : decode cX5_resume 10 = .ok (.iconst (-1), 1) := by decide +kernel
theorem dX5_resume_11 : decode cX5_resume 11 = .ok (.ireturn, 1) := by decide +kernel
theorem dX5_resume_12 : decode cX5_resume 12 = .ok (.aload_n 2, 1) := by decide +kernel
theorem dX5_resume_13 : decode cX5_resume 13 = .ok (.aload_n 0, 1) := by decide +kernel
theorem dX5_resume_14 : decode cX5_resume 14 = .ok (.getfield 50, 3) := by decide +kernel
theorem dX5_resume_17 : decode cX5_resume 17 = .ok (.invokevirtual 169, 3) := by decide +kernel
theorem dX5_resume_20 : decode cX5_resume 20 = .ok (.istore_n 3, 1) := by decide +kernel
theorem dX5_resume_21 : decode cX5_resume 21 = .ok (.iload_n 3, 1) := by decide +kernel
theorem dX5_resume_22 : decode cX5_resume 22 = .ok (.ifCond .eq 8, 3) := by decide +kernel
theorem dX5_resume_25 : decode cX5_resume 25 = .ok (.bipush (-10), 2) := by decide +kernel
theorem dX5_resume_27 : decode cX5_resume 27 = .ok (.iload_n 3, 1) := by decide +kernel
theorem dX5_resume_28 : decode cX5_resume 28 = .ok (.isub, 1) := by decide +kernel
theorem dX5_resume_29 : decode cX5_resume 29 = .ok (.ireturn, 1) := by decide +kernel
theorem dX5_resume_30 : decode cX5_resume 30 = .ok (.aload_n 2, 1) := by decide +kernel
theorem dX5_resume_31 : decode cX5_resume 31 = .ok (.aload_n 0, 1) := by decide +kernel
theorem dX5_resume_32 : decode cX5_resume 32 = .ok (.getfield 50, 3) := by decide +kernel
theorem dX5_resume_35 : decode cX5_resume 35 = .ok (.invokevirtual 172, 3) := by decide +kernel
theorem dX5_resume_38 : decode cX5_resume 38 = .ok (.aload_n 2, 1) := by decide +kernel
theorem dX5_resume_39 : decode cX5_resume 39 = .ok (.getfield 149, 3) := by decide +kernel
theorem dX5_resume_42 : decode cX5_resume 42 = .ok (.getfield 175, 3) := by decide +kernel
theorem dX5_resume_45 : decode cX5_resume 45 = .ok (.ireturn, 1) := by decide +kernel
theorem dX5_sourceAt_0 : decode cX5_sourceAt 0 = .ok (.iload_n 1, 1) := by decide +kernel
theorem dX5_sourceAt_1 : decode cX5_sourceAt 1 = .ok (.ifCond .lt 20, 3) := by decide +kernel
theorem dX5_sourceAt_4 : decode cX5_sourceAt 4 = .ok (.iload_n 1, 1) := by decide +kernel
theorem dX5_sourceAt_5 : decode cX5_sourceAt 5 = .ok (.aload_n 0, 1) := by decide +kernel
theorem dX5_sourceAt_6 : decode cX5_sourceAt 6 = .ok (.getfield 34, 3) := by decide +kernel
theorem dX5_sourceAt_9 : decode cX5_sourceAt 9 = .ok (.if_icmp .ge 12, 3) := by decide +kernel
theorem dX5_sourceAt_12 : decode cX5_sourceAt 12 = .ok (.aload_n 0, 1) := by decide +kernel
theorem dX5_sourceAt_13 : decode cX5_sourceAt 13 = .ok (.getfield 24, 3) := by decide +kernel
theorem dX5_sourceAt_16 : decode cX5_sourceAt 16 = .ok (.iload_n 1, 1) := by decide +kernel
theorem dX5_sourceAt_17 : decode cX5_sourceAt 17 = .ok (.aaload, 1) := by decide +kernel
theorem dX5_sourceAt_18 : decode cX5_sourceAt 18 = .ok (.goto 4, 3) := by decide +kernel
theorem dX5_sourceAt_21 : decode cX5_sourceAt 21 = .ok (.aconst_null, 1) := by decide +kernel
theorem dX5_sourceAt_22 : decode cX5_sourceAt 22 = .ok (.areturn, 1) := by decide +kernel
theorem dX5_receiverAt_0 : decode cX5_receiverAt 0 = .ok (.iload_n 1, 1) := by decide +kernel
theorem dX5_receiverAt_1 : decode cX5_receiverAt 1 = .ok (.ifCond .lt 20, 3) := by decide +kernel
theorem dX5_receiverAt_4 : decode cX5_receiverAt 4 = .ok (.iload_n 1, 1) := by decide +kernel
theorem dX5_receiverAt_5 : decode cX5_receiverAt 5 = .ok (.aload_n 0, 1) := by decide +kernel
theorem dX5_receiverAt_6 : decode cX5_receiverAt 6 = .ok (.getfield 34, 3) := by decide +kernel
theorem dX5_receiverAt_9 : decode cX5_receiverAt 9 = .ok (.if_icmp .ge 12, 3) := by decide +kernel
theorem dX5_receiverAt_12 : decode cX5_receiverAt 12 = .ok (.aload_n 0, 1) := by decide +kernel
theorem dX5_receiverAt_13 : decode cX5_receiverAt 13 = .ok (.getfield 30, 3) := by decide +kernel
theorem dX5_receiverAt_16 : decode cX5_receiverAt 16 = .ok (.iload_n 1, 1) := by decide +kernel
theorem dX5_receiverAt_17 : decode cX5_receiverAt 17 = .ok (.aaload, 1) := by decide +kernel
theorem dX5_receiverAt_18 : decode cX5_receiverAt 18 = .ok (.goto 4, 3) := by decide +kernel
theorem dX5_receiverAt_21 : decode cX5_receiverAt 21 = .ok (.aconst_null, 1) := by decide +kernel
theorem dX5_receiverAt_22 : decode cX5_receiverAt 22 = .ok (.areturn, 1) := by decide +kernel
theorem dX5_isNumber_0 : decode cX5_isNumber 0 = .ok (.iload_n 0, 1) := by decide +kernel
theorem dX5_isNumber_1 : decode cX5_isNumber 1 = .ok (.ifCond .lt 13, 3) := by decide +kernel
theorem dX5_isNumber_4 : decode cX5_isNumber 4 = .ok (.iload_n 0, 1) := by decide +kernel
theorem dX5_isNumber_5 : decode cX5_isNumber 5 = .ok (.ldc 178, 2) := by decide +kernel
theorem dX5_isNumber_7 : decode cX5_isNumber 7 = .ok (.if_icmp .gt 7, 3) := by decide +kernel
theorem dX5_isNumber_10 : decode cX5_isNumber 10 = .ok (.iconst 1, 1) := by decide +kernel
theorem dX5_isNumber_11 : decode cX5_isNumber 11 = .ok (.goto 4, 3) := by decide +kernel
theorem dX5_isNumber_14 : decode cX5_isNumber 14 = .ok (.iconst 0, 1) := by decide +kernel
theorem dX5_isNumber_15 : decode cX5_isNumber 15 = .ok (.ireturn, 1) := by decide +kernel
theorem dX5_totalOf_0 : decode cX5_totalOf 0 = .ok (.iconst 0, 1) := by decide +kernel
theorem dX5_totalOf_1 : decode cX5_totalOf 1 = .ok (.istore_n 1, 1) := by decide +kernel
theorem dX5_totalOf_2 : decode cX5_totalOf 2 = .ok (.aload_n 0, 1) := by decide +kernel
theorem dX5_totalOf_3 : decode cX5_totalOf 3 = .ok (.astore_n 2, 1) := by decide +kernel
theorem dX5_totalOf_4 : decode cX5_totalOf 4 = .ok (.aload_n 2, 1) := by decide +kernel
theorem dX5_totalOf_5 : decode cX5_totalOf 5 = .ok (.arraylength, 1) := by decide +kernel
theorem dX5_totalOf_6 : decode cX5_totalOf 6 = .ok (.istore_n 3, 1) := by decide +kernel
theorem dX5_totalOf_7 : decode cX5_totalOf 7 = .ok (.iconst 0, 1) := by decide +kernel
theorem dX5_totalOf_8 : decode cX5_totalOf 8 = .ok (.istore 4, 2) := by decide +kernel
theorem dX5_totalOf_10 : decode cX5_totalOf 10 = .ok (.iload 4, 2) := by decide +kernel
theorem dX5_totalOf_12 : decode cX5_totalOf 12 = .ok (.iload_n 3, 1) := by decide +kernel
theorem dX5_totalOf_13 : decode cX5_totalOf 13 = .ok (.if_icmp .ge 20, 3) := by decide +kernel
theorem dX5_totalOf_16 : decode cX5_totalOf 16 = .ok (.aload_n 2, 1) := by decide +kernel
theorem dX5_totalOf_17 : decode cX5_totalOf 17 = .ok (.iload 4, 2) := by decide +kernel
theorem dX5_totalOf_19 : decode cX5_totalOf 19 = .ok (.iaload, 1) := by decide +kernel
theorem dX5_totalOf_20 : decode cX5_totalOf 20 = .ok (.istore 5, 2) := by decide +kernel
theorem dX5_totalOf_22 : decode cX5_totalOf 22 = .ok (.iload_n 1, 1) := by decide +kernel
theorem dX5_totalOf_23 : decode cX5_totalOf 23 = .ok (.iload 5, 2) := by decide +kernel
theorem dX5_totalOf_25 : decode cX5_totalOf 25 = .ok (.iadd, 1) := by decide +kernel
theorem dX5_totalOf_26 : decode cX5_totalOf 26 = .ok (.istore_n 1, 1) := by decide +kernel
theorem dX5_totalOf_27 : decode cX5_totalOf 27 = .ok (.iinc 4 1, 3) := by decide +kernel
theorem dX5_totalOf_30 : decode cX5_totalOf 30 = .ok (.goto (-20), 3) := by decide +kernel
theorem dX5_totalOf_33 : decode cX5_totalOf 33 = .ok (.iload_n 1, 1) := by decide +kernel
theorem dX5_totalOf_34 : decode cX5_totalOf 34 = .ok (.ireturn, 1) := by decide +kernel
theorem dX5_hasBit_0 : decode cX5_hasBit 0 = .ok (.lload_n 0, 1) := by decide +kernel
theorem dX5_hasBit_1 : decode cX5_hasBit 1 = .ok (.iload_n 2, 1) := by decide +kernel
theorem dX5_hasBit_2 : decode cX5_hasBit 2 = .ok (.lushr, 1) := by decide +kernel
theorem dX5_hasBit_3 : decode cX5_hasBit 3 = .ok (.lconst 1, 1) := by decide +kernel
theorem dX5_hasBit_4 : decode cX5_hasBit 4 = .ok (.land, 1) := by decide +kernel
theorem dX5_hasBit_5 : decode cX5_hasBit 5 = .ok (.lconst 0, 1) := by decide +kernel
theorem dX5_hasBit_6 : decode cX5_hasBit 6 = .ok (.lcmp, 1) := by decide +kernel
theorem dX5_hasBit_7 : decode cX5_hasBit 7 = .ok (.ifCond .eq 7, 3) := by decide +kernel
theorem dX5_hasBit_10 : decode cX5_hasBit 10 = .ok (.iconst 1, 1) := by decide +kernel
theorem dX5_hasBit_11 : decode cX5_hasBit 11 = .ok (.goto 4, 3) := by decide +kernel
theorem dX5_hasBit_14 : decode cX5_hasBit 14 = .ok (.iconst 0, 1) := by decide +kernel
theorem dX5_hasBit_15 : decode cX5_hasBit 15 = .ok (.ireturn, 1) := by decide +kernel
theorem dX5_nextState_0 : decode cX5_nextState 0 = .ok (.iload_n 0, 1) := by decide +kernel
theorem dX5_nextState_1 : decode cX5_nextState 1 = .ok (.ldc 179, 2) := by decide +kernel
theorem dX5_nextState_3 : decode cX5_nextState 3 = .ok (.imul, 1) := by decide +kernel
theorem dX5_nextState_4 : decode cX5_nextState 4 = .ok (.ldc 180, 2) := by decide +kernel
theorem dX5_nextState_6 : decode cX5_nextState 6 = .ok (.iadd, 1) := by decide +kernel
theorem dX5_nextState_7 : decode cX5_nextState 7 = .ok (.ireturn, 1) := by decide +kernel
theorem dX5_drawnModulo_0 : decode cX5_drawnModulo 0 = .ok (.iload_n 1, 1) := by decide +kernel
theorem dX5_drawnModulo_1 : decode cX5_drawnModulo 1 = .ok (.ifCond .le 11, 3) := by decide +kernel
theorem dX5_drawnModulo_4 : decode cX5_drawnModulo 4 = .ok (.iload_n 0, 1) := by decide +kernel
theorem dX5_drawnModulo_5 : decode cX5_drawnModulo 5 = .ok (.iconst 1, 1) := by decide +kernel
theorem dX5_drawnModulo_6 : decode cX5_drawnModulo 6 = .ok (.iushr, 1) := by decide +kernel
theorem dX5_drawnModulo_7 : decode cX5_drawnModulo 7 = .ok (.iload_n 1, 1) := by decide +kernel
theorem dX5_drawnModulo_8 : decode cX5_drawnModulo 8 = .ok (.irem, 1) := by decide +kernel
theorem dX5_drawnModulo_9 : decode cX5_drawnModulo 9 = .ok (.goto 4, 3) := by decide +kernel
theorem dX5_drawnModulo_12 : decode cX5_drawnModulo 12 = .ok (.iconst 0, 1) := by decide +kernel
theorem dX5_drawnModulo_13 : decode cX5_drawnModulo 13 = .ok (.ireturn, 1) := by decide +kernel
