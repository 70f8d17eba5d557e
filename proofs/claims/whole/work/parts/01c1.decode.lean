theorem dX6_frame_104 : decode cX6_frame 104 = .ok (.lshr, 1) := by decide +kernel
theorem dX6_frame_105 : decode cX6_frame 105 = .ok (.l2i, 1) := by decide +kernel
theorem dX6_frame_106 : decode cX6_frame 106 = .ok (.sipush 255, 3) := by decide +kernel
theorem dX6_frame_109 : decode cX6_frame 109 = .ok (.iand, 1) := by decide +kernel
theorem dX6_frame_110 : decode cX6_frame 110 = .ok (.iastore, 1) := by decide +kernel
theorem dX6_frame_111 : decode cX6_frame 111 = .ok (.iinc 6 1, 3) := by decide +kernel
theorem dX6_frame_114 : decode cX6_frame 114 = .ok (.goto (-35), 3) := by decide +kernel
theorem dX6_frame_117 : decode cX6_frame 117 = .ok (.aload_n 0, 1) := by decide +kernel
theorem dX6_frame_118 : decode cX6_frame 118 = .ok (.invokevirtual 120, 3) := by decide +kernel
theorem dX6_frame_121 : decode cX6_frame 121 = .ok (.pop, 1) := by decide +kernel
theorem dX6_frame_122 : decode cX6_frame 122 = .ok (.aload_n 0, 1) := by decide +kernel
theorem dX6_frame_123 : decode cX6_frame 123 = .ok (.getfield 114, 3) := by decide +kernel
theorem dX6_frame_126 : decode cX6_frame 126 = .ok (.ireturn, 1) := by decide +kernel
theorem dX6_frameByte_0 : decode cX6_frameByte 0 = .ok (.aload_n 0, 1) := by decide +kernel
theorem dX6_frameByte_1 : decode cX6_frameByte 1 = .ok (.getfield 107, 3) := by decide +kernel
theorem dX6_frameByte_4 : decode cX6_frameByte 4 = .ok (.ifCond .ne 8, 3) := by decide +kernel
theorem dX6_frameByte_7 : decode cX6_frameByte 7 = .ok (.bipush (-3), 2) := by decide +kernel
theorem dX6_frameByte_9 : decode cX6_frameByte 9 = .ok (.goto 25, 3) := by decide +kernel
theorem dX6_frameByte_12 : decode cX6_frameByte 12 = .ok (.iload_n 1, 1) := by decide +kernel
theorem dX6_frameByte_13 : decode cX6_frameByte 13 = .ok (.ifCond .lt 11, 3) := by decide +kernel
theorem dX6_frameByte_16 : decode cX6_frameByte 16 = .ok (.iload_n 1, 1) := by decide +kernel
theorem dX6_frameByte_17 : decode cX6_frameByte 17 = .ok (.aload_n 0, 1) := by decide +kernel
theorem dX6_frameByte_18 : decode cX6_frameByte 18 = .ok (.getfield 114, 3) := by decide +kernel
theorem dX6_frameByte_21 : decode cX6_frameByte 21 = .ok (.if_icmp .lt 7, 3) := by decide +kernel
theorem dX6_frameByte_24 : decode cX6_frameByte 24 = .ok (.iconst (-1), 1) := by decide +kernel
theorem dX6_frameByte_25 : decode cX6_frameByte 25 = .ok (.goto 9, 3) := by decide +kernel
theorem dX6_frameByte_28 : decode cX6_frameByte 28 = .ok (.aload_n 0, 1) := by decide +kernel
theorem dX6_frameByte_29 : decode cX6_frameByte 29 = .ok (.getfield 44, 3) := by decide +kernel
theorem dX6_frameByte_32 : decode cX6_frameByte 32 = .ok (.iload_n 1, 1) := by decide +kernel
theorem dX6_frameByte_33 : decode cX6_frameByte 33 = .ok (.iaload, 1) := by decide +kernel
theorem dX6_frameByte_34 : decode cX6_frameByte 34 = .ok (.ireturn, 1) := by decide +kernel
theorem dX6_poke_0 : decode cX6_poke 0 = .ok (.aload_n 0, 1) := by decide +kernel
theorem dX6_poke_1 : decode cX6_poke 1 = .ok (.getfield 107, 3) := by decide +kernel
theorem dX6_poke_4 : decode cX6_poke 4 = .ok (.ifCond .ne 6, 3) := by decide +kernel
theorem dX6_poke_7 : decode cX6_poke 7 = .ok (.bipush (-3), 2) := by decide +kernel
theorem dX6_poke_9 : decode cX6_poke 9 = .ok (.ireturn, 1) := by decide +kernel
theorem dX6_poke_10 : decode cX6_poke 10 = .ok (.iload_n 1, 1) := by decide +kernel
theorem dX6_poke_11 : decode cX6_poke 11 = .ok (.ifCond .lt 11, 3) := by decide +kernel
theorem dX6_poke_14 : decode cX6_poke 14 = .ok (.iload_n 1, 1) := by decide +kernel
theorem dX6_poke_15 : decode cX6_poke 15 = .ok (.aload_n 0, 1) := by decide +kernel
theorem dX6_poke_16 : decode cX6_poke 16 = .ok (.getfield 114, 3) := by decide +kernel
theorem dX6_poke_19 : decode cX6_poke 19 = .ok (.if_icmp .lt 5, 3) := by decide +kernel
theorem dX6_poke_22 : decode cX6_poke 22 = .ok (.iconst (-1), 1) := by decide +kernel
theorem dX6_poke_23 : decode cX6_poke 23 = .ok (.ireturn, 1) := by decide +kernel
theorem dX6_poke_24 : decode cX6_poke 24 = .ok (.aload_n 0, 1) := by decide +kernel
theorem dX6_poke_25 : decode cX6_poke 25 = .ok (.getfield 44, 3) := by decide +kernel
theorem dX6_poke_28 : decode cX6_poke 28 = .ok (.iload_n 1, 1) := by decide +kernel
theorem dX6_poke_29 : decode cX6_poke 29 = .ok (.dup2, 1) := by decide +kernel
theorem dX6_poke_30 : decode cX6_poke 30 = .ok (.iaload, 1) := by decide +kernel
theorem dX6_poke_31 : decode cX6_poke 31 = .ok (.iload_n 2, 1) := by decide +kernel
theorem dX6_poke_32 : decode cX6_poke 32 = .ok (.sipush 255, 3) := by decide +kernel
theorem dX6_poke_35 : decode cX6_poke 35 = .ok (.iand, 1) := by decide +kernel
theorem dX6_poke_36 : decode cX6_poke 36 = .ok (.ixor, 1) := by decide +kernel
theorem dX6_poke_37 : decode cX6_poke 37 = .ok (.iastore, 1) := by decide +kernel
theorem dX6_poke_38 : decode cX6_poke 38 = .ok (.aload_n 0, 1) := by decide +kernel
theorem dX6_poke_39 : decode cX6_poke 39 = .ok (.getfield 44, 3) := by decide +kernel
theorem dX6_poke_42 : decode cX6_poke 42 = .ok (.iload_n 1, 1) := by decide +kernel
theorem dX6_poke_43 : decode cX6_poke 43 = .ok (.iaload, 1) := by decide +kernel
theorem dX6_poke_44 : decode cX6_poke 44 = .ok (.ireturn, 1) := by decide +kernel
theorem dX6_sign_0 : decode cX6_sign 0 = .ok (.aload_n 0, 1) := by decide +kernel
theorem dX6_sign_1 : decode cX6_sign 1 = .ok (.getfield 107, 3) := by decide +kernel
theorem dX6_sign_4 : decode cX6_sign 4 = .ok (.ifCond .ne 6, 3) := by decide +kernel
theorem dX6_sign_7 : decode cX6_sign 7 = .ok (.bipush (-3), 2) := by decide +kernel
theorem dX6_sign_9 : decode cX6_sign 9 = .ok (.ireturn, 1) := by decide +kernel
theorem dX6_sign_10 : decode cX6_sign 10 = .ok (.aload_n 0, 1) := by decide +kernel
theorem dX6_sign_11 : decode cX6_sign 11 = .ok (.aload_n 0, 1) := by decide +kernel
theorem dX6_sign_12 : decode cX6_sign 12 = .ok (.getfield 44, 3) := by decide +kernel
theorem dX6_sign_15 : decode cX6_sign 15 = .ok (.aload_n 0, 1) := by decide +kernel
theorem dX6_sign_16 : decode cX6_sign 16 = .ok (.getfield 114, 3) := by decide +kernel
theorem dX6_sign_19 : decode cX6_sign 19 = .ok (.iconst 2, 1) := by decide +kernel
theorem dX6_sign_20 : decode cX6_sign 20 = .ok (.isub, 1) := by decide +kernel
theorem dX6_sign_21 : decode cX6_sign 21 = .ok (.invokevirtual 123, 3) := by decide +kernel
theorem dX6_sign_24 : decode cX6_sign 24 = .ok (.istore_n 1, 1) := by decide +kernel
theorem dX6_sign_25 : decode cX6_sign 25 = .ok (.aload_n 0, 1) := by decide +kernel
theorem dX6_sign_26 : decode cX6_sign 26 = .ok (.getfield 44, 3) := by decide +kernel
theorem dX6_sign_29 : decode cX6_sign 29 = .ok (.aload_n 0, 1) := by decide +kernel
theorem dX6_sign_30 : decode cX6_sign 30 = .ok (.getfield 114, 3) := by decide +kernel
theorem dX6_sign_33 : decode cX6_sign 33 = .ok (.iconst 2, 1) := by decide +kernel
theorem dX6_sign_34 : decode cX6_sign 34 = .ok (.isub, 1) := by decide +kernel
theorem dX6_sign_35 : decode cX6_sign 35 = .ok (.iload_n 1, 1) := by decide +kernel
theorem dX6_sign_36 : decode cX6_sign 36 = .ok (.bipush 8, 2) := by decide +kernel
theorem dX6_sign_38 : decode cX6_sign 38 = .ok (.ishr, 1) := by decide +kernel
theorem dX6_sign_39 : decode cX6_sign 39 = .ok (.iastore, 1) := by decide +kernel
theorem dX6_sign_40 : decode cX6_sign 40 = .ok (.aload_n 0, 1) := by decide +kernel
theorem dX6_sign_41 : decode cX6_sign 41 = .ok (.getfield 44, 3) := by decide +kernel
theorem dX6_sign_44 : decode cX6_sign 44 = .ok (.aload_n 0, 1) := by decide +kernel
theorem dX6_sign_45 : decode cX6_sign 45 = .ok (.getfield 114, 3) := by decide +kernel
theorem dX6_sign_48 : decode cX6_sign 48 = .ok (.iconst 1, 1) := by decide +kernel
theorem dX6_sign_49 : decode cX6_sign 49 = .ok (.isub, 1) := by decide +kernel
theorem dX6_sign_50 : decode cX6_sign 50 = .ok (.iload_n 1, 1) := by decide +kernel
theorem dX6_sign_51 : decode cX6_sign 51 = .ok (.sipush 255, 3) := by decide +kernel
theorem dX6_sign_54 : decode cX6_sign 54 = .ok (.iand, 1) := by decide +kernel
theorem dX6_sign_55 : decode cX6_sign 55 = .ok (.iastore, 1) := by decide +kernel
theorem dX6_sign_56 : decode cX6_sign 56 = .ok (.iload_n 1, 1) := by decide +kernel
theorem dX6_sign_57 : decode cX6_sign 57 = .ok (.ireturn, 1) := by decide +kernel
theorem dX6_reduce_0 : decode cX6_reduce 0 = .ok (.aload_n 0, 1) := by decide +kernel
theorem dX6_reduce_1 : decode cX6_reduce 1 = .ok (.lload_n 1, 1) := by decide +kernel
theorem dX6_reduce_2 : decode cX6_reduce 2 = .ok (.putfield 127, 3) := by decide +kernel
theorem dX6_reduce_5 : decode cX6_reduce 5 = .ok (.aload_n 0, 1) := by decide +kernel
theorem dX6_reduce_6 : decode cX6_reduce 6 = .ok (.lload_n 3, 1) := by decide +kernel
theorem dX6_reduce_7 : decode cX6_reduce 7 = .ok (.putfield 131, 3) := by decide +kernel
theorem dX6_reduce_10 : decode cX6_reduce 10 = .ok (.iconst 0, 1) := by decide +kernel
theorem dX6_reduce_11 : decode cX6_reduce 11 = .ok (.istore 5, 2) := by decide +kernel
theorem dX6_reduce_13 : decode cX6_reduce 13 = .ok (.iload 5, 2) := by decide +kernel
theorem dX6_reduce_15 : decode cX6_reduce 15 = .ok (.bipush 40, 2) := by decide +kernel
theorem dX6_reduce_17 : decode cX6_reduce 17 = .ok (.if_icmp .ge 67, 3) := by decide +kernel
theorem dX6_reduce_20 : decode cX6_reduce 20 = .ok (.aload_n 0, 1) := by decide +kernel
theorem dX6_reduce_21 : decode cX6_reduce 21 = .ok (.getfield 127, 3) := by decide +kernel
theorem dX6_reduce_24 : decode cX6_reduce 24 = .ok (.iload 5, 2) := by decide +kernel
theorem dX6_reduce_26 : decode cX6_reduce 26 = .ok (.lshr, 1) := by decide +kernel
theorem dX6_reduce_27 : decode cX6_reduce 27 = .ok (.lconst 1, 1) := by decide +kernel
theorem dX6_reduce_28 : decode cX6_reduce 28 = .ok (.land, 1) := by decide +kernel
theorem dX6_reduce_29 : decode cX6_reduce 29 = .ok (.lconst 1, 1) := by decide +kernel
theorem dX6_reduce_30 : decode cX6_reduce 30 = .ok (.lcmp, 1) := by decide +kernel
theorem dX6_reduce_31 : decode cX6_reduce 31 = .ok (.ifCond .ne 47, 3) := by decide +kernel
theorem dX6_reduce_34 : decode cX6_reduce 34 = .ok (.aload_n 0, 1) := by decide +kernel
theorem dX6_reduce_35 : decode cX6_reduce 35 = .ok (.getfield 50, 3) := by decide +kernel
theorem dX6_reduce_38 : decode cX6_reduce 38 = .ok (.iload 5, 2) := by decide +kernel
theorem dX6_reduce_40 : decode cX6_reduce 40 = .ok (.laload, 1) := by decide +kernel
theorem dX6_reduce_41 : decode cX6_reduce 41 = .ok (.lconst 0, 1) := by decide +kernel
theorem dX6_reduce_42 : decode cX6_reduce 42 = .ok (.lcmp, 1) := by decide +kernel
theorem dX6_reduce_43 : decode cX6_reduce 43 = .ok (.ifCond .eq 35, 3) := by decide +kernel
theorem dX6_reduce_46 : decode cX6_reduce 46 = .ok (.aload_n 0, 1) := by decide +kernel
theorem dX6_reduce_47 : decode cX6_reduce 47 = .ok (.dup, 1) := by decide +kernel
theorem dX6_reduce_48 : decode cX6_reduce 48 = .ok (.getfield 127, 3) := by decide +kernel
theorem dX6_reduce_51 : decode cX6_reduce 51 = .ok (.aload_n 0, 1) := by decide +kernel
theorem dX6_reduce_52 : decode cX6_reduce 52 = .ok (.getfield 50, 3) := by decide +kernel
theorem dX6_reduce_55 : decode cX6_reduce 55 = .ok (.iload 5, 2) := by decide +kernel
theorem dX6_reduce_57 : decode cX6_reduce 57 = .ok (.laload, 1) := by decide +kernel
theorem dX6_reduce_58 : decode cX6_reduce 58 = .ok (.lxor, 1) := by decide +kernel
theorem dX6_reduce_59 : decode cX6_reduce 59 = .ok (.putfield 127, 3) := by decide +kernel
theorem dX6_reduce_62 : decode cX6_reduce 62 = .ok (.aload_n 0, 1) := by decide +kernel
theorem dX6_reduce_63 : decode cX6_reduce 63 = .ok (.dup, 1) := by decide +kernel
theorem dX6_reduce_64 : decode cX6_reduce 64 = .ok (.getfield 131, 3) := by decide +kernel
theorem dX6_reduce_67 : decode cX6_reduce 67 = .ok (.aload_n 0, 1) := by decide +kernel
theorem dX6_reduce_68 : decode cX6_reduce 68 = .ok (.getfield 53, 3) := by decide +kernel
theorem dX6_reduce_71 : decode cX6_reduce 71 = .ok (.iload 5, 2) := by decide +kernel
theorem dX6_reduce_73 : decode cX6_reduce 73 = .ok (.laload, 1) := by decide +kernel
theorem dX6_reduce_74 : decode cX6_reduce 74 = .ok (.lxor, 1) := by decide +kernel
theorem dX6_reduce_75 : decode cX6_reduce 75 = .ok (.putfield 131, 3) := by decide +kernel
theorem dX6_reduce_78 : decode cX6_reduce 78 = .ok (.iinc 5 1, 3) := by decide +kernel
theorem dX6_reduce_81 : decode cX6_reduce 81 = .ok (.goto (-68), 3) := by decide +kernel
theorem dX6_reduce_84 : decode cX6_reduce 84 = .ok (.return_, 1) := by decide +kernel
theorem dX6_add_0 : decode cX6_add 0 = .ok (.aload_n 0, 1) := by decide +kernel
theorem dX6_add_1 : decode cX6_add 1 = .ok (.lload_n 1, 1) := by decide +kernel
theorem dX6_add_2 : decode cX6_add 2 = .ok (.lload_n 3, 1) := by decide +kernel
theorem dX6_add_3 : decode cX6_add 3 = .ok (.invokevirtual 134, 3) := by decide +kernel
theorem dX6_add_6 : decode cX6_add 6 = .ok (.iconst 0, 1) := by decide +kernel
theorem dX6_add_7 : decode cX6_add 7 = .ok (.istore 5, 2) := by decide +kernel
theorem dX6_add_9 : decode cX6_add 9 = .ok (.iload 5, 2) := by decide +kernel
theorem dX6_add_11 : decode cX6_add 11 = .ok (.bipush 40, 2) := by decide +kernel
theorem dX6_add_13 : decode cX6_add 13 = .ok (.if_icmp .ge 23, 3) := by decide +kernel
theorem dX6_add_16 : decode cX6_add 16 = .ok (.aload_n 0, 1) := by decide +kernel
theorem dX6_add_17 : decode cX6_add 17 = .ok (.getfield 127, 3) := by decide +kernel
theorem dX6_add_20 : decode cX6_add 20 = .ok (.iload 5, 2) := by decide +kernel
theorem dX6_add_22 : decode cX6_add 22 = .ok (.lshr, 1) := by decide +kernel
theorem dX6_add_23 : decode cX6_add 23 = .ok (.lconst 1, 1) := by decide +kernel
theorem dX6_add_24 : decode cX6_add 24 = .ok (.land, 1) := by decide +kernel
theorem dX6_add_25 : decode cX6_add 25 = .ok (.lconst 0, 1) := by decide +kernel
theorem dX6_add_26 : decode cX6_add 26 = .ok (.lcmp, 1) := by decide +kernel
theorem dX6_add_27 : decode cX6_add 27 = .ok (.ifCond .ne 9, 3) := by decide +kernel
theorem dX6_add_30 : decode cX6_add 30 = .ok (.iinc 5 1, 3) := by decide +kernel
theorem dX6_add_33 : decode cX6_add 33 = .ok (.goto (-24), 3) := by decide +kernel
theorem dX6_add_36 : decode cX6_add 36 = .ok (.iload 5, 2) := by decide +kernel
theorem dX6_add_38 : decode cX6_add 38 = .ok (.bipush 40, 2) := by decide +kernel
theorem dX6_add_40 : decode cX6_add 40 = .ok (.if_icmp .ge 35, 3) := by decide +kernel
theorem dX6_add_43 : decode cX6_add 43 = .ok (.aload_n 0, 1) := by decide +kernel
theorem dX6_add_44 : decode cX6_add 44 = .ok (.getfield 50, 3) := by decide +kernel
theorem dX6_add_47 : decode cX6_add 47 = .ok (.iload 5, 2) := by decide +kernel
theorem dX6_add_49 : decode cX6_add 49 = .ok (.aload_n 0, 1) := by decide +kernel
theorem dX6_add_50 : decode cX6_add 50 = .ok (.getfield 127, 3) := by decide +kernel
theorem dX6_add_53 : decode cX6_add 53 = .ok (.lastore, 1) := by decide +kernel
theorem dX6_add_54 : decode cX6_add 54 = .ok (.aload_n 0, 1) := by decide +kernel
theorem dX6_add_55 : decode cX6_add 55 = .ok (.getfield 53, 3) := by decide +kernel
theorem dX6_add_58 : decode cX6_add 58 = .ok (.iload 5, 2) := by decide +kernel
theorem dX6_add_60 : decode cX6_add 60 = .ok (.aload_n 0, 1) := by decide +kernel
theorem dX6_add_61 : decode cX6_add 61 = .ok (.getfield 131, 3) := by decide +kernel
theorem dX6_add_64 : decode cX6_add 64 = .ok (.lastore, 1) := by decide +kernel
theorem dX6_add_65 : decode cX6_add 65 = .ok (.aload_n 0, 1) := by decide +kernel
theorem dX6_add_66 : decode cX6_add 66 = .ok (.dup, 1) := by decide +kernel
theorem dX6_add_67 : decode cX6_add 67 = .ok (.getfield 138, 3) := by decide +kernel
theorem dX6_add_70 : decode cX6_add 70 = .ok (.iconst 1, 1) := by decide +kernel
theorem dX6_add_71 : decode cX6_add 71 = .ok (.iadd, 1) := by decide +kernel
theorem dX6_add_72 : decode cX6_add 72 = .ok (.putfield 138, 3) := by decide +kernel
theorem dX6_add_75 : decode cX6_add 75 = .ok (.return_, 1) := by decide +kernel
theorem dX6_rowAt_0 : decode cX6_rowAt 0 = .ok (.iload_n 2, 1) := by decide +kernel
theorem dX6_rowAt_1 : decode cX6_rowAt 1 = .ok (.aload_n 0, 1) := by decide +kernel
theorem dX6_rowAt_2 : decode cX6_rowAt 2 = .ok (.getfield 16, 3) := by decide +kernel
theorem dX6_rowAt_5 : decode cX6_rowAt 5 = .ok (.iload_n 1, 1) := by decide +kernel
theorem dX6_rowAt_6 : decode cX6_rowAt 6 = .ok (.iaload, 1) := by decide +kernel
theorem dX6_rowAt_7 : decode cX6_rowAt 7 = .ok (.if_icmp .ge 23, 3) := by decide +kernel
theorem dX6_rowAt_10 : decode cX6_rowAt 10 = .ok (.aload_n 0, 1) := by decide +kernel
theorem dX6_rowAt_11 : decode cX6_rowAt 11 = .ok (.iload_n 1, 1) := by decide +kernel
theorem dX6_rowAt_12 : decode cX6_rowAt 12 = .ok (.iload_n 2, 1) := by decide +kernel
theorem dX6_rowAt_13 : decode cX6_rowAt 13 = .ok (.invokevirtual 85, 3) := by decide +kernel
theorem dX6_rowAt_16 : decode cX6_rowAt 16 = .ok (.lconst 1, 1) := by decide +kernel
theorem dX6_rowAt_17 : decode cX6_rowAt 17 = .ok (.aload_n 0, 1) := by decide +kernel
theorem dX6_rowAt_18 : decode cX6_rowAt 18 = .ok (.getfield 13, 3) := by decide +kernel
theorem dX6_rowAt_21 : decode cX6_rowAt 21 = .ok (.iload_n 1, 1) := by decide +kernel
theorem dX6_rowAt_22 : decode cX6_rowAt 22 = .ok (.iaload, 1) := by decide +kernel
theorem dX6_rowAt_23 : decode cX6_rowAt 23 = .ok (.iload_n 2, 1) := by decide +kernel
theorem dX6_rowAt_24 : decode cX6_rowAt 24 = .ok (.iadd, 1) := by decide +kernel
theorem dX6_rowAt_25 : decode cX6_rowAt 25 = .ok (.lshl, 1) := by decide +kernel
theorem dX6_rowAt_26 : decode cX6_rowAt 26 = .ok (.lor, 1) := by decide +kernel
theorem dX6_rowAt_27 : decode cX6_rowAt 27 = .ok (.goto 26, 3) := by decide +kernel
theorem dX6_rowAt_30 : decode cX6_rowAt 30 = .ok (.aload_n 0, 1) := by decide +kernel
theorem dX6_rowAt_31 : decode cX6_rowAt 31 = .ok (.iload_n 1, 1) := by decide +kernel
theorem dX6_rowAt_32 : decode cX6_rowAt 32 = .ok (.aload_n 0, 1) := by decide +kernel
theorem dX6_rowAt_33 : decode cX6_rowAt 33 = .ok (.getfield 32, 3) := by decide +kernel
theorem dX6_rowAt_36 : decode cX6_rowAt 36 = .ok (.bipush 64, 2) := by decide +kernel
theorem dX6_rowAt_38 : decode cX6_rowAt 38 = .ok (.iload_n 1, 1) := by decide +kernel
theorem dX6_rowAt_39 : decode cX6_rowAt 39 = .ok (.imul, 1) := by decide +kernel
theorem dX6_rowAt_40 : decode cX6_rowAt 40 = .ok (.iload_n 2, 1) := by decide +kernel
theorem dX6_rowAt_41 : decode cX6_rowAt 41 = .ok (.iadd, 1) := by decide +kernel
theorem dX6_rowAt_42 : decode cX6_rowAt 42 = .ok (.aload_n 0, 1) := by decide +kernel
theorem dX6_rowAt_43 : decode cX6_rowAt 43 = .ok (.getfield 16, 3) := by decide +kernel
theorem dX6_rowAt_46 : decode cX6_rowAt 46 = .ok (.iload_n 1, 1) := by decide +kernel
theorem dX6_rowAt_47 : decode cX6_rowAt 47 = .ok (.iaload, 1) := by decide +kernel
theorem dX6_rowAt_48 : decode cX6_rowAt 48 = .ok (.isub, 1) := by decide +kernel
theorem dX6_rowAt_49 : decode cX6_rowAt 49 = .ok (.iaload, 1) := by decide +kernel
theorem dX6_rowAt_50 : decode cX6_rowAt 50 = .ok (.invokevirtual 92, 3) := by decide +kernel
theorem dX6_rowAt_53 : decode cX6_rowAt 53 = .ok (.lreturn, 1) := by decide +kernel
theorem dX6_build_0 : decode cX6_build 0 = .ok (.aload_n 0, 1) := by decide +kernel
theorem dX6_build_1 : decode cX6_build 1 = .ok (.iconst 0, 1) := by decide +kernel
theorem dX6_build_2 : decode cX6_build 2 = .ok (.putfield 138, 3) := by decide +kernel
theorem dX6_build_5 : decode cX6_build 5 = .ok (.iconst 0, 1) := by decide +kernel
theorem dX6_build_6 : decode cX6_build 6 = .ok (.istore_n 2, 1) := by decide +kernel
theorem dX6_build_7 : decode cX6_build 7 = .ok (.iload_n 2, 1) := by decide +kernel
theorem dX6_build_8 : decode cX6_build 8 = .ok (.bipush 40, 2) := by decide +kernel
theorem dX6_build_10 : decode cX6_build 10 = .ok (.if_icmp .ge 16, 3) := by decide +kernel
theorem dX6_build_13 : decode cX6_build 13 = .ok (.aload_n 0, 1) := by decide +kernel
theorem dX6_build_14 : decode cX6_build 14 = .ok (.getfield 50, 3) := by decide +kernel
theorem dX6_build_17 : decode cX6_build 17 = .ok (.iload_n 2, 1) := by decide +kernel
theorem dX6_build_18 : decode cX6_build 18 = .ok (.lconst 0, 1) := by decide +kernel
theorem dX6_build_19 : decode cX6_build 19 = .ok (.lastore, 1) := by decide +kernel
theorem dX6_build_20 : decode cX6_build 20 = .ok (.iinc 2 1, 3) := by decide +kernel
theorem dX6_build_23 : decode cX6_build 23 = .ok (.goto (-16), 3) := by decide +kernel
theorem dX6_build_26 : decode cX6_build 26 = .ok (.iconst 0, 1) := by decide +kernel
theorem dX6_build_27 : decode cX6_build 27 = .ok (.istore_n 2, 1) := by decide +kernel
theorem dX6_build_28 : decode cX6_build 28 = .ok (.iload_n 2, 1) := by decide +kernel
theorem dX6_build_29 : decode cX6_build 29 = .ok (.aload_n 0, 1) := by decide +kernel
theorem dX6_build_30 : decode cX6_build 30 = .ok (.getfield 16, 3) := by decide +kernel
theorem dX6_build_33 : decode cX6_build 33 = .ok (.iload_n 1, 1) := by decide +kernel
theorem dX6_build_34 : decode cX6_build 34 = .ok (.iaload, 1) := by decide +kernel
theorem dX6_build_35 : decode cX6_build 35 = .ok (.aload_n 0, 1) := by decide +kernel
theorem dX6_build_36 : decode cX6_build 36 = .ok (.getfield 38, 3) := by decide +kernel
theorem dX6_build_39 : decode cX6_build 39 = .ok (.iload_n 1, 1) := by decide +kernel
theorem dX6_build_40 : decode cX6_build 40 = .ok (.iaload, 1) := by decide +kernel
theorem dX6_build_41 : decode cX6_build 41 = .ok (.iadd, 1) := by decide +kernel
theorem dX6_build_42 : decode cX6_build 42 = .ok (.if_icmp .ge 51, 3) := by decide +kernel
theorem dX6_build_45 : decode cX6_build 45 = .ok (.aload_n 0, 1) := by decide +kernel
theorem dX6_build_46 : decode cX6_build 46 = .ok (.aload_n 0, 1) := by decide +kernel
theorem dX6_build_47 : decode cX6_build 47 = .ok (.iload_n 1, 1) := by decide +kernel
theorem dX6_build_48 : decode cX6_build 48 = .ok (.iload_n 2, 1) := by decide +kernel
theorem dX6_build_49 : decode cX6_build 49 = .ok (.invokevirtual 141, 3) := by decide +kernel
theorem dX6_build_52 : decode cX6_build 52 = .ok (.iload_n 2, 1) := by decide +kernel
theorem dX6_build_53 : decode cX6_build 53 = .ok (.aload_n 0, 1) := by decide +kernel
theorem dX6_build_54 : decode cX6_build 54 = .ok (.getfield 16, 3) := by decide +kernel
theorem dX6_build_57 : decode cX6_build 57 = .ok (.iload_n 1, 1) := by decide +kernel
theorem dX6_build_58 : decode cX6_build 58 = .ok (.iaload, 1) := by decide +kernel
theorem dX6_build_59 : decode cX6_build 59 = .ok (.if_icmp .ge 7, 3) := by decide +kernel
theorem dX6_build_62 : decode cX6_build 62 = .ok (.lconst 0, 1) := by decide +kernel
theorem dX6_build_63 : decode cX6_build 63 = .ok (.goto 21, 3) := by decide +kernel
theorem dX6_build_66 : decode cX6_build 66 = .ok (.aload_n 0, 1) := by decide +kernel
theorem dX6_build_67 : decode cX6_build 67 = .ok (.getfield 35, 3) := by decide +kernel
theorem dX6_build_70 : decode cX6_build 70 = .ok (.bipush 64, 2) := by decide +kernel
theorem dX6_build_72 : decode cX6_build 72 = .ok (.iload_n 1, 1) := by decide +kernel
theorem dX6_build_73 : decode cX6_build 73 = .ok (.imul, 1) := by decide +kernel
theorem dX6_build_74 : decode cX6_build 74 = .ok (.iload_n 2, 1) := by decide +kernel
theorem dX6_build_75 : decode cX6_build 75 = .ok (.iadd, 1) := by decide +kernel
theorem dX6_build_76 : decode cX6_build 76 = .ok (.aload_n 0, 1) := by decide +kernel
theorem dX6_build_77 : decode cX6_build 77 = .ok (.getfield 16, 3) := by decide +kernel
theorem dX6_build_80 : decode cX6_build 80 = .ok (.iload_n 1, 1) := by decide +kernel
theorem dX6_build_81 : decode cX6_build 81 = .ok (.iaload, 1) := by decide +kernel
theorem dX6_build_82 : decode cX6_build 82 = .ok (.isub, 1) := by decide +kernel
theorem dX6_build_83 : decode cX6_build 83 = .ok (.laload, 1) := by decide +kernel
theorem dX6_build_84 : decode cX6_build 84 = .ok (.invokevirtual 144, 3) := by decide +kernel
theorem dX6_build_87 : decode cX6_build 87 = .ok (.iinc 2 1, 3) := by decide +kernel
theorem dX6_build_90 : decode cX6_build 90 = .ok (.goto (-62), 3) := by decide +kernel
theorem dX6_build_93 : decode cX6_build 93 = .ok (.return_, 1) := by decide +kernel
theorem dX6_wasTaken_0 : decode cX6_wasTaken 0 = .ok (.iconst 0, 1) := by decide +kernel
theorem dX6_wasTaken_1 : decode cX6_wasTaken 1 = .ok (.istore_n 3, 1) := by decide +kernel
theorem dX6_wasTaken_2 : decode cX6_wasTaken 2 = .ok (.iload_n 3, 1) := by decide +kernel
theorem dX6_wasTaken_3 : decode cX6_wasTaken 3 = .ok (.aload_n 0, 1) := by decide +kernel
theorem dX6_wasTaken_4 : decode cX6_wasTaken 4 = .ok (.getfield 38, 3) := by decide +kernel
theorem dX6_wasTaken_7 : decode cX6_wasTaken 7 = .ok (.iload_n 1, 1) := by decide +kernel
theorem dX6_wasTaken_8 : decode cX6_wasTaken 8 = .ok (.iaload, 1) := by decide +kernel
theorem dX6_wasTaken_9 : decode cX6_wasTaken 9 = .ok (.if_icmp .ge 26, 3) := by decide +kernel
theorem dX6_wasTaken_12 : decode cX6_wasTaken 12 = .ok (.aload_n 0, 1) := by decide +kernel
theorem dX6_wasTaken_13 : decode cX6_wasTaken 13 = .ok (.getfield 32, 3) := by decide +kernel
theorem dX6_wasTaken_16 : decode cX6_wasTaken 16 = .ok (.bipush 64, 2) := by decide +kernel
theorem dX6_wasTaken_18 : decode cX6_wasTaken 18 = .ok (.iload_n 1, 1) := by decide +kernel
theorem dX6_wasTaken_19 : decode cX6_wasTaken 19 = .ok (.imul, 1) := by decide +kernel
theorem dX6_wasTaken_20 : decode cX6_wasTaken 20 = .ok (.iload_n 3, 1) := by decide +kernel
theorem dX6_wasTaken_21 : decode cX6_wasTaken 21 = .ok (.iadd, 1) := by decide +kernel
theorem dX6_wasTaken_22 : decode cX6_wasTaken 22 = .ok (.iaload, 1) := by decide +kernel
theorem dX6_wasTaken_23 : decode cX6_wasTaken 23 = .ok (.iload_n 2, 1) := by decide +kernel
theorem dX6_wasTaken_24 : decode cX6_wasTaken 24 = .ok (.if_icmp .ne 5, 3) := by decide +kernel
theorem dX6_wasTaken_27 : decode cX6_wasTaken 27 = .ok (.iconst 1, 1) := by decide +kernel
theorem dX6_wasTaken_28 : decode cX6_wasTaken 28 = .ok (.ireturn, 1) := by decide +kernel
theorem dX6_wasTaken_29 : decode cX6_wasTaken 29 = .ok (.iinc 3 1, 3) := by decide +kernel
theorem dX6_wasTaken_32 : decode cX6_wasTaken 32 = .ok (.goto (-30), 3) := by decide +kernel
theorem dX6_wasTaken_35 : decode cX6_wasTaken 35 = .ok (.iconst 0, 1) := by decide +kernel
theorem dX6_wasTaken_36 : decode cX6_wasTaken 36 = .ok (.ireturn, 1) := by decide +kernel
theorem dX6_isContrary_0 : decode cX6_isContrary 0 = .ok (.aload_n 0, 1) := by decide +kernel
theorem dX6_isContrary_1 : decode cX6_isContrary 1 = .ok (.iload_n 1, 1) := by decide +kernel
theorem dX6_isContrary_2 : decode cX6_isContrary 2 = .ok (.invokevirtual 147, 3) := by decide +kernel
theorem dX6_isContrary_5 : decode cX6_isContrary 5 = .ok (.aload_n 0, 1) := by decide +kernel
theorem dX6_isContrary_6 : decode cX6_isContrary 6 = .ok (.aload_n 0, 1) := by decide +kernel
theorem dX6_isContrary_7 : decode cX6_isContrary 7 = .ok (.iload_n 1, 1) := by decide +kernel
theorem dX6_isContrary_8 : decode cX6_isContrary 8 = .ok (.iload_n 2, 1) := by decide +kernel
theorem dX6_isContrary_9 : decode cX6_isContrary 9 = .ok (.invokevirtual 92, 3) := by decide +kernel
theorem dX6_isContrary_12 : decode cX6_isContrary 12 = .ok (.lload_n 3, 1) := by decide +kernel
theorem dX6_isContrary_13 : decode cX6_isContrary 13 = .ok (.invokevirtual 134, 3) := by decide +kernel
theorem dX6_isContrary_16 : decode cX6_isContrary 16 = .ok (.aload_n 0, 1) := by decide +kernel
theorem dX6_isContrary_17 : decode cX6_isContrary 17 = .ok (.getfield 127, 3) := by decide +kernel
theorem dX6_isContrary_20 : decode cX6_isContrary 20 = .ok (.lconst 0, 1) := by decide +kernel
theorem dX6_isContrary_21 : decode cX6_isContrary 21 = .ok (.lcmp, 1) := by decide +kernel
theorem dX6_isContrary_22 : decode cX6_isContrary 22 = .ok (.ifCond .ne 16, 3) := by decide +kernel
theorem dX6_isContrary_25 : decode cX6_isContrary 25 = .ok (.aload_n 0, 1) := by decide +kernel
theorem dX6_isContrary_26 : decode cX6_isContrary 26 = .ok (.getfield 131, 3) := by decide +kernel
theorem dX6_isContrary_29 : decode cX6_isContrary 29 = .ok (.lconst 0, 1) := by decide +kernel
theorem dX6_isContrary_30 : decode cX6_isContrary 30 = .ok (.lcmp, 1) := by decide +kernel
theorem dX6_isContrary_31 : decode cX6_isContrary 31 = .ok (.ifCond .eq 7, 3) := by decide +kernel
theorem dX6_isContrary_34 : decode cX6_isContrary 34 = .ok (.iconst 1, 1) := by decide +kernel
theorem dX6_isContrary_35 : decode cX6_isContrary 35 = .ok (.goto 4, 3) := by decide +kernel
theorem dX6_isContrary_38 : decode cX6_isContrary 38 = .ok (.iconst 0, 1) := by decide +kernel
theorem dX6_isContrary_39 : decode cX6_isContrary 39 = .ok (.ireturn, 1) := by decide +kernel
theorem dX6_keep_0 : decode cX6_keep 0 = .ok (.aload_n 0, 1) := by decide +kernel
theorem dX6_keep_1 : decode cX6_keep 1 = .ok (.getfield 32, 3) := by decide +kernel
theorem dX6_keep_4 : decode cX6_keep 4 = .ok (.bipush 64, 2) := by decide +kernel
theorem dX6_keep_6 : decode cX6_keep 6 = .ok (.iload_n 1, 1) := by decide +kernel
theorem dX6_keep_7 : decode cX6_keep 7 = .ok (.imul, 1) := by decide +kernel
theorem dX6_keep_8 : decode cX6_keep 8 = .ok (.aload_n 0, 1) := by decide +kernel
theorem dX6_keep_9 : decode cX6_keep 9 = .ok (.getfield 38, 3) := by decide +kernel
theorem dX6_keep_12 : decode cX6_keep 12 = .ok (.iload_n 1, 1) := by decide +kernel
theorem dX6_keep_13 : decode cX6_keep 13 = .ok (.iaload, 1) := by decide +kernel
theorem dX6_keep_14 : decode cX6_keep 14 = .ok (.iadd, 1) := by decide +kernel
theorem dX6_keep_15 : decode cX6_keep 15 = .ok (.iload_n 2, 1) := by decide +kernel
theorem dX6_keep_16 : decode cX6_keep 16 = .ok (.iastore, 1) := by decide +kernel
theorem dX6_keep_17 : decode cX6_keep 17 = .ok (.aload_n 0, 1) := by decide +kernel
theorem dX6_keep_18 : decode cX6_keep 18 = .ok (.getfield 35, 3) := by decide +kernel
theorem dX6_keep_21 : decode cX6_keep 21 = .ok (.bipush 64, 2) := by decide +kernel
theorem dX6_keep_23 : decode cX6_keep 23 = .ok (.iload_n 1, 1) := by decide +kernel
theorem dX6_keep_24 : decode cX6_keep 24 = .ok (.imul, 1) := by decide +kernel
theorem dX6_keep_25 : decode cX6_keep 25 = .ok (.aload_n 0, 1) := by decide +kernel
theorem dX6_keep_26 : decode cX6_keep 26 = .ok (.getfield 38, 3) := by decide +kernel
theorem dX6_keep_29 : decode cX6_keep 29 = .ok (.iload_n 1, 1) := by decide +kernel
theorem dX6_keep_30 : decode cX6_keep 30 = .ok (.iaload, 1) := by decide +kernel
theorem dX6_keep_31 : decode cX6_keep 31 = .ok (.iadd, 1) := by decide +kernel
theorem dX6_keep_32 : decode cX6_keep 32 = .ok (.lload_n 3, 1) := by decide +kernel
theorem dX6_keep_33 : decode cX6_keep 33 = .ok (.lastore, 1) := by decide +kernel
theorem dX6_keep_34 : decode cX6_keep 34 = .ok (.aload_n 0, 1) := by decide +kernel
theorem dX6_keep_35 : decode cX6_keep 35 = .ok (.getfield 38, 3) := by decide +kernel
theorem dX6_keep_38 : decode cX6_keep 38 = .ok (.iload_n 1, 1) := by decide +kernel
theorem dX6_keep_39 : decode cX6_keep 39 = .ok (.dup2, 1) := by decide +kernel
theorem dX6_keep_40 : decode cX6_keep 40 = .ok (.iaload, 1) := by decide +kernel
theorem dX6_keep_41 : decode cX6_keep 41 = .ok (.iconst 1, 1) := by decide +kernel
theorem dX6_keep_42 : decode cX6_keep 42 = .ok (.iadd, 1) := by decide +kernel
theorem dX6_keep_43 : decode cX6_keep 43 = .ok (.iastore, 1) := by decide +kernel
theorem dX6_keep_44 : decode cX6_keep 44 = .ok (.return_, 1) := by decide +kernel
theorem dX6_take_0 : decode cX6_take 0 = .ok (.aload_n 0, 1) := by decide +kernel
theorem dX6_take_1 : decode cX6_take 1 = .ok (.getfield 107, 3) := by decide +kernel
theorem dX6_take_4 : decode cX6_take 4 = .ok (.ifCond .ne 6, 3) := by decide +kernel
theorem dX6_take_7 : decode cX6_take 7 = .ok (.bipush (-3), 2) := by decide +kernel
theorem dX6_take_9 : decode cX6_take 9 = .ok (.ireturn, 1) := by decide +kernel
theorem dX6_take_10 : decode cX6_take 10 = .ok (.aload_n 0, 1) := by decide +kernel
theorem dX6_take_11 : decode cX6_take 11 = .ok (.getfield 111, 3) := by decide +kernel
theorem dX6_take_14 : decode cX6_take 14 = .ok (.istore_n 1, 1) := by decide +kernel
theorem dX6_take_15 : decode cX6_take 15 = .ok (.aload_n 0, 1) := by decide +kernel
theorem dX6_take_16 : decode cX6_take 16 = .ok (.aload_n 0, 1) := by decide +kernel
theorem dX6_take_17 : decode cX6_take 17 = .ok (.getfield 44, 3) := by decide +kernel
theorem dX6_take_20 : decode cX6_take 20 = .ok (.aload_n 0, 1) := by decide +kernel
theorem dX6_take_21 : decode cX6_take 21 = .ok (.getfield 114, 3) := by decide +kernel
theorem dX6_take_24 : decode cX6_take 24 = .ok (.iconst 2, 1) := by decide +kernel
theorem dX6_take_25 : decode cX6_take 25 = .ok (.isub, 1) := by decide +kernel
theorem dX6_take_26 : decode cX6_take 26 = .ok (.invokevirtual 123, 3) := by decide +kernel
theorem dX6_take_29 : decode cX6_take 29 = .ok (.istore_n 2, 1) := by decide +kernel
theorem dX6_take_30 : decode cX6_take 30 = .ok (.aload_n 0, 1) := by decide +kernel
theorem dX6_take_31 : decode cX6_take 31 = .ok (.getfield 44, 3) := by decide +kernel
theorem dX6_take_34 : decode cX6_take 34 = .ok (.aload_n 0, 1) := by decide +kernel
theorem dX6_take_35 : decode cX6_take 35 = .ok (.getfield 114, 3) := by decide +kernel
theorem dX6_take_38 : decode cX6_take 38 = .ok (.iconst 2, 1) := by decide +kernel
theorem dX6_take_39 : decode cX6_take 39 = .ok (.isub, 1) := by decide +kernel
theorem dX6_take_40 : decode cX6_take 40 = .ok (.iaload, 1) := by decide +kernel
theorem dX6_take_41 : decode cX6_take 41 = .ok (.iload_n 2, 1) := by decide +kernel
theorem dX6_take_42 : decode cX6_take 42 = .ok (.bipush 8, 2) := by decide +kernel
theorem dX6_take_44 : decode cX6_take 44 = .ok (.ishr, 1) := by decide +kernel
theorem dX6_take_45 : decode cX6_take 45 = .ok (.if_icmp .ne 22, 3) := by decide +kernel
theorem dX6_take_48 : decode cX6_take 48 = .ok (.aload_n 0, 1) := by decide +kernel
theorem dX6_take_49 : decode cX6_take 49 = .ok (.getfield 44, 3) := by decide +kernel
theorem dX6_take_52 : decode cX6_take 52 = .ok (.aload_n 0, 1) := by decide +kernel
theorem dX6_take_53 : decode cX6_take 53 = .ok (.getfield 114, 3) := by decide +kernel
theorem dX6_take_56 : decode cX6_take 56 = .ok (.iconst 1, 1) := by decide +kernel
theorem dX6_take_57 : decode cX6_take 57 = .ok (.isub, 1) := by decide +kernel
theorem dX6_take_58 : decode cX6_take 58 = .ok (.iaload, 1) := by decide +kernel
theorem dX6_take_59 : decode cX6_take 59 = .ok (.iload_n 2, 1) := by decide +kernel
theorem dX6_take_60 : decode cX6_take 60 = .ok (.sipush 255, 3) := by decide +kernel
theorem dX6_take_63 : decode cX6_take 63 = .ok (.iand, 1) := by decide +kernel
theorem dX6_take_64 : decode cX6_take 64 = .ok (.if_icmp .eq 18, 3) := by decide +kernel
theorem dX6_take_67 : decode cX6_take 67 = .ok (.aload_n 0, 1) := by decide +kernel
theorem dX6_take_68 : decode cX6_take 68 = .ok (.getfield 41, 3) := by decide +kernel
theorem dX6_take_71 : decode cX6_take 71 = .ok (.iconst 3, 1) := by decide +kernel
theorem dX6_take_72 : decode cX6_take 72 = .ok (.iload_n 1, 1) := by decide +kernel
theorem dX6_take_73 : decode cX6_take 73 = .ok (.imul, 1) := by decide +kernel
theorem dX6_take_74 : decode cX6_take 74 = .ok (.dup2, 1) := by decide +kernel
theorem dX6_take_75 : decode cX6_take 75 = .ok (.iaload, 1) := by decide +kernel
theorem dX6_take_76 : decode cX6_take 76 = .ok (.iconst 1, 1) := by decide +kernel
theorem dX6_take_77 : decode cX6_take 77 = .ok (.iadd, 1) := by decide +kernel
theorem dX6_take_78 : decode cX6_take 78 = .ok (.iastore, 1) := by decide +kernel
theorem dX6_take_79 : decode cX6_take 79 = .ok (.bipush (-5), 2) := by decide +kernel
theorem dX6_take_81 : decode cX6_take 81 = .ok (.ireturn, 1) := by decide +kernel
theorem dX6_take_82 : decode cX6_take 82 = .ok (.aload_n 0, 1) := by decide +kernel
theorem dX6_take_83 : decode cX6_take 83 = .ok (.getfield 44, 3) := by decide +kernel
theorem dX6_take_86 : decode cX6_take 86 = .ok (.iconst 0, 1) := by decide +kernel
theorem dX6_take_87 : decode cX6_take 87 = .ok (.iaload, 1) := by decide +kernel
theorem dX6_take_88 : decode cX6_take 88 = .ok (.bipush 8, 2) := by decide +kernel
theorem dX6_take_90 : decode cX6_take 90 = .ok (.ishl, 1) := by decide +kernel
theorem dX6_take_91 : decode cX6_take 91 = .ok (.aload_n 0, 1) := by decide +kernel
theorem dX6_take_92 : decode cX6_take 92 = .ok (.getfield 44, 3) := by decide +kernel
theorem dX6_take_95 : decode cX6_take 95 = .ok (.iconst 1, 1) := by decide +kernel
theorem dX6_take_96 : decode cX6_take 96 = .ok (.iaload, 1) := by decide +kernel
theorem dX6_take_97 : decode cX6_take 97 = .ok (.ior, 1) := by decide +kernel
theorem dX6_take_98 : decode cX6_take 98 = .ok (.istore_n 3, 1) := by decide +kernel
theorem dX6_take_99 : decode cX6_take 99 = .ok (.aload_n 0, 1) := by decide +kernel
theorem dX6_take_100 : decode cX6_take 100 = .ok (.iload_n 1, 1) := by decide +kernel
theorem dX6_take_101 : decode cX6_take 101 = .ok (.iload_n 3, 1) := by decide +kernel
theorem dX6_take_102 : decode cX6_take 102 = .ok (.invokevirtual 151, 3) := by decide +kernel
theorem dX6_take_105 : decode cX6_take 105 = .ok (.ifCond .eq 20, 3) := by decide +kernel
theorem dX6_take_108 : decode cX6_take 108 = .ok (.aload_n 0, 1) := by decide +kernel
theorem dX6_take_109 : decode cX6_take 109 = .ok (.getfield 41, 3) := by decide +kernel
theorem dX6_take_112 : decode cX6_take 112 = .ok (.iconst 3, 1) := by decide +kernel
theorem dX6_take_113 : decode cX6_take 113 = .ok (.iload_n 1, 1) := by decide +kernel
theorem dX6_take_114 : decode cX6_take 114 = .ok (.imul, 1) := by decide +kernel
theorem dX6_take_115 : decode cX6_take 115 = .ok (.iconst 1, 1) := by decide +kernel
theorem dX6_take_116 : decode cX6_take 116 = .ok (.iadd, 1) := by decide +kernel
theorem dX6_take_117 : decode cX6_take 117 = .ok (.dup2, 1) := by decide +kernel
theorem dX6_take_118 : decode cX6_take 118 = .ok (.iaload, 1) := by decide +kernel
theorem dX6_take_119 : decode cX6_take 119 = .ok (.iconst 1, 1) := by decide +kernel
theorem dX6_take_120 : decode cX6_take 120 = .ok (.iadd, 1) := by decide +kernel
theorem dX6_take_121 : decode cX6_take 121 = .ok (.iastore, 1) := by decide +kernel
theorem dX6_take_122 : decode cX6_take 122 = .ok (.bipush (-6), 2) := by decide +kernel
theorem dX6_take_124 : decode cX6_take 124 = .ok (.ireturn, 1) := by decide +kernel
theorem dX6_take_125 : decode cX6_take 125 = .ok (.aload_n 0, 1) := by decide +kernel
theorem dX6_take_126 : decode cX6_take 126 = .ok (.getfield 38, 3) := by decide +kernel
theorem dX6_take_129 : decode cX6_take 129 = .ok (.iload_n 1, 1) := by decide +kernel
theorem dX6_take_130 : decode cX6_take 130 = .ok (.iaload, 1) := by decide +kernel
theorem dX6_take_131 : decode cX6_take 131 = .ok (.bipush 64, 2) := by decide +kernel
theorem dX6_take_133 : decode cX6_take 133 = .ok (.if_icmp .ne 6, 3) := by decide +kernel
theorem dX6_take_136 : decode cX6_take 136 = .ok (.bipush (-4), 2) := by decide +kernel
theorem dX6_take_138 : decode cX6_take 138 = .ok (.ireturn, 1) := by decide +kernel
theorem dX6_take_139 : decode cX6_take 139 = .ok (.lconst 0, 1) := by decide +kernel
theorem dX6_take_140 : decode cX6_take 140 = .ok (.lstore 4, 2) := by decide +kernel
theorem dX6_take_142 : decode cX6_take 142 = .ok (.iconst 0, 1) := by decide +kernel
theorem dX6_take_143 : decode cX6_take 143 = .ok (.istore 6, 2) := by decide +kernel
theorem dX6_take_145 : decode cX6_take 145 = .ok (.iload 6, 2) := by decide +kernel
theorem dX6_take_147 : decode cX6_take 147 = .ok (.aload_n 0, 1) := by decide +kernel
theorem dX6_take_148 : decode cX6_take 148 = .ok (.getfield 19, 3) := by decide +kernel
theorem dX6_take_151 : decode cX6_take 151 = .ok (.iload_n 1, 1) := by decide +kernel
theorem dX6_take_152 : decode cX6_take 152 = .ok (.iaload, 1) := by decide +kernel
theorem dX6_take_153 : decode cX6_take 153 = .ok (.if_icmp .ge 27, 3) := by decide +kernel
theorem dX6_take_156 : decode cX6_take 156 = .ok (.lload 4, 2) := by decide +kernel
theorem dX6_take_158 : decode cX6_take 158 = .ok (.bipush 8, 2) := by decide +kernel
theorem dX6_take_160 : decode cX6_take 160 = .ok (.lshl, 1) := by decide +kernel
theorem dX6_take_161 : decode cX6_take 161 = .ok (.aload_n 0, 1) := by decide +kernel
theorem dX6_take_162 : decode cX6_take 162 = .ok (.getfield 44, 3) := by decide +kernel
theorem dX6_take_165 : decode cX6_take 165 = .ok (.iconst 2, 1) := by decide +kernel
theorem dX6_take_166 : decode cX6_take 166 = .ok (.iload 6, 2) := by decide +kernel
theorem dX6_take_168 : decode cX6_take 168 = .ok (.iadd, 1) := by decide +kernel
theorem dX6_take_169 : decode cX6_take 169 = .ok (.iaload, 1) := by decide +kernel
theorem dX6_take_170 : decode cX6_take 170 = .ok (.i2l, 1) := by decide +kernel
theorem dX6_take_171 : decode cX6_take 171 = .ok (.lor, 1) := by decide +kernel
theorem dX6_take_172 : decode cX6_take 172 = .ok (.lstore 4, 2) := by decide +kernel
theorem dX6_take_174 : decode cX6_take 174 = .ok (.iinc 6 1, 3) := by decide +kernel
theorem dX6_take_177 : decode cX6_take 177 = .ok (.goto (-32), 3) := by decide +kernel
theorem dX6_take_180 : decode cX6_take 180 = .ok (.aload_n 0, 1) := by decide +kernel
theorem dX6_take_181 : decode cX6_take 181 = .ok (.iload_n 1, 1) := by decide +kernel
theorem dX6_take_182 : decode cX6_take 182 = .ok (.iload_n 3, 1) := by decide +kernel
theorem dX6_take_183 : decode cX6_take 183 = .ok (.lload 4, 2) := by decide +kernel
theorem dX6_take_185 : decode cX6_take 185 = .ok (.invokevirtual 154, 3) := by decide +kernel
theorem dX6_take_188 : decode cX6_take 188 = .ok (.ifCond .eq 20, 3) := by decide +kernel
theorem dX6_take_191 : decode cX6_take 191 = .ok (.aload_n 0, 1) := by decide +kernel
theorem dX6_take_192 : decode cX6_take 192 = .ok (.getfield 41, 3) := by decide +kernel
theorem dX6_take_195 : decode cX6_take 195 = .ok (.iconst 3, 1) := by decide +kernel
theorem dX6_take_196 : decode cX6_take 196 = .ok (.iload_n 1, 1) := by decide +kernel
theorem dX6_take_197 : decode cX6_take 197 = .ok (.imul, 1) := by decide +kernel
theorem dX6_take_198 : decode cX6_take 198 = .ok (.iconst 2, 1) := by decide +kernel
theorem dX6_take_199 : decode cX6_take 199 = .ok (.iadd, 1) := by decide +kernel
theorem dX6_take_200 : decode cX6_take 200 = .ok (.dup2, 1) := by decide +kernel
theorem dX6_take_201 : decode cX6_take 201 = .ok (.iaload, 1) := by decide +kernel
theorem dX6_take_202 : decode cX6_take 202 = .ok (.iconst 1, 1) := by decide +kernel
theorem dX6_take_203 : decode cX6_take 203 = .ok (.iadd, 1) := by decide +kernel
theorem dX6_take_204 : decode cX6_take 204 = .ok (.iastore, 1) := by decide +kernel
theorem dX6_take_205 : decode cX6_take 205 = .ok (.bipush (-7), 2) := by decide +kernel
theorem dX6_take_207 : decode cX6_take 207 = .ok (.ireturn, 1) := by decide +kernel
theorem dX6_take_208 : decode cX6_take 208 = .ok (.aload_n 0, 1) := by decide +kernel
theorem dX6_take_209 : decode cX6_take 209 = .ok (.iload_n 1, 1) := by decide +kernel
theorem dX6_take_210 : decode cX6_take 210 = .ok (.iload_n 3, 1) := by decide +kernel
theorem dX6_take_211 : decode cX6_take 211 = .ok (.lload 4, 2) := by decide +kernel
theorem dX6_take_213 : decode cX6_take 213 = .ok (.invokevirtual 158, 3) := by decide +kernel
theorem dX6_take_216 : decode cX6_take 216 = .ok (.aload_n 0, 1) := by decide +kernel
theorem dX6_take_217 : decode cX6_take 217 = .ok (.iload_n 1, 1) := by decide +kernel
theorem dX6_take_218 : decode cX6_take 218 = .ok (.invokevirtual 147, 3) := by decide +kernel
theorem dX6_take_221 : decode cX6_take 221 = .ok (.aload_n 0, 1) := by decide +kernel
theorem dX6_take_222 : decode cX6_take 222 = .ok (.getfield 138, 3) := by decide +kernel
theorem dX6_take_225 : decode cX6_take 225 = .ok (.ireturn, 1) := by decide +kernel
theorem dX6_knows_0 : decode cX6_knows 0 = .ok (.aload_n 0, 1) := by decide +kernel
theorem dX6_knows_1 : decode cX6_knows 1 = .ok (.lconst 1, 1) := by decide +kernel
theorem dX6_knows_2 : decode cX6_knows 2 = .ok (.iload_n 1, 1) := by decide +kernel
theorem dX6_knows_3 : decode cX6_knows 3 = .ok (.lshl, 1) := by decide +kernel
theorem dX6_knows_4 : decode cX6_knows 4 = .ok (.lconst 0, 1) := by decide +kernel
theorem dX6_knows_5 : decode cX6_knows 5 = .ok (.invokevirtual 134, 3) := by decide +kernel
theorem dX6_knows_8 : decode cX6_knows 8 = .ok (.aload_n 0, 1) := by decide +kernel
theorem dX6_knows_9 : decode cX6_knows 9 = .ok (.getfield 127, 3) := by decide +kernel
theorem dX6_knows_12 : decode cX6_knows 12 = .ok (.lconst 0, 1) := by decide +kernel
theorem dX6_knows_13 : decode cX6_knows 13 = .ok (.lcmp, 1) := by decide +kernel
theorem dX6_knows_14 : decode cX6_knows 14 = .ok (.ifCond .ne 7, 3) := by decide +kernel
theorem dX6_knows_17 : decode cX6_knows 17 = .ok (.iconst 1, 1) := by decide +kernel
theorem dX6_knows_18 : decode cX6_knows 18 = .ok (.goto 4, 3) := by decide +kernel
theorem dX6_knows_21 : decode cX6_knows 21 = .ok (.iconst 0, 1) := by decide +kernel
theorem dX6_knows_22 : decode cX6_knows 22 = .ok (.ireturn, 1) := by decide +kernel
theorem dX6_count_0 : decode cX6_count 0 = .ok (.iconst 0, 1) := by decide +kernel
theorem dX6_count_1 : decode cX6_count 1 = .ok (.istore_n 2, 1) := by decide +kernel
theorem dX6_count_2 : decode cX6_count 2 = .ok (.iconst 0, 1) := by decide +kernel
theorem dX6_count_3 : decode cX6_count 3 = .ok (.istore_n 3, 1) := by decide +kernel
theorem dX6_count_4 : decode cX6_count 4 = .ok (.iload_n 3, 1) := by decide +kernel
theorem dX6_count_5 : decode cX6_count 5 = .ok (.bipush 40, 2) := by decide +kernel
theorem dX6_count_7 : decode cX6_count 7 = .ok (.if_icmp .ge 18, 3) := by decide +kernel
theorem dX6_count_10 : decode cX6_count 10 = .ok (.iload_n 2, 1) := by decide +kernel
theorem dX6_count_11 : decode cX6_count 11 = .ok (.lload_n 0, 1) := by decide +kernel
theorem dX6_count_12 : decode cX6_count 12 = .ok (.iload_n 3, 1) := by decide +kernel
theorem dX6_count_13 : decode cX6_count 13 = .ok (.lshr, 1) := by decide +kernel
theorem dX6_count_14 : decode cX6_count 14 = .ok (.lconst 1, 1) := by decide +kernel
theorem dX6_count_15 : decode cX6_count 15 = .ok (.land, 1) := by decide +kernel
theorem dX6_count_16 : decode cX6_count 16 = .ok (.l2i, 1) := by decide +kernel
theorem dX6_count_17 : decode cX6_count 17 = .ok (.iadd, 1) := by decide +kernel
theorem dX6_count_18 : decode cX6_count 18 = .ok (.istore_n 2, 1) := by decide +kernel
theorem dX6_count_19 : decode cX6_count 19 = .ok (.iinc 3 1, 3) := by decide +kernel
theorem dX6_count_22 : decode cX6_count 22 = .ok (.goto (-18), 3) := by decide +kernel
theorem dX6_count_25 : decode cX6_count 25 = .ok (.iload_n 2, 1) := by decide +kernel
theorem dX6_count_26 : decode cX6_count 26 = .ok (.ireturn, 1) := by decide +kernel
theorem dX6_peel_0 : decode cX6_peel 0 = .ok (.lconst 1, 1) := by decide +kernel
theorem dX6_peel_1 : decode cX6_peel 1 = .ok (.aload_n 0, 1) := by decide +kernel
theorem dX6_peel_2 : decode cX6_peel 2 = .ok (.iload_n 1, 1) := by decide +kernel
theorem dX6_peel_3 : decode cX6_peel 3 = .ok (.invokevirtual 67, 3) := by decide +kernel
theorem dX6_peel_6 : decode cX6_peel 6 = .ok (.lshl, 1) := by decide +kernel
theorem dX6_peel_7 : decode cX6_peel 7 = .ok (.lconst 1, 1) := by decide +kernel
theorem dX6_peel_8 : decode cX6_peel 8 = .ok (.lsub, 1) := by decide +kernel
theorem dX6_peel_9 : decode cX6_peel 9 = .ok (.lstore_n 2, 1) := by decide +kernel
theorem dX6_peel_10 : decode cX6_peel 10 = .ok (.iconst 0, 1) := by decide +kernel
theorem dX6_peel_11 : decode cX6_peel 11 = .ok (.istore 4, 2) := by decide +kernel
theorem dX6_peel_13 : decode cX6_peel 13 = .ok (.iload 4, 2) := by decide +kernel
theorem dX6_peel_15 : decode cX6_peel 15 = .ok (.bipush 40, 2) := by decide +kernel
theorem dX6_peel_17 : decode cX6_peel 17 = .ok (.if_icmp .ge 17, 3) := by decide +kernel
theorem dX6_peel_20 : decode cX6_peel 20 = .ok (.aload_n 0, 1) := by decide +kernel
theorem dX6_peel_21 : decode cX6_peel 21 = .ok (.getfield 56, 3) := by decide +kernel
theorem dX6_peel_24 : decode cX6_peel 24 = .ok (.iload 4, 2) := by decide +kernel
theorem dX6_peel_26 : decode cX6_peel 26 = .ok (.iconst 0, 1) := by decide +kernel
theorem dX6_peel_27 : decode cX6_peel 27 = .ok (.iastore, 1) := by decide +kernel
theorem dX6_peel_28 : decode cX6_peel 28 = .ok (.iinc 4 1, 3) := by decide +kernel
theorem dX6_peel_31 : decode cX6_peel 31 = .ok (.goto (-18), 3) := by decide +kernel
theorem dX6_peel_34 : decode cX6_peel 34 = .ok (.iconst 1, 1) := by decide +kernel
theorem dX6_peel_35 : decode cX6_peel 35 = .ok (.istore 4, 2) := by decide +kernel
theorem dX6_peel_37 : decode cX6_peel 37 = .ok (.iload 4, 2) := by decide +kernel
theorem dX6_peel_39 : decode cX6_peel 39 = .ok (.ifCond .eq 161, 3) := by decide +kernel
theorem dX6_peel_42 : decode cX6_peel 42 = .ok (.aload_n 0, 1) := by decide +kernel
theorem dX6_peel_43 : decode cX6_peel 43 = .ok (.getfield 16, 3) := by decide +kernel
theorem dX6_peel_46 : decode cX6_peel 46 = .ok (.iload_n 1, 1) := by decide +kernel
theorem dX6_peel_47 : decode cX6_peel 47 = .ok (.iaload, 1) := by decide +kernel
theorem dX6_peel_48 : decode cX6_peel 48 = .ok (.aload_n 0, 1) := by decide +kernel
theorem dX6_peel_49 : decode cX6_peel 49 = .ok (.getfield 38, 3) := by decide +kernel
theorem dX6_peel_52 : decode cX6_peel 52 = .ok (.iload_n 1, 1) := by decide +kernel
theorem dX6_peel_53 : decode cX6_peel 53 = .ok (.iaload, 1) := by decide +kernel
theorem dX6_peel_54 : decode cX6_peel 54 = .ok (.iadd, 1) := by decide +kernel
theorem dX6_peel_55 : decode cX6_peel 55 = .ok (.istore 5, 2) := by decide +kernel
theorem dX6_peel_57 : decode cX6_peel 57 = .ok (.iconst 0, 1) := by decide +kernel
theorem dX6_peel_58 : decode cX6_peel 58 = .ok (.istore 6, 2) := by decide +kernel
theorem dX6_peel_60 : decode cX6_peel 60 = .ok (.iload 6, 2) := by decide +kernel
theorem dX6_peel_62 : decode cX6_peel 62 = .ok (.iload 5, 2) := by decide +kernel
theorem dX6_peel_64 : decode cX6_peel 64 = .ok (.if_icmp .ge 25, 3) := by decide +kernel
theorem dX6_peel_67 : decode cX6_peel 67 = .ok (.aload_n 0, 1) := by decide +kernel
theorem dX6_peel_68 : decode cX6_peel 68 = .ok (.iload_n 1, 1) := by decide +kernel
theorem dX6_peel_69 : decode cX6_peel 69 = .ok (.iload 6, 2) := by decide +kernel
theorem dX6_peel_71 : decode cX6_peel 71 = .ok (.invokevirtual 141, 3) := by decide +kernel
theorem dX6_peel_74 : decode cX6_peel 74 = .ok (.lload_n 2, 1) := by decide +kernel
theorem dX6_peel_75 : decode cX6_peel 75 = .ok (.land, 1) := by decide +kernel
theorem dX6_peel_76 : decode cX6_peel 76 = .ok (.invokestatic 162, 3) := by decide +kernel
theorem dX6_peel_79 : decode cX6_peel 79 = .ok (.iconst 1, 1) := by decide +kernel
theorem dX6_peel_80 : decode cX6_peel 80 = .ok (.if_icmp .eq 9, 3) := by decide +kernel
theorem dX6_peel_83 : decode cX6_peel 83 = .ok (.iinc 6 1, 3) := by decide +kernel
theorem dX6_peel_86 : decode cX6_peel 86 = .ok (.goto (-26), 3) := by decide +kernel
theorem dX6_peel_89 : decode cX6_peel 89 = .ok (.iconst (-1), 1) := by decide +kernel
theorem dX6_peel_90 : decode cX6_peel 90 = .ok (.istore 7, 2) := by decide +kernel
theorem dX6_peel_92 : decode cX6_peel 92 = .ok (.iload 6, 2) := by decide +kernel
theorem dX6_peel_94 : decode cX6_peel 94 = .ok (.iload 5, 2) := by decide +kernel
theorem dX6_peel_96 : decode cX6_peel 96 = .ok (.if_icmp .ge 46, 3) := by decide +kernel
theorem dX6_peel_99 : decode cX6_peel 99 = .ok (.aload_n 0, 1) := by decide +kernel
theorem dX6_peel_100 : decode cX6_peel 100 = .ok (.iload_n 1, 1) := by decide +kernel
theorem dX6_peel_101 : decode cX6_peel 101 = .ok (.iload 6, 2) := by decide +kernel
theorem dX6_peel_103 : decode cX6_peel 103 = .ok (.invokevirtual 141, 3) := by decide +kernel
theorem dX6_peel_106 : decode cX6_peel 106 = .ok (.lload_n 2, 1) := by decide +kernel
theorem dX6_peel_107 : decode cX6_peel 107 = .ok (.land, 1) := by decide +kernel
theorem dX6_peel_108 : decode cX6_peel 108 = .ok (.lstore 8, 2) := by decide +kernel
theorem dX6_peel_110 : decode cX6_peel 110 = .ok (.iconst 0, 1) := by decide +kernel
theorem dX6_peel_111 : decode cX6_peel 111 = .ok (.istore 7, 2) := by decide +kernel
theorem dX6_peel_113 : decode cX6_peel 113 = .ok (.lload 8, 2) := by decide +kernel
theorem dX6_peel_115 : decode cX6_peel 115 = .ok (.iload 7, 2) := by decide +kernel
theorem dX6_peel_117 : decode cX6_peel 117 = .ok (.lshr, 1) := by decide +kernel
theorem dX6_peel_118 : decode cX6_peel 118 = .ok (.lconst 1, 1) := by decide +kernel
theorem dX6_peel_119 : decode cX6_peel 119 = .ok (.land, 1) := by decide +kernel
theorem dX6_peel_120 : decode cX6_peel 120 = .ok (.lconst 0, 1) := by decide +kernel
theorem dX6_peel_121 : decode cX6_peel 121 = .ok (.lcmp, 1) := by decide +kernel
theorem dX6_peel_122 : decode cX6_peel 122 = .ok (.ifCond .ne 9, 3) := by decide +kernel
theorem dX6_peel_125 : decode cX6_peel 125 = .ok (.iinc 7 1, 3) := by decide +kernel
theorem dX6_peel_128 : decode cX6_peel 128 = .ok (.goto (-15), 3) := by decide +kernel
theorem dX6_peel_131 : decode cX6_peel 131 = .ok (.aload_n 0, 1) := by decide +kernel
theorem dX6_peel_132 : decode cX6_peel 132 = .ok (.getfield 56, 3) := by decide +kernel
theorem dX6_peel_135 : decode cX6_peel 135 = .ok (.iload 7, 2) := by decide +kernel
theorem dX6_peel_137 : decode cX6_peel 137 = .ok (.iconst 1, 1) := by decide +kernel
theorem dX6_peel_138 : decode cX6_peel 138 = .ok (.iastore, 1) := by decide +kernel
theorem dX6_peel_139 : decode cX6_peel 139 = .ok (.goto 26, 3) := by decide +kernel
theorem dX6_peel_142 : decode cX6_peel 142 = .ok (.aload_n 0, 1) := by decide +kernel
theorem dX6_peel_143 : decode cX6_peel 143 = .ok (.iload_n 1, 1) := by decide +kernel
theorem dX6_peel_144 : decode cX6_peel 144 = .ok (.iload 5, 2) := by decide +kernel
theorem dX6_peel_146 : decode cX6_peel 146 = .ok (.lload_n 2, 1) := by decide +kernel
theorem dX6_peel_147 : decode cX6_peel 147 = .ok (.invokevirtual 166, 3) := by decide +kernel
theorem dX6_peel_150 : decode cX6_peel 150 = .ok (.istore 7, 2) := by decide +kernel
theorem dX6_peel_152 : decode cX6_peel 152 = .ok (.iload 7, 2) := by decide +kernel
theorem dX6_peel_154 : decode cX6_peel 154 = .ok (.ifCond .lt 11, 3) := by decide +kernel
theorem dX6_peel_157 : decode cX6_peel 157 = .ok (.aload_n 0, 1) := by decide +kernel
theorem dX6_peel_158 : decode cX6_peel 158 = .ok (.getfield 56, 3) := by decide +kernel
theorem dX6_peel_161 : decode cX6_peel 161 = .ok (.iload 7, 2) := by decide +kernel
theorem dX6_peel_163 : decode cX6_peel 163 = .ok (.iconst 2, 1) := by decide +kernel
theorem dX6_peel_164 : decode cX6_peel 164 = .ok (.iastore, 1) := by decide +kernel
theorem dX6_peel_165 : decode cX6_peel 165 = .ok (.iload 7, 2) := by decide +kernel
theorem dX6_peel_167 : decode cX6_peel 167 = .ok (.ifCond .lt 7, 3) := by decide +kernel
theorem dX6_peel_170 : decode cX6_peel 170 = .ok (.iconst 1, 1) := by decide +kernel
theorem dX6_peel_171 : decode cX6_peel 171 = .ok (.goto 4, 3) := by decide +kernel
theorem dX6_peel_174 : decode cX6_peel 174 = .ok (.iconst 0, 1) := by decide +kernel
theorem dX6_peel_175 : decode cX6_peel 175 = .ok (.istore 4, 2) := by decide +kernel
theorem dX6_peel_177 : decode cX6_peel 177 = .ok (.lload_n 2, 1) := by decide +kernel
theorem dX6_peel_178 : decode cX6_peel 178 = .ok (.iload 4, 2) := by decide +kernel
theorem dX6_peel_180 : decode cX6_peel 180 = .ok (.ifCond .eq 14, 3) := by decide +kernel
theorem dX6_peel_183 : decode cX6_peel 183 = .ok (.lconst 1, 1) := by decide +kernel
theorem dX6_peel_184 : decode cX6_peel 184 = .ok (.iload 7, 2) := by decide +kernel
theorem dX6_peel_186 : decode cX6_peel 186 = .ok (.lshl, 1) := by decide +kernel
theorem dX6_peel_187 : decode cX6_peel 187 = .ok (.ldc2_w 95, 3) := by decide +kernel
theorem dX6_peel_190 : decode cX6_peel 190 = .ok (.lxor, 1) := by decide +kernel
theorem dX6_peel_191 : decode cX6_peel 191 = .ok (.goto 4, 3) := by decide +kernel
theorem dX6_peel_194 : decode cX6_peel 194 = .ok (.lload_n 2, 1) := by decide +kernel
theorem dX6_peel_195 : decode cX6_peel 195 = .ok (.land, 1) := by decide +kernel
theorem dX6_peel_196 : decode cX6_peel 196 = .ok (.lstore_n 2, 1) := by decide +kernel
theorem dX6_peel_197 : decode cX6_peel 197 = .ok (.goto (-160), 3) := by decide +kernel
theorem dX6_peel_200 : decode cX6_peel 200 = .ok (.return_, 1) := by decide +kernel
theorem dX6_most_0 : decode cX6_most 0 = .ok (.iconst (-1), 1) := by decide +kernel
theorem dX6_most_1 : decode cX6_most 1 = .ok (.istore 5, 2) := by decide +kernel
theorem dX6_most_3 : decode cX6_most 3 = .ok (.iconst 0, 1) := by decide +kernel
theorem dX6_most_4 : decode cX6_most 4 = .ok (.istore 6, 2) := by decide +kernel
theorem dX6_most_6 : decode cX6_most 6 = .ok (.iconst 0, 1) := by decide +kernel
theorem dX6_most_7 : decode cX6_most 7 = .ok (.istore 7, 2) := by decide +kernel
theorem dX6_most_9 : decode cX6_most 9 = .ok (.iload 7, 2) := by decide +kernel
theorem dX6_most_11 : decode cX6_most 11 = .ok (.aload_n 0, 1) := by decide +kernel
theorem dX6_most_12 : decode cX6_most 12 = .ok (.iload_n 1, 1) := by decide +kernel
theorem dX6_most_13 : decode cX6_most 13 = .ok (.invokevirtual 67, 3) := by decide +kernel
theorem dX6_most_16 : decode cX6_most 16 = .ok (.if_icmp .ge 95, 3) := by decide +kernel
theorem dX6_most_19 : decode cX6_most 19 = .ok (.iconst 0, 1) := by decide +kernel
theorem dX6_most_20 : decode cX6_most 20 = .ok (.istore 8, 2) := by decide +kernel
theorem dX6_most_22 : decode cX6_most 22 = .ok (.iconst 0, 1) := by decide +kernel
theorem dX6_most_23 : decode cX6_most 23 = .ok (.istore 9, 2) := by decide +kernel
theorem dX6_most_25 : decode cX6_most 25 = .ok (.iload 9, 2) := by decide +kernel
theorem dX6_most_27 : decode cX6_most 27 = .ok (.iload_n 2, 1) := by decide +kernel
theorem dX6_most_28 : decode cX6_most 28 = .ok (.if_icmp .ge 62, 3) := by decide +kernel
theorem dX6_most_31 : decode cX6_most 31 = .ok (.lload_n 3, 1) := by decide +kernel
theorem dX6_most_32 : decode cX6_most 32 = .ok (.iload 7, 2) := by decide +kernel
theorem dX6_most_34 : decode cX6_most 34 = .ok (.lshr, 1) := by decide +kernel
theorem dX6_most_35 : decode cX6_most 35 = .ok (.lconst 1, 1) := by decide +kernel
theorem dX6_most_36 : decode cX6_most 36 = .ok (.land, 1) := by decide +kernel
theorem dX6_most_37 : decode cX6_most 37 = .ok (.lconst 1, 1) := by decide +kernel
theorem dX6_most_38 : decode cX6_most 38 = .ok (.lcmp, 1) := by decide +kernel
theorem dX6_most_39 : decode cX6_most 39 = .ok (.ifCond .ne 51, 3) := by decide +kernel
theorem dX6_most_42 : decode cX6_most 42 = .ok (.aload_n 0, 1) := by decide +kernel
theorem dX6_most_43 : decode cX6_most 43 = .ok (.iload_n 1, 1) := by decide +kernel
theorem dX6_most_44 : decode cX6_most 44 = .ok (.iload 9, 2) := by decide +kernel
theorem dX6_most_46 : decode cX6_most 46 = .ok (.invokevirtual 141, 3) := by decide +kernel
theorem dX6_most_49 : decode cX6_most 49 = .ok (.lload_n 3, 1) := by decide +kernel
theorem dX6_most_50 : decode cX6_most 50 = .ok (.land, 1) := by decide +kernel
theorem dX6_most_51 : decode cX6_most 51 = .ok (.lstore 10, 2) := by decide +kernel
theorem dX6_most_53 : decode cX6_most 53 = .ok (.iload 8, 2) := by decide +kernel
theorem dX6_most_55 : decode cX6_most 55 = .ok (.lload 10, 2) := by decide +kernel
theorem dX6_most_57 : decode cX6_most 57 = .ok (.invokestatic 162, 3) := by decide +kernel
theorem dX6_most_60 : decode cX6_most 60 = .ok (.iconst 1, 1) := by decide +kernel
theorem dX6_most_61 : decode cX6_most 61 = .ok (.if_icmp .le 19, 3) := by decide +kernel
theorem dX6_most_64 : decode cX6_most 64 = .ok (.lload 10, 2) := by decide +kernel
theorem dX6_most_66 : decode cX6_most 66 = .ok (.iload 7, 2) := by decide +kernel
theorem dX6_most_68 : decode cX6_most 68 = .ok (.lshr, 1) := by decide +kernel
theorem dX6_most_69 : decode cX6_most 69 = .ok (.lconst 1, 1) := by decide +kernel
theorem dX6_most_70 : decode cX6_most 70 = .ok (.land, 1) := by decide +kernel
theorem dX6_most_71 : decode cX6_most 71 = .ok (.lconst 1, 1) := by decide +kernel
theorem dX6_most_72 : decode cX6_most 72 = .ok (.lcmp, 1) := by decide +kernel
theorem dX6_most_73 : decode cX6_most 73 = .ok (.ifCond .ne 7, 3) := by decide +kernel
theorem dX6_most_76 : decode cX6_most 76 = .ok (.iconst 1, 1) := by decide +kernel
theorem dX6_most_77 : decode cX6_most 77 = .ok (.goto 4, 3) := by decide +kernel
theorem dX6_most_80 : decode cX6_most 80 = .ok (.iconst 0, 1) := by decide +kernel
theorem dX6_most_81 : decode cX6_most 81 = .ok (.iadd, 1) := by decide +kernel
theorem dX6_most_82 : decode cX6_most 82 = .ok (.istore 8, 2) := by decide +kernel
theorem dX6_most_84 : decode cX6_most 84 = .ok (.iinc 9 1, 3) := by decide +kernel
theorem dX6_most_87 : decode cX6_most 87 = .ok (.goto (-62), 3) := by decide +kernel
theorem dX6_most_90 : decode cX6_most 90 = .ok (.iload 8, 2) := by decide +kernel
theorem dX6_most_92 : decode cX6_most 92 = .ok (.iload 6, 2) := by decide +kernel
theorem dX6_most_94 : decode cX6_most 94 = .ok (.if_icmp .le 11, 3) := by decide +kernel
theorem dX6_most_97 : decode cX6_most 97 = .ok (.iload 8, 2) := by decide +kernel
theorem dX6_most_99 : decode cX6_most 99 = .ok (.istore 6, 2) := by decide +kernel
theorem dX6_most_101 : decode cX6_most 101 = .ok (.iload 7, 2) := by decide +kernel
theorem dX6_most_103 : decode cX6_most 103 = .ok (.istore 5, 2) := by decide +kernel
theorem dX6_most_105 : decode cX6_most 105 = .ok (.iinc 7 1, 3) := by decide +kernel
theorem dX6_most_108 : decode cX6_most 108 = .ok (.goto (-99), 3) := by decide +kernel
theorem dX6_most_111 : decode cX6_most 111 = .ok (.iload 5, 2) := by decide +kernel
theorem dX6_most_113 : decode cX6_most 113 = .ok (.ireturn, 1) := by decide +kernel
theorem dX6_states_0 : decode cX6_states 0 = .ok (.aload_n 0, 1) := by decide +kernel
theorem dX6_states_1 : decode cX6_states 1 = .ok (.iload_n 1, 1) := by decide +kernel
theorem dX6_states_2 : decode cX6_states 2 = .ok (.invokevirtual 170, 3) := by decide +kernel
theorem dX6_states_5 : decode cX6_states 5 = .ok (.iconst 0, 1) := by decide +kernel
theorem dX6_states_6 : decode cX6_states 6 = .ok (.istore_n 3, 1) := by decide +kernel
theorem dX6_states_7 : decode cX6_states 7 = .ok (.iconst 0, 1) := by decide +kernel
theorem dX6_states_8 : decode cX6_states 8 = .ok (.istore 4, 2) := by decide +kernel
theorem dX6_states_10 : decode cX6_states 10 = .ok (.iload 4, 2) := by decide +kernel
theorem dX6_states_12 : decode cX6_states 12 = .ok (.aload_n 0, 1) := by decide +kernel
theorem dX6_states_13 : decode cX6_states 13 = .ok (.iload_n 1, 1) := by decide +kernel
theorem dX6_states_14 : decode cX6_states 14 = .ok (.invokevirtual 67, 3) := by decide +kernel
theorem dX6_states_17 : decode cX6_states 17 = .ok (.if_icmp .ge 28, 3) := by decide +kernel
theorem dX6_states_20 : decode cX6_states 20 = .ok (.iload_n 3, 1) := by decide +kernel
theorem dX6_states_21 : decode cX6_states 21 = .ok (.aload_n 0, 1) := by decide +kernel
theorem dX6_states_22 : decode cX6_states 22 = .ok (.getfield 56, 3) := by decide +kernel
theorem dX6_states_25 : decode cX6_states 25 = .ok (.iload 4, 2) := by decide +kernel
theorem dX6_states_27 : decode cX6_states 27 = .ok (.iaload, 1) := by decide +kernel
theorem dX6_states_28 : decode cX6_states 28 = .ok (.iload_n 2, 1) := by decide +kernel
theorem dX6_states_29 : decode cX6_states 29 = .ok (.if_icmp .ne 7, 3) := by decide +kernel
theorem dX6_states_32 : decode cX6_states 32 = .ok (.iconst 1, 1) := by decide +kernel
theorem dX6_states_33 : decode cX6_states 33 = .ok (.goto 4, 3) := by decide +kernel
theorem dX6_states_36 : decode cX6_states 36 = .ok (.iconst 0, 1) := by decide +kernel
theorem dX6_states_37 : decode cX6_states 37 = .ok (.iadd, 1) := by decide +kernel
theorem dX6_states_38 : decode cX6_states 38 = .ok (.istore_n 3, 1) := by decide +kernel
theorem dX6_states_39 : decode cX6_states 39 = .ok (.iinc 4 1, 3) := by decide +kernel
theorem dX6_states_42 : decode cX6_states 42 = .ok (.goto (-32), 3) := by decide +kernel
theorem dX6_states_45 : decode cX6_states 45 = .ok (.iload_n 3, 1) := by decide +kernel
theorem dX6_states_46 : decode cX6_states 46 = .ok (.ireturn, 1) := by decide +kernel
theorem dX6_told_0 : decode cX6_told 0 = .ok (.aload_n 0, 1) := by decide +kernel
theorem dX6_told_1 : decode cX6_told 1 = .ok (.iload_n 1, 1) := by decide +kernel
theorem dX6_told_2 : decode cX6_told 2 = .ok (.invokevirtual 63, 3) := by decide +kernel
theorem dX6_told_5 : decode cX6_told 5 = .ok (.ifCond .ne 5, 3) := by decide +kernel
theorem dX6_told_8 : decode cX6_told 8 = .ok (.iconst (-1), 1) := by decide +kernel
theorem dX6_told_9 : decode cX6_told 9 = .ok (.ireturn, 1) := by decide +kernel
theorem dX6_told_10 : decode cX6_told 10 = .ok (.iload_n 2, 1) := by decide +kernel
theorem dX6_told_11 : decode cX6_told 11 = .ok (.ifCond .lt 9, 3) := by decide +kernel
theorem dX6_told_14 : decode cX6_told 14 = .ok (.iload_n 2, 1) := by decide +kernel
theorem dX6_told_15 : decode cX6_told 15 = .ok (.bipush 9, 2) := by decide +kernel
theorem dX6_told_17 : decode cX6_told 17 = .ok (.if_icmp .le 6, 3) := by decide +kernel
theorem dX6_told_20 : decode cX6_told 20 = .ok (.bipush (-2), 2) := by decide +kernel
theorem dX6_told_22 : decode cX6_told 22 = .ok (.ireturn, 1) := by decide +kernel
theorem dX6_told_23 : decode cX6_told 23 = .ok (.aload_n 0, 1) := by decide +kernel
theorem dX6_told_24 : decode cX6_told 24 = .ok (.iload_n 1, 1) := by decide +kernel
theorem dX6_told_25 : decode cX6_told 25 = .ok (.invokevirtual 147, 3) := by decide +kernel
theorem dX6_told_28 : decode cX6_told 28 = .ok (.iload_n 2, 1) := by decide +kernel
theorem dX6_told_29 : decode cX6_told 29 = .ok (.ifCond .ne 8, 3) := by decide +kernel
theorem dX6_told_32 : decode cX6_told 32 = .ok (.aload_n 0, 1) := by decide +kernel
theorem dX6_told_33 : decode cX6_told 33 = .ok (.getfield 138, 3) := by decide +kernel
theorem dX6_told_36 : decode cX6_told 36 = .ok (.ireturn, 1) := by decide +kernel
theorem dX6_told_37 : decode cX6_told 37 = .ok (.iload_n 2, 1) := by decide +kernel
theorem dX6_told_38 : decode cX6_told 38 = .ok (.iconst 1, 1) := by decide +kernel
theorem dX6_told_39 : decode cX6_told 39 = .ok (.if_icmp .ne 10, 3) := by decide +kernel
theorem dX6_told_42 : decode cX6_told 42 = .ok (.aload_n 0, 1) := by decide +kernel
theorem dX6_told_43 : decode cX6_told 43 = .ok (.getfield 38, 3) := by decide +kernel
theorem dX6_told_46 : decode cX6_told 46 = .ok (.iload_n 1, 1) := by decide +kernel
theorem dX6_told_47 : decode cX6_told 47 = .ok (.iaload, 1) := by decide +kernel
theorem dX6_told_48 : decode cX6_told 48 = .ok (.ireturn, 1) := by decide +kernel
theorem dX6_told_49 : decode cX6_told 49 = .ok (.iload_n 2, 1) := by decide +kernel
theorem dX6_told_50 : decode cX6_told 50 = .ok (.iconst 2, 1) := by decide +kernel
theorem dX6_told_51 : decode cX6_told 51 = .ok (.if_icmp .ne 21, 3) := by decide +kernel
theorem dX6_told_54 : decode cX6_told 54 = .ok (.aload_n 0, 1) := by decide +kernel
theorem dX6_told_55 : decode cX6_told 55 = .ok (.getfield 138, 3) := by decide +kernel
theorem dX6_told_58 : decode cX6_told 58 = .ok (.aload_n 0, 1) := by decide +kernel
theorem dX6_told_59 : decode cX6_told 59 = .ok (.iload_n 1, 1) := by decide +kernel
theorem dX6_told_60 : decode cX6_told 60 = .ok (.invokevirtual 67, 3) := by decide +kernel
theorem dX6_told_63 : decode cX6_told 63 = .ok (.if_icmp .ne 7, 3) := by decide +kernel
theorem dX6_told_66 : decode cX6_told 66 = .ok (.iconst 1, 1) := by decide +kernel
theorem dX6_told_67 : decode cX6_told 67 = .ok (.goto 4, 3) := by decide +kernel
theorem dX6_told_70 : decode cX6_told 70 = .ok (.iconst 0, 1) := by decide +kernel
theorem dX6_told_71 : decode cX6_told 71 = .ok (.ireturn, 1) := by decide +kernel
theorem dX6_told_72 : decode cX6_told 72 = .ok (.iload_n 2, 1) := by decide +kernel
theorem dX6_told_73 : decode cX6_told 73 = .ok (.iconst 3, 1) := by decide +kernel
theorem dX6_told_74 : decode cX6_told 74 = .ok (.if_icmp .ne 43, 3) := by decide +kernel
theorem dX6_told_77 : decode cX6_told 77 = .ok (.iconst 0, 1) := by decide +kernel
theorem dX6_told_78 : decode cX6_told 78 = .ok (.istore_n 3, 1) := by decide +kernel
theorem dX6_told_79 : decode cX6_told 79 = .ok (.iconst 0, 1) := by decide +kernel
theorem dX6_told_80 : decode cX6_told 80 = .ok (.istore 4, 2) := by decide +kernel
theorem dX6_told_82 : decode cX6_told 82 = .ok (.iload 4, 2) := by decide +kernel
theorem dX6_told_84 : decode cX6_told 84 = .ok (.aload_n 0, 1) := by decide +kernel
theorem dX6_told_85 : decode cX6_told 85 = .ok (.iload_n 1, 1) := by decide +kernel
theorem dX6_told_86 : decode cX6_told 86 = .ok (.invokevirtual 67, 3) := by decide +kernel
theorem dX6_told_89 : decode cX6_told 89 = .ok (.if_icmp .ge 26, 3) := by decide +kernel
