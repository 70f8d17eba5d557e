theorem dX0_init_0 : decode cX0_init 0 = .ok (.aload_n 0, 1) := by decide +kernel
theorem dX0_init_1 : decode cX0_init 1 = .ok (.invokespecial 3, 3) := by decide +kernel
theorem dX0_init_4 : decode cX0_init 4 = .ok (.aload_n 0, 1) := by decide +kernel
theorem dX0_init_5 : decode cX0_init 5 = .ok (.iconst 0, 1) := by decide +kernel
theorem dX0_init_6 : decode cX0_init 6 = .ok (.iload_n 1, 1) := by decide +kernel
theorem dX0_init_7 : decode cX0_init 7 = .ok (.invokestatic 9, 3) := by decide +kernel
theorem dX0_init_10 : decode cX0_init 10 = .ok (.newarray .int, 2) := by decide +kernel
theorem dX0_init_12 : decode cX0_init 12 = .ok (.putfield 15, 3) := by decide +kernel
theorem dX0_init_15 : decode cX0_init 15 = .ok (.aload_n 0, 1) := by decide +kernel
theorem dX0_init_16 : decode cX0_init 16 = .ok (.iconst 0, 1) := by decide +kernel
theorem dX0_init_17 : decode cX0_init 17 = .ok (.putfield 21, 3) := by decide +kernel
theorem dX0_init_20 : decode cX0_init 20 = .ok (.return_, 1) := by decide +kernel
theorem dX0_has_0 : decode cX0_has 0 = .ok (.iload_n 1, 1) := by decide +kernel
theorem dX0_has_1 : decode cX0_has 1 = .ok (.ifCond .lt 15, 3) := by decide +kernel
theorem dX0_has_4 : decode cX0_has 4 = .ok (.iload_n 1, 1) := by decide +kernel
theorem dX0_has_5 : decode cX0_has 5 = .ok (.aload_n 0, 1) := by decide +kernel
theorem dX0_has_6 : decode cX0_has 6 = .ok (.getfield 21, 3) := by decide +kernel
theorem dX0_has_9 : decode cX0_has 9 = .ok (.if_icmp .ge 7, 3) := by decide +kernel
theorem dX0_has_12 : decode cX0_has 12 = .ok (.iconst 1, 1) := by decide +kernel
theorem dX0_has_13 : decode cX0_has 13 = .ok (.goto 4, 3) := by decide +kernel
theorem dX0_has_16 : decode cX0_has 16 = .ok (.iconst 0, 1) := by decide +kernel
theorem dX0_has_17 : decode cX0_has 17 = .ok (.ireturn, 1) := by decide +kernel
theorem dX0_at_0 : decode cX0_at 0 = .ok (.aload_n 0, 1) := by decide +kernel
theorem dX0_at_1 : decode cX0_at 1 = .ok (.iload_n 1, 1) := by decide +kernel
theorem dX0_at_2 : decode cX0_at 2 = .ok (.invokevirtual 25, 3) := by decide +kernel
theorem dX0_at_5 : decode cX0_at 5 = .ok (.ifCond .eq 12, 3) := by decide +kernel
theorem dX0_at_8 : decode cX0_at 8 = .ok (.aload_n 0, 1) := by decide +kernel
theorem dX0_at_9 : decode cX0_at 9 = .ok (.getfield 15, 3) := by decide +kernel
theorem dX0_at_12 : decode cX0_at 12 = .ok (.iload_n 1, 1) := by decide +kernel
theorem dX0_at_13 : decode cX0_at 13 = .ok (.iaload, 1) := by decide +kernel
theorem dX0_at_14 : decode cX0_at 14 = .ok (.goto 4, 3) := by decide +kernel
theorem dX0_at_17 : decode cX0_at 17 = .ok (.iconst 0, 1) := by decide +kernel
theorem dX0_at_18 : decode cX0_at 18 = .ok (.ireturn, 1) := by decide +kernel
theorem dX0_put_0 : decode cX0_put 0 = .ok (.aload_n 0, 1) := by decide +kernel
theorem dX0_put_1 : decode cX0_put 1 = .ok (.iload_n 1, 1) := by decide +kernel
theorem dX0_put_2 : decode cX0_put 2 = .ok (.invokevirtual 25, 3) := by decide +kernel
theorem dX0_put_5 : decode cX0_put 5 = .ok (.ifCond .eq 14, 3) := by decide +kernel
theorem dX0_put_8 : decode cX0_put 8 = .ok (.aload_n 0, 1) := by decide +kernel
theorem dX0_put_9 : decode cX0_put 9 = .ok (.getfield 15, 3) := by decide +kernel
theorem dX0_put_12 : decode cX0_put 12 = .ok (.iload_n 1, 1) := by decide +kernel
theorem dX0_put_13 : decode cX0_put 13 = .ok (.iload_n 2, 1) := by decide +kernel
theorem dX0_put_14 : decode cX0_put 14 = .ok (.sipush 255, 3) := by decide +kernel
theorem dX0_put_17 : decode cX0_put 17 = .ok (.iand, 1) := by decide +kernel
theorem dX0_put_18 : decode cX0_put 18 = .ok (.iastore, 1) := by decide +kernel
theorem dX0_put_19 : decode cX0_put 19 = .ok (.return_, 1) := by decide +kernel
theorem dX0_shorten_0 : decode cX0_shorten 0 = .ok (.iload_n 1, 1) := by decide +kernel
theorem dX0_shorten_1 : decode cX0_shorten 1 = .ok (.ifCond .lt 16, 3) := by decide +kernel
theorem dX0_shorten_4 : decode cX0_shorten 4 = .ok (.iload_n 1, 1) := by decide +kernel
theorem dX0_shorten_5 : decode cX0_shorten 5 = .ok (.aload_n 0, 1) := by decide +kernel
theorem dX0_shorten_6 : decode cX0_shorten 6 = .ok (.getfield 21, 3) := by decide +kernel
theorem dX0_shorten_9 : decode cX0_shorten 9 = .ok (.if_icmp .ge 8, 3) := by decide +kernel
theorem dX0_shorten_12 : decode cX0_shorten 12 = .ok (.aload_n 0, 1) := by decide +kernel
theorem dX0_shorten_13 : decode cX0_shorten 13 = .ok (.iload_n 1, 1) := by decide +kernel
theorem dX0_shorten_14 : decode cX0_shorten 14 = .ok (.putfield 21, 3) := by decide +kernel
theorem dX0_shorten_17 : decode cX0_shorten 17 = .ok (.return_, 1) := by decide +kernel
theorem dX0_append_0 : decode cX0_append 0 = .ok (.iload_n 3, 1) := by decide +kernel
theorem dX0_append_1 : decode cX0_append 1 = .ok (.iconst 1, 1) := by decide +kernel
theorem dX0_append_2 : decode cX0_append 2 = .ok (.isub, 1) := by decide +kernel
theorem dX0_append_3 : decode cX0_append 3 = .ok (.istore 4, 2) := by decide +kernel
theorem dX0_append_5 : decode cX0_append 5 = .ok (.iload 4, 2) := by decide +kernel
theorem dX0_append_7 : decode cX0_append 7 = .ok (.ifCond .lt 49, 3) := by decide +kernel
theorem dX0_append_10 : decode cX0_append 10 = .ok (.aload_n 0, 1) := by decide +kernel
theorem dX0_append_11 : decode cX0_append 11 = .ok (.getfield 21, 3) := by decide +kernel
theorem dX0_append_14 : decode cX0_append 14 = .ok (.aload_n 0, 1) := by decide +kernel
theorem dX0_append_15 : decode cX0_append 15 = .ok (.getfield 15, 3) := by decide +kernel
theorem dX0_append_18 : decode cX0_append 18 = .ok (.arraylength, 1) := by decide +kernel
theorem dX0_append_19 : decode cX0_append 19 = .ok (.if_icmp .ge 37, 3) := by decide +kernel
theorem dX0_append_22 : decode cX0_append 22 = .ok (.aload_n 0, 1) := by decide +kernel
theorem dX0_append_23 : decode cX0_append 23 = .ok (.dup, 1) := by decide +kernel
theorem dX0_append_24 : decode cX0_append 24 = .ok (.getfield 21, 3) := by decide +kernel
theorem dX0_append_27 : decode cX0_append 27 = .ok (.iconst 1, 1) := by decide +kernel
theorem dX0_append_28 : decode cX0_append 28 = .ok (.iadd, 1) := by decide +kernel
theorem dX0_append_29 : decode cX0_append 29 = .ok (.putfield 21, 3) := by decide +kernel
theorem dX0_append_32 : decode cX0_append 32 = .ok (.aload_n 0, 1) := by decide +kernel
theorem dX0_append_33 : decode cX0_append 33 = .ok (.aload_n 0, 1) := by decide +kernel
theorem dX0_append_34 : decode cX0_append 34 = .ok (.getfield 21, 3) := by decide +kernel
theorem dX0_append_37 : decode cX0_append 37 = .ok (.iconst 1, 1) := by decide +kernel
theorem dX0_append_38 : decode cX0_append 38 = .ok (.isub, 1) := by decide +kernel
theorem dX0_append_39 : decode cX0_append 39 = .ok (.lload_n 1, 1) := by decide +kernel
theorem dX0_append_40 : decode cX0_append 40 = .ok (.bipush 8, 2) := by decide +kernel
theorem dX0_append_42 : decode cX0_append 42 = .ok (.iload 4, 2) := by decide +kernel
theorem dX0_append_44 : decode cX0_append 44 = .ok (.imul, 1) := by decide +kernel
theorem dX0_append_45 : decode cX0_append 45 = .ok (.lushr, 1) := by decide +kernel
theorem dX0_append_46 : decode cX0_append 46 = .ok (.l2i, 1) := by decide +kernel
theorem dX0_append_47 : decode cX0_append 47 = .ok (.invokevirtual 29, 3) := by decide +kernel
theorem dX0_append_50 : decode cX0_append 50 = .ok (.iinc 4 (-1), 3) := by decide +kernel
theorem dX0_append_53 : decode cX0_append 53 = .ok (.goto (-48), 3) := by decide +kernel
theorem dX0_append_56 : decode cX0_append 56 = .ok (.return_, 1) := by decide +kernel
theorem dX0_numberAt_0 : decode cX0_numberAt 0 = .ok (.lconst 0, 1) := by decide +kernel
theorem dX0_numberAt_1 : decode cX0_numberAt 1 = .ok (.lstore_n 3, 1) := by decide +kernel
theorem dX0_numberAt_2 : decode cX0_numberAt 2 = .ok (.iconst 0, 1) := by decide +kernel
theorem dX0_numberAt_3 : decode cX0_numberAt 3 = .ok (.istore 5, 2) := by decide +kernel
theorem dX0_numberAt_5 : decode cX0_numberAt 5 = .ok (.iload 5, 2) := by decide +kernel
theorem dX0_numberAt_7 : decode cX0_numberAt 7 = .ok (.iload_n 2, 1) := by decide +kernel
theorem dX0_numberAt_8 : decode cX0_numberAt 8 = .ok (.if_icmp .ge 24, 3) := by decide +kernel
theorem dX0_numberAt_11 : decode cX0_numberAt 11 = .ok (.lload_n 3, 1) := by decide +kernel
theorem dX0_numberAt_12 : decode cX0_numberAt 12 = .ok (.bipush 8, 2) := by decide +kernel
theorem dX0_numberAt_14 : decode cX0_numberAt 14 = .ok (.lshl, 1) := by decide +kernel
theorem dX0_numberAt_15 : decode cX0_numberAt 15 = .ok (.aload_n 0, 1) := by decide +kernel
theorem dX0_numberAt_16 : decode cX0_numberAt 16 = .ok (.iload_n 1, 1) := by decide +kernel
theorem dX0_numberAt_17 : decode cX0_numberAt 17 = .ok (.iload 5, 2) := by decide +kernel
theorem dX0_numberAt_19 : decode cX0_numberAt 19 = .ok (.iadd, 1) := by decide +kernel
theorem dX0_numberAt_20 : decode cX0_numberAt 20 = .ok (.invokevirtual 33, 3) := by decide +kernel
theorem dX0_numberAt_23 : decode cX0_numberAt 23 = .ok (.i2l, 1) := by decide +kernel
theorem dX0_numberAt_24 : decode cX0_numberAt 24 = .ok (.lor, 1) := by decide +kernel
theorem dX0_numberAt_25 : decode cX0_numberAt 25 = .ok (.lstore_n 3, 1) := by decide +kernel
theorem dX0_numberAt_26 : decode cX0_numberAt 26 = .ok (.iinc 5 1, 3) := by decide +kernel
theorem dX0_numberAt_29 : decode cX0_numberAt 29 = .ok (.goto (-24), 3) := by decide +kernel
theorem dX0_numberAt_32 : decode cX0_numberAt 32 = .ok (.lload_n 3, 1) := by decide +kernel
theorem dX0_numberAt_33 : decode cX0_numberAt 33 = .ok (.lreturn, 1) := by decide +kernel
theorem dX0_sumOfFirst_0 : decode cX0_sumOfFirst 0 = .ok (.ldc 37, 2) := by decide +kernel
theorem dX0_sumOfFirst_2 : decode cX0_sumOfFirst 2 = .ok (.istore_n 2, 1) := by decide +kernel
theorem dX0_sumOfFirst_3 : decode cX0_sumOfFirst 3 = .ok (.iconst 0, 1) := by decide +kernel
theorem dX0_sumOfFirst_4 : decode cX0_sumOfFirst 4 = .ok (.istore_n 3, 1) := by decide +kernel
theorem dX0_sumOfFirst_5 : decode cX0_sumOfFirst 5 = .ok (.iload_n 3, 1) := by decide +kernel
theorem dX0_sumOfFirst_6 : decode cX0_sumOfFirst 6 = .ok (.iload_n 1, 1) := by decide +kernel
theorem dX0_sumOfFirst_7 : decode cX0_sumOfFirst 7 = .ok (.if_icmp .ge 55, 3) := by decide +kernel
theorem dX0_sumOfFirst_10 : decode cX0_sumOfFirst 10 = .ok (.iload_n 2, 1) := by decide +kernel
theorem dX0_sumOfFirst_11 : decode cX0_sumOfFirst 11 = .ok (.aload_n 0, 1) := by decide +kernel
theorem dX0_sumOfFirst_12 : decode cX0_sumOfFirst 12 = .ok (.iload_n 3, 1) := by decide +kernel
theorem dX0_sumOfFirst_13 : decode cX0_sumOfFirst 13 = .ok (.invokevirtual 33, 3) := by decide +kernel
theorem dX0_sumOfFirst_16 : decode cX0_sumOfFirst 16 = .ok (.bipush 8, 2) := by decide +kernel
theorem dX0_sumOfFirst_18 : decode cX0_sumOfFirst 18 = .ok (.ishl, 1) := by decide +kernel
theorem dX0_sumOfFirst_19 : decode cX0_sumOfFirst 19 = .ok (.ixor, 1) := by decide +kernel
theorem dX0_sumOfFirst_20 : decode cX0_sumOfFirst 20 = .ok (.istore_n 2, 1) := by decide +kernel
theorem dX0_sumOfFirst_21 : decode cX0_sumOfFirst 21 = .ok (.iconst 0, 1) := by decide +kernel
theorem dX0_sumOfFirst_22 : decode cX0_sumOfFirst 22 = .ok (.istore 4, 2) := by decide +kernel
theorem dX0_sumOfFirst_24 : decode cX0_sumOfFirst 24 = .ok (.iload 4, 2) := by decide +kernel
theorem dX0_sumOfFirst_26 : decode cX0_sumOfFirst 26 = .ok (.bipush 8, 2) := by decide +kernel
theorem dX0_sumOfFirst_28 : decode cX0_sumOfFirst 28 = .ok (.if_icmp .ge 28, 3) := by decide +kernel
theorem dX0_sumOfFirst_31 : decode cX0_sumOfFirst 31 = .ok (.iload_n 2, 1) := by decide +kernel
theorem dX0_sumOfFirst_32 : decode cX0_sumOfFirst 32 = .ok (.iconst 1, 1) := by decide +kernel
theorem dX0_sumOfFirst_33 : decode cX0_sumOfFirst 33 = .ok (.ishl, 1) := by decide +kernel
theorem dX0_sumOfFirst_34 : decode cX0_sumOfFirst 34 = .ok (.istore_n 2, 1) := by decide +kernel
theorem dX0_sumOfFirst_35 : decode cX0_sumOfFirst 35 = .ok (.iload_n 2, 1) := by decide +kernel
theorem dX0_sumOfFirst_36 : decode cX0_sumOfFirst 36 = .ok (.ldc 37, 2) := by decide +kernel
theorem dX0_sumOfFirst_38 : decode cX0_sumOfFirst 38 = .ok (.if_icmp .le 12, 3) := by decide +kernel
theorem dX0_sumOfFirst_41 : decode cX0_sumOfFirst 41 = .ok (.iload_n 2, 1) := by decide +kernel
theorem dX0_sumOfFirst_42 : decode cX0_sumOfFirst 42 = .ok (.sipush 4129, 3) := by decide +kernel
theorem dX0_sumOfFirst_45 : decode cX0_sumOfFirst 45 = .ok (.ixor, 1) := by decide +kernel
theorem dX0_sumOfFirst_46 : decode cX0_sumOfFirst 46 = .ok (.ldc 37, 2) := by decide +kernel
theorem dX0_sumOfFirst_48 : decode cX0_sumOfFirst 48 = .ok (.iand, 1) := by decide +kernel
theorem dX0_sumOfFirst_49 : decode cX0_sumOfFirst 49 = .ok (.istore_n 2, 1) := by decide +kernel
theorem dX0_sumOfFirst_50 : decode cX0_sumOfFirst 50 = .ok (.iinc 4 1, 3) := by decide +kernel
theorem dX0_sumOfFirst_53 : decode cX0_sumOfFirst 53 = .ok (.goto (-29), 3) := by decide +kernel
theorem dX0_sumOfFirst_56 : decode cX0_sumOfFirst 56 = .ok (.iinc 3 1, 3) := by decide +kernel
theorem dX0_sumOfFirst_59 : decode cX0_sumOfFirst 59 = .ok (.goto (-54), 3) := by decide +kernel
theorem dX0_sumOfFirst_62 : decode cX0_sumOfFirst 62 = .ok (.iload_n 2, 1) := by decide +kernel
theorem dX0_sumOfFirst_63 : decode cX0_sumOfFirst 63 = .ok (.ireturn, 1) := by decide +kernel
theorem dX0_endsWithItsSum_0 : decode cX0_endsWithItsSum 0 = .ok (.aload_n 0, 1) := by decide +kernel
theorem dX0_endsWithItsSum_1 : decode cX0_endsWithItsSum 1 = .ok (.getfield 21, 3) := by decide +kernel
theorem dX0_endsWithItsSum_4 : decode cX0_endsWithItsSum 4 = .ok (.iconst 2, 1) := by decide +kernel
theorem dX0_endsWithItsSum_5 : decode cX0_endsWithItsSum 5 = .ok (.isub, 1) := by decide +kernel
theorem dX0_endsWithItsSum_6 : decode cX0_endsWithItsSum 6 = .ok (.istore_n 1, 1) := by decide +kernel
theorem dX0_endsWithItsSum_7 : decode cX0_endsWithItsSum 7 = .ok (.iload_n 1, 1) := by decide +kernel
theorem dX0_endsWithItsSum_8 : decode cX0_endsWithItsSum 8 = .ok (.ifCond .lt 23, 3) := by decide +kernel
theorem dX0_endsWithItsSum_11 : decode cX0_endsWithItsSum 11 = .ok (.aload_n 0, 1) := by decide +kernel
theorem dX0_endsWithItsSum_12 : decode cX0_endsWithItsSum 12 = .ok (.iload_n 1, 1) := by decide +kernel
theorem dX0_endsWithItsSum_13 : decode cX0_endsWithItsSum 13 = .ok (.iconst 2, 1) := by decide +kernel
theorem dX0_endsWithItsSum_14 : decode cX0_endsWithItsSum 14 = .ok (.invokevirtual 38, 3) := by decide +kernel
theorem dX0_endsWithItsSum_17 : decode cX0_endsWithItsSum 17 = .ok (.aload_n 0, 1) := by decide +kernel
theorem dX0_endsWithItsSum_18 : decode cX0_endsWithItsSum 18 = .ok (.iload_n 1, 1) := by decide +kernel
theorem dX0_endsWithItsSum_19 : decode cX0_endsWithItsSum 19 = .ok (.invokevirtual 42, 3) := by decide +kernel
theorem dX0_endsWithItsSum_22 : decode cX0_endsWithItsSum 22 = .ok (.i2l, 1) := by decide +kernel
theorem dX0_endsWithItsSum_23 : decode cX0_endsWithItsSum 23 = .ok (.lcmp, 1) := by decide +kernel
theorem dX0_endsWithItsSum_24 : decode cX0_endsWithItsSum 24 = .ok (.ifCond .ne 7, 3) := by decide +kernel
theorem dX0_endsWithItsSum_27 : decode cX0_endsWithItsSum 27 = .ok (.iconst 1, 1) := by decide +kernel
theorem dX0_endsWithItsSum_28 : decode cX0_endsWithItsSum 28 = .ok (.goto 4, 3) := by decide +kernel
theorem dX0_endsWithItsSum_31 : decode cX0_endsWithItsSum 31 = .ok (.iconst 0, 1) := by decide +kernel
theorem dX0_endsWithItsSum_32 : decode cX0_endsWithItsSum 32 = .ok (.ireturn, 1) := by decide +kernel
theorem dX1_init_0 : decode cX1_init 0 = .ok (.aload_n 0, 1) := by decide +kernel
theorem dX1_init_1 : decode cX1_init 1 = .ok (.invokespecial 1, 3) := by decide +kernel
theorem dX1_init_4 : decode cX1_init 4 = .ok (.return_, 1) := by decide +kernel
theorem dX1_run_0 : decode cX1_run 0 = .ok (.aload_n 0, 1) := by decide +kernel
theorem dX1_run_1 : decode cX1_run 1 = .ok (.lconst 1, 1) := by decide +kernel
theorem dX1_run_2 : decode cX1_run 2 = .ok (.iload_n 3, 1) := by decide +kernel
theorem dX1_run_3 : decode cX1_run 3 = .ok (.lshl, 1) := by decide +kernel
theorem dX1_run_4 : decode cX1_run 4 = .ok (.lconst 1, 1) := by decide +kernel
theorem dX1_run_5 : decode cX1_run 5 = .ok (.lsub, 1) := by decide +kernel
theorem dX1_run_6 : decode cX1_run 6 = .ok (.putfield 7, 3) := by decide +kernel
theorem dX1_run_9 : decode cX1_run 9 = .ok (.aload_n 0, 1) := by decide +kernel
theorem dX1_run_10 : decode cX1_run 10 = .ok (.lconst 0, 1) := by decide +kernel
theorem dX1_run_11 : decode cX1_run 11 = .ok (.putfield 13, 3) := by decide +kernel
theorem dX1_run_14 : decode cX1_run 14 = .ok (.aload_n 0, 1) := by decide +kernel
theorem dX1_run_15 : decode cX1_run 15 = .ok (.lconst 0, 1) := by decide +kernel
theorem dX1_run_16 : decode cX1_run 16 = .ok (.putfield 16, 3) := by decide +kernel
theorem dX1_run_19 : decode cX1_run 19 = .ok (.iconst 0, 1) := by decide +kernel
theorem dX1_run_20 : decode cX1_run 20 = .ok (.istore 4, 2) := by decide +kernel
theorem dX1_run_22 : decode cX1_run 22 = .ok (.iload 4, 2) := by decide +kernel
theorem dX1_run_24 : decode cX1_run 24 = .ok (.iload_n 3, 1) := by decide +kernel
theorem dX1_run_25 : decode cX1_run 25 = .ok (.if_icmp .ge 81, 3) := by decide +kernel
theorem dX1_run_28 : decode cX1_run 28 = .ok (.aload_n 0, 1) := by decide +kernel
theorem dX1_run_29 : decode cX1_run 29 = .ok (.aload_n 1, 1) := by decide +kernel
theorem dX1_run_30 : decode cX1_run 30 = .ok (.iload_n 2, 1) := by decide +kernel
theorem dX1_run_31 : decode cX1_run 31 = .ok (.invokevirtual 19, 3) := by decide +kernel
theorem dX1_run_34 : decode cX1_run 34 = .ok (.lstore 5, 2) := by decide +kernel
theorem dX1_run_36 : decode cX1_run 36 = .ok (.lload 5, 2) := by decide +kernel
theorem dX1_run_38 : decode cX1_run 38 = .ok (.lconst 0, 1) := by decide +kernel
theorem dX1_run_39 : decode cX1_run 39 = .ok (.lcmp, 1) := by decide +kernel
theorem dX1_run_40 : decode cX1_run 40 = .ok (.ifCond .eq 17, 3) := by decide +kernel
theorem dX1_run_43 : decode cX1_run 43 = .ok (.aload_n 0, 1) := by decide +kernel
theorem dX1_run_44 : decode cX1_run 44 = .ok (.dup, 1) := by decide +kernel
theorem dX1_run_45 : decode cX1_run 45 = .ok (.getfield 13, 3) := by decide +kernel
theorem dX1_run_48 : decode cX1_run 48 = .ok (.lload 5, 2) := by decide +kernel
theorem dX1_run_50 : decode cX1_run 50 = .ok (.lor, 1) := by decide +kernel
theorem dX1_run_51 : decode cX1_run 51 = .ok (.putfield 13, 3) := by decide +kernel
theorem dX1_run_54 : decode cX1_run 54 = .ok (.goto 23, 3) := by decide +kernel
theorem dX1_run_57 : decode cX1_run 57 = .ok (.aload_n 0, 1) := by decide +kernel
theorem dX1_run_58 : decode cX1_run 58 = .ok (.aload_n 1, 1) := by decide +kernel
theorem dX1_run_59 : decode cX1_run 59 = .ok (.iload_n 2, 1) := by decide +kernel
theorem dX1_run_60 : decode cX1_run 60 = .ok (.iload_n 3, 1) := by decide +kernel
theorem dX1_run_61 : decode cX1_run 61 = .ok (.invokevirtual 23, 3) := by decide +kernel
theorem dX1_run_64 : decode cX1_run 64 = .ok (.lstore 5, 2) := by decide +kernel
theorem dX1_run_66 : decode cX1_run 66 = .ok (.aload_n 0, 1) := by decide +kernel
theorem dX1_run_67 : decode cX1_run 67 = .ok (.dup, 1) := by decide +kernel
theorem dX1_run_68 : decode cX1_run 68 = .ok (.getfield 16, 3) := by decide +kernel
theorem dX1_run_71 : decode cX1_run 71 = .ok (.lload 5, 2) := by decide +kernel
theorem dX1_run_73 : decode cX1_run 73 = .ok (.lor, 1) := by decide +kernel
theorem dX1_run_74 : decode cX1_run 74 = .ok (.putfield 16, 3) := by decide +kernel
theorem dX1_run_77 : decode cX1_run 77 = .ok (.lload 5, 2) := by decide +kernel
theorem dX1_run_79 : decode cX1_run 79 = .ok (.lconst 0, 1) := by decide +kernel
theorem dX1_run_80 : decode cX1_run 80 = .ok (.lcmp, 1) := by decide +kernel
theorem dX1_run_81 : decode cX1_run 81 = .ok (.ifCond .ne 4, 3) := by decide +kernel
theorem dX1_run_84 : decode cX1_run 84 = .ok (.return_, 1) := by decide +kernel
theorem dX1_run_85 : decode cX1_run 85 = .ok (.aload_n 0, 1) := by decide +kernel
theorem dX1_run_86 : decode cX1_run 86 = .ok (.dup, 1) := by decide +kernel
theorem dX1_run_87 : decode cX1_run 87 = .ok (.getfield 7, 3) := by decide +kernel
theorem dX1_run_90 : decode cX1_run 90 = .ok (.lload 5, 2) := by decide +kernel
theorem dX1_run_92 : decode cX1_run 92 = .ok (.ldc2_w 27, 3) := by decide +kernel
theorem dX1_run_95 : decode cX1_run 95 = .ok (.lxor, 1) := by decide +kernel
theorem dX1_run_96 : decode cX1_run 96 = .ok (.land, 1) := by decide +kernel
theorem dX1_run_97 : decode cX1_run 97 = .ok (.putfield 7, 3) := by decide +kernel
theorem dX1_run_100 : decode cX1_run 100 = .ok (.iinc 4 1, 3) := by decide +kernel
theorem dX1_run_103 : decode cX1_run 103 = .ok (.goto (-81), 3) := by decide +kernel
theorem dX1_run_106 : decode cX1_run 106 = .ok (.return_, 1) := by decide +kernel
theorem dX1_onlyOpenPart_0 : decode cX1_onlyOpenPart 0 = .ok (.iconst 0, 1) := by decide +kernel
theorem dX1_onlyOpenPart_1 : decode cX1_onlyOpenPart 1 = .ok (.istore_n 3, 1) := by decide +kernel
theorem dX1_onlyOpenPart_2 : decode cX1_onlyOpenPart 2 = .ok (.iload_n 3, 1) := by decide +kernel
theorem dX1_onlyOpenPart_3 : decode cX1_onlyOpenPart 3 = .ok (.iload_n 2, 1) := by decide +kernel
theorem dX1_onlyOpenPart_4 : decode cX1_onlyOpenPart 4 = .ok (.if_icmp .ge 39, 3) := by decide +kernel
theorem dX1_onlyOpenPart_7 : decode cX1_onlyOpenPart 7 = .ok (.iload_n 3, 1) := by decide +kernel
theorem dX1_onlyOpenPart_8 : decode cX1_onlyOpenPart 8 = .ok (.aload_n 1, 1) := by decide +kernel
theorem dX1_onlyOpenPart_9 : decode cX1_onlyOpenPart 9 = .ok (.arraylength, 1) := by decide +kernel
theorem dX1_onlyOpenPart_10 : decode cX1_onlyOpenPart 10 = .ok (.if_icmp .ge 33, 3) := by decide +kernel
theorem dX1_onlyOpenPart_13 : decode cX1_onlyOpenPart 13 = .ok (.aload_n 1, 1) := by decide +kernel
theorem dX1_onlyOpenPart_14 : decode cX1_onlyOpenPart 14 = .ok (.iload_n 3, 1) := by decide +kernel
theorem dX1_onlyOpenPart_15 : decode cX1_onlyOpenPart 15 = .ok (.laload, 1) := by decide +kernel
theorem dX1_onlyOpenPart_16 : decode cX1_onlyOpenPart 16 = .ok (.aload_n 0, 1) := by decide +kernel
theorem dX1_onlyOpenPart_17 : decode cX1_onlyOpenPart 17 = .ok (.getfield 7, 3) := by decide +kernel
theorem dX1_onlyOpenPart_20 : decode cX1_onlyOpenPart 20 = .ok (.land, 1) := by decide +kernel
theorem dX1_onlyOpenPart_21 : decode cX1_onlyOpenPart 21 = .ok (.invokestatic 29, 3) := by decide +kernel
theorem dX1_onlyOpenPart_24 : decode cX1_onlyOpenPart 24 = .ok (.iconst 1, 1) := by decide +kernel
theorem dX1_onlyOpenPart_25 : decode cX1_onlyOpenPart 25 = .ok (.if_icmp .ne 12, 3) := by decide +kernel
theorem dX1_onlyOpenPart_28 : decode cX1_onlyOpenPart 28 = .ok (.aload_n 1, 1) := by decide +kernel
theorem dX1_onlyOpenPart_29 : decode cX1_onlyOpenPart 29 = .ok (.iload_n 3, 1) := by decide +kernel
theorem dX1_onlyOpenPart_30 : decode cX1_onlyOpenPart 30 = .ok (.laload, 1) := by decide +kernel
theorem dX1_onlyOpenPart_31 : decode cX1_onlyOpenPart 31 = .ok (.aload_n 0, 1) := by decide +kernel
theorem dX1_onlyOpenPart_32 : decode cX1_onlyOpenPart 32 = .ok (.getfield 7, 3) := by decide +kernel
theorem dX1_onlyOpenPart_35 : decode cX1_onlyOpenPart 35 = .ok (.land, 1) := by decide +kernel
theorem dX1_onlyOpenPart_36 : decode cX1_onlyOpenPart 36 = .ok (.lreturn, 1) := by decide +kernel
theorem dX1_onlyOpenPart_37 : decode cX1_onlyOpenPart 37 = .ok (.iinc 3 1, 3) := by decide +kernel
theorem dX1_onlyOpenPart_40 : decode cX1_onlyOpenPart 40 = .ok (.goto (-38), 3) := by decide +kernel
theorem dX1_onlyOpenPart_43 : decode cX1_onlyOpenPart 43 = .ok (.lconst 0, 1) := by decide +kernel
theorem dX1_onlyOpenPart_44 : decode cX1_onlyOpenPart 44 = .ok (.lreturn, 1) := by decide +kernel
theorem dX1_mostSharedPart_0 : decode cX1_mostSharedPart 0 = .ok (.lconst 0, 1) := by decide +kernel
theorem dX1_mostSharedPart_1 : decode cX1_mostSharedPart 1 = .ok (.lstore 4, 2) := by decide +kernel
theorem dX1_mostSharedPart_3 : decode cX1_mostSharedPart 3 = .ok (.iconst 0, 1) := by decide +kernel
theorem dX1_mostSharedPart_4 : decode cX1_mostSharedPart 4 = .ok (.istore 6, 2) := by decide +kernel
theorem dX1_mostSharedPart_6 : decode cX1_mostSharedPart 6 = .ok (.iconst 0, 1) := by decide +kernel
theorem dX1_mostSharedPart_7 : decode cX1_mostSharedPart 7 = .ok (.istore 7, 2) := by decide +kernel
theorem dX1_mostSharedPart_9 : decode cX1_mostSharedPart 9 = .ok (.iload 7, 2) := by decide +kernel
theorem dX1_mostSharedPart_11 : decode cX1_mostSharedPart 11 = .ok (.iload_n 3, 1) := by decide +kernel
theorem dX1_mostSharedPart_12 : decode cX1_mostSharedPart 12 = .ok (.if_icmp .ge 51, 3) := by decide +kernel
theorem dX1_mostSharedPart_15 : decode cX1_mostSharedPart 15 = .ok (.aload_n 0, 1) := by decide +kernel
theorem dX1_mostSharedPart_16 : decode cX1_mostSharedPart 16 = .ok (.getfield 7, 3) := by decide +kernel
theorem dX1_mostSharedPart_19 : decode cX1_mostSharedPart 19 = .ok (.iload 7, 2) := by decide +kernel
theorem dX1_mostSharedPart_21 : decode cX1_mostSharedPart 21 = .ok (.invokestatic 35, 3) := by decide +kernel
theorem dX1_mostSharedPart_24 : decode cX1_mostSharedPart 24 = .ok (.ifCond .eq 13, 3) := by decide +kernel
theorem dX1_mostSharedPart_27 : decode cX1_mostSharedPart 27 = .ok (.iload 7, 2) := by decide +kernel
theorem dX1_mostSharedPart_29 : decode cX1_mostSharedPart 29 = .ok (.aload_n 1, 1) := by decide +kernel
theorem dX1_mostSharedPart_30 : decode cX1_mostSharedPart 30 = .ok (.iload_n 2, 1) := by decide +kernel
theorem dX1_mostSharedPart_31 : decode cX1_mostSharedPart 31 = .ok (.invokestatic 41, 3) := by decide +kernel
theorem dX1_mostSharedPart_34 : decode cX1_mostSharedPart 34 = .ok (.goto 4, 3) := by decide +kernel
theorem dX1_mostSharedPart_37 : decode cX1_mostSharedPart 37 = .ok (.iconst 0, 1) := by decide +kernel
theorem dX1_mostSharedPart_38 : decode cX1_mostSharedPart 38 = .ok (.istore 8, 2) := by decide +kernel
theorem dX1_mostSharedPart_40 : decode cX1_mostSharedPart 40 = .ok (.iload 8, 2) := by decide +kernel
theorem dX1_mostSharedPart_42 : decode cX1_mostSharedPart 42 = .ok (.iload 6, 2) := by decide +kernel
theorem dX1_mostSharedPart_44 : decode cX1_mostSharedPart 44 = .ok (.if_icmp .le 13, 3) := by decide +kernel
theorem dX1_mostSharedPart_47 : decode cX1_mostSharedPart 47 = .ok (.iload 8, 2) := by decide +kernel
theorem dX1_mostSharedPart_49 : decode cX1_mostSharedPart 49 = .ok (.istore 6, 2) := by decide +kernel
theorem dX1_mostSharedPart_51 : decode cX1_mostSharedPart 51 = .ok (.lconst 1, 1) := by decide +kernel
theorem dX1_mostSharedPart_52 : decode cX1_mostSharedPart 52 = .ok (.iload 7, 2) := by decide +kernel
theorem dX1_mostSharedPart_54 : decode cX1_mostSharedPart 54 = .ok (.lshl, 1) := by decide +kernel
theorem dX1_mostSharedPart_55 : decode cX1_mostSharedPart 55 = .ok (.lstore 4, 2) := by decide +kernel
theorem dX1_mostSharedPart_57 : decode cX1_mostSharedPart 57 = .ok (.iinc 7 1, 3) := by decide +kernel
theorem dX1_mostSharedPart_60 : decode cX1_mostSharedPart 60 = .ok (.goto (-51), 3) := by decide +kernel
theorem dX1_mostSharedPart_63 : decode cX1_mostSharedPart 63 = .ok (.lload 4, 2) := by decide +kernel
theorem dX1_mostSharedPart_65 : decode cX1_mostSharedPart 65 = .ok (.lreturn, 1) := by decide +kernel
theorem dX1_countRowsWith_0 : decode cX1_countRowsWith 0 = .ok (.iconst 0, 1) := by decide +kernel
theorem dX1_countRowsWith_1 : decode cX1_countRowsWith 1 = .ok (.istore_n 3, 1) := by decide +kernel
theorem dX1_countRowsWith_2 : decode cX1_countRowsWith 2 = .ok (.iconst 0, 1) := by decide +kernel
theorem dX1_countRowsWith_3 : decode cX1_countRowsWith 3 = .ok (.istore 4, 2) := by decide +kernel
theorem dX1_countRowsWith_5 : decode cX1_countRowsWith 5 = .ok (.iload 4, 2) := by decide +kernel
theorem dX1_countRowsWith_7 : decode cX1_countRowsWith 7 = .ok (.iload_n 2, 1) := by decide +kernel
theorem dX1_countRowsWith_8 : decode cX1_countRowsWith 8 = .ok (.if_icmp .ge 30, 3) := by decide +kernel
theorem dX1_countRowsWith_11 : decode cX1_countRowsWith 11 = .ok (.iload 4, 2) := by decide +kernel
theorem dX1_countRowsWith_13 : decode cX1_countRowsWith 13 = .ok (.aload_n 1, 1) := by decide +kernel
theorem dX1_countRowsWith_14 : decode cX1_countRowsWith 14 = .ok (.arraylength, 1) := by decide +kernel
theorem dX1_countRowsWith_15 : decode cX1_countRowsWith 15 = .ok (.if_icmp .ge 23, 3) := by decide +kernel
theorem dX1_countRowsWith_18 : decode cX1_countRowsWith 18 = .ok (.aload_n 1, 1) := by decide +kernel
theorem dX1_countRowsWith_19 : decode cX1_countRowsWith 19 = .ok (.iload 4, 2) := by decide +kernel
theorem dX1_countRowsWith_21 : decode cX1_countRowsWith 21 = .ok (.laload, 1) := by decide +kernel
theorem dX1_countRowsWith_22 : decode cX1_countRowsWith 22 = .ok (.iload_n 0, 1) := by decide +kernel
theorem dX1_countRowsWith_23 : decode cX1_countRowsWith 23 = .ok (.invokestatic 35, 3) := by decide +kernel
theorem dX1_countRowsWith_26 : decode cX1_countRowsWith 26 = .ok (.ifCond .eq 6, 3) := by decide +kernel
theorem dX1_countRowsWith_29 : decode cX1_countRowsWith 29 = .ok (.iinc 3 1, 3) := by decide +kernel
theorem dX1_countRowsWith_32 : decode cX1_countRowsWith 32 = .ok (.iinc 4 1, 3) := by decide +kernel
theorem dX1_countRowsWith_35 : decode cX1_countRowsWith 35 = .ok (.goto (-30), 3) := by decide +kernel
theorem dX1_countRowsWith_38 : decode cX1_countRowsWith 38 = .ok (.iload_n 3, 1) := by decide +kernel
theorem dX1_countRowsWith_39 : decode cX1_countRowsWith 39 = .ok (.ireturn, 1) := by decide +kernel
theorem dX2_init_0 : decode cX2_init 0 = .ok (.aload_n 0, 1) := by decide +kernel
theorem dX2_init_1 : decode cX2_init 1 = .ok (.invokespecial 3, 3) := by decide +kernel
theorem dX2_init_4 : decode cX2_init 4 = .ok (.aload_n 0, 1) := by decide +kernel
theorem dX2_init_5 : decode cX2_init 5 = .ok (.aload_n 1, 1) := by decide +kernel
theorem dX2_init_6 : decode cX2_init 6 = .ok (.putfield 9, 3) := by decide +kernel
theorem dX2_init_9 : decode cX2_init 9 = .ok (.aload_n 0, 1) := by decide +kernel
theorem dX2_init_10 : decode cX2_init 10 = .ok (.new 15, 3) := by decide +kernel
theorem dX2_init_13 : decode cX2_init 13 = .ok (.dup, 1) := by decide +kernel
theorem dX2_init_14 : decode cX2_init 14 = .ok (.invokespecial 17, 3) := by decide +kernel
theorem dX2_init_17 : decode cX2_init 17 = .ok (.putfield 18, 3) := by decide +kernel
theorem dX2_init_20 : decode cX2_init 20 = .ok (.aload_n 0, 1) := by decide +kernel
theorem dX2_init_21 : decode cX2_init 21 = .ok (.new 22, 3) := by decide +kernel
theorem dX2_init_24 : decode cX2_init 24 = .ok (.dup, 1) := by decide +kernel
theorem dX2_init_25 : decode cX2_init 25 = .ok (.invokespecial 24, 3) := by decide +kernel
theorem dX2_init_28 : decode cX2_init 28 = .ok (.putfield 25, 3) := by decide +kernel
theorem dX2_init_31 : decode cX2_init 31 = .ok (.aload_n 0, 1) := by decide +kernel
theorem dX2_init_32 : decode cX2_init 32 = .ok (.bipush 64, 2) := by decide +kernel
theorem dX2_init_34 : decode cX2_init 34 = .ok (.newarray .int, 2) := by decide +kernel
theorem dX2_init_36 : decode cX2_init 36 = .ok (.putfield 29, 3) := by decide +kernel
theorem dX2_init_39 : decode cX2_init 39 = .ok (.aload_n 0, 1) := by decide +kernel
theorem dX2_init_40 : decode cX2_init 40 = .ok (.bipush 64, 2) := by decide +kernel
theorem dX2_init_42 : decode cX2_init 42 = .ok (.newarray .long, 2) := by decide +kernel
theorem dX2_init_44 : decode cX2_init 44 = .ok (.putfield 33, 3) := by decide +kernel
theorem dX2_init_47 : decode cX2_init 47 = .ok (.aload_n 0, 1) := by decide +kernel
theorem dX2_init_48 : decode cX2_init 48 = .ok (.bipush 72, 2) := by decide +kernel
theorem dX2_init_50 : decode cX2_init 50 = .ok (.newarray .long, 2) := by decide +kernel
theorem dX2_init_52 : decode cX2_init 52 = .ok (.putfield 37, 3) := by decide +kernel
theorem dX2_init_55 : decode cX2_init 55 = .ok (.aload_n 0, 1) := by decide +kernel
theorem dX2_init_56 : decode cX2_init 56 = .ok (.invokevirtual 40, 3) := by decide +kernel
theorem dX2_init_59 : decode cX2_init 59 = .ok (.return_, 1) := by decide +kernel
theorem dX2_startAnew_0 : decode cX2_startAnew 0 = .ok (.aload_n 0, 1) := by decide +kernel
theorem dX2_startAnew_1 : decode cX2_startAnew 1 = .ok (.iconst 0, 1) := by decide +kernel
theorem dX2_startAnew_2 : decode cX2_startAnew 2 = .ok (.putfield 43, 3) := by decide +kernel
theorem dX2_startAnew_5 : decode cX2_startAnew 5 = .ok (.aload_n 0, 1) := by decide +kernel
theorem dX2_startAnew_6 : decode cX2_startAnew 6 = .ok (.iconst 1, 1) := by decide +kernel
theorem dX2_startAnew_7 : decode cX2_startAnew 7 = .ok (.putfield 47, 3) := by decide +kernel
theorem dX2_startAnew_10 : decode cX2_startAnew 10 = .ok (.aload_n 0, 1) := by decide +kernel
theorem dX2_startAnew_11 : decode cX2_startAnew 11 = .ok (.getfield 18, 3) := by decide +kernel
theorem dX2_startAnew_14 : decode cX2_startAnew 14 = .ok (.invokevirtual 51, 3) := by decide +kernel
theorem dX2_startAnew_17 : decode cX2_startAnew 17 = .ok (.iconst 0, 1) := by decide +kernel
theorem dX2_startAnew_18 : decode cX2_startAnew 18 = .ok (.istore_n 1, 1) := by decide +kernel
theorem dX2_startAnew_19 : decode cX2_startAnew 19 = .ok (.iload_n 1, 1) := by decide +kernel
theorem dX2_startAnew_20 : decode cX2_startAnew 20 = .ok (.aload_n 0, 1) := by decide +kernel
theorem dX2_startAnew_21 : decode cX2_startAnew 21 = .ok (.getfield 9, 3) := by decide +kernel
theorem dX2_startAnew_24 : decode cX2_startAnew 24 = .ok (.getfield 54, 3) := by decide +kernel
theorem dX2_startAnew_27 : decode cX2_startAnew 27 = .ok (.if_icmp .ge 55, 3) := by decide +kernel
theorem dX2_startAnew_30 : decode cX2_startAnew 30 = .ok (.iload_n 1, 1) := by decide +kernel
theorem dX2_startAnew_31 : decode cX2_startAnew 31 = .ok (.bipush 8, 2) := by decide +kernel
theorem dX2_startAnew_33 : decode cX2_startAnew 33 = .ok (.if_icmp .ge 49, 3) := by decide +kernel
theorem dX2_startAnew_36 : decode cX2_startAnew 36 = .ok (.aload_n 0, 1) := by decide +kernel
theorem dX2_startAnew_37 : decode cX2_startAnew 37 = .ok (.getfield 37, 3) := by decide +kernel
theorem dX2_startAnew_40 : decode cX2_startAnew 40 = .ok (.iload_n 1, 1) := by decide +kernel
theorem dX2_startAnew_41 : decode cX2_startAnew 41 = .ok (.aload_n 0, 1) := by decide +kernel
theorem dX2_startAnew_42 : decode cX2_startAnew 42 = .ok (.getfield 9, 3) := by decide +kernel
theorem dX2_startAnew_45 : decode cX2_startAnew 45 = .ok (.iload_n 1, 1) := by decide +kernel
theorem dX2_startAnew_46 : decode cX2_startAnew 46 = .ok (.invokevirtual 59, 3) := by decide +kernel
theorem dX2_startAnew_49 : decode cX2_startAnew 49 = .ok (.lconst 1, 1) := by decide +kernel
theorem dX2_startAnew_50 : decode cX2_startAnew 50 = .ok (.aload_n 0, 1) := by decide +kernel
theorem dX2_startAnew_51 : decode cX2_startAnew 51 = .ok (.getfield 9, 3) := by decide +kernel
theorem dX2_startAnew_54 : decode cX2_startAnew 54 = .ok (.getfield 63, 3) := by decide +kernel
theorem dX2_startAnew_57 : decode cX2_startAnew 57 = .ok (.iload_n 1, 1) := by decide +kernel
theorem dX2_startAnew_58 : decode cX2_startAnew 58 = .ok (.iadd, 1) := by decide +kernel
theorem dX2_startAnew_59 : decode cX2_startAnew 59 = .ok (.lshl, 1) := by decide +kernel
theorem dX2_startAnew_60 : decode cX2_startAnew 60 = .ok (.lor, 1) := by decide +kernel
theorem dX2_startAnew_61 : decode cX2_startAnew 61 = .ok (.lastore, 1) := by decide +kernel
theorem dX2_startAnew_62 : decode cX2_startAnew 62 = .ok (.aload_n 0, 1) := by decide +kernel
theorem dX2_startAnew_63 : decode cX2_startAnew 63 = .ok (.getfield 18, 3) := by decide +kernel
theorem dX2_startAnew_66 : decode cX2_startAnew 66 = .ok (.aload_n 0, 1) := by decide +kernel
theorem dX2_startAnew_67 : decode cX2_startAnew 67 = .ok (.getfield 37, 3) := by decide +kernel
theorem dX2_startAnew_70 : decode cX2_startAnew 70 = .ok (.iload_n 1, 1) := by decide +kernel
theorem dX2_startAnew_71 : decode cX2_startAnew 71 = .ok (.laload, 1) := by decide +kernel
theorem dX2_startAnew_72 : decode cX2_startAnew 72 = .ok (.lconst 0, 1) := by decide +kernel
theorem dX2_startAnew_73 : decode cX2_startAnew 73 = .ok (.invokevirtual 66, 3) := by decide +kernel
theorem dX2_startAnew_76 : decode cX2_startAnew 76 = .ok (.iinc 1 1, 3) := by decide +kernel
theorem dX2_startAnew_79 : decode cX2_startAnew 79 = .ok (.goto (-60), 3) := by decide +kernel
theorem dX2_startAnew_82 : decode cX2_startAnew 82 = .ok (.return_, 1) := by decide +kernel
theorem dX2_takeFrame_0 : decode cX2_takeFrame 0 = .ok (.aload_n 1, 1) := by decide +kernel
theorem dX2_takeFrame_1 : decode cX2_takeFrame 1 = .ok (.invokevirtual 70, 3) := by decide +kernel
theorem dX2_takeFrame_4 : decode cX2_takeFrame 4 = .ok (.ifCond .ne 16, 3) := by decide +kernel
theorem dX2_takeFrame_7 : decode cX2_takeFrame 7 = .ok (.aload_n 0, 1) := by decide +kernel
theorem dX2_takeFrame_8 : decode cX2_takeFrame 8 = .ok (.dup, 1) := by decide +kernel
theorem dX2_takeFrame_9 : decode cX2_takeFrame 9 = .ok (.getfield 76, 3) := by decide +kernel
theorem dX2_takeFrame_12 : decode cX2_takeFrame 12 = .ok (.iconst 1, 1) := by decide +kernel
theorem dX2_takeFrame_13 : decode cX2_takeFrame 13 = .ok (.iadd, 1) := by decide +kernel
theorem dX2_takeFrame_14 : decode cX2_takeFrame 14 = .ok (.putfield 76, 3) := by decide +kernel
theorem dX2_takeFrame_17 : decode cX2_takeFrame 17 = .ok (.bipush (-5), 2) := by decide +kernel
theorem dX2_takeFrame_19 : decode cX2_takeFrame 19 = .ok (.ireturn, 1) := by decide +kernel
theorem dX2_takeFrame_20 : decode cX2_takeFrame 20 = .ok (.aload_n 0, 1) := by decide +kernel
theorem dX2_takeFrame_21 : decode cX2_takeFrame 21 = .ok (.aload_n 1, 1) := by decide +kernel
theorem dX2_takeFrame_22 : decode cX2_takeFrame 22 = .ok (.iconst 0, 1) := by decide +kernel
theorem dX2_takeFrame_23 : decode cX2_takeFrame 23 = .ok (.invokevirtual 79, 3) := by decide +kernel
theorem dX2_takeFrame_26 : decode cX2_takeFrame 26 = .ok (.istore_n 2, 1) := by decide +kernel
theorem dX2_takeFrame_27 : decode cX2_takeFrame 27 = .ok (.iload_n 2, 1) := by decide +kernel
theorem dX2_takeFrame_28 : decode cX2_takeFrame 28 = .ok (.bipush (-6), 2) := by decide +kernel
theorem dX2_takeFrame_30 : decode cX2_takeFrame 30 = .ok (.if_icmp .ne 16, 3) := by decide +kernel
theorem dX2_takeFrame_33 : decode cX2_takeFrame 33 = .ok (.aload_n 0, 1) := by decide +kernel
theorem dX2_takeFrame_34 : decode cX2_takeFrame 34 = .ok (.dup, 1) := by decide +kernel
theorem dX2_takeFrame_35 : decode cX2_takeFrame 35 = .ok (.getfield 83, 3) := by decide +kernel
theorem dX2_takeFrame_38 : decode cX2_takeFrame 38 = .ok (.iconst 1, 1) := by decide +kernel
theorem dX2_takeFrame_39 : decode cX2_takeFrame 39 = .ok (.iadd, 1) := by decide +kernel
theorem dX2_takeFrame_40 : decode cX2_takeFrame 40 = .ok (.putfield 83, 3) := by decide +kernel
theorem dX2_takeFrame_43 : decode cX2_takeFrame 43 = .ok (.goto 19, 3) := by decide +kernel
theorem dX2_takeFrame_46 : decode cX2_takeFrame 46 = .ok (.iload_n 2, 1) := by decide +kernel
theorem dX2_takeFrame_47 : decode cX2_takeFrame 47 = .ok (.bipush (-7), 2) := by decide +kernel
theorem dX2_takeFrame_49 : decode cX2_takeFrame 49 = .ok (.if_icmp .ne 13, 3) := by decide +kernel
theorem dX2_takeFrame_52 : decode cX2_takeFrame 52 = .ok (.aload_n 0, 1) := by decide +kernel
theorem dX2_takeFrame_53 : decode cX2_takeFrame 53 = .ok (.dup, 1) := by decide +kernel
theorem dX2_takeFrame_54 : decode cX2_takeFrame 54 = .ok (.getfield 86, 3) := by decide +kernel
theorem dX2_takeFrame_57 : decode cX2_takeFrame 57 = .ok (.iconst 1, 1) := by decide +kernel
theorem dX2_takeFrame_58 : decode cX2_takeFrame 58 = .ok (.iadd, 1) := by decide +kernel
theorem dX2_takeFrame_59 : decode cX2_takeFrame 59 = .ok (.putfield 86, 3) := by decide +kernel
theorem dX2_takeFrame_62 : decode cX2_takeFrame 62 = .ok (.iload_n 2, 1) := by decide +kernel
theorem dX2_takeFrame_63 : decode cX2_takeFrame 63 = .ok (.ireturn, 1) := by decide +kernel
theorem dX2_accept_0 : decode cX2_accept 0 = .ok (.aload_n 1, 1) := by decide +kernel
theorem dX2_accept_1 : decode cX2_accept 1 = .ok (.iload_n 2, 1) := by decide +kernel
theorem dX2_accept_2 : decode cX2_accept 2 = .ok (.iconst 2, 1) := by decide +kernel
theorem dX2_accept_3 : decode cX2_accept 3 = .ok (.invokevirtual 89, 3) := by decide +kernel
theorem dX2_accept_6 : decode cX2_accept 6 = .ok (.l2i, 1) := by decide +kernel
theorem dX2_accept_7 : decode cX2_accept 7 = .ok (.istore_n 3, 1) := by decide +kernel
theorem dX2_accept_8 : decode cX2_accept 8 = .ok (.aload_n 1, 1) := by decide +kernel
theorem dX2_accept_9 : decode cX2_accept 9 = .ok (.iload_n 2, 1) := by decide +kernel
theorem dX2_accept_10 : decode cX2_accept 10 = .ok (.iconst 2, 1) := by decide +kernel
theorem dX2_accept_11 : decode cX2_accept 11 = .ok (.iadd, 1) := by decide +kernel
theorem dX2_accept_12 : decode cX2_accept 12 = .ok (.aload_n 0, 1) := by decide +kernel
theorem dX2_accept_13 : decode cX2_accept 13 = .ok (.getfield 9, 3) := by decide +kernel
theorem dX2_accept_16 : decode cX2_accept 16 = .ok (.getfield 93, 3) := by decide +kernel
theorem dX2_accept_19 : decode cX2_accept 19 = .ok (.invokevirtual 89, 3) := by decide +kernel
theorem dX2_accept_22 : decode cX2_accept 22 = .ok (.lstore 4, 2) := by decide +kernel
theorem dX2_accept_24 : decode cX2_accept 24 = .ok (.aload_n 0, 1) := by decide +kernel
theorem dX2_accept_25 : decode cX2_accept 25 = .ok (.iload_n 3, 1) := by decide +kernel
theorem dX2_accept_26 : decode cX2_accept 26 = .ok (.invokevirtual 96, 3) := by decide +kernel
theorem dX2_accept_29 : decode cX2_accept 29 = .ok (.ifCond .eq 6, 3) := by decide +kernel
theorem dX2_accept_32 : decode cX2_accept 32 = .ok (.bipush (-6), 2) := by decide +kernel
theorem dX2_accept_34 : decode cX2_accept 34 = .ok (.ireturn, 1) := by decide +kernel
theorem dX2_accept_35 : decode cX2_accept 35 = .ok (.aload_n 0, 1) := by decide +kernel
theorem dX2_accept_36 : decode cX2_accept 36 = .ok (.getfield 43, 3) := by decide +kernel
theorem dX2_accept_39 : decode cX2_accept 39 = .ok (.bipush 64, 2) := by decide +kernel
theorem dX2_accept_41 : decode cX2_accept 41 = .ok (.if_icmp .lt 6, 3) := by decide +kernel
theorem dX2_accept_44 : decode cX2_accept 44 = .ok (.bipush (-4), 2) := by decide +kernel
theorem dX2_accept_46 : decode cX2_accept 46 = .ok (.ireturn, 1) := by decide +kernel
theorem dX2_accept_47 : decode cX2_accept 47 = .ok (.aload_n 0, 1) := by decide +kernel
theorem dX2_accept_48 : decode cX2_accept 48 = .ok (.getfield 9, 3) := by decide +kernel
theorem dX2_accept_51 : decode cX2_accept 51 = .ok (.iload_n 3, 1) := by decide +kernel
theorem dX2_accept_52 : decode cX2_accept 52 = .ok (.invokevirtual 100, 3) := by decide +kernel
theorem dX2_accept_55 : decode cX2_accept 55 = .ok (.lstore 6, 2) := by decide +kernel
theorem dX2_accept_57 : decode cX2_accept 57 = .ok (.aload_n 0, 1) := by decide +kernel
theorem dX2_accept_58 : decode cX2_accept 58 = .ok (.getfield 18, 3) := by decide +kernel
theorem dX2_accept_61 : decode cX2_accept 61 = .ok (.lload 6, 2) := by decide +kernel
theorem dX2_accept_63 : decode cX2_accept 63 = .ok (.lload 4, 2) := by decide +kernel
theorem dX2_accept_65 : decode cX2_accept 65 = .ok (.invokevirtual 103, 3) := by decide +kernel
theorem dX2_accept_68 : decode cX2_accept 68 = .ok (.ifCond .eq 6, 3) := by decide +kernel
theorem dX2_accept_71 : decode cX2_accept 71 = .ok (.bipush (-7), 2) := by decide +kernel
theorem dX2_accept_73 : decode cX2_accept 73 = .ok (.ireturn, 1) := by decide +kernel
theorem dX2_accept_74 : decode cX2_accept 74 = .ok (.aload_n 0, 1) := by decide +kernel
theorem dX2_accept_75 : decode cX2_accept 75 = .ok (.getfield 18, 3) := by decide +kernel
theorem dX2_accept_78 : decode cX2_accept 78 = .ok (.lload 6, 2) := by decide +kernel
theorem dX2_accept_80 : decode cX2_accept 80 = .ok (.lload 4, 2) := by decide +kernel
theorem dX2_accept_82 : decode cX2_accept 82 = .ok (.invokevirtual 66, 3) := by decide +kernel
theorem dX2_accept_85 : decode cX2_accept 85 = .ok (.aload_n 0, 1) := by decide +kernel
theorem dX2_accept_86 : decode cX2_accept 86 = .ok (.getfield 29, 3) := by decide +kernel
theorem dX2_accept_89 : decode cX2_accept 89 = .ok (.aload_n 0, 1) := by decide +kernel
theorem dX2_accept_90 : decode cX2_accept 90 = .ok (.getfield 43, 3) := by decide +kernel
theorem dX2_accept_93 : decode cX2_accept 93 = .ok (.iload_n 3, 1) := by decide +kernel
theorem dX2_accept_94 : decode cX2_accept 94 = .ok (.iastore, 1) := by decide +kernel
theorem dX2_accept_95 : decode cX2_accept 95 = .ok (.aload_n 0, 1) := by decide +kernel
theorem dX2_accept_96 : decode cX2_accept 96 = .ok (.getfield 33, 3) := by decide +kernel
theorem dX2_accept_99 : decode cX2_accept 99 = .ok (.aload_n 0, 1) := by decide +kernel
theorem dX2_accept_100 : decode cX2_accept 100 = .ok (.getfield 43, 3) := by decide +kernel
theorem dX2_accept_103 : decode cX2_accept 103 = .ok (.lload 4, 2) := by decide +kernel
theorem dX2_accept_105 : decode cX2_accept 105 = .ok (.lastore, 1) := by decide +kernel
theorem dX2_accept_106 : decode cX2_accept 106 = .ok (.aload_n 0, 1) := by decide +kernel
theorem dX2_accept_107 : decode cX2_accept 107 = .ok (.getfield 37, 3) := by decide +kernel
theorem dX2_accept_110 : decode cX2_accept 110 = .ok (.aload_n 0, 1) := by decide +kernel
theorem dX2_accept_111 : decode cX2_accept 111 = .ok (.getfield 9, 3) := by decide +kernel
theorem dX2_accept_114 : decode cX2_accept 114 = .ok (.getfield 54, 3) := by decide +kernel
theorem dX2_accept_117 : decode cX2_accept 117 = .ok (.aload_n 0, 1) := by decide +kernel
theorem dX2_accept_118 : decode cX2_accept 118 = .ok (.getfield 43, 3) := by decide +kernel
theorem dX2_accept_121 : decode cX2_accept 121 = .ok (.iadd, 1) := by decide +kernel
theorem dX2_accept_122 : decode cX2_accept 122 = .ok (.lload 6, 2) := by decide +kernel
theorem dX2_accept_124 : decode cX2_accept 124 = .ok (.lastore, 1) := by decide +kernel
theorem dX2_accept_125 : decode cX2_accept 125 = .ok (.aload_n 0, 1) := by decide +kernel
theorem dX2_accept_126 : decode cX2_accept 126 = .ok (.dup, 1) := by decide +kernel
theorem dX2_accept_127 : decode cX2_accept 127 = .ok (.getfield 43, 3) := by decide +kernel
theorem dX2_accept_130 : decode cX2_accept 130 = .ok (.iconst 1, 1) := by decide +kernel
theorem dX2_accept_131 : decode cX2_accept 131 = .ok (.iadd, 1) := by decide +kernel
theorem dX2_accept_132 : decode cX2_accept 132 = .ok (.putfield 43, 3) := by decide +kernel
theorem dX2_accept_135 : decode cX2_accept 135 = .ok (.aload_n 0, 1) := by decide +kernel
theorem dX2_accept_136 : decode cX2_accept 136 = .ok (.iconst 1, 1) := by decide +kernel
theorem dX2_accept_137 : decode cX2_accept 137 = .ok (.putfield 47, 3) := by decide +kernel
theorem dX2_accept_140 : decode cX2_accept 140 = .ok (.aload_n 0, 1) := by decide +kernel
theorem dX2_accept_141 : decode cX2_accept 141 = .ok (.getfield 18, 3) := by decide +kernel
theorem dX2_accept_144 : decode cX2_accept 144 = .ok (.getfield 107, 3) := by decide +kernel
theorem dX2_accept_147 : decode cX2_accept 147 = .ok (.ireturn, 1) := by decide +kernel
theorem dX2_hasTaken_0 : decode cX2_hasTaken 0 = .ok (.iload_n 1, 1) := by decide +kernel
theorem dX2_hasTaken_1 : decode cX2_hasTaken 1 = .ok (.ifCond .lt 15, 3) := by decide +kernel
theorem dX2_hasTaken_4 : decode cX2_hasTaken 4 = .ok (.iload_n 1, 1) := by decide +kernel
theorem dX2_hasTaken_5 : decode cX2_hasTaken 5 = .ok (.aload_n 0, 1) := by decide +kernel
theorem dX2_hasTaken_6 : decode cX2_hasTaken 6 = .ok (.getfield 43, 3) := by decide +kernel
theorem dX2_hasTaken_9 : decode cX2_hasTaken 9 = .ok (.if_icmp .ge 7, 3) := by decide +kernel
theorem dX2_hasTaken_12 : decode cX2_hasTaken 12 = .ok (.iconst 1, 1) := by decide +kernel
theorem dX2_hasTaken_13 : decode cX2_hasTaken 13 = .ok (.goto 4, 3) := by decide +kernel
theorem dX2_hasTaken_16 : decode cX2_hasTaken 16 = .ok (.iconst 0, 1) := by decide +kernel
theorem dX2_hasTaken_17 : decode cX2_hasTaken 17 = .ok (.ireturn, 1) := by decide +kernel
theorem dX2_hasTakenNumber_0 : decode cX2_hasTakenNumber 0 = .ok (.iconst 0, 1) := by decide +kernel
theorem dX2_hasTakenNumber_1 : decode cX2_hasTakenNumber 1 = .ok (.istore_n 2, 1) := by decide +kernel
theorem dX2_hasTakenNumber_2 : decode cX2_hasTakenNumber 2 = .ok (.iload_n 2, 1) := by decide +kernel
theorem dX2_hasTakenNumber_3 : decode cX2_hasTakenNumber 3 = .ok (.aload_n 0, 1) := by decide +kernel
theorem dX2_hasTakenNumber_4 : decode cX2_hasTakenNumber 4 = .ok (.getfield 43, 3) := by decide +kernel
theorem dX2_hasTakenNumber_7 : decode cX2_hasTakenNumber 7 = .ok (.if_icmp .ge 21, 3) := by decide +kernel
theorem dX2_hasTakenNumber_10 : decode cX2_hasTakenNumber 10 = .ok (.aload_n 0, 1) := by decide +kernel
theorem dX2_hasTakenNumber_11 : decode cX2_hasTakenNumber 11 = .ok (.getfield 29, 3) := by decide +kernel
theorem dX2_hasTakenNumber_14 : decode cX2_hasTakenNumber 14 = .ok (.iload_n 2, 1) := by decide +kernel
theorem dX2_hasTakenNumber_15 : decode cX2_hasTakenNumber 15 = .ok (.iaload, 1) := by decide +kernel
theorem dX2_hasTakenNumber_16 : decode cX2_hasTakenNumber 16 = .ok (.iload_n 1, 1) := by decide +kernel
theorem dX2_hasTakenNumber_17 : decode cX2_hasTakenNumber 17 = .ok (.if_icmp .ne 5, 3) := by decide +kernel
theorem dX2_hasTakenNumber_20 : decode cX2_hasTakenNumber 20 = .ok (.iconst 1, 1) := by decide +kernel
theorem dX2_hasTakenNumber_21 : decode cX2_hasTakenNumber 21 = .ok (.ireturn, 1) := by decide +kernel
theorem dX2_hasTakenNumber_22 : decode cX2_hasTakenNumber 22 = .ok (.iinc 2 1, 3) := by decide +kernel
theorem dX2_hasTakenNumber_25 : decode cX2_hasTakenNumber 25 = .ok (.goto (-23), 3) := by decide +kernel
theorem dX2_hasTakenNumber_28 : decode cX2_hasTakenNumber 28 = .ok (.iconst 0, 1) := by decide +kernel
theorem dX2_hasTakenNumber_29 : decode cX2_hasTakenNumber 29 = .ok (.ireturn, 1) := by decide +kernel
theorem dX2_tell_0 : decode cX2_tell 0 = .ok (.iload_n 1, 1) := by decide +kernel
theorem dX2_tell_1 : decode cX2_tell 1 = .ok (.tableswitch 147 0 9 #[55, 63, 68, 91, 99, 110, 121, 132, 137, 142], 55) := by decide +kernel
theorem dX2_tell_56 : decode cX2_tell 56 = .ok (.aload_n 0, 1) := by decide +kernel
theorem dX2_tell_57 : decode cX2_tell 57 = .ok (.getfield 18, 3) := by decide +kernel
theorem dX2_tell_60 : decode cX2_tell 60 = .ok (.getfield 107, 3) := by decide +kernel
theorem dX2_tell_63 : decode cX2_tell 63 = .ok (.ireturn, 1) := by decide +kernel
theorem dX2_tell_64 : decode cX2_tell 64 = .ok (.aload_n 0, 1) := by decide +kernel
theorem dX2_tell_65 : decode cX2_tell 65 = .ok (.getfield 43, 3) := by decide +kernel
theorem dX2_tell_68 : decode cX2_tell 68 = .ok (.ireturn, 1) := by decide +kernel
theorem dX2_tell_69 : decode cX2_tell 69 = .ok (.aload_n 0, 1) := by decide +kernel
theorem dX2_tell_70 : decode cX2_tell 70 = .ok (.getfield 18, 3) := by decide +kernel
theorem dX2_tell_73 : decode cX2_tell 73 = .ok (.getfield 107, 3) := by decide +kernel
theorem dX2_tell_76 : decode cX2_tell 76 = .ok (.aload_n 0, 1) := by decide +kernel
theorem dX2_tell_77 : decode cX2_tell 77 = .ok (.getfield 9, 3) := by decide +kernel
theorem dX2_tell_80 : decode cX2_tell 80 = .ok (.getfield 110, 3) := by decide +kernel
theorem dX2_tell_83 : decode cX2_tell 83 = .ok (.if_icmp .ne 7, 3) := by decide +kernel
theorem dX2_tell_86 : decode cX2_tell 86 = .ok (.iconst 1, 1) := by decide +kernel
theorem dX2_tell_87 : decode cX2_tell 87 = .ok (.goto 4, 3) := by decide +kernel
theorem dX2_tell_90 : decode cX2_tell 90 = .ok (.iconst 0, 1) := by decide +kernel
theorem dX2_tell_91 : decode cX2_tell 91 = .ok (.ireturn, 1) := by decide +kernel
theorem dX2_tell_92 : decode cX2_tell 92 = .ok (.aload_n 0, 1) := by decide +kernel
theorem dX2_tell_93 : decode cX2_tell 93 = .ok (.getfield 18, 3) := by decide +kernel
theorem dX2_tell_96 : decode cX2_tell 96 = .ok (.invokevirtual 113, 3) := by decide +kernel
theorem dX2_tell_99 : decode cX2_tell 99 = .ok (.ireturn, 1) := by decide +kernel
theorem dX2_tell_100 : decode cX2_tell 100 = .ok (.aload_n 0, 1) := by decide +kernel
theorem dX2_tell_101 : decode cX2_tell 101 = .ok (.invokevirtual 117, 3) := by decide +kernel
theorem dX2_tell_104 : decode cX2_tell 104 = .ok (.getfield 121, 3) := by decide +kernel
theorem dX2_tell_107 : decode cX2_tell 107 = .ok (.invokestatic 125, 3) := by decide +kernel
theorem dX2_tell_110 : decode cX2_tell 110 = .ok (.ireturn, 1) := by decide +kernel
theorem dX2_tell_111 : decode cX2_tell 111 = .ok (.aload_n 0, 1) := by decide +kernel
theorem dX2_tell_112 : decode cX2_tell 112 = .ok (.invokevirtual 117, 3) := by decide +kernel
theorem dX2_tell_115 : decode cX2_tell 115 = .ok (.getfield 131, 3) := by decide +kernel
theorem dX2_tell_118 : decode cX2_tell 118 = .ok (.invokestatic 125, 3) := by decide +kernel
theorem dX2_tell_121 : decode cX2_tell 121 = .ok (.ireturn, 1) := by decide +kernel
theorem dX2_tell_122 : decode cX2_tell 122 = .ok (.aload_n 0, 1) := by decide +kernel
theorem dX2_tell_123 : decode cX2_tell 123 = .ok (.invokevirtual 117, 3) := by decide +kernel
theorem dX2_tell_126 : decode cX2_tell 126 = .ok (.getfield 134, 3) := by decide +kernel
theorem dX2_tell_129 : decode cX2_tell 129 = .ok (.invokestatic 125, 3) := by decide +kernel
theorem dX2_tell_132 : decode cX2_tell 132 = .ok (.ireturn, 1) := by decide +kernel
theorem dX2_tell_133 : decode cX2_tell 133 = .ok (.aload_n 0, 1) := by decide +kernel
theorem dX2_tell_134 : decode cX2_tell 134 = .ok (.getfield 76, 3) := by decide +kernel
theorem dX2_tell_137 : decode cX2_tell 137 = .ok (.ireturn, 1) := by decide +kernel
theorem dX2_tell_138 : decode cX2_tell 138 = .ok (.aload_n 0, 1) := by decide +kernel
theorem dX2_tell_139 : decode cX2_tell 139 = .ok (.getfield 83, 3) := by decide +kernel
theorem dX2_tell_142 : decode cX2_tell 142 = .ok (.ireturn, 1) := by decide +kernel
theorem dX2_tell_143 : decode cX2_tell 143 = .ok (.aload_n 0, 1) := by decide +kernel
theorem dX2_tell_144 : decode cX2_tell 144 = .ok (.getfield 86, 3) := by decide +kernel
theorem dX2_tell_147 : decode cX2_tell 147 = .ok (.ireturn, 1) := by decide +kernel
theorem dX2_tell_148 : decode cX2_tell 148 = .ok (.bipush (-2), 2) := by decide +kernel
theorem dX2_tell_150 : decode cX2_tell 150 = .ok (.ireturn, 1) := by decide +kernel
theorem dX2_peelingOf_0 : decode cX2_peelingOf 0 = .ok (.aload_n 0, 1) := by decide +kernel
theorem dX2_peelingOf_1 : decode cX2_peelingOf 1 = .ok (.invokevirtual 117, 3) := by decide +kernel
theorem dX2_peelingOf_4 : decode cX2_peelingOf 4 = .ok (.astore_n 2, 1) := by decide +kernel
theorem dX2_peelingOf_5 : decode cX2_peelingOf 5 = .ok (.aload_n 2, 1) := by decide +kernel
theorem dX2_peelingOf_6 : decode cX2_peelingOf 6 = .ok (.getfield 121, 3) := by decide +kernel
theorem dX2_peelingOf_9 : decode cX2_peelingOf 9 = .ok (.iload_n 1, 1) := by decide +kernel
theorem dX2_peelingOf_10 : decode cX2_peelingOf 10 = .ok (.invokestatic 137, 3) := by decide +kernel
theorem dX2_peelingOf_13 : decode cX2_peelingOf 13 = .ok (.ifCond .eq 5, 3) := by decide +kernel
theorem dX2_peelingOf_16 : decode cX2_peelingOf 16 = .ok (.iconst 1, 1) := by decide +kernel
theorem dX2_peelingOf_17 : decode cX2_peelingOf 17 = .ok (.ireturn, 1) := by decide +kernel
theorem dX2_peelingOf_18 : decode cX2_peelingOf 18 = .ok (.aload_n 2, 1) := by decide +kernel
theorem dX2_peelingOf_19 : decode cX2_peelingOf 19 = .ok (.getfield 131, 3) := by decide +kernel
theorem dX2_peelingOf_22 : decode cX2_peelingOf 22 = .ok (.iload_n 1, 1) := by decide +kernel
theorem dX2_peelingOf_23 : decode cX2_peelingOf 23 = .ok (.invokestatic 137, 3) := by decide +kernel
theorem dX2_peelingOf_26 : decode cX2_peelingOf 26 = .ok (.ifCond .eq 7, 3) := by decide +kernel
theorem dX2_peelingOf_29 : decode cX2_peelingOf 29 = .ok (.iconst 2, 1) := by decide +kernel
theorem dX2_peelingOf_30 : decode cX2_peelingOf 30 = .ok (.goto 4, 3) := by decide +kernel
theorem dX2_peelingOf_33 : decode cX2_peelingOf 33 = .ok (.iconst 0, 1) := by decide +kernel
theorem dX2_peelingOf_34 : decode cX2_peelingOf 34 = .ok (.ireturn, 1) := by decide +kernel
theorem dX2_freshPeeling_0 : decode cX2_freshPeeling 0 = .ok (.aload_n 0, 1) := by decide +kernel
theorem dX2_freshPeeling_1 : decode cX2_freshPeeling 1 = .ok (.getfield 47, 3) := by decide +kernel
theorem dX2_freshPeeling_4 : decode cX2_freshPeeling 4 = .ok (.ifCond .eq 38, 3) := by decide +kernel
theorem dX2_freshPeeling_7 : decode cX2_freshPeeling 7 = .ok (.aload_n 0, 1) := by decide +kernel
theorem dX2_freshPeeling_8 : decode cX2_freshPeeling 8 = .ok (.getfield 25, 3) := by decide +kernel
theorem dX2_freshPeeling_11 : decode cX2_freshPeeling 11 = .ok (.aload_n 0, 1) := by decide +kernel
theorem dX2_freshPeeling_12 : decode cX2_freshPeeling 12 = .ok (.getfield 37, 3) := by decide +kernel
theorem dX2_freshPeeling_15 : decode cX2_freshPeeling 15 = .ok (.aload_n 0, 1) := by decide +kernel
theorem dX2_freshPeeling_16 : decode cX2_freshPeeling 16 = .ok (.getfield 9, 3) := by decide +kernel
theorem dX2_freshPeeling_19 : decode cX2_freshPeeling 19 = .ok (.getfield 54, 3) := by decide +kernel
theorem dX2_freshPeeling_22 : decode cX2_freshPeeling 22 = .ok (.aload_n 0, 1) := by decide +kernel
theorem dX2_freshPeeling_23 : decode cX2_freshPeeling 23 = .ok (.getfield 43, 3) := by decide +kernel
theorem dX2_freshPeeling_26 : decode cX2_freshPeeling 26 = .ok (.iadd, 1) := by decide +kernel
theorem dX2_freshPeeling_27 : decode cX2_freshPeeling 27 = .ok (.aload_n 0, 1) := by decide +kernel
theorem dX2_freshPeeling_28 : decode cX2_freshPeeling 28 = .ok (.getfield 9, 3) := by decide +kernel
theorem dX2_freshPeeling_31 : decode cX2_freshPeeling 31 = .ok (.getfield 110, 3) := by decide +kernel
theorem dX2_freshPeeling_34 : decode cX2_freshPeeling 34 = .ok (.invokevirtual 141, 3) := by decide +kernel
theorem dX2_freshPeeling_37 : decode cX2_freshPeeling 37 = .ok (.aload_n 0, 1) := by decide +kernel
theorem dX2_freshPeeling_38 : decode cX2_freshPeeling 38 = .ok (.iconst 0, 1) := by decide +kernel
theorem dX2_freshPeeling_39 : decode cX2_freshPeeling 39 = .ok (.putfield 47, 3) := by decide +kernel
theorem dX2_freshPeeling_42 : decode cX2_freshPeeling 42 = .ok (.aload_n 0, 1) := by decide +kernel
theorem dX2_freshPeeling_43 : decode cX2_freshPeeling 43 = .ok (.getfield 25, 3) := by decide +kernel
theorem dX2_freshPeeling_46 : decode cX2_freshPeeling 46 = .ok (.areturn, 1) := by decide +kernel
theorem dX2_writeTo_0 : decode cX2_writeTo 0 = .ok (.aload_n 1, 1) := by decide +kernel
theorem dX2_writeTo_1 : decode cX2_writeTo 1 = .ok (.iconst 0, 1) := by decide +kernel
theorem dX2_writeTo_2 : decode cX2_writeTo 2 = .ok (.invokevirtual 145, 3) := by decide +kernel
theorem dX2_writeTo_5 : decode cX2_writeTo 5 = .ok (.aload_n 1, 1) := by decide +kernel
theorem dX2_writeTo_6 : decode cX2_writeTo 6 = .ok (.aload_n 0, 1) := by decide +kernel
theorem dX2_writeTo_7 : decode cX2_writeTo 7 = .ok (.getfield 9, 3) := by decide +kernel
theorem dX2_writeTo_10 : decode cX2_writeTo 10 = .ok (.getfield 63, 3) := by decide +kernel
theorem dX2_writeTo_13 : decode cX2_writeTo 13 = .ok (.i2l, 1) := by decide +kernel
theorem dX2_writeTo_14 : decode cX2_writeTo 14 = .ok (.iconst 1, 1) := by decide +kernel
theorem dX2_writeTo_15 : decode cX2_writeTo 15 = .ok (.invokevirtual 149, 3) := by decide +kernel
theorem dX2_writeTo_18 : decode cX2_writeTo 18 = .ok (.aload_n 1, 1) := by decide +kernel
theorem dX2_writeTo_19 : decode cX2_writeTo 19 = .ok (.aload_n 0, 1) := by decide +kernel
theorem dX2_writeTo_20 : decode cX2_writeTo 20 = .ok (.getfield 9, 3) := by decide +kernel
theorem dX2_writeTo_23 : decode cX2_writeTo 23 = .ok (.getfield 54, 3) := by decide +kernel
theorem dX2_writeTo_26 : decode cX2_writeTo 26 = .ok (.i2l, 1) := by decide +kernel
theorem dX2_writeTo_27 : decode cX2_writeTo 27 = .ok (.iconst 1, 1) := by decide +kernel
theorem dX2_writeTo_28 : decode cX2_writeTo 28 = .ok (.invokevirtual 149, 3) := by decide +kernel
theorem dX2_writeTo_31 : decode cX2_writeTo 31 = .ok (.aload_n 1, 1) := by decide +kernel
theorem dX2_writeTo_32 : decode cX2_writeTo 32 = .ok (.aload_n 0, 1) := by decide +kernel
theorem dX2_writeTo_33 : decode cX2_writeTo 33 = .ok (.getfield 9, 3) := by decide +kernel
theorem dX2_writeTo_36 : decode cX2_writeTo 36 = .ok (.getfield 93, 3) := by decide +kernel
theorem dX2_writeTo_39 : decode cX2_writeTo 39 = .ok (.i2l, 1) := by decide +kernel
theorem dX2_writeTo_40 : decode cX2_writeTo 40 = .ok (.iconst 1, 1) := by decide +kernel
theorem dX2_writeTo_41 : decode cX2_writeTo 41 = .ok (.invokevirtual 149, 3) := by decide +kernel
theorem dX2_writeTo_44 : decode cX2_writeTo 44 = .ok (.aload_n 1, 1) := by decide +kernel
theorem dX2_writeTo_45 : decode cX2_writeTo 45 = .ok (.aload_n 0, 1) := by decide +kernel
theorem dX2_writeTo_46 : decode cX2_writeTo 46 = .ok (.getfield 9, 3) := by decide +kernel
theorem dX2_writeTo_49 : decode cX2_writeTo 49 = .ok (.getfield 153, 3) := by decide +kernel
theorem dX2_writeTo_52 : decode cX2_writeTo 52 = .ok (.i2l, 1) := by decide +kernel
theorem dX2_writeTo_53 : decode cX2_writeTo 53 = .ok (.iconst 4, 1) := by decide +kernel
theorem dX2_writeTo_54 : decode cX2_writeTo 54 = .ok (.invokevirtual 149, 3) := by decide +kernel
theorem dX2_writeTo_57 : decode cX2_writeTo 57 = .ok (.aload_n 1, 1) := by decide +kernel
theorem dX2_writeTo_58 : decode cX2_writeTo 58 = .ok (.aload_n 0, 1) := by decide +kernel
theorem dX2_writeTo_59 : decode cX2_writeTo 59 = .ok (.getfield 43, 3) := by decide +kernel
theorem dX2_writeTo_62 : decode cX2_writeTo 62 = .ok (.i2l, 1) := by decide +kernel
theorem dX2_writeTo_63 : decode cX2_writeTo 63 = .ok (.iconst 2, 1) := by decide +kernel
theorem dX2_writeTo_64 : decode cX2_writeTo 64 = .ok (.invokevirtual 149, 3) := by decide +kernel
theorem dX2_writeTo_67 : decode cX2_writeTo 67 = .ok (.iconst 0, 1) := by decide +kernel
theorem dX2_writeTo_68 : decode cX2_writeTo 68 = .ok (.istore_n 2, 1) := by decide +kernel
theorem dX2_writeTo_69 : decode cX2_writeTo 69 = .ok (.iload_n 2, 1) := by decide +kernel
theorem dX2_writeTo_70 : decode cX2_writeTo 70 = .ok (.aload_n 0, 1) := by decide +kernel
theorem dX2_writeTo_71 : decode cX2_writeTo 71 = .ok (.getfield 43, 3) := by decide +kernel
theorem dX2_writeTo_74 : decode cX2_writeTo 74 = .ok (.if_icmp .ge 38, 3) := by decide +kernel
theorem dX2_writeTo_77 : decode cX2_writeTo 77 = .ok (.aload_n 1, 1) := by decide +kernel
theorem dX2_writeTo_78 : decode cX2_writeTo 78 = .ok (.aload_n 0, 1) := by decide +kernel
theorem dX2_writeTo_79 : decode cX2_writeTo 79 = .ok (.getfield 29, 3) := by decide +kernel
theorem dX2_writeTo_82 : decode cX2_writeTo 82 = .ok (.iload_n 2, 1) := by decide +kernel
theorem dX2_writeTo_83 : decode cX2_writeTo 83 = .ok (.iaload, 1) := by decide +kernel
theorem dX2_writeTo_84 : decode cX2_writeTo 84 = .ok (.i2l, 1) := by decide +kernel
theorem dX2_writeTo_85 : decode cX2_writeTo 85 = .ok (.iconst 2, 1) := by decide +kernel
theorem dX2_writeTo_86 : decode cX2_writeTo 86 = .ok (.invokevirtual 149, 3) := by decide +kernel
theorem dX2_writeTo_89 : decode cX2_writeTo 89 = .ok (.aload_n 1, 1) := by decide +kernel
theorem dX2_writeTo_90 : decode cX2_writeTo 90 = .ok (.aload_n 0, 1) := by decide +kernel
theorem dX2_writeTo_91 : decode cX2_writeTo 91 = .ok (.getfield 33, 3) := by decide +kernel
theorem dX2_writeTo_94 : decode cX2_writeTo 94 = .ok (.iload_n 2, 1) := by decide +kernel
theorem dX2_writeTo_95 : decode cX2_writeTo 95 = .ok (.laload, 1) := by decide +kernel
theorem dX2_writeTo_96 : decode cX2_writeTo 96 = .ok (.aload_n 0, 1) := by decide +kernel
theorem dX2_writeTo_97 : decode cX2_writeTo 97 = .ok (.getfield 9, 3) := by decide +kernel
theorem dX2_writeTo_100 : decode cX2_writeTo 100 = .ok (.getfield 93, 3) := by decide +kernel
theorem dX2_writeTo_103 : decode cX2_writeTo 103 = .ok (.invokevirtual 149, 3) := by decide +kernel
theorem dX2_writeTo_106 : decode cX2_writeTo 106 = .ok (.iinc 2 1, 3) := by decide +kernel
theorem dX2_writeTo_109 : decode cX2_writeTo 109 = .ok (.goto (-40), 3) := by decide +kernel
theorem dX2_writeTo_112 : decode cX2_writeTo 112 = .ok (.aload_n 1, 1) := by decide +kernel
theorem dX2_writeTo_113 : decode cX2_writeTo 113 = .ok (.aload_n 1, 1) := by decide +kernel
theorem dX2_writeTo_114 : decode cX2_writeTo 114 = .ok (.aload_n 1, 1) := by decide +kernel
theorem dX2_writeTo_115 : decode cX2_writeTo 115 = .ok (.getfield 156, 3) := by decide +kernel
theorem dX2_writeTo_118 : decode cX2_writeTo 118 = .ok (.invokevirtual 159, 3) := by decide +kernel
theorem dX2_writeTo_121 : decode cX2_writeTo 121 = .ok (.i2l, 1) := by decide +kernel
theorem dX2_writeTo_122 : decode cX2_writeTo 122 = .ok (.iconst 2, 1) := by decide +kernel
theorem dX2_writeTo_123 : decode cX2_writeTo 123 = .ok (.invokevirtual 149, 3) := by decide +kernel
theorem dX2_writeTo_126 : decode cX2_writeTo 126 = .ok (.return_, 1) := by decide +kernel
theorem dX2_faultOf_0 : decode cX2_faultOf 0 = .ok (.aload_n 1, 1) := by decide +kernel
theorem dX2_faultOf_1 : decode cX2_faultOf 1 = .ok (.getfield 156, 3) := by decide +kernel
theorem dX2_faultOf_4 : decode cX2_faultOf 4 = .ok (.bipush 11, 2) := by decide +kernel
theorem dX2_faultOf_6 : decode cX2_faultOf 6 = .ok (.if_icmp .ge 5, 3) := by decide +kernel
theorem dX2_faultOf_9 : decode cX2_faultOf 9 = .ok (.iconst 1, 1) := by decide +kernel
theorem dX2_faultOf_10 : decode cX2_faultOf 10 = .ok (.ireturn, 1) := by decide +kernel
theorem dX2_faultOf_11 : decode cX2_faultOf 11 = .ok (.aload_n 1, 1) := by decide +kernel
theorem dX2_faultOf_12 : decode cX2_faultOf 12 = .ok (.iconst 0, 1) := by decide +kernel
theorem dX2_faultOf_13 : decode cX2_faultOf 13 = .ok (.invokevirtual 163, 3) := by decide +kernel
theorem dX2_faultOf_16 : decode cX2_faultOf 16 = .ok (.aload_n 0, 1) := by decide +kernel
theorem dX2_faultOf_17 : decode cX2_faultOf 17 = .ok (.getfield 9, 3) := by decide +kernel
theorem dX2_faultOf_20 : decode cX2_faultOf 20 = .ok (.getfield 63, 3) := by decide +kernel
theorem dX2_faultOf_23 : decode cX2_faultOf 23 = .ok (.if_icmp .ne 50, 3) := by decide +kernel
theorem dX2_faultOf_26 : decode cX2_faultOf 26 = .ok (.aload_n 1, 1) := by decide +kernel
theorem dX2_faultOf_27 : decode cX2_faultOf 27 = .ok (.iconst 1, 1) := by decide +kernel
theorem dX2_faultOf_28 : decode cX2_faultOf 28 = .ok (.invokevirtual 163, 3) := by decide +kernel
theorem dX2_faultOf_31 : decode cX2_faultOf 31 = .ok (.aload_n 0, 1) := by decide +kernel
theorem dX2_faultOf_32 : decode cX2_faultOf 32 = .ok (.getfield 9, 3) := by decide +kernel
theorem dX2_faultOf_35 : decode cX2_faultOf 35 = .ok (.getfield 54, 3) := by decide +kernel
theorem dX2_faultOf_38 : decode cX2_faultOf 38 = .ok (.if_icmp .ne 35, 3) := by decide +kernel
theorem dX2_faultOf_41 : decode cX2_faultOf 41 = .ok (.aload_n 1, 1) := by decide +kernel
theorem dX2_faultOf_42 : decode cX2_faultOf 42 = .ok (.iconst 2, 1) := by decide +kernel
theorem dX2_faultOf_43 : decode cX2_faultOf 43 = .ok (.invokevirtual 163, 3) := by decide +kernel
theorem dX2_faultOf_46 : decode cX2_faultOf 46 = .ok (.aload_n 0, 1) := by decide +kernel
theorem dX2_faultOf_47 : decode cX2_faultOf 47 = .ok (.getfield 9, 3) := by decide +kernel
theorem dX2_faultOf_50 : decode cX2_faultOf 50 = .ok (.getfield 93, 3) := by decide +kernel
theorem dX2_faultOf_53 : decode cX2_faultOf 53 = .ok (.if_icmp .ne 20, 3) := by decide +kernel
theorem dX2_faultOf_56 : decode cX2_faultOf 56 = .ok (.aload_n 1, 1) := by decide +kernel
theorem dX2_faultOf_57 : decode cX2_faultOf 57 = .ok (.iconst 3, 1) := by decide +kernel
theorem dX2_faultOf_58 : decode cX2_faultOf 58 = .ok (.iconst 4, 1) := by decide +kernel
theorem dX2_faultOf_59 : decode cX2_faultOf 59 = .ok (.invokevirtual 89, 3) := by decide +kernel
theorem dX2_faultOf_62 : decode cX2_faultOf 62 = .ok (.l2i, 1) := by decide +kernel
theorem dX2_faultOf_63 : decode cX2_faultOf 63 = .ok (.aload_n 0, 1) := by decide +kernel
theorem dX2_faultOf_64 : decode cX2_faultOf 64 = .ok (.getfield 9, 3) := by decide +kernel
theorem dX2_faultOf_67 : decode cX2_faultOf 67 = .ok (.getfield 153, 3) := by decide +kernel
theorem dX2_faultOf_70 : decode cX2_faultOf 70 = .ok (.if_icmp .eq 5, 3) := by decide +kernel
theorem dX2_faultOf_73 : decode cX2_faultOf 73 = .ok (.iconst 2, 1) := by decide +kernel
theorem dX2_faultOf_74 : decode cX2_faultOf 74 = .ok (.ireturn, 1) := by decide +kernel
theorem dX2_faultOf_75 : decode cX2_faultOf 75 = .ok (.aload_n 1, 1) := by decide +kernel
theorem dX2_faultOf_76 : decode cX2_faultOf 76 = .ok (.getfield 156, 3) := by decide +kernel
theorem dX2_faultOf_79 : decode cX2_faultOf 79 = .ok (.bipush 9, 2) := by decide +kernel
theorem dX2_faultOf_81 : decode cX2_faultOf 81 = .ok (.aload_n 1, 1) := by decide +kernel
theorem dX2_faultOf_82 : decode cX2_faultOf 82 = .ok (.invokestatic 166, 3) := by decide +kernel
theorem dX2_faultOf_85 : decode cX2_faultOf 85 = .ok (.aload_n 0, 1) := by decide +kernel
theorem dX2_faultOf_86 : decode cX2_faultOf 86 = .ok (.invokevirtual 170, 3) := by decide +kernel
theorem dX2_faultOf_89 : decode cX2_faultOf 89 = .ok (.imul, 1) := by decide +kernel
theorem dX2_faultOf_90 : decode cX2_faultOf 90 = .ok (.iadd, 1) := by decide +kernel
theorem dX2_faultOf_91 : decode cX2_faultOf 91 = .ok (.iconst 2, 1) := by decide +kernel
theorem dX2_faultOf_92 : decode cX2_faultOf 92 = .ok (.iadd, 1) := by decide +kernel
theorem dX2_faultOf_93 : decode cX2_faultOf 93 = .ok (.if_icmp .eq 5, 3) := by decide +kernel
theorem dX2_faultOf_96 : decode cX2_faultOf 96 = .ok (.iconst 3, 1) := by decide +kernel
theorem dX2_faultOf_97 : decode cX2_faultOf 97 = .ok (.ireturn, 1) := by decide +kernel
theorem dX2_faultOf_98 : decode cX2_faultOf 98 = .ok (.aload_n 1, 1) := by decide +kernel
theorem dX2_faultOf_99 : decode cX2_faultOf 99 = .ok (.invokevirtual 70, 3) := by decide +kernel
theorem dX2_faultOf_102 : decode cX2_faultOf 102 = .ok (.ifCond .eq 7, 3) := by decide +kernel
theorem dX2_faultOf_105 : decode cX2_faultOf 105 = .ok (.iconst 0, 1) := by decide +kernel
theorem dX2_faultOf_106 : decode cX2_faultOf 106 = .ok (.goto 4, 3) := by decide +kernel
theorem dX2_faultOf_109 : decode cX2_faultOf 109 = .ok (.iconst 4, 1) := by decide +kernel
theorem dX2_faultOf_110 : decode cX2_faultOf 110 = .ok (.ireturn, 1) := by decide +kernel
theorem dX2_readFrom_0 : decode cX2_readFrom 0 = .ok (.aload_n 0, 1) := by decide +kernel
theorem dX2_readFrom_1 : decode cX2_readFrom 1 = .ok (.invokevirtual 40, 3) := by decide +kernel
theorem dX2_readFrom_4 : decode cX2_readFrom 4 = .ok (.aload_n 1, 1) := by decide +kernel
theorem dX2_readFrom_5 : decode cX2_readFrom 5 = .ok (.invokestatic 166, 3) := by decide +kernel
theorem dX2_readFrom_8 : decode cX2_readFrom 8 = .ok (.istore_n 2, 1) := by decide +kernel
theorem dX2_readFrom_9 : decode cX2_readFrom 9 = .ok (.iconst 0, 1) := by decide +kernel
theorem dX2_readFrom_10 : decode cX2_readFrom 10 = .ok (.istore_n 3, 1) := by decide +kernel
theorem dX2_readFrom_11 : decode cX2_readFrom 11 = .ok (.iload_n 3, 1) := by decide +kernel
theorem dX2_readFrom_12 : decode cX2_readFrom 12 = .ok (.iload_n 2, 1) := by decide +kernel
theorem dX2_readFrom_13 : decode cX2_readFrom 13 = .ok (.if_icmp .ge 24, 3) := by decide +kernel
theorem dX2_readFrom_16 : decode cX2_readFrom 16 = .ok (.aload_n 0, 1) := by decide +kernel
theorem dX2_readFrom_17 : decode cX2_readFrom 17 = .ok (.aload_n 1, 1) := by decide +kernel
theorem dX2_readFrom_18 : decode cX2_readFrom 18 = .ok (.bipush 9, 2) := by decide +kernel
theorem dX2_readFrom_20 : decode cX2_readFrom 20 = .ok (.iload_n 3, 1) := by decide +kernel
theorem dX2_readFrom_21 : decode cX2_readFrom 21 = .ok (.aload_n 0, 1) := by decide +kernel
theorem dX2_readFrom_22 : decode cX2_readFrom 22 = .ok (.invokevirtual 170, 3) := by decide +kernel
theorem dX2_readFrom_25 : decode cX2_readFrom 25 = .ok (.imul, 1) := by decide +kernel
theorem dX2_readFrom_26 : decode cX2_readFrom 26 = .ok (.iadd, 1) := by decide +kernel
theorem dX2_readFrom_27 : decode cX2_readFrom 27 = .ok (.invokevirtual 79, 3) := by decide +kernel
theorem dX2_readFrom_30 : decode cX2_readFrom 30 = .ok (.pop, 1) := by decide +kernel
theorem dX2_readFrom_31 : decode cX2_readFrom 31 = .ok (.iinc 3 1, 3) := by decide +kernel
theorem dX2_readFrom_34 : decode cX2_readFrom 34 = .ok (.goto (-23), 3) := by decide +kernel
theorem dX2_readFrom_37 : decode cX2_readFrom 37 = .ok (.return_, 1) := by decide +kernel
theorem dX2_countIn_0 : decode cX2_countIn 0 = .ok (.aload_n 0, 1) := by decide +kernel
theorem dX2_countIn_1 : decode cX2_countIn 1 = .ok (.bipush 7, 2) := by decide +kernel
theorem dX2_countIn_3 : decode cX2_countIn 3 = .ok (.iconst 2, 1) := by decide +kernel
theorem dX2_countIn_4 : decode cX2_countIn 4 = .ok (.invokevirtual 89, 3) := by decide +kernel
theorem dX2_countIn_7 : decode cX2_countIn 7 = .ok (.l2i, 1) := by decide +kernel
theorem dX2_countIn_8 : decode cX2_countIn 8 = .ok (.ireturn, 1) := by decide +kernel
theorem dX2_entryBytes_0 : decode cX2_entryBytes 0 = .ok (.iconst 2, 1) := by decide +kernel
theorem dX2_entryBytes_1 : decode cX2_entryBytes 1 = .ok (.aload_n 0, 1) := by decide +kernel
theorem dX2_entryBytes_2 : decode cX2_entryBytes 2 = .ok (.getfield 9, 3) := by decide +kernel
theorem dX2_entryBytes_5 : decode cX2_entryBytes 5 = .ok (.getfield 93, 3) := by decide +kernel
theorem dX2_entryBytes_8 : decode cX2_entryBytes 8 = .ok (.iadd, 1) := by decide +kernel
theorem dX2_entryBytes_9 : decode cX2_entryBytes 9 = .ok (.ireturn, 1) := by decide +kernel
theorem dX3_init_0 : decode cX3_init 0 = .ok (.aload_n 0, 1) := by decide +kernel
theorem dX3_init_1 : decode cX3_init 1 = .ok (.invokespecial 3, 3) := by decide +kernel
