theorem dX3_init_4 : decode cX3_init 4 = .ok (.aload_n 0, 1) := by decide +kernel
theorem dX3_init_5 : decode cX3_init 5 = .ok (.iload_n 1, 1) := by decide +kernel
theorem dX3_init_6 : decode cX3_init 6 = .ok (.putfield 9, 3) := by decide +kernel
theorem dX3_init_9 : decode cX3_init 9 = .ok (.aload_n 0, 1) := by decide +kernel
theorem dX3_init_10 : decode cX3_init 10 = .ok (.iload_n 2, 1) := by decide +kernel
theorem dX3_init_11 : decode cX3_init 11 = .ok (.putfield 15, 3) := by decide +kernel
theorem dX3_init_14 : decode cX3_init 14 = .ok (.aload_n 0, 1) := by decide +kernel
theorem dX3_init_15 : decode cX3_init 15 = .ok (.iload_n 1, 1) := by decide +kernel
theorem dX3_init_16 : decode cX3_init 16 = .ok (.iload_n 2, 1) := by decide +kernel
theorem dX3_init_17 : decode cX3_init 17 = .ok (.iadd, 1) := by decide +kernel
theorem dX3_init_18 : decode cX3_init 18 = .ok (.putfield 18, 3) := by decide +kernel
theorem dX3_init_21 : decode cX3_init 21 = .ok (.aload_n 0, 1) := by decide +kernel
theorem dX3_init_22 : decode cX3_init 22 = .ok (.iload_n 3, 1) := by decide +kernel
theorem dX3_init_23 : decode cX3_init 23 = .ok (.putfield 21, 3) := by decide +kernel
theorem dX3_init_26 : decode cX3_init 26 = .ok (.aload_n 0, 1) := by decide +kernel
theorem dX3_init_27 : decode cX3_init 27 = .ok (.iload 4, 2) := by decide +kernel
theorem dX3_init_29 : decode cX3_init 29 = .ok (.putfield 24, 3) := by decide +kernel
theorem dX3_init_32 : decode cX3_init 32 = .ok (.aload_n 0, 1) := by decide +kernel
theorem dX3_init_33 : decode cX3_init 33 = .ok (.bipush 12, 2) := by decide +kernel
theorem dX3_init_35 : decode cX3_init 35 = .ok (.newarray .int, 2) := by decide +kernel
theorem dX3_init_37 : decode cX3_init 37 = .ok (.putfield 27, 3) := by decide +kernel
theorem dX3_init_40 : decode cX3_init 40 = .ok (.aload 5, 2) := by decide +kernel
theorem dX3_init_42 : decode cX3_init 42 = .ok (.iconst 0, 1) := by decide +kernel
theorem dX3_init_43 : decode cX3_init 43 = .ok (.aload_n 0, 1) := by decide +kernel
theorem dX3_init_44 : decode cX3_init 44 = .ok (.getfield 27, 3) := by decide +kernel
theorem dX3_init_47 : decode cX3_init 47 = .ok (.iconst 0, 1) := by decide +kernel
theorem dX3_init_48 : decode cX3_init 48 = .ok (.bipush 12, 2) := by decide +kernel
theorem dX3_init_50 : decode cX3_init 50 = .ok (.invokestatic 31, 3) := by decide +kernel
theorem dX3_init_53 : decode cX3_init 53 = .ok (.aload_n 0, 1) := by decide +kernel
theorem dX3_init_54 : decode cX3_init 54 = .ok (.aload_n 0, 1) := by decide +kernel
theorem dX3_init_55 : decode cX3_init 55 = .ok (.getfield 27, 3) := by decide +kernel
theorem dX3_init_58 : decode cX3_init 58 = .ok (.invokestatic 37, 3) := by decide +kernel
theorem dX3_init_61 : decode cX3_init 61 = .ok (.putfield 41, 3) := by decide +kernel
theorem dX3_init_64 : decode cX3_init 64 = .ok (.aload_n 0, 1) := by decide +kernel
theorem dX3_init_65 : decode cX3_init 65 = .ok (.bipush 32, 2) := by decide +kernel
theorem dX3_init_67 : decode cX3_init 67 = .ok (.newarray .long, 2) := by decide +kernel
theorem dX3_init_69 : decode cX3_init 69 = .ok (.putfield 44, 3) := by decide +kernel
theorem dX3_init_72 : decode cX3_init 72 = .ok (.aload_n 0, 1) := by decide +kernel
theorem dX3_init_73 : decode cX3_init 73 = .ok (.bipush 8, 2) := by decide +kernel
theorem dX3_init_75 : decode cX3_init 75 = .ok (.newarray .long, 2) := by decide +kernel
theorem dX3_init_77 : decode cX3_init 77 = .ok (.putfield 48, 3) := by decide +kernel
theorem dX3_init_80 : decode cX3_init 80 = .ok (.iconst 0, 1) := by decide +kernel
theorem dX3_init_81 : decode cX3_init 81 = .ok (.istore 6, 2) := by decide +kernel
theorem dX3_init_83 : decode cX3_init 83 = .ok (.iload 6, 2) := by decide +kernel
theorem dX3_init_85 : decode cX3_init 85 = .ok (.iload_n 2, 1) := by decide +kernel
theorem dX3_init_86 : decode cX3_init 86 = .ok (.if_icmp .ge 37, 3) := by decide +kernel
theorem dX3_init_89 : decode cX3_init 89 = .ok (.iload 6, 2) := by decide +kernel
theorem dX3_init_91 : decode cX3_init 91 = .ok (.bipush 8, 2) := by decide +kernel
theorem dX3_init_93 : decode cX3_init 93 = .ok (.if_icmp .ge 30, 3) := by decide +kernel
theorem dX3_init_96 : decode cX3_init 96 = .ok (.aload_n 0, 1) := by decide +kernel
theorem dX3_init_97 : decode cX3_init 97 = .ok (.getfield 48, 3) := by decide +kernel
theorem dX3_init_100 : decode cX3_init 100 = .ok (.iload 6, 2) := by decide +kernel
theorem dX3_init_102 : decode cX3_init 102 = .ok (.iload 4, 2) := by decide +kernel
theorem dX3_init_104 : decode cX3_init 104 = .ok (.ldc 51, 2) := by decide +kernel
theorem dX3_init_106 : decode cX3_init 106 = .ok (.iload 6, 2) := by decide +kernel
theorem dX3_init_108 : decode cX3_init 108 = .ok (.iconst 1, 1) := by decide +kernel
theorem dX3_init_109 : decode cX3_init 109 = .ok (.iadd, 1) := by decide +kernel
theorem dX3_init_110 : decode cX3_init 110 = .ok (.imul, 1) := by decide +kernel
theorem dX3_init_111 : decode cX3_init 111 = .ok (.iadd, 1) := by decide +kernel
theorem dX3_init_112 : decode cX3_init 112 = .ok (.iload_n 1, 1) := by decide +kernel
theorem dX3_init_113 : decode cX3_init 113 = .ok (.invokestatic 52, 3) := by decide +kernel
theorem dX3_init_116 : decode cX3_init 116 = .ok (.lastore, 1) := by decide +kernel
theorem dX3_init_117 : decode cX3_init 117 = .ok (.iinc 6 1, 3) := by decide +kernel
theorem dX3_init_120 : decode cX3_init 120 = .ok (.goto (-37), 3) := by decide +kernel
theorem dX3_init_123 : decode cX3_init 123 = .ok (.return_, 1) := by decide +kernel
theorem dX3_drawSymbols_0 : decode cX3_drawSymbols 0 = .ok (.iload_n 0, 1) := by decide +kernel
theorem dX3_drawSymbols_1 : decode cX3_drawSymbols 1 = .ok (.istore_n 2, 1) := by decide +kernel
theorem dX3_drawSymbols_2 : decode cX3_drawSymbols 2 = .ok (.lconst 0, 1) := by decide +kernel
theorem dX3_drawSymbols_3 : decode cX3_drawSymbols 3 = .ok (.lstore_n 3, 1) := by decide +kernel
theorem dX3_drawSymbols_4 : decode cX3_drawSymbols 4 = .ok (.iconst 0, 1) := by decide +kernel
theorem dX3_drawSymbols_5 : decode cX3_drawSymbols 5 = .ok (.istore 5, 2) := by decide +kernel
theorem dX3_drawSymbols_7 : decode cX3_drawSymbols 7 = .ok (.iload 5, 2) := by decide +kernel
theorem dX3_drawSymbols_9 : decode cX3_drawSymbols 9 = .ok (.iload_n 1, 1) := by decide +kernel
theorem dX3_drawSymbols_10 : decode cX3_drawSymbols 10 = .ok (.if_icmp .ge 33, 3) := by decide +kernel
theorem dX3_drawSymbols_13 : decode cX3_drawSymbols 13 = .ok (.iload_n 2, 1) := by decide +kernel
theorem dX3_drawSymbols_14 : decode cX3_drawSymbols 14 = .ok (.invokestatic 56, 3) := by decide +kernel
theorem dX3_drawSymbols_17 : decode cX3_drawSymbols 17 = .ok (.istore_n 2, 1) := by decide +kernel
theorem dX3_drawSymbols_18 : decode cX3_drawSymbols 18 = .ok (.iload_n 2, 1) := by decide +kernel
theorem dX3_drawSymbols_19 : decode cX3_drawSymbols 19 = .ok (.iconst 1, 1) := by decide +kernel
theorem dX3_drawSymbols_20 : decode cX3_drawSymbols 20 = .ok (.iushr, 1) := by decide +kernel
theorem dX3_drawSymbols_21 : decode cX3_drawSymbols 21 = .ok (.i2l, 1) := by decide +kernel
theorem dX3_drawSymbols_22 : decode cX3_drawSymbols 22 = .ok (.bipush 30, 2) := by decide +kernel
theorem dX3_drawSymbols_24 : decode cX3_drawSymbols 24 = .ok (.invokestatic 60, 3) := by decide +kernel
theorem dX3_drawSymbols_27 : decode cX3_drawSymbols 27 = .ok (.ifCond .eq 10, 3) := by decide +kernel
theorem dX3_drawSymbols_30 : decode cX3_drawSymbols 30 = .ok (.lload_n 3, 1) := by decide +kernel
theorem dX3_drawSymbols_31 : decode cX3_drawSymbols 31 = .ok (.lconst 1, 1) := by decide +kernel
theorem dX3_drawSymbols_32 : decode cX3_drawSymbols 32 = .ok (.iload 5, 2) := by decide +kernel
theorem dX3_drawSymbols_34 : decode cX3_drawSymbols 34 = .ok (.lshl, 1) := by decide +kernel
theorem dX3_drawSymbols_35 : decode cX3_drawSymbols 35 = .ok (.lor, 1) := by decide +kernel
theorem dX3_drawSymbols_36 : decode cX3_drawSymbols 36 = .ok (.lstore_n 3, 1) := by decide +kernel
theorem dX3_drawSymbols_37 : decode cX3_drawSymbols 37 = .ok (.iinc 5 1, 3) := by decide +kernel
theorem dX3_drawSymbols_40 : decode cX3_drawSymbols 40 = .ok (.goto (-33), 3) := by decide +kernel
theorem dX3_drawSymbols_43 : decode cX3_drawSymbols 43 = .ok (.lload_n 3, 1) := by decide +kernel
theorem dX3_drawSymbols_44 : decode cX3_drawSymbols 44 = .ok (.lreturn, 1) := by decide +kernel
theorem dX3_hasSymbol_0 : decode cX3_hasSymbol 0 = .ok (.iload_n 1, 1) := by decide +kernel
theorem dX3_hasSymbol_1 : decode cX3_hasSymbol 1 = .ok (.ifCond .lt 15, 3) := by decide +kernel
theorem dX3_hasSymbol_4 : decode cX3_hasSymbol 4 = .ok (.iload_n 1, 1) := by decide +kernel
theorem dX3_hasSymbol_5 : decode cX3_hasSymbol 5 = .ok (.aload_n 0, 1) := by decide +kernel
theorem dX3_hasSymbol_6 : decode cX3_hasSymbol 6 = .ok (.getfield 9, 3) := by decide +kernel
theorem dX3_hasSymbol_9 : decode cX3_hasSymbol 9 = .ok (.if_icmp .ge 7, 3) := by decide +kernel
theorem dX3_hasSymbol_12 : decode cX3_hasSymbol 12 = .ok (.iconst 1, 1) := by decide +kernel
theorem dX3_hasSymbol_13 : decode cX3_hasSymbol 13 = .ok (.goto 4, 3) := by decide +kernel
theorem dX3_hasSymbol_16 : decode cX3_hasSymbol 16 = .ok (.iconst 0, 1) := by decide +kernel
theorem dX3_hasSymbol_17 : decode cX3_hasSymbol 17 = .ok (.ireturn, 1) := by decide +kernel
theorem dX3_hasSum_0 : decode cX3_hasSum 0 = .ok (.iload_n 1, 1) := by decide +kernel
theorem dX3_hasSum_1 : decode cX3_hasSum 1 = .ok (.ifCond .lt 15, 3) := by decide +kernel
theorem dX3_hasSum_4 : decode cX3_hasSum 4 = .ok (.iload_n 1, 1) := by decide +kernel
theorem dX3_hasSum_5 : decode cX3_hasSum 5 = .ok (.aload_n 0, 1) := by decide +kernel
theorem dX3_hasSum_6 : decode cX3_hasSum 6 = .ok (.getfield 15, 3) := by decide +kernel
theorem dX3_hasSum_9 : decode cX3_hasSum 9 = .ok (.if_icmp .ge 7, 3) := by decide +kernel
theorem dX3_hasSum_12 : decode cX3_hasSum 12 = .ok (.iconst 1, 1) := by decide +kernel
theorem dX3_hasSum_13 : decode cX3_hasSum 13 = .ok (.goto 4, 3) := by decide +kernel
theorem dX3_hasSum_16 : decode cX3_hasSum 16 = .ok (.iconst 0, 1) := by decide +kernel
theorem dX3_hasSum_17 : decode cX3_hasSum 17 = .ok (.ireturn, 1) := by decide +kernel
theorem dX3_hasPart_0 : decode cX3_hasPart 0 = .ok (.iload_n 1, 1) := by decide +kernel
theorem dX3_hasPart_1 : decode cX3_hasPart 1 = .ok (.ifCond .lt 15, 3) := by decide +kernel
theorem dX3_hasPart_4 : decode cX3_hasPart 4 = .ok (.iload_n 1, 1) := by decide +kernel
theorem dX3_hasPart_5 : decode cX3_hasPart 5 = .ok (.aload_n 0, 1) := by decide +kernel
theorem dX3_hasPart_6 : decode cX3_hasPart 6 = .ok (.getfield 18, 3) := by decide +kernel
theorem dX3_hasPart_9 : decode cX3_hasPart 9 = .ok (.if_icmp .ge 7, 3) := by decide +kernel
theorem dX3_hasPart_12 : decode cX3_hasPart 12 = .ok (.iconst 1, 1) := by decide +kernel
theorem dX3_hasPart_13 : decode cX3_hasPart 13 = .ok (.goto 4, 3) := by decide +kernel
theorem dX3_hasPart_16 : decode cX3_hasPart 16 = .ok (.iconst 0, 1) := by decide +kernel
theorem dX3_hasPart_17 : decode cX3_hasPart 17 = .ok (.ireturn, 1) := by decide +kernel
theorem dX3_setSymbol_0 : decode cX3_setSymbol 0 = .ok (.aload_n 0, 1) := by decide +kernel
theorem dX3_setSymbol_1 : decode cX3_setSymbol 1 = .ok (.iload_n 1, 1) := by decide +kernel
theorem dX3_setSymbol_2 : decode cX3_setSymbol 2 = .ok (.invokevirtual 64, 3) := by decide +kernel
theorem dX3_setSymbol_5 : decode cX3_setSymbol 5 = .ok (.ifCond .eq 35, 3) := by decide +kernel
theorem dX3_setSymbol_8 : decode cX3_setSymbol 8 = .ok (.aload_n 0, 1) := by decide +kernel
theorem dX3_setSymbol_9 : decode cX3_setSymbol 9 = .ok (.getfield 44, 3) := by decide +kernel
theorem dX3_setSymbol_12 : decode cX3_setSymbol 12 = .ok (.iload_n 1, 1) := by decide +kernel
theorem dX3_setSymbol_13 : decode cX3_setSymbol 13 = .ok (.aload_n 0, 1) := by decide +kernel
theorem dX3_setSymbol_14 : decode cX3_setSymbol 14 = .ok (.getfield 21, 3) := by decide +kernel
theorem dX3_setSymbol_17 : decode cX3_setSymbol 17 = .ok (.bipush 8, 2) := by decide +kernel
theorem dX3_setSymbol_19 : decode cX3_setSymbol 19 = .ok (.if_icmp .ge 19, 3) := by decide +kernel
theorem dX3_setSymbol_22 : decode cX3_setSymbol 22 = .ok (.lload_n 2, 1) := by decide +kernel
theorem dX3_setSymbol_23 : decode cX3_setSymbol 23 = .ok (.lconst 1, 1) := by decide +kernel
theorem dX3_setSymbol_24 : decode cX3_setSymbol 24 = .ok (.bipush 8, 2) := by decide +kernel
theorem dX3_setSymbol_26 : decode cX3_setSymbol 26 = .ok (.aload_n 0, 1) := by decide +kernel
theorem dX3_setSymbol_27 : decode cX3_setSymbol 27 = .ok (.getfield 21, 3) := by decide +kernel
theorem dX3_setSymbol_30 : decode cX3_setSymbol 30 = .ok (.imul, 1) := by decide +kernel
theorem dX3_setSymbol_31 : decode cX3_setSymbol 31 = .ok (.lshl, 1) := by decide +kernel
theorem dX3_setSymbol_32 : decode cX3_setSymbol 32 = .ok (.lconst 1, 1) := by decide +kernel
theorem dX3_setSymbol_33 : decode cX3_setSymbol 33 = .ok (.lsub, 1) := by decide +kernel
theorem dX3_setSymbol_34 : decode cX3_setSymbol 34 = .ok (.land, 1) := by decide +kernel
theorem dX3_setSymbol_35 : decode cX3_setSymbol 35 = .ok (.goto 4, 3) := by decide +kernel
theorem dX3_setSymbol_38 : decode cX3_setSymbol 38 = .ok (.lload_n 2, 1) := by decide +kernel
theorem dX3_setSymbol_39 : decode cX3_setSymbol 39 = .ok (.lastore, 1) := by decide +kernel
theorem dX3_setSymbol_40 : decode cX3_setSymbol 40 = .ok (.return_, 1) := by decide +kernel
theorem dX3_symbolsOfSum_0 : decode cX3_symbolsOfSum 0 = .ok (.aload_n 0, 1) := by decide +kernel
theorem dX3_symbolsOfSum_1 : decode cX3_symbolsOfSum 1 = .ok (.iload_n 1, 1) := by decide +kernel
theorem dX3_symbolsOfSum_2 : decode cX3_symbolsOfSum 2 = .ok (.invokevirtual 68, 3) := by decide +kernel
theorem dX3_symbolsOfSum_5 : decode cX3_symbolsOfSum 5 = .ok (.ifCond .eq 12, 3) := by decide +kernel
theorem dX3_symbolsOfSum_8 : decode cX3_symbolsOfSum 8 = .ok (.aload_n 0, 1) := by decide +kernel
theorem dX3_symbolsOfSum_9 : decode cX3_symbolsOfSum 9 = .ok (.getfield 48, 3) := by decide +kernel
theorem dX3_symbolsOfSum_12 : decode cX3_symbolsOfSum 12 = .ok (.iload_n 1, 1) := by decide +kernel
theorem dX3_symbolsOfSum_13 : decode cX3_symbolsOfSum 13 = .ok (.laload, 1) := by decide +kernel
theorem dX3_symbolsOfSum_14 : decode cX3_symbolsOfSum 14 = .ok (.goto 4, 3) := by decide +kernel
theorem dX3_symbolsOfSum_17 : decode cX3_symbolsOfSum 17 = .ok (.lconst 0, 1) := by decide +kernel
theorem dX3_symbolsOfSum_18 : decode cX3_symbolsOfSum 18 = .ok (.lreturn, 1) := by decide +kernel
theorem dX3_partValue_0 : decode cX3_partValue 0 = .ok (.aload_n 0, 1) := by decide +kernel
theorem dX3_partValue_1 : decode cX3_partValue 1 = .ok (.iload_n 1, 1) := by decide +kernel
theorem dX3_partValue_2 : decode cX3_partValue 2 = .ok (.invokevirtual 64, 3) := by decide +kernel
theorem dX3_partValue_5 : decode cX3_partValue 5 = .ok (.ifCond .eq 12, 3) := by decide +kernel
theorem dX3_partValue_8 : decode cX3_partValue 8 = .ok (.aload_n 0, 1) := by decide +kernel
theorem dX3_partValue_9 : decode cX3_partValue 9 = .ok (.getfield 44, 3) := by decide +kernel
theorem dX3_partValue_12 : decode cX3_partValue 12 = .ok (.iload_n 1, 1) := by decide +kernel
theorem dX3_partValue_13 : decode cX3_partValue 13 = .ok (.laload, 1) := by decide +kernel
theorem dX3_partValue_14 : decode cX3_partValue 14 = .ok (.goto 17, 3) := by decide +kernel
theorem dX3_partValue_17 : decode cX3_partValue 17 = .ok (.aload_n 0, 1) := by decide +kernel
theorem dX3_partValue_18 : decode cX3_partValue 18 = .ok (.aload_n 0, 1) := by decide +kernel
theorem dX3_partValue_19 : decode cX3_partValue 19 = .ok (.iload_n 1, 1) := by decide +kernel
theorem dX3_partValue_20 : decode cX3_partValue 20 = .ok (.aload_n 0, 1) := by decide +kernel
theorem dX3_partValue_21 : decode cX3_partValue 21 = .ok (.getfield 9, 3) := by decide +kernel
theorem dX3_partValue_24 : decode cX3_partValue 24 = .ok (.isub, 1) := by decide +kernel
theorem dX3_partValue_25 : decode cX3_partValue 25 = .ok (.invokevirtual 71, 3) := by decide +kernel
theorem dX3_partValue_28 : decode cX3_partValue 28 = .ok (.invokevirtual 75, 3) := by decide +kernel
theorem dX3_partValue_31 : decode cX3_partValue 31 = .ok (.lreturn, 1) := by decide +kernel
theorem dX3_valueOfSymbols_0 : decode cX3_valueOfSymbols 0 = .ok (.lconst 0, 1) := by decide +kernel
theorem dX3_valueOfSymbols_1 : decode cX3_valueOfSymbols 1 = .ok (.lstore_n 3, 1) := by decide +kernel
theorem dX3_valueOfSymbols_2 : decode cX3_valueOfSymbols 2 = .ok (.iconst 0, 1) := by decide +kernel
theorem dX3_valueOfSymbols_3 : decode cX3_valueOfSymbols 3 = .ok (.istore 5, 2) := by decide +kernel
theorem dX3_valueOfSymbols_5 : decode cX3_valueOfSymbols 5 = .ok (.iload 5, 2) := by decide +kernel
theorem dX3_valueOfSymbols_7 : decode cX3_valueOfSymbols 7 = .ok (.bipush 32, 2) := by decide +kernel
theorem dX3_valueOfSymbols_9 : decode cX3_valueOfSymbols 9 = .ok (.if_icmp .ge 28, 3) := by decide +kernel
theorem dX3_valueOfSymbols_12 : decode cX3_valueOfSymbols 12 = .ok (.lload_n 1, 1) := by decide +kernel
theorem dX3_valueOfSymbols_13 : decode cX3_valueOfSymbols 13 = .ok (.iload 5, 2) := by decide +kernel
theorem dX3_valueOfSymbols_15 : decode cX3_valueOfSymbols 15 = .ok (.invokestatic 60, 3) := by decide +kernel
theorem dX3_valueOfSymbols_18 : decode cX3_valueOfSymbols 18 = .ok (.ifCond .eq 13, 3) := by decide +kernel
theorem dX3_valueOfSymbols_21 : decode cX3_valueOfSymbols 21 = .ok (.lload_n 3, 1) := by decide +kernel
theorem dX3_valueOfSymbols_22 : decode cX3_valueOfSymbols 22 = .ok (.aload_n 0, 1) := by decide +kernel
theorem dX3_valueOfSymbols_23 : decode cX3_valueOfSymbols 23 = .ok (.getfield 44, 3) := by decide +kernel
theorem dX3_valueOfSymbols_26 : decode cX3_valueOfSymbols 26 = .ok (.iload 5, 2) := by decide +kernel
theorem dX3_valueOfSymbols_28 : decode cX3_valueOfSymbols 28 = .ok (.laload, 1) := by decide +kernel
theorem dX3_valueOfSymbols_29 : decode cX3_valueOfSymbols 29 = .ok (.lxor, 1) := by decide +kernel
theorem dX3_valueOfSymbols_30 : decode cX3_valueOfSymbols 30 = .ok (.lstore_n 3, 1) := by decide +kernel
theorem dX3_valueOfSymbols_31 : decode cX3_valueOfSymbols 31 = .ok (.iinc 5 1, 3) := by decide +kernel
theorem dX3_valueOfSymbols_34 : decode cX3_valueOfSymbols 34 = .ok (.goto (-29), 3) := by decide +kernel
theorem dX3_valueOfSymbols_37 : decode cX3_valueOfSymbols 37 = .ok (.lload_n 3, 1) := by decide +kernel
theorem dX3_valueOfSymbols_38 : decode cX3_valueOfSymbols 38 = .ok (.lreturn, 1) := by decide +kernel
theorem dX3_outputOf_0 : decode cX3_outputOf 0 = .ok (.aload_n 0, 1) := by decide +kernel
theorem dX3_outputOf_1 : decode cX3_outputOf 1 = .ok (.iload_n 1, 1) := by decide +kernel
theorem dX3_outputOf_2 : decode cX3_outputOf 2 = .ok (.invokevirtual 79, 3) := by decide +kernel
theorem dX3_outputOf_5 : decode cX3_outputOf 5 = .ok (.lstore_n 2, 1) := by decide +kernel
theorem dX3_outputOf_6 : decode cX3_outputOf 6 = .ok (.lconst 0, 1) := by decide +kernel
theorem dX3_outputOf_7 : decode cX3_outputOf 7 = .ok (.lstore 4, 2) := by decide +kernel
theorem dX3_outputOf_9 : decode cX3_outputOf 9 = .ok (.iconst 0, 1) := by decide +kernel
theorem dX3_outputOf_10 : decode cX3_outputOf 10 = .ok (.istore 6, 2) := by decide +kernel
theorem dX3_outputOf_12 : decode cX3_outputOf 12 = .ok (.iload 6, 2) := by decide +kernel
theorem dX3_outputOf_14 : decode cX3_outputOf 14 = .ok (.aload_n 0, 1) := by decide +kernel
theorem dX3_outputOf_15 : decode cX3_outputOf 15 = .ok (.getfield 18, 3) := by decide +kernel
theorem dX3_outputOf_18 : decode cX3_outputOf 18 = .ok (.if_icmp .ge 29, 3) := by decide +kernel
theorem dX3_outputOf_21 : decode cX3_outputOf 21 = .ok (.lload_n 2, 1) := by decide +kernel
theorem dX3_outputOf_22 : decode cX3_outputOf 22 = .ok (.iload 6, 2) := by decide +kernel
theorem dX3_outputOf_24 : decode cX3_outputOf 24 = .ok (.invokestatic 60, 3) := by decide +kernel
theorem dX3_outputOf_27 : decode cX3_outputOf 27 = .ok (.ifCond .eq 14, 3) := by decide +kernel
theorem dX3_outputOf_30 : decode cX3_outputOf 30 = .ok (.lload 4, 2) := by decide +kernel
theorem dX3_outputOf_32 : decode cX3_outputOf 32 = .ok (.aload_n 0, 1) := by decide +kernel
theorem dX3_outputOf_33 : decode cX3_outputOf 33 = .ok (.iload 6, 2) := by decide +kernel
theorem dX3_outputOf_35 : decode cX3_outputOf 35 = .ok (.invokevirtual 82, 3) := by decide +kernel
theorem dX3_outputOf_38 : decode cX3_outputOf 38 = .ok (.lxor, 1) := by decide +kernel
theorem dX3_outputOf_39 : decode cX3_outputOf 39 = .ok (.lstore 4, 2) := by decide +kernel
theorem dX3_outputOf_41 : decode cX3_outputOf 41 = .ok (.iinc 6 1, 3) := by decide +kernel
theorem dX3_outputOf_44 : decode cX3_outputOf 44 = .ok (.goto (-32), 3) := by decide +kernel
theorem dX3_outputOf_47 : decode cX3_outputOf 47 = .ok (.lload 4, 2) := by decide +kernel
theorem dX3_outputOf_49 : decode cX3_outputOf 49 = .ok (.lreturn, 1) := by decide +kernel
theorem dX3_rowOf_0 : decode cX3_rowOf 0 = .ok (.aload_n 0, 1) := by decide +kernel
theorem dX3_rowOf_1 : decode cX3_rowOf 1 = .ok (.iload_n 1, 1) := by decide +kernel
theorem dX3_rowOf_2 : decode cX3_rowOf 2 = .ok (.invokevirtual 64, 3) := by decide +kernel
theorem dX3_rowOf_5 : decode cX3_rowOf 5 = .ok (.ifCond .eq 7, 3) := by decide +kernel
theorem dX3_rowOf_8 : decode cX3_rowOf 8 = .ok (.lconst 1, 1) := by decide +kernel
theorem dX3_rowOf_9 : decode cX3_rowOf 9 = .ok (.iload_n 1, 1) := by decide +kernel
theorem dX3_rowOf_10 : decode cX3_rowOf 10 = .ok (.lshl, 1) := by decide +kernel
theorem dX3_rowOf_11 : decode cX3_rowOf 11 = .ok (.lreturn, 1) := by decide +kernel
theorem dX3_rowOf_12 : decode cX3_rowOf 12 = .ok (.aload_n 0, 1) := by decide +kernel
theorem dX3_rowOf_13 : decode cX3_rowOf 13 = .ok (.getfield 24, 3) := by decide +kernel
theorem dX3_rowOf_16 : decode cX3_rowOf 16 = .ok (.iload_n 1, 1) := by decide +kernel
theorem dX3_rowOf_17 : decode cX3_rowOf 17 = .ok (.ldc 51, 2) := by decide +kernel
theorem dX3_rowOf_19 : decode cX3_rowOf 19 = .ok (.imul, 1) := by decide +kernel
theorem dX3_rowOf_20 : decode cX3_rowOf 20 = .ok (.ixor, 1) := by decide +kernel
theorem dX3_rowOf_21 : decode cX3_rowOf 21 = .ok (.invokestatic 56, 3) := by decide +kernel
theorem dX3_rowOf_24 : decode cX3_rowOf 24 = .ok (.istore_n 2, 1) := by decide +kernel
theorem dX3_rowOf_25 : decode cX3_rowOf 25 = .ok (.aload_n 0, 1) := by decide +kernel
theorem dX3_rowOf_26 : decode cX3_rowOf 26 = .ok (.iload_n 2, 1) := by decide +kernel
theorem dX3_rowOf_27 : decode cX3_rowOf 27 = .ok (.aload_n 0, 1) := by decide +kernel
theorem dX3_rowOf_28 : decode cX3_rowOf 28 = .ok (.getfield 41, 3) := by decide +kernel
theorem dX3_rowOf_31 : decode cX3_rowOf 31 = .ok (.invokestatic 85, 3) := by decide +kernel
theorem dX3_rowOf_34 : decode cX3_rowOf 34 = .ok (.invokevirtual 89, 3) := by decide +kernel
theorem dX3_rowOf_37 : decode cX3_rowOf 37 = .ok (.aload_n 0, 1) := by decide +kernel
theorem dX3_rowOf_38 : decode cX3_rowOf 38 = .ok (.getfield 18, 3) := by decide +kernel
theorem dX3_rowOf_41 : decode cX3_rowOf 41 = .ok (.invokestatic 92, 3) := by decide +kernel
theorem dX3_rowOf_44 : decode cX3_rowOf 44 = .ok (.istore_n 3, 1) := by decide +kernel
theorem dX3_rowOf_45 : decode cX3_rowOf 45 = .ok (.lconst 0, 1) := by decide +kernel
theorem dX3_rowOf_46 : decode cX3_rowOf 46 = .ok (.lstore 4, 2) := by decide +kernel
theorem dX3_rowOf_48 : decode cX3_rowOf 48 = .ok (.iconst 0, 1) := by decide +kernel
theorem dX3_rowOf_49 : decode cX3_rowOf 49 = .ok (.istore 6, 2) := by decide +kernel
theorem dX3_rowOf_51 : decode cX3_rowOf 51 = .ok (.iload 6, 2) := by decide +kernel
theorem dX3_rowOf_53 : decode cX3_rowOf 53 = .ok (.iload_n 3, 1) := by decide +kernel
theorem dX3_rowOf_54 : decode cX3_rowOf 54 = .ok (.if_icmp .ge 35, 3) := by decide +kernel
theorem dX3_rowOf_57 : decode cX3_rowOf 57 = .ok (.iload_n 2, 1) := by decide +kernel
theorem dX3_rowOf_58 : decode cX3_rowOf 58 = .ok (.invokestatic 56, 3) := by decide +kernel
theorem dX3_rowOf_61 : decode cX3_rowOf 61 = .ok (.istore_n 2, 1) := by decide +kernel
theorem dX3_rowOf_62 : decode cX3_rowOf 62 = .ok (.lload 4, 2) := by decide +kernel
theorem dX3_rowOf_64 : decode cX3_rowOf 64 = .ok (.lconst 1, 1) := by decide +kernel
theorem dX3_rowOf_65 : decode cX3_rowOf 65 = .ok (.aload_n 0, 1) := by decide +kernel
theorem dX3_rowOf_66 : decode cX3_rowOf 66 = .ok (.lload 4, 2) := by decide +kernel
theorem dX3_rowOf_68 : decode cX3_rowOf 68 = .ok (.iload_n 2, 1) := by decide +kernel
theorem dX3_rowOf_69 : decode cX3_rowOf 69 = .ok (.aload_n 0, 1) := by decide +kernel
theorem dX3_rowOf_70 : decode cX3_rowOf 70 = .ok (.getfield 18, 3) := by decide +kernel
theorem dX3_rowOf_73 : decode cX3_rowOf 73 = .ok (.invokestatic 85, 3) := by decide +kernel
theorem dX3_rowOf_76 : decode cX3_rowOf 76 = .ok (.invokevirtual 97, 3) := by decide +kernel
theorem dX3_rowOf_79 : decode cX3_rowOf 79 = .ok (.lshl, 1) := by decide +kernel
theorem dX3_rowOf_80 : decode cX3_rowOf 80 = .ok (.lor, 1) := by decide +kernel
theorem dX3_rowOf_81 : decode cX3_rowOf 81 = .ok (.lstore 4, 2) := by decide +kernel
theorem dX3_rowOf_83 : decode cX3_rowOf 83 = .ok (.iinc 6 1, 3) := by decide +kernel
theorem dX3_rowOf_86 : decode cX3_rowOf 86 = .ok (.goto (-35), 3) := by decide +kernel
theorem dX3_rowOf_89 : decode cX3_rowOf 89 = .ok (.lload 4, 2) := by decide +kernel
theorem dX3_rowOf_91 : decode cX3_rowOf 91 = .ok (.lreturn, 1) := by decide +kernel
theorem dX3_degreeFor_0 : decode cX3_degreeFor 0 = .ok (.iconst 0, 1) := by decide +kernel
theorem dX3_degreeFor_1 : decode cX3_degreeFor 1 = .ok (.istore_n 2, 1) := by decide +kernel
theorem dX3_degreeFor_2 : decode cX3_degreeFor 2 = .ok (.iconst 1, 1) := by decide +kernel
theorem dX3_degreeFor_3 : decode cX3_degreeFor 3 = .ok (.istore_n 3, 1) := by decide +kernel
theorem dX3_degreeFor_4 : decode cX3_degreeFor 4 = .ok (.iload_n 3, 1) := by decide +kernel
theorem dX3_degreeFor_5 : decode cX3_degreeFor 5 = .ok (.bipush 12, 2) := by decide +kernel
theorem dX3_degreeFor_7 : decode cX3_degreeFor 7 = .ok (.if_icmp .gt 27, 3) := by decide +kernel
theorem dX3_degreeFor_10 : decode cX3_degreeFor 10 = .ok (.iload_n 2, 1) := by decide +kernel
theorem dX3_degreeFor_11 : decode cX3_degreeFor 11 = .ok (.aload_n 0, 1) := by decide +kernel
theorem dX3_degreeFor_12 : decode cX3_degreeFor 12 = .ok (.getfield 27, 3) := by decide +kernel
theorem dX3_degreeFor_15 : decode cX3_degreeFor 15 = .ok (.iload_n 3, 1) := by decide +kernel
theorem dX3_degreeFor_16 : decode cX3_degreeFor 16 = .ok (.iconst 1, 1) := by decide +kernel
theorem dX3_degreeFor_17 : decode cX3_degreeFor 17 = .ok (.isub, 1) := by decide +kernel
theorem dX3_degreeFor_18 : decode cX3_degreeFor 18 = .ok (.iaload, 1) := by decide +kernel
theorem dX3_degreeFor_19 : decode cX3_degreeFor 19 = .ok (.iadd, 1) := by decide +kernel
theorem dX3_degreeFor_20 : decode cX3_degreeFor 20 = .ok (.istore_n 2, 1) := by decide +kernel
theorem dX3_degreeFor_21 : decode cX3_degreeFor 21 = .ok (.iload_n 2, 1) := by decide +kernel
theorem dX3_degreeFor_22 : decode cX3_degreeFor 22 = .ok (.iload_n 1, 1) := by decide +kernel
theorem dX3_degreeFor_23 : decode cX3_degreeFor 23 = .ok (.if_icmp .le 5, 3) := by decide +kernel
theorem dX3_degreeFor_26 : decode cX3_degreeFor 26 = .ok (.iload_n 3, 1) := by decide +kernel
theorem dX3_degreeFor_27 : decode cX3_degreeFor 27 = .ok (.ireturn, 1) := by decide +kernel
theorem dX3_degreeFor_28 : decode cX3_degreeFor 28 = .ok (.iinc 3 1, 3) := by decide +kernel
theorem dX3_degreeFor_31 : decode cX3_degreeFor 31 = .ok (.goto (-27), 3) := by decide +kernel
theorem dX3_degreeFor_34 : decode cX3_degreeFor 34 = .ok (.bipush 12, 2) := by decide +kernel
theorem dX3_degreeFor_36 : decode cX3_degreeFor 36 = .ok (.ireturn, 1) := by decide +kernel
theorem dX3_firstOutside_0 : decode cX3_firstOutside 0 = .ok (.iload_n 3, 1) := by decide +kernel
theorem dX3_firstOutside_1 : decode cX3_firstOutside 1 = .ok (.istore 4, 2) := by decide +kernel
theorem dX3_firstOutside_3 : decode cX3_firstOutside 3 = .ok (.iconst 0, 1) := by decide +kernel
theorem dX3_firstOutside_4 : decode cX3_firstOutside 4 = .ok (.istore 5, 2) := by decide +kernel
theorem dX3_firstOutside_6 : decode cX3_firstOutside 6 = .ok (.iload 5, 2) := by decide +kernel
theorem dX3_firstOutside_8 : decode cX3_firstOutside 8 = .ok (.aload_n 0, 1) := by decide +kernel
theorem dX3_firstOutside_9 : decode cX3_firstOutside 9 = .ok (.getfield 18, 3) := by decide +kernel
theorem dX3_firstOutside_12 : decode cX3_firstOutside 12 = .ok (.if_icmp .ge 39, 3) := by decide +kernel
theorem dX3_firstOutside_15 : decode cX3_firstOutside 15 = .ok (.lload_n 1, 1) := by decide +kernel
theorem dX3_firstOutside_16 : decode cX3_firstOutside 16 = .ok (.iload 4, 2) := by decide +kernel
theorem dX3_firstOutside_18 : decode cX3_firstOutside 18 = .ok (.invokestatic 60, 3) := by decide +kernel
theorem dX3_firstOutside_21 : decode cX3_firstOutside 21 = .ok (.ifCond .eq 30, 3) := by decide +kernel
theorem dX3_firstOutside_24 : decode cX3_firstOutside 24 = .ok (.iload 4, 2) := by decide +kernel
theorem dX3_firstOutside_26 : decode cX3_firstOutside 26 = .ok (.iconst 1, 1) := by decide +kernel
theorem dX3_firstOutside_27 : decode cX3_firstOutside 27 = .ok (.iadd, 1) := by decide +kernel
theorem dX3_firstOutside_28 : decode cX3_firstOutside 28 = .ok (.aload_n 0, 1) := by decide +kernel
theorem dX3_firstOutside_29 : decode cX3_firstOutside 29 = .ok (.getfield 18, 3) := by decide +kernel
theorem dX3_firstOutside_32 : decode cX3_firstOutside 32 = .ok (.if_icmp .ge 10, 3) := by decide +kernel
theorem dX3_firstOutside_35 : decode cX3_firstOutside 35 = .ok (.iload 4, 2) := by decide +kernel
theorem dX3_firstOutside_37 : decode cX3_firstOutside 37 = .ok (.iconst 1, 1) := by decide +kernel
theorem dX3_firstOutside_38 : decode cX3_firstOutside 38 = .ok (.iadd, 1) := by decide +kernel
theorem dX3_firstOutside_39 : decode cX3_firstOutside 39 = .ok (.goto 4, 3) := by decide +kernel
theorem dX3_firstOutside_42 : decode cX3_firstOutside 42 = .ok (.iconst 0, 1) := by decide +kernel
theorem dX3_firstOutside_43 : decode cX3_firstOutside 43 = .ok (.istore 4, 2) := by decide +kernel
theorem dX3_firstOutside_45 : decode cX3_firstOutside 45 = .ok (.iinc 5 1, 3) := by decide +kernel
theorem dX3_firstOutside_48 : decode cX3_firstOutside 48 = .ok (.goto (-42), 3) := by decide +kernel
theorem dX3_firstOutside_51 : decode cX3_firstOutside 51 = .ok (.iload 4, 2) := by decide +kernel
theorem dX3_firstOutside_53 : decode cX3_firstOutside 53 = .ok (.ireturn, 1) := by decide +kernel
theorem dX4_init_0 : decode cX4_init 0 = .ok (.aload_n 0, 1) := by decide +kernel
theorem dX4_init_1 : decode cX4_init 1 = .ok (.invokespecial 3, 3) := by decide +kernel
theorem dX4_init_4 : decode cX4_init 4 = .ok (.aload_n 0, 1) := by decide +kernel
theorem dX4_init_5 : decode cX4_init 5 = .ok (.bipush 40, 2) := by decide +kernel
theorem dX4_init_7 : decode cX4_init 7 = .ok (.newarray .long, 2) := by decide +kernel
theorem dX4_init_9 : decode cX4_init 9 = .ok (.putfield 9, 3) := by decide +kernel
theorem dX4_init_12 : decode cX4_init 12 = .ok (.aload_n 0, 1) := by decide +kernel
theorem dX4_init_13 : decode cX4_init 13 = .ok (.bipush 40, 2) := by decide +kernel
theorem dX4_init_15 : decode cX4_init 15 = .ok (.newarray .long, 2) := by decide +kernel
theorem dX4_init_17 : decode cX4_init 17 = .ok (.putfield 15, 3) := by decide +kernel
theorem dX4_init_20 : decode cX4_init 20 = .ok (.return_, 1) := by decide +kernel
theorem dX4_clear_0 : decode cX4_clear 0 = .ok (.iconst 0, 1) := by decide +kernel
theorem dX4_clear_1 : decode cX4_clear 1 = .ok (.istore_n 1, 1) := by decide +kernel
theorem dX4_clear_2 : decode cX4_clear 2 = .ok (.iload_n 1, 1) := by decide +kernel
theorem dX4_clear_3 : decode cX4_clear 3 = .ok (.bipush 40, 2) := by decide +kernel
theorem dX4_clear_5 : decode cX4_clear 5 = .ok (.if_icmp .ge 23, 3) := by decide +kernel
theorem dX4_clear_8 : decode cX4_clear 8 = .ok (.aload_n 0, 1) := by decide +kernel
theorem dX4_clear_9 : decode cX4_clear 9 = .ok (.getfield 9, 3) := by decide +kernel
theorem dX4_clear_12 : decode cX4_clear 12 = .ok (.iload_n 1, 1) := by decide +kernel
theorem dX4_clear_13 : decode cX4_clear 13 = .ok (.lconst 0, 1) := by decide +kernel
theorem dX4_clear_14 : decode cX4_clear 14 = .ok (.lastore, 1) := by decide +kernel
theorem dX4_clear_15 : decode cX4_clear 15 = .ok (.aload_n 0, 1) := by decide +kernel
theorem dX4_clear_16 : decode cX4_clear 16 = .ok (.getfield 15, 3) := by decide +kernel
theorem dX4_clear_19 : decode cX4_clear 19 = .ok (.iload_n 1, 1) := by decide +kernel
theorem dX4_clear_20 : decode cX4_clear 20 = .ok (.lconst 0, 1) := by decide +kernel
theorem dX4_clear_21 : decode cX4_clear 21 = .ok (.lastore, 1) := by decide +kernel
theorem dX4_clear_22 : decode cX4_clear 22 = .ok (.iinc 1 1, 3) := by decide +kernel
theorem dX4_clear_25 : decode cX4_clear 25 = .ok (.goto (-23), 3) := by decide +kernel
theorem dX4_clear_28 : decode cX4_clear 28 = .ok (.aload_n 0, 1) := by decide +kernel
theorem dX4_clear_29 : decode cX4_clear 29 = .ok (.iconst 0, 1) := by decide +kernel
theorem dX4_clear_30 : decode cX4_clear 30 = .ok (.putfield 18, 3) := by decide +kernel
theorem dX4_clear_33 : decode cX4_clear 33 = .ok (.return_, 1) := by decide +kernel
theorem dX4_contradicts_0 : decode cX4_contradicts 0 = .ok (.aload_n 0, 1) := by decide +kernel
theorem dX4_contradicts_1 : decode cX4_contradicts 1 = .ok (.lload_n 1, 1) := by decide +kernel
theorem dX4_contradicts_2 : decode cX4_contradicts 2 = .ok (.lload_n 3, 1) := by decide +kernel
theorem dX4_contradicts_3 : decode cX4_contradicts 3 = .ok (.invokevirtual 22, 3) := by decide +kernel
theorem dX4_contradicts_6 : decode cX4_contradicts 6 = .ok (.aload_n 0, 1) := by decide +kernel
theorem dX4_contradicts_7 : decode cX4_contradicts 7 = .ok (.getfield 26, 3) := by decide +kernel
theorem dX4_contradicts_10 : decode cX4_contradicts 10 = .ok (.lconst 0, 1) := by decide +kernel
theorem dX4_contradicts_11 : decode cX4_contradicts 11 = .ok (.lcmp, 1) := by decide +kernel
theorem dX4_contradicts_12 : decode cX4_contradicts 12 = .ok (.ifCond .ne 16, 3) := by decide +kernel
theorem dX4_contradicts_15 : decode cX4_contradicts 15 = .ok (.aload_n 0, 1) := by decide +kernel
theorem dX4_contradicts_16 : decode cX4_contradicts 16 = .ok (.getfield 30, 3) := by decide +kernel
theorem dX4_contradicts_19 : decode cX4_contradicts 19 = .ok (.lconst 0, 1) := by decide +kernel
theorem dX4_contradicts_20 : decode cX4_contradicts 20 = .ok (.lcmp, 1) := by decide +kernel
theorem dX4_contradicts_21 : decode cX4_contradicts 21 = .ok (.ifCond .eq 7, 3) := by decide +kernel
theorem dX4_contradicts_24 : decode cX4_contradicts 24 = .ok (.iconst 1, 1) := by decide +kernel
theorem dX4_contradicts_25 : decode cX4_contradicts 25 = .ok (.goto 4, 3) := by decide +kernel
theorem dX4_contradicts_28 : decode cX4_contradicts 28 = .ok (.iconst 0, 1) := by decide +kernel
theorem dX4_contradicts_29 : decode cX4_contradicts 29 = .ok (.ireturn, 1) := by decide +kernel
theorem dX4_add_0 : decode cX4_add 0 = .ok (.aload_n 0, 1) := by decide +kernel
theorem dX4_add_1 : decode cX4_add 1 = .ok (.lload_n 1, 1) := by decide +kernel
theorem dX4_add_2 : decode cX4_add 2 = .ok (.lload_n 3, 1) := by decide +kernel
theorem dX4_add_3 : decode cX4_add 3 = .ok (.invokevirtual 22, 3) := by decide +kernel
theorem dX4_add_6 : decode cX4_add 6 = .ok (.aload_n 0, 1) := by decide +kernel
theorem dX4_add_7 : decode cX4_add 7 = .ok (.getfield 26, 3) := by decide +kernel
theorem dX4_add_10 : decode cX4_add 10 = .ok (.lconst 0, 1) := by decide +kernel
theorem dX4_add_11 : decode cX4_add 11 = .ok (.lcmp, 1) := by decide +kernel
theorem dX4_add_12 : decode cX4_add 12 = .ok (.ifCond .ne 4, 3) := by decide +kernel
theorem dX4_add_15 : decode cX4_add 15 = .ok (.return_, 1) := by decide +kernel
theorem dX4_add_16 : decode cX4_add 16 = .ok (.aload_n 0, 1) := by decide +kernel
theorem dX4_add_17 : decode cX4_add 17 = .ok (.invokevirtual 33, 3) := by decide +kernel
theorem dX4_add_20 : decode cX4_add 20 = .ok (.istore 5, 2) := by decide +kernel
theorem dX4_add_22 : decode cX4_add 22 = .ok (.iconst 0, 1) := by decide +kernel
theorem dX4_add_23 : decode cX4_add 23 = .ok (.istore 6, 2) := by decide +kernel
theorem dX4_add_25 : decode cX4_add 25 = .ok (.iload 6, 2) := by decide +kernel
theorem dX4_add_27 : decode cX4_add 27 = .ok (.bipush 40, 2) := by decide +kernel
theorem dX4_add_29 : decode cX4_add 29 = .ok (.if_icmp .ge 52, 3) := by decide +kernel
theorem dX4_add_32 : decode cX4_add 32 = .ok (.aload_n 0, 1) := by decide +kernel
theorem dX4_add_33 : decode cX4_add 33 = .ok (.getfield 9, 3) := by decide +kernel
theorem dX4_add_36 : decode cX4_add 36 = .ok (.iload 6, 2) := by decide +kernel
theorem dX4_add_38 : decode cX4_add 38 = .ok (.laload, 1) := by decide +kernel
theorem dX4_add_39 : decode cX4_add 39 = .ok (.iload 5, 2) := by decide +kernel
theorem dX4_add_41 : decode cX4_add 41 = .ok (.invokestatic 37, 3) := by decide +kernel
theorem dX4_add_44 : decode cX4_add 44 = .ok (.ifCond .eq 31, 3) := by decide +kernel
theorem dX4_add_47 : decode cX4_add 47 = .ok (.aload_n 0, 1) := by decide +kernel
theorem dX4_add_48 : decode cX4_add 48 = .ok (.getfield 9, 3) := by decide +kernel
theorem dX4_add_51 : decode cX4_add 51 = .ok (.iload 6, 2) := by decide +kernel
theorem dX4_add_53 : decode cX4_add 53 = .ok (.dup2, 1) := by decide +kernel
theorem dX4_add_54 : decode cX4_add 54 = .ok (.laload, 1) := by decide +kernel
theorem dX4_add_55 : decode cX4_add 55 = .ok (.aload_n 0, 1) := by decide +kernel
theorem dX4_add_56 : decode cX4_add 56 = .ok (.getfield 26, 3) := by decide +kernel
theorem dX4_add_59 : decode cX4_add 59 = .ok (.lxor, 1) := by decide +kernel
theorem dX4_add_60 : decode cX4_add 60 = .ok (.lastore, 1) := by decide +kernel
theorem dX4_add_61 : decode cX4_add 61 = .ok (.aload_n 0, 1) := by decide +kernel
theorem dX4_add_62 : decode cX4_add 62 = .ok (.getfield 15, 3) := by decide +kernel
theorem dX4_add_65 : decode cX4_add 65 = .ok (.iload 6, 2) := by decide +kernel
theorem dX4_add_67 : decode cX4_add 67 = .ok (.dup2, 1) := by decide +kernel
theorem dX4_add_68 : decode cX4_add 68 = .ok (.laload, 1) := by decide +kernel
theorem dX4_add_69 : decode cX4_add 69 = .ok (.aload_n 0, 1) := by decide +kernel
theorem dX4_add_70 : decode cX4_add 70 = .ok (.getfield 30, 3) := by decide +kernel
theorem dX4_add_73 : decode cX4_add 73 = .ok (.lxor, 1) := by decide +kernel
theorem dX4_add_74 : decode cX4_add 74 = .ok (.lastore, 1) := by decide +kernel
theorem dX4_add_75 : decode cX4_add 75 = .ok (.iinc 6 1, 3) := by decide +kernel
theorem dX4_add_78 : decode cX4_add 78 = .ok (.goto (-53), 3) := by decide +kernel
theorem dX4_add_81 : decode cX4_add 81 = .ok (.aload_n 0, 1) := by decide +kernel
theorem dX4_add_82 : decode cX4_add 82 = .ok (.getfield 9, 3) := by decide +kernel
theorem dX4_add_85 : decode cX4_add 85 = .ok (.iload 5, 2) := by decide +kernel
theorem dX4_add_87 : decode cX4_add 87 = .ok (.aload_n 0, 1) := by decide +kernel
theorem dX4_add_88 : decode cX4_add 88 = .ok (.getfield 26, 3) := by decide +kernel
theorem dX4_add_91 : decode cX4_add 91 = .ok (.lastore, 1) := by decide +kernel
theorem dX4_add_92 : decode cX4_add 92 = .ok (.aload_n 0, 1) := by decide +kernel
theorem dX4_add_93 : decode cX4_add 93 = .ok (.getfield 15, 3) := by decide +kernel
theorem dX4_add_96 : decode cX4_add 96 = .ok (.iload 5, 2) := by decide +kernel
theorem dX4_add_98 : decode cX4_add 98 = .ok (.aload_n 0, 1) := by decide +kernel
theorem dX4_add_99 : decode cX4_add 99 = .ok (.getfield 30, 3) := by decide +kernel
theorem dX4_add_102 : decode cX4_add 102 = .ok (.lastore, 1) := by decide +kernel
theorem dX4_add_103 : decode cX4_add 103 = .ok (.aload_n 0, 1) := by decide +kernel
theorem dX4_add_104 : decode cX4_add 104 = .ok (.dup, 1) := by decide +kernel
theorem dX4_add_105 : decode cX4_add 105 = .ok (.getfield 18, 3) := by decide +kernel
theorem dX4_add_108 : decode cX4_add 108 = .ok (.iconst 1, 1) := by decide +kernel
theorem dX4_add_109 : decode cX4_add 109 = .ok (.iadd, 1) := by decide +kernel
theorem dX4_add_110 : decode cX4_add 110 = .ok (.putfield 18, 3) := by decide +kernel
theorem dX4_add_113 : decode cX4_add 113 = .ok (.return_, 1) := by decide +kernel
theorem dX4_holdsAlone_0 : decode cX4_holdsAlone 0 = .ok (.iload_n 1, 1) := by decide +kernel
theorem dX4_holdsAlone_1 : decode cX4_holdsAlone 1 = .ok (.ifCond .lt 26, 3) := by decide +kernel
theorem dX4_holdsAlone_4 : decode cX4_holdsAlone 4 = .ok (.iload_n 1, 1) := by decide +kernel
theorem dX4_holdsAlone_5 : decode cX4_holdsAlone 5 = .ok (.bipush 40, 2) := by decide +kernel
theorem dX4_holdsAlone_7 : decode cX4_holdsAlone 7 = .ok (.if_icmp .ge 20, 3) := by decide +kernel
theorem dX4_holdsAlone_10 : decode cX4_holdsAlone 10 = .ok (.aload_n 0, 1) := by decide +kernel
theorem dX4_holdsAlone_11 : decode cX4_holdsAlone 11 = .ok (.getfield 9, 3) := by decide +kernel
theorem dX4_holdsAlone_14 : decode cX4_holdsAlone 14 = .ok (.iload_n 1, 1) := by decide +kernel
theorem dX4_holdsAlone_15 : decode cX4_holdsAlone 15 = .ok (.laload, 1) := by decide +kernel
theorem dX4_holdsAlone_16 : decode cX4_holdsAlone 16 = .ok (.lconst 1, 1) := by decide +kernel
theorem dX4_holdsAlone_17 : decode cX4_holdsAlone 17 = .ok (.iload_n 1, 1) := by decide +kernel
theorem dX4_holdsAlone_18 : decode cX4_holdsAlone 18 = .ok (.lshl, 1) := by decide +kernel
theorem dX4_holdsAlone_19 : decode cX4_holdsAlone 19 = .ok (.lcmp, 1) := by decide +kernel
theorem dX4_holdsAlone_20 : decode cX4_holdsAlone 20 = .ok (.ifCond .ne 7, 3) := by decide +kernel
theorem dX4_holdsAlone_23 : decode cX4_holdsAlone 23 = .ok (.iconst 1, 1) := by decide +kernel
theorem dX4_holdsAlone_24 : decode cX4_holdsAlone 24 = .ok (.goto 4, 3) := by decide +kernel
theorem dX4_holdsAlone_27 : decode cX4_holdsAlone 27 = .ok (.iconst 0, 1) := by decide +kernel
theorem dX4_holdsAlone_28 : decode cX4_holdsAlone 28 = .ok (.ireturn, 1) := by decide +kernel
theorem dX4_countAlone_0 : decode cX4_countAlone 0 = .ok (.iconst 0, 1) := by decide +kernel
theorem dX4_countAlone_1 : decode cX4_countAlone 1 = .ok (.istore_n 1, 1) := by decide +kernel
theorem dX4_countAlone_2 : decode cX4_countAlone 2 = .ok (.iconst 0, 1) := by decide +kernel
theorem dX4_countAlone_3 : decode cX4_countAlone 3 = .ok (.istore_n 2, 1) := by decide +kernel
theorem dX4_countAlone_4 : decode cX4_countAlone 4 = .ok (.iload_n 2, 1) := by decide +kernel
theorem dX4_countAlone_5 : decode cX4_countAlone 5 = .ok (.bipush 40, 2) := by decide +kernel
theorem dX4_countAlone_7 : decode cX4_countAlone 7 = .ok (.if_icmp .ge 20, 3) := by decide +kernel
theorem dX4_countAlone_10 : decode cX4_countAlone 10 = .ok (.aload_n 0, 1) := by decide +kernel
theorem dX4_countAlone_11 : decode cX4_countAlone 11 = .ok (.iload_n 2, 1) := by decide +kernel
theorem dX4_countAlone_12 : decode cX4_countAlone 12 = .ok (.invokevirtual 41, 3) := by decide +kernel
theorem dX4_countAlone_15 : decode cX4_countAlone 15 = .ok (.ifCond .eq 6, 3) := by decide +kernel
theorem dX4_countAlone_18 : decode cX4_countAlone 18 = .ok (.iinc 1 1, 3) := by decide +kernel
theorem dX4_countAlone_21 : decode cX4_countAlone 21 = .ok (.iinc 2 1, 3) := by decide +kernel
theorem dX4_countAlone_24 : decode cX4_countAlone 24 = .ok (.goto (-20), 3) := by decide +kernel
theorem dX4_countAlone_27 : decode cX4_countAlone 27 = .ok (.iload_n 1, 1) := by decide +kernel
theorem dX4_countAlone_28 : decode cX4_countAlone 28 = .ok (.ireturn, 1) := by decide +kernel
theorem dX4_reduce_0 : decode cX4_reduce 0 = .ok (.aload_n 0, 1) := by decide +kernel
theorem dX4_reduce_1 : decode cX4_reduce 1 = .ok (.lload_n 1, 1) := by decide +kernel
theorem dX4_reduce_2 : decode cX4_reduce 2 = .ok (.putfield 26, 3) := by decide +kernel
theorem dX4_reduce_5 : decode cX4_reduce 5 = .ok (.aload_n 0, 1) := by decide +kernel
theorem dX4_reduce_6 : decode cX4_reduce 6 = .ok (.lload_n 3, 1) := by decide +kernel
theorem dX4_reduce_7 : decode cX4_reduce 7 = .ok (.putfield 30, 3) := by decide +kernel
theorem dX4_reduce_10 : decode cX4_reduce 10 = .ok (.iconst 0, 1) := by decide +kernel
theorem dX4_reduce_11 : decode cX4_reduce 11 = .ok (.istore 5, 2) := by decide +kernel
theorem dX4_reduce_13 : decode cX4_reduce 13 = .ok (.iload 5, 2) := by decide +kernel
theorem dX4_reduce_15 : decode cX4_reduce 15 = .ok (.bipush 40, 2) := by decide +kernel
theorem dX4_reduce_17 : decode cX4_reduce 17 = .ok (.if_icmp .ge 62, 3) := by decide +kernel
theorem dX4_reduce_20 : decode cX4_reduce 20 = .ok (.aload_n 0, 1) := by decide +kernel
theorem dX4_reduce_21 : decode cX4_reduce 21 = .ok (.getfield 9, 3) := by decide +kernel
theorem dX4_reduce_24 : decode cX4_reduce 24 = .ok (.iload 5, 2) := by decide +kernel
theorem dX4_reduce_26 : decode cX4_reduce 26 = .ok (.laload, 1) := by decide +kernel
theorem dX4_reduce_27 : decode cX4_reduce 27 = .ok (.lconst 0, 1) := by decide +kernel
theorem dX4_reduce_28 : decode cX4_reduce 28 = .ok (.lcmp, 1) := by decide +kernel
theorem dX4_reduce_29 : decode cX4_reduce 29 = .ok (.ifCond .eq 44, 3) := by decide +kernel
theorem dX4_reduce_32 : decode cX4_reduce 32 = .ok (.lload_n 1, 1) := by decide +kernel
theorem dX4_reduce_33 : decode cX4_reduce 33 = .ok (.iload 5, 2) := by decide +kernel
theorem dX4_reduce_35 : decode cX4_reduce 35 = .ok (.invokestatic 37, 3) := by decide +kernel
theorem dX4_reduce_38 : decode cX4_reduce 38 = .ok (.ifCond .eq 35, 3) := by decide +kernel
theorem dX4_reduce_41 : decode cX4_reduce 41 = .ok (.aload_n 0, 1) := by decide +kernel
theorem dX4_reduce_42 : decode cX4_reduce 42 = .ok (.dup, 1) := by decide +kernel
theorem dX4_reduce_43 : decode cX4_reduce 43 = .ok (.getfield 26, 3) := by decide +kernel
theorem dX4_reduce_46 : decode cX4_reduce 46 = .ok (.aload_n 0, 1) := by decide +kernel
theorem dX4_reduce_47 : decode cX4_reduce 47 = .ok (.getfield 9, 3) := by decide +kernel
theorem dX4_reduce_50 : decode cX4_reduce 50 = .ok (.iload 5, 2) := by decide +kernel
theorem dX4_reduce_52 : decode cX4_reduce 52 = .ok (.laload, 1) := by decide +kernel
theorem dX4_reduce_53 : decode cX4_reduce 53 = .ok (.lxor, 1) := by decide +kernel
theorem dX4_reduce_54 : decode cX4_reduce 54 = .ok (.putfield 26, 3) := by decide +kernel
theorem dX4_reduce_57 : decode cX4_reduce 57 = .ok (.aload_n 0, 1) := by decide +kernel
theorem dX4_reduce_58 : decode cX4_reduce 58 = .ok (.dup, 1) := by decide +kernel
theorem dX4_reduce_59 : decode cX4_reduce 59 = .ok (.getfield 30, 3) := by decide +kernel
theorem dX4_reduce_62 : decode cX4_reduce 62 = .ok (.aload_n 0, 1) := by decide +kernel
theorem dX4_reduce_63 : decode cX4_reduce 63 = .ok (.getfield 15, 3) := by decide +kernel
theorem dX4_reduce_66 : decode cX4_reduce 66 = .ok (.iload 5, 2) := by decide +kernel
theorem dX4_reduce_68 : decode cX4_reduce 68 = .ok (.laload, 1) := by decide +kernel
theorem dX4_reduce_69 : decode cX4_reduce 69 = .ok (.lxor, 1) := by decide +kernel
theorem dX4_reduce_70 : decode cX4_reduce 70 = .ok (.putfield 30, 3) := by decide +kernel
theorem dX4_reduce_73 : decode cX4_reduce 73 = .ok (.iinc 5 1, 3) := by decide +kernel
theorem dX4_reduce_76 : decode cX4_reduce 76 = .ok (.goto (-63), 3) := by decide +kernel
theorem dX4_reduce_79 : decode cX4_reduce 79 = .ok (.return_, 1) := by decide +kernel
theorem dX4_lowestOfRest_0 : decode cX4_lowestOfRest 0 = .ok (.iconst 0, 1) := by decide +kernel
theorem dX4_lowestOfRest_1 : decode cX4_lowestOfRest 1 = .ok (.istore_n 1, 1) := by decide +kernel
theorem dX4_lowestOfRest_2 : decode cX4_lowestOfRest 2 = .ok (.iload_n 1, 1) := by decide +kernel
theorem dX4_lowestOfRest_3 : decode cX4_lowestOfRest 3 = .ok (.bipush 39, 2) := by decide +kernel
theorem dX4_lowestOfRest_5 : decode cX4_lowestOfRest 5 = .ok (.if_icmp .ge 20, 3) := by decide +kernel
theorem dX4_lowestOfRest_8 : decode cX4_lowestOfRest 8 = .ok (.aload_n 0, 1) := by decide +kernel
theorem dX4_lowestOfRest_9 : decode cX4_lowestOfRest 9 = .ok (.getfield 26, 3) := by decide +kernel
theorem dX4_lowestOfRest_12 : decode cX4_lowestOfRest 12 = .ok (.iload_n 1, 1) := by decide +kernel
theorem dX4_lowestOfRest_13 : decode cX4_lowestOfRest 13 = .ok (.invokestatic 37, 3) := by decide +kernel
theorem dX4_lowestOfRest_16 : decode cX4_lowestOfRest 16 = .ok (.ifCond .ne 9, 3) := by decide +kernel
theorem dX4_lowestOfRest_19 : decode cX4_lowestOfRest 19 = .ok (.iinc 1 1, 3) := by decide +kernel
theorem dX4_lowestOfRest_22 : decode cX4_lowestOfRest 22 = .ok (.goto (-20), 3) := by decide +kernel
theorem dX4_lowestOfRest_25 : decode cX4_lowestOfRest 25 = .ok (.iload_n 1, 1) := by decide +kernel
theorem dX4_lowestOfRest_26 : decode cX4_lowestOfRest 26 = .ok (.ireturn, 1) := by decide +kernel
theorem dXJ_bitCount_0 : decode cXJ_bitCount 0 = .ok (.lload_n 0, 1) := by decide +kernel
theorem dXJ_bitCount_1 : decode cXJ_bitCount 1 = .ok (.lload_n 0, 1) := by decide +kernel
theorem dXJ_bitCount_2 : decode cXJ_bitCount 2 = .ok (.iconst 1, 1) := by decide +kernel
theorem dXJ_bitCount_3 : decode cXJ_bitCount 3 = .ok (.lushr, 1) := by decide +kernel
theorem dXJ_bitCount_4 : decode cXJ_bitCount 4 = .ok (.ldc2_w 314, 3) := by decide +kernel
theorem dXJ_bitCount_7 : decode cXJ_bitCount 7 = .ok (.land, 1) := by decide +kernel
theorem dXJ_bitCount_8 : decode cXJ_bitCount 8 = .ok (.lsub, 1) := by decide +kernel
theorem dXJ_bitCount_9 : decode cXJ_bitCount 9 = .ok (.lstore_n 0, 1) := by decide +kernel
theorem dXJ_bitCount_10 : decode cXJ_bitCount 10 = .ok (.lload_n 0, 1) := by decide +kernel
theorem dXJ_bitCount_11 : decode cXJ_bitCount 11 = .ok (.ldc2_w 316, 3) := by decide +kernel
theorem dXJ_bitCount_14 : decode cXJ_bitCount 14 = .ok (.land, 1) := by decide +kernel
theorem dXJ_bitCount_15 : decode cXJ_bitCount 15 = .ok (.lload_n 0, 1) := by decide +kernel
theorem dXJ_bitCount_16 : decode cXJ_bitCount 16 = .ok (.iconst 2, 1) := by decide +kernel
theorem dXJ_bitCount_17 : decode cXJ_bitCount 17 = .ok (.lushr, 1) := by decide +kernel
theorem dXJ_bitCount_18 : decode cXJ_bitCount 18 = .ok (.ldc2_w 316, 3) := by decide +kernel
theorem dXJ_bitCount_21 : decode cXJ_bitCount 21 = .ok (.land, 1) := by decide +kernel
theorem dXJ_bitCount_22 : decode cXJ_bitCount 22 = .ok (.ladd, 1) := by decide +kernel
theorem dXJ_bitCount_23 : decode cXJ_bitCount 23 = .ok (.lstore_n 0, 1) := by decide +kernel
theorem dXJ_bitCount_24 : decode cXJ_bitCount 24 = .ok (.lload_n 0, 1) := by decide +kernel
theorem dXJ_bitCount_25 : decode cXJ_bitCount 25 = .ok (.lload_n 0, 1) := by decide +kernel
theorem dXJ_bitCount_26 : decode cXJ_bitCount 26 = .ok (.iconst 4, 1) := by decide +kernel
theorem dXJ_bitCount_27 : decode cXJ_bitCount 27 = .ok (.lushr, 1) := by decide +kernel
theorem dXJ_bitCount_28 : decode cXJ_bitCount 28 = .ok (.ladd, 1) := by decide +kernel
theorem dXJ_bitCount_29 : decode cXJ_bitCount 29 = .ok (.ldc2_w 318, 3) := by decide +kernel
theorem dXJ_bitCount_32 : decode cXJ_bitCount 32 = .ok (.land, 1) := by decide +kernel
theorem dXJ_bitCount_33 : decode cXJ_bitCount 33 = .ok (.lstore_n 0, 1) := by decide +kernel
theorem dXJ_bitCount_34 : decode cXJ_bitCount 34 = .ok (.lload_n 0, 1) := by decide +kernel
theorem dXJ_bitCount_35 : decode cXJ_bitCount 35 = .ok (.lload_n 0, 1) := by decide +kernel
theorem dXJ_bitCount_36 : decode cXJ_bitCount 36 = .ok (.bipush 8, 2) := by decide +kernel
theorem dXJ_bitCount_38 : decode cXJ_bitCount 38 = .ok (.lushr, 1) := by decide +kernel
theorem dXJ_bitCount_39 : decode cXJ_bitCount 39 = .ok (.ladd, 1) := by decide +kernel
theorem dXJ_bitCount_40 : decode cXJ_bitCount 40 = .ok (.lstore_n 0, 1) := by decide +kernel
theorem dXJ_bitCount_41 : decode cXJ_bitCount 41 = .ok (.lload_n 0, 1) := by decide +kernel
theorem dXJ_bitCount_42 : decode cXJ_bitCount 42 = .ok (.lload_n 0, 1) := by decide +kernel
theorem dXJ_bitCount_43 : decode cXJ_bitCount 43 = .ok (.bipush 16, 2) := by decide +kernel
theorem dXJ_bitCount_45 : decode cXJ_bitCount 45 = .ok (.lushr, 1) := by decide +kernel
theorem dXJ_bitCount_46 : decode cXJ_bitCount 46 = .ok (.ladd, 1) := by decide +kernel
theorem dXJ_bitCount_47 : decode cXJ_bitCount 47 = .ok (.lstore_n 0, 1) := by decide +kernel
theorem dXJ_bitCount_48 : decode cXJ_bitCount 48 = .ok (.lload_n 0, 1) := by decide +kernel
theorem dXJ_bitCount_49 : decode cXJ_bitCount 49 = .ok (.lload_n 0, 1) := by decide +kernel
theorem dXJ_bitCount_50 : decode cXJ_bitCount 50 = .ok (.bipush 32, 2) := by decide +kernel
theorem dXJ_bitCount_52 : decode cXJ_bitCount 52 = .ok (.lushr, 1) := by decide +kernel
theorem dXJ_bitCount_53 : decode cXJ_bitCount 53 = .ok (.ladd, 1) := by decide +kernel
theorem dXJ_bitCount_54 : decode cXJ_bitCount 54 = .ok (.lstore_n 0, 1) := by decide +kernel
theorem dXJ_bitCount_55 : decode cXJ_bitCount 55 = .ok (.lload_n 0, 1) := by decide +kernel
theorem dXJ_bitCount_56 : decode cXJ_bitCount 56 = .ok (.l2i, 1) := by decide +kernel
theorem dXJ_bitCount_57 : decode cXJ_bitCount 57 = .ok (.bipush 127, 2) := by decide +kernel
theorem dXJ_bitCount_59 : decode cXJ_bitCount 59 = .ok (.iand, 1) := by decide +kernel
theorem dXJ_bitCount_60 : decode cXJ_bitCount 60 = .ok (.ireturn, 1) := by decide +kernel
