theorem dX8_isLetter_0 : decode cX8_isLetter 0 = .ok (.iload_n 0, 1) := by decide +kernel
theorem dX8_isLetter_1 : decode cX8_isLetter 1 = .ok (.tableswitch 337 42 121 #[335, 335, 337, 335, 337, 335, 337, 337, 337, 337, 337, 337, 337, 337, 337, 337, 337, 337, 335, 335, 337, 337, 337, 337, 337, 337, 337, 337, 335, 335, 337, 337, 337, 337, 337, 335, 337, 337, 337, 337, 337, 337, 335, 337, 337, 337, 337, 337, 337, 337, 337, 337, 337, 337, 337, 335, 337, 335, 335, 337, 335, 335, 337, 337, 335, 335, 337, 335, 335, 337, 335, 337, 335, 335, 335, 335, 337, 335, 337, 335], 335) := by decide +kernel
theorem dX8_isLetter_336 : decode cX8_isLetter 336 = .ok (.iconst 1, 1) := by decide +kernel
theorem dX8_isLetter_337 : decode cX8_isLetter 337 = .ok (.ireturn, 1) := by decide +kernel
theorem dX8_isLetter_338 : decode cX8_isLetter 338 = .ok (.iconst 0, 1) := by decide +kernel
theorem dX8_isLetter_339 : decode cX8_isLetter 339 = .ok (.ireturn, 1) := by decide +kernel
theorem dX8_row_0 : decode cX8_row 0 = .ok (.iload_n 1, 1) := by decide +kernel
theorem dX8_row_1 : decode cX8_row 1 = .ok (.invokestatic 122, 3) := by decide +kernel
theorem dX8_row_4 : decode cX8_row 4 = .ok (.ifCond .ne 13, 3) := by decide +kernel
theorem dX8_row_7 : decode cX8_row 7 = .ok (.new 105, 3) := by decide +kernel
theorem dX8_row_10 : decode cX8_row 10 = .ok (.dup, 1) := by decide +kernel
theorem dX8_row_11 : decode cX8_row 11 = .ok (.ldc 126, 2) := by decide +kernel
theorem dX8_row_13 : decode cX8_row 13 = .ok (.invokespecial 109, 3) := by decide +kernel
theorem dX8_row_16 : decode cX8_row 16 = .ok (.athrow, 1) := by decide +kernel
theorem dX8_row_17 : decode cX8_row 17 = .ok (.aload_n 0, 1) := by decide +kernel
theorem dX8_row_18 : decode cX8_row 18 = .ok (.getfield 25, 3) := by decide +kernel
theorem dX8_row_21 : decode cX8_row 21 = .ok (.getfield 128, 3) := by decide +kernel
theorem dX8_row_24 : decode cX8_row 24 = .ok (.bipush 24, 2) := by decide +kernel
theorem dX8_row_26 : decode cX8_row 26 = .ok (.if_icmp .lt 13, 3) := by decide +kernel
theorem dX8_row_29 : decode cX8_row 29 = .ok (.new 113, 3) := by decide +kernel
theorem dX8_row_32 : decode cX8_row 32 = .ok (.dup, 1) := by decide +kernel
theorem dX8_row_33 : decode cX8_row 33 = .ok (.ldc 129, 2) := by decide +kernel
theorem dX8_row_35 : decode cX8_row 35 = .ok (.invokespecial 117, 3) := by decide +kernel
theorem dX8_row_38 : decode cX8_row 38 = .ok (.athrow, 1) := by decide +kernel
theorem dX8_row_39 : decode cX8_row 39 = .ok (.aload_n 0, 1) := by decide +kernel
theorem dX8_row_40 : decode cX8_row 40 = .ok (.getfield 25, 3) := by decide +kernel
theorem dX8_row_43 : decode cX8_row 43 = .ok (.iload_n 1, 1) := by decide +kernel
theorem dX8_row_44 : decode cX8_row 44 = .ok (.iload_n 2, 1) := by decide +kernel
theorem dX8_row_45 : decode cX8_row 45 = .ok (.iload_n 3, 1) := by decide +kernel
theorem dX8_row_46 : decode cX8_row 46 = .ok (.invokevirtual 131, 3) := by decide +kernel
theorem dX8_row_49 : decode cX8_row 49 = .ok (.aload_n 0, 1) := by decide +kernel
theorem dX8_row_50 : decode cX8_row 50 = .ok (.getfield 25, 3) := by decide +kernel
theorem dX8_row_53 : decode cX8_row 53 = .ok (.getfield 128, 3) := by decide +kernel
theorem dX8_row_56 : decode cX8_row 56 = .ok (.ireturn, 1) := by decide +kernel
theorem dX8_toldMethods_0 : decode cX8_toldMethods 0 = .ok (.iconst 0, 1) := by decide +kernel
theorem dX8_toldMethods_1 : decode cX8_toldMethods 1 = .ok (.istore_n 1, 1) := by decide +kernel
theorem dX8_toldMethods_2 : decode cX8_toldMethods 2 = .ok (.aload_n 0, 1) := by decide +kernel
theorem dX8_toldMethods_3 : decode cX8_toldMethods 3 = .ok (.getfield 18, 3) := by decide +kernel
theorem dX8_toldMethods_6 : decode cX8_toldMethods 6 = .ok (.astore_n 2, 1) := by decide +kernel
theorem dX8_toldMethods_7 : decode cX8_toldMethods 7 = .ok (.aload_n 2, 1) := by decide +kernel
theorem dX8_toldMethods_8 : decode cX8_toldMethods 8 = .ok (.arraylength, 1) := by decide +kernel
theorem dX8_toldMethods_9 : decode cX8_toldMethods 9 = .ok (.istore_n 3, 1) := by decide +kernel
theorem dX8_toldMethods_10 : decode cX8_toldMethods 10 = .ok (.iconst 0, 1) := by decide +kernel
theorem dX8_toldMethods_11 : decode cX8_toldMethods 11 = .ok (.istore 4, 2) := by decide +kernel
theorem dX8_toldMethods_13 : decode cX8_toldMethods 13 = .ok (.iload 4, 2) := by decide +kernel
theorem dX8_toldMethods_15 : decode cX8_toldMethods 15 = .ok (.iload_n 3, 1) := by decide +kernel
theorem dX8_toldMethods_16 : decode cX8_toldMethods 16 = .ok (.if_icmp .ge 23, 3) := by decide +kernel
theorem dX8_toldMethods_19 : decode cX8_toldMethods 19 = .ok (.aload_n 2, 1) := by decide +kernel
theorem dX8_toldMethods_20 : decode cX8_toldMethods 20 = .ok (.iload 4, 2) := by decide +kernel
theorem dX8_toldMethods_22 : decode cX8_toldMethods 22 = .ok (.aaload, 1) := by decide +kernel
theorem dX8_toldMethods_23 : decode cX8_toldMethods 23 = .ok (.astore 5, 2) := by decide +kernel
theorem dX8_toldMethods_25 : decode cX8_toldMethods 25 = .ok (.aload 5, 2) := by decide +kernel
theorem dX8_toldMethods_27 : decode cX8_toldMethods 27 = .ok (.ifnull 6, 3) := by decide +kernel
theorem dX8_toldMethods_30 : decode cX8_toldMethods 30 = .ok (.iinc 1 1, 3) := by decide +kernel
theorem dX8_toldMethods_33 : decode cX8_toldMethods 33 = .ok (.iinc 4 1, 3) := by decide +kernel
theorem dX8_toldMethods_36 : decode cX8_toldMethods 36 = .ok (.goto (-23), 3) := by decide +kernel
theorem dX8_toldMethods_39 : decode cX8_toldMethods 39 = .ok (.iload_n 1, 1) := by decide +kernel
theorem dX8_toldMethods_40 : decode cX8_toldMethods 40 = .ok (.ireturn, 1) := by decide +kernel
theorem dX8_compiledShare_0 : decode cX8_compiledShare 0 = .ok (.aload_n 0, 1) := by decide +kernel
theorem dX8_compiledShare_1 : decode cX8_compiledShare 1 = .ok (.invokevirtual 443, 3) := by decide +kernel
theorem dX8_compiledShare_4 : decode cX8_compiledShare 4 = .ok (.istore_n 1, 1) := by decide +kernel
theorem dX8_compiledShare_5 : decode cX8_compiledShare 5 = .ok (.iload_n 1, 1) := by decide +kernel
theorem dX8_compiledShare_6 : decode cX8_compiledShare 6 = .ok (.ifCond .ne 14, 3) := by decide +kernel
theorem dX8_compiledShare_9 : decode cX8_compiledShare 9 = .ok (.new 446, 3) := by decide +kernel
theorem dX8_compiledShare_12 : decode cX8_compiledShare 12 = .ok (.dup, 1) := by decide +kernel
theorem dX8_compiledShare_13 : decode cX8_compiledShare 13 = .ok (.ldc_w 448, 3) := by decide +kernel
theorem dX8_compiledShare_16 : decode cX8_compiledShare 16 = .ok (.invokespecial 450, 3) := by decide +kernel
theorem dX8_compiledShare_19 : decode cX8_compiledShare 19 = .ok (.athrow, 1) := by decide +kernel
theorem dX8_compiledShare_20 : decode cX8_compiledShare 20 = .ok (.aload_n 0, 1) := by decide +kernel
theorem dX8_compiledShare_21 : decode cX8_compiledShare 21 = .ok (.invokevirtual 191, 3) := by decide +kernel
theorem dX8_compiledShare_24 : decode cX8_compiledShare 24 = .ok (.i2f, 1) := by decide +kernel
theorem dX8_compiledShare_25 : decode cX8_compiledShare 25 = .ok (.iload_n 1, 1) := by decide +kernel
theorem dX8_compiledShare_26 : decode cX8_compiledShare 26 = .ok (.i2f, 1) := by decide +kernel
theorem dX8_compiledShare_27 : decode cX8_compiledShare 27 = .ok (.fdiv, 1) := by decide +kernel
theorem dX8_compiledShare_28 : decode cX8_compiledShare 28 = .ok (.freturn, 1) := by decide +kernel
theorem dX8_meanCalls_0 : decode cX8_meanCalls 0 = .ok (.aload_n 0, 1) := by decide +kernel
theorem dX8_meanCalls_1 : decode cX8_meanCalls 1 = .ok (.invokevirtual 443, 3) := by decide +kernel
theorem dX8_meanCalls_4 : decode cX8_meanCalls 4 = .ok (.istore_n 1, 1) := by decide +kernel
theorem dX8_meanCalls_5 : decode cX8_meanCalls 5 = .ok (.iload_n 1, 1) := by decide +kernel
theorem dX8_meanCalls_6 : decode cX8_meanCalls 6 = .ok (.ifCond .ne 14, 3) := by decide +kernel
theorem dX8_meanCalls_9 : decode cX8_meanCalls 9 = .ok (.new 446, 3) := by decide +kernel
theorem dX8_meanCalls_12 : decode cX8_meanCalls 12 = .ok (.dup, 1) := by decide +kernel
theorem dX8_meanCalls_13 : decode cX8_meanCalls 13 = .ok (.ldc_w 448, 3) := by decide +kernel
theorem dX8_meanCalls_16 : decode cX8_meanCalls 16 = .ok (.invokespecial 450, 3) := by decide +kernel
theorem dX8_meanCalls_19 : decode cX8_meanCalls 19 = .ok (.athrow, 1) := by decide +kernel
theorem dX8_meanCalls_20 : decode cX8_meanCalls 20 = .ok (.lconst 0, 1) := by decide +kernel
theorem dX8_meanCalls_21 : decode cX8_meanCalls 21 = .ok (.lstore_n 2, 1) := by decide +kernel
theorem dX8_meanCalls_22 : decode cX8_meanCalls 22 = .ok (.aload_n 0, 1) := by decide +kernel
theorem dX8_meanCalls_23 : decode cX8_meanCalls 23 = .ok (.getfield 18, 3) := by decide +kernel
theorem dX8_meanCalls_26 : decode cX8_meanCalls 26 = .ok (.astore 4, 2) := by decide +kernel
theorem dX8_meanCalls_28 : decode cX8_meanCalls 28 = .ok (.aload 4, 2) := by decide +kernel
theorem dX8_meanCalls_30 : decode cX8_meanCalls 30 = .ok (.arraylength, 1) := by decide +kernel
theorem dX8_meanCalls_31 : decode cX8_meanCalls 31 = .ok (.istore 5, 2) := by decide +kernel
theorem dX8_meanCalls_33 : decode cX8_meanCalls 33 = .ok (.iconst 0, 1) := by decide +kernel
theorem dX8_meanCalls_34 : decode cX8_meanCalls 34 = .ok (.istore 6, 2) := by decide +kernel
theorem dX8_meanCalls_36 : decode cX8_meanCalls 36 = .ok (.iload 6, 2) := by decide +kernel
theorem dX8_meanCalls_38 : decode cX8_meanCalls 38 = .ok (.iload 5, 2) := by decide +kernel
theorem dX8_meanCalls_40 : decode cX8_meanCalls 40 = .ok (.if_icmp .ge 30, 3) := by decide +kernel
theorem dX8_meanCalls_43 : decode cX8_meanCalls 43 = .ok (.aload 4, 2) := by decide +kernel
theorem dX8_meanCalls_45 : decode cX8_meanCalls 45 = .ok (.iload 6, 2) := by decide +kernel
theorem dX8_meanCalls_47 : decode cX8_meanCalls 47 = .ok (.aaload, 1) := by decide +kernel
theorem dX8_meanCalls_48 : decode cX8_meanCalls 48 = .ok (.astore 7, 2) := by decide +kernel
theorem dX8_meanCalls_50 : decode cX8_meanCalls 50 = .ok (.aload 7, 2) := by decide +kernel
theorem dX8_meanCalls_52 : decode cX8_meanCalls 52 = .ok (.ifnull 12, 3) := by decide +kernel
theorem dX8_meanCalls_55 : decode cX8_meanCalls 55 = .ok (.lload_n 2, 1) := by decide +kernel
theorem dX8_meanCalls_56 : decode cX8_meanCalls 56 = .ok (.aload 7, 2) := by decide +kernel
theorem dX8_meanCalls_58 : decode cX8_meanCalls 58 = .ok (.getfield 163, 3) := by decide +kernel
theorem dX8_meanCalls_61 : decode cX8_meanCalls 61 = .ok (.i2l, 1) := by decide +kernel
theorem dX8_meanCalls_62 : decode cX8_meanCalls 62 = .ok (.ladd, 1) := by decide +kernel
theorem dX8_meanCalls_63 : decode cX8_meanCalls 63 = .ok (.lstore_n 2, 1) := by decide +kernel
theorem dX8_meanCalls_64 : decode cX8_meanCalls 64 = .ok (.iinc 6 1, 3) := by decide +kernel
theorem dX8_meanCalls_67 : decode cX8_meanCalls 67 = .ok (.goto (-31), 3) := by decide +kernel
theorem dX8_meanCalls_70 : decode cX8_meanCalls 70 = .ok (.lload_n 2, 1) := by decide +kernel
theorem dX8_meanCalls_71 : decode cX8_meanCalls 71 = .ok (.l2d, 1) := by decide +kernel
theorem dX8_meanCalls_72 : decode cX8_meanCalls 72 = .ok (.iload_n 1, 1) := by decide +kernel
theorem dX8_meanCalls_73 : decode cX8_meanCalls 73 = .ok (.i2d, 1) := by decide +kernel
theorem dX8_meanCalls_74 : decode cX8_meanCalls 74 = .ok (.ddiv, 1) := by decide +kernel
theorem dX8_meanCalls_75 : decode cX8_meanCalls 75 = .ok (.dreturn, 1) := by decide +kernel
theorem dX8_plus_0 : decode cX8_plus 0 = .ok (.ldc2_w 491, 3) := by decide +kernel
theorem dX8_plus_3 : decode cX8_plus 3 = .ok (.lload_n 0, 1) := by decide +kernel
theorem dX8_plus_4 : decode cX8_plus 4 = .ok (.lmul, 1) := by decide +kernel
theorem dX8_plus_5 : decode cX8_plus 5 = .ok (.lload_n 2, 1) := by decide +kernel
theorem dX8_plus_6 : decode cX8_plus 6 = .ok (.ladd, 1) := by decide +kernel
theorem dX8_plus_7 : decode cX8_plus 7 = .ok (.lreturn, 1) := by decide +kernel
theorem dX8_plusValue_0 : decode cX8_plusValue 0 = .ok (.lload_n 0, 1) := by decide +kernel
theorem dX8_plusValue_1 : decode cX8_plusValue 1 = .ok (.lload_n 2, 1) := by decide +kernel
theorem dX8_plusValue_2 : decode cX8_plusValue 2 = .ok (.invokestatic 226, 3) := by decide +kernel
theorem dX8_plusValue_5 : decode cX8_plusValue 5 = .ok (.i2l, 1) := by decide +kernel
theorem dX8_plusValue_6 : decode cX8_plusValue 6 = .ok (.invokestatic 453, 3) := by decide +kernel
theorem dX8_plusValue_9 : decode cX8_plusValue 9 = .ok (.lload_n 2, 1) := by decide +kernel
theorem dX8_plusValue_10 : decode cX8_plusValue 10 = .ok (.invokestatic 230, 3) := by decide +kernel
theorem dX8_plusValue_13 : decode cX8_plusValue 13 = .ok (.i2l, 1) := by decide +kernel
theorem dX8_plusValue_14 : decode cX8_plusValue 14 = .ok (.invokestatic 453, 3) := by decide +kernel
theorem dX8_plusValue_17 : decode cX8_plusValue 17 = .ok (.lreturn, 1) := by decide +kernel
theorem dX8_checksum_0 : decode cX8_checksum 0 = .ok (.ldc2_w 451, 3) := by decide +kernel
theorem dX8_checksum_3 : decode cX8_checksum 3 = .ok (.aload_n 0, 1) := by decide +kernel
theorem dX8_checksum_4 : decode cX8_checksum 4 = .ok (.getfield 66, 3) := by decide +kernel
theorem dX8_checksum_7 : decode cX8_checksum 7 = .ok (.i2l, 1) := by decide +kernel
theorem dX8_checksum_8 : decode cX8_checksum 8 = .ok (.invokestatic 453, 3) := by decide +kernel
theorem dX8_checksum_11 : decode cX8_checksum 11 = .ok (.lstore_n 1, 1) := by decide +kernel
theorem dX8_checksum_12 : decode cX8_checksum 12 = .ok (.aload_n 0, 1) := by decide +kernel
theorem dX8_checksum_13 : decode cX8_checksum 13 = .ok (.getfield 33, 3) := by decide +kernel
theorem dX8_checksum_16 : decode cX8_checksum 16 = .ok (.astore_n 3, 1) := by decide +kernel
theorem dX8_checksum_17 : decode cX8_checksum 17 = .ok (.aload_n 3, 1) := by decide +kernel
theorem dX8_checksum_18 : decode cX8_checksum 18 = .ok (.arraylength, 1) := by decide +kernel
theorem dX8_checksum_19 : decode cX8_checksum 19 = .ok (.istore 4, 2) := by decide +kernel
theorem dX8_checksum_21 : decode cX8_checksum 21 = .ok (.iconst 0, 1) := by decide +kernel
theorem dX8_checksum_22 : decode cX8_checksum 22 = .ok (.istore 5, 2) := by decide +kernel
theorem dX8_checksum_24 : decode cX8_checksum 24 = .ok (.iload 5, 2) := by decide +kernel
theorem dX8_checksum_26 : decode cX8_checksum 26 = .ok (.iload 4, 2) := by decide +kernel
theorem dX8_checksum_28 : decode cX8_checksum 28 = .ok (.if_icmp .ge 22, 3) := by decide +kernel
theorem dX8_checksum_31 : decode cX8_checksum 31 = .ok (.aload_n 3, 1) := by decide +kernel
theorem dX8_checksum_32 : decode cX8_checksum 32 = .ok (.iload 5, 2) := by decide +kernel
theorem dX8_checksum_34 : decode cX8_checksum 34 = .ok (.laload, 1) := by decide +kernel
theorem dX8_checksum_35 : decode cX8_checksum 35 = .ok (.lstore 6, 2) := by decide +kernel
theorem dX8_checksum_37 : decode cX8_checksum 37 = .ok (.lload_n 1, 1) := by decide +kernel
theorem dX8_checksum_38 : decode cX8_checksum 38 = .ok (.lload 6, 2) := by decide +kernel
theorem dX8_checksum_40 : decode cX8_checksum 40 = .ok (.invokestatic 457, 3) := by decide +kernel
theorem dX8_checksum_43 : decode cX8_checksum 43 = .ok (.lstore_n 1, 1) := by decide +kernel
theorem dX8_checksum_44 : decode cX8_checksum 44 = .ok (.iinc 5 1, 3) := by decide +kernel
theorem dX8_checksum_47 : decode cX8_checksum 47 = .ok (.goto (-23), 3) := by decide +kernel
theorem dX8_checksum_50 : decode cX8_checksum 50 = .ok (.iconst 0, 1) := by decide +kernel
theorem dX8_checksum_51 : decode cX8_checksum 51 = .ok (.istore_n 3, 1) := by decide +kernel
theorem dX8_checksum_52 : decode cX8_checksum 52 = .ok (.iload_n 3, 1) := by decide +kernel
theorem dX8_checksum_53 : decode cX8_checksum 53 = .ok (.aload_n 0, 1) := by decide +kernel
theorem dX8_checksum_54 : decode cX8_checksum 54 = .ok (.getfield 40, 3) := by decide +kernel
theorem dX8_checksum_57 : decode cX8_checksum 57 = .ok (.getfield 207, 3) := by decide +kernel
theorem dX8_checksum_60 : decode cX8_checksum 60 = .ok (.if_icmp .ge 22, 3) := by decide +kernel
theorem dX8_checksum_63 : decode cX8_checksum 63 = .ok (.lload_n 1, 1) := by decide +kernel
theorem dX8_checksum_64 : decode cX8_checksum 64 = .ok (.aload_n 0, 1) := by decide +kernel
theorem dX8_checksum_65 : decode cX8_checksum 65 = .ok (.getfield 40, 3) := by decide +kernel
theorem dX8_checksum_68 : decode cX8_checksum 68 = .ok (.iload_n 3, 1) := by decide +kernel
theorem dX8_checksum_69 : decode cX8_checksum 69 = .ok (.invokevirtual 460, 3) := by decide +kernel
theorem dX8_checksum_72 : decode cX8_checksum 72 = .ok (.invokestatic 463, 3) := by decide +kernel
theorem dX8_checksum_75 : decode cX8_checksum 75 = .ok (.lstore_n 1, 1) := by decide +kernel
theorem dX8_checksum_76 : decode cX8_checksum 76 = .ok (.iinc 3 1, 3) := by decide +kernel
theorem dX8_checksum_79 : decode cX8_checksum 79 = .ok (.goto (-27), 3) := by decide +kernel
theorem dX8_checksum_82 : decode cX8_checksum 82 = .ok (.lload_n 1, 1) := by decide +kernel
theorem dX8_checksum_83 : decode cX8_checksum 83 = .ok (.aload_n 0, 1) := by decide +kernel
theorem dX8_checksum_84 : decode cX8_checksum 84 = .ok (.getfield 53, 3) := by decide +kernel
theorem dX8_checksum_87 : decode cX8_checksum 87 = .ok (.i2l, 1) := by decide +kernel
theorem dX8_checksum_88 : decode cX8_checksum 88 = .ok (.invokestatic 453, 3) := by decide +kernel
theorem dX8_checksum_91 : decode cX8_checksum 91 = .ok (.lstore_n 1, 1) := by decide +kernel
theorem dX8_checksum_92 : decode cX8_checksum 92 = .ok (.iconst 0, 1) := by decide +kernel
theorem dX8_checksum_93 : decode cX8_checksum 93 = .ok (.istore_n 3, 1) := by decide +kernel
theorem dX8_checksum_94 : decode cX8_checksum 94 = .ok (.iload_n 3, 1) := by decide +kernel
theorem dX8_checksum_95 : decode cX8_checksum 95 = .ok (.aload_n 0, 1) := by decide +kernel
theorem dX8_checksum_96 : decode cX8_checksum 96 = .ok (.getfield 50, 3) := by decide +kernel
theorem dX8_checksum_99 : decode cX8_checksum 99 = .ok (.if_icmp .ge 19, 3) := by decide +kernel
theorem dX8_checksum_102 : decode cX8_checksum 102 = .ok (.lload_n 1, 1) := by decide +kernel
theorem dX8_checksum_103 : decode cX8_checksum 103 = .ok (.aload_n 0, 1) := by decide +kernel
theorem dX8_checksum_104 : decode cX8_checksum 104 = .ok (.iload_n 3, 1) := by decide +kernel
theorem dX8_checksum_105 : decode cX8_checksum 105 = .ok (.invokevirtual 251, 3) := by decide +kernel
theorem dX8_checksum_108 : decode cX8_checksum 108 = .ok (.invokestatic 467, 3) := by decide +kernel
theorem dX8_checksum_111 : decode cX8_checksum 111 = .ok (.lstore_n 1, 1) := by decide +kernel
theorem dX8_checksum_112 : decode cX8_checksum 112 = .ok (.iinc 3 1, 3) := by decide +kernel
theorem dX8_checksum_115 : decode cX8_checksum 115 = .ok (.goto (-21), 3) := by decide +kernel
theorem dX8_checksum_118 : decode cX8_checksum 118 = .ok (.lload_n 1, 1) := by decide +kernel
theorem dX8_checksum_119 : decode cX8_checksum 119 = .ok (.aload_n 0, 1) := by decide +kernel
theorem dX8_checksum_120 : decode cX8_checksum 120 = .ok (.getfield 72, 3) := by decide +kernel
theorem dX8_checksum_123 : decode cX8_checksum 123 = .ok (.getfield 471, 3) := by decide +kernel
theorem dX8_checksum_126 : decode cX8_checksum 126 = .ok (.lmul, 1) := by decide +kernel
theorem dX8_checksum_127 : decode cX8_checksum 127 = .ok (.aload_n 0, 1) := by decide +kernel
theorem dX8_checksum_128 : decode cX8_checksum 128 = .ok (.getfield 72, 3) := by decide +kernel
theorem dX8_checksum_131 : decode cX8_checksum 131 = .ok (.getfield 474, 3) := by decide +kernel
theorem dX8_checksum_134 : decode cX8_checksum 134 = .ok (.ladd, 1) := by decide +kernel
theorem dX8_checksum_135 : decode cX8_checksum 135 = .ok (.lreturn, 1) := by decide +kernel
theorem dX8_hasGlobalsThere_0 : decode cX8_hasGlobalsThere 0 = .ok (.aload_n 0, 1) := by decide +kernel
theorem dX8_hasGlobalsThere_1 : decode cX8_hasGlobalsThere 1 = .ok (.getfield 33, 3) := by decide +kernel
theorem dX8_hasGlobalsThere_4 : decode cX8_hasGlobalsThere 4 = .ok (.astore_n 1, 1) := by decide +kernel
theorem dX8_hasGlobalsThere_5 : decode cX8_hasGlobalsThere 5 = .ok (.aload_n 1, 1) := by decide +kernel
theorem dX8_hasGlobalsThere_6 : decode cX8_hasGlobalsThere 6 = .ok (.arraylength, 1) := by decide +kernel
theorem dX8_hasGlobalsThere_7 : decode cX8_hasGlobalsThere 7 = .ok (.istore_n 2, 1) := by decide +kernel
theorem dX8_hasGlobalsThere_8 : decode cX8_hasGlobalsThere 8 = .ok (.iconst 0, 1) := by decide +kernel
theorem dX8_hasGlobalsThere_9 : decode cX8_hasGlobalsThere 9 = .ok (.istore_n 3, 1) := by decide +kernel
theorem dX8_hasGlobalsThere_10 : decode cX8_hasGlobalsThere 10 = .ok (.iload_n 3, 1) := by decide +kernel
theorem dX8_hasGlobalsThere_11 : decode cX8_hasGlobalsThere 11 = .ok (.iload_n 2, 1) := by decide +kernel
theorem dX8_hasGlobalsThere_12 : decode cX8_hasGlobalsThere 12 = .ok (.if_icmp .ge 28, 3) := by decide +kernel
theorem dX8_hasGlobalsThere_15 : decode cX8_hasGlobalsThere 15 = .ok (.aload_n 1, 1) := by decide +kernel
theorem dX8_hasGlobalsThere_16 : decode cX8_hasGlobalsThere 16 = .ok (.iload_n 3, 1) := by decide +kernel
theorem dX8_hasGlobalsThere_17 : decode cX8_hasGlobalsThere 17 = .ok (.laload, 1) := by decide +kernel
theorem dX8_hasGlobalsThere_18 : decode cX8_hasGlobalsThere 18 = .ok (.lstore 4, 2) := by decide +kernel
theorem dX8_hasGlobalsThere_20 : decode cX8_hasGlobalsThere 20 = .ok (.aload_n 0, 1) := by decide +kernel
theorem dX8_hasGlobalsThere_21 : decode cX8_hasGlobalsThere 21 = .ok (.getfield 40, 3) := by decide +kernel
theorem dX8_hasGlobalsThere_24 : decode cX8_hasGlobalsThere 24 = .ok (.lload 4, 2) := by decide +kernel
theorem dX8_hasGlobalsThere_26 : decode cX8_hasGlobalsThere 26 = .ok (.invokevirtual 477, 3) := by decide +kernel
theorem dX8_hasGlobalsThere_29 : decode cX8_hasGlobalsThere 29 = .ok (.ifCond .ne 5, 3) := by decide +kernel
theorem dX8_hasGlobalsThere_32 : decode cX8_hasGlobalsThere 32 = .ok (.iconst 0, 1) := by decide +kernel
theorem dX8_hasGlobalsThere_33 : decode cX8_hasGlobalsThere 33 = .ok (.ireturn, 1) := by decide +kernel
theorem dX8_hasGlobalsThere_34 : decode cX8_hasGlobalsThere 34 = .ok (.iinc 3 1, 3) := by decide +kernel
theorem dX8_hasGlobalsThere_37 : decode cX8_hasGlobalsThere 37 = .ok (.goto (-27), 3) := by decide +kernel
theorem dX8_hasGlobalsThere_40 : decode cX8_hasGlobalsThere 40 = .ok (.iconst 1, 1) := by decide +kernel
theorem dX8_hasGlobalsThere_41 : decode cX8_hasGlobalsThere 41 = .ok (.ireturn, 1) := by decide +kernel
theorem dX8_hasFramesThere_0 : decode cX8_hasFramesThere 0 = .ok (.iconst 0, 1) := by decide +kernel
theorem dX8_hasFramesThere_1 : decode cX8_hasFramesThere 1 = .ok (.istore_n 1, 1) := by decide +kernel
theorem dX8_hasFramesThere_2 : decode cX8_hasFramesThere 2 = .ok (.iload_n 1, 1) := by decide +kernel
theorem dX8_hasFramesThere_3 : decode cX8_hasFramesThere 3 = .ok (.aload_n 0, 1) := by decide +kernel
theorem dX8_hasFramesThere_4 : decode cX8_hasFramesThere 4 = .ok (.getfield 50, 3) := by decide +kernel
theorem dX8_hasFramesThere_7 : decode cX8_hasFramesThere 7 = .ok (.if_icmp .ge 29, 3) := by decide +kernel
theorem dX8_hasFramesThere_10 : decode cX8_hasFramesThere 10 = .ok (.aload_n 0, 1) := by decide +kernel
theorem dX8_hasFramesThere_11 : decode cX8_hasFramesThere 11 = .ok (.iload_n 1, 1) := by decide +kernel
theorem dX8_hasFramesThere_12 : decode cX8_hasFramesThere 12 = .ok (.invokevirtual 251, 3) := by decide +kernel
theorem dX8_hasFramesThere_15 : decode cX8_hasFramesThere 15 = .ok (.astore_n 2, 1) := by decide +kernel
theorem dX8_hasFramesThere_16 : decode cX8_hasFramesThere 16 = .ok (.aload_n 2, 1) := by decide +kernel
theorem dX8_hasFramesThere_17 : decode cX8_hasFramesThere 17 = .ok (.ifnull 11, 3) := by decide +kernel
theorem dX8_hasFramesThere_20 : decode cX8_hasFramesThere 20 = .ok (.aload_n 0, 1) := by decide +kernel
theorem dX8_hasFramesThere_21 : decode cX8_hasFramesThere 21 = .ok (.aload_n 2, 1) := by decide +kernel
theorem dX8_hasFramesThere_22 : decode cX8_hasFramesThere 22 = .ok (.invokevirtual 499, 3) := by decide +kernel
theorem dX8_hasFramesThere_25 : decode cX8_hasFramesThere 25 = .ok (.ifCond .ne 5, 3) := by decide +kernel
theorem dX8_hasFramesThere_28 : decode cX8_hasFramesThere 28 = .ok (.iconst 0, 1) := by decide +kernel
theorem dX8_hasFramesThere_29 : decode cX8_hasFramesThere 29 = .ok (.ireturn, 1) := by decide +kernel
theorem dX8_hasFramesThere_30 : decode cX8_hasFramesThere 30 = .ok (.iinc 1 1, 3) := by decide +kernel
theorem dX8_hasFramesThere_33 : decode cX8_hasFramesThere 33 = .ok (.goto (-31), 3) := by decide +kernel
theorem dX8_hasFramesThere_36 : decode cX8_hasFramesThere 36 = .ok (.iconst 1, 1) := by decide +kernel
theorem dX8_hasFramesThere_37 : decode cX8_hasFramesThere 37 = .ok (.ireturn, 1) := by decide +kernel
theorem dX8_hasDepthAsTold_0 : decode cX8_hasDepthAsTold 0 = .ok (.aload_n 0, 1) := by decide +kernel
theorem dX8_hasDepthAsTold_1 : decode cX8_hasDepthAsTold 1 = .ok (.getfield 50, 3) := by decide +kernel
theorem dX8_hasDepthAsTold_4 : decode cX8_hasDepthAsTold 4 = .ok (.ifCond .ne 5, 3) := by decide +kernel
theorem dX8_hasDepthAsTold_7 : decode cX8_hasDepthAsTold 7 = .ok (.iconst 1, 1) := by decide +kernel
theorem dX8_hasDepthAsTold_8 : decode cX8_hasDepthAsTold 8 = .ok (.ireturn, 1) := by decide +kernel
theorem dX8_hasDepthAsTold_9 : decode cX8_hasDepthAsTold 9 = .ok (.aload_n 0, 1) := by decide +kernel
theorem dX8_hasDepthAsTold_10 : decode cX8_hasDepthAsTold 10 = .ok (.aload_n 0, 1) := by decide +kernel
theorem dX8_hasDepthAsTold_11 : decode cX8_hasDepthAsTold 11 = .ok (.getfield 50, 3) := by decide +kernel
theorem dX8_hasDepthAsTold_14 : decode cX8_hasDepthAsTold 14 = .ok (.iconst 1, 1) := by decide +kernel
theorem dX8_hasDepthAsTold_15 : decode cX8_hasDepthAsTold 15 = .ok (.isub, 1) := by decide +kernel
theorem dX8_hasDepthAsTold_16 : decode cX8_hasDepthAsTold 16 = .ok (.invokevirtual 251, 3) := by decide +kernel
theorem dX8_hasDepthAsTold_19 : decode cX8_hasDepthAsTold 19 = .ok (.astore_n 1, 1) := by decide +kernel
theorem dX8_hasDepthAsTold_20 : decode cX8_hasDepthAsTold 20 = .ok (.aload_n 1, 1) := by decide +kernel
theorem dX8_hasDepthAsTold_21 : decode cX8_hasDepthAsTold 21 = .ok (.ifnull 18, 3) := by decide +kernel
theorem dX8_hasDepthAsTold_24 : decode cX8_hasDepthAsTold 24 = .ok (.aload_n 1, 1) := by decide +kernel
theorem dX8_hasDepthAsTold_25 : decode cX8_hasDepthAsTold 25 = .ok (.getfield 327, 3) := by decide +kernel
theorem dX8_hasDepthAsTold_28 : decode cX8_hasDepthAsTold 28 = .ok (.aload_n 1, 1) := by decide +kernel
theorem dX8_hasDepthAsTold_29 : decode cX8_hasDepthAsTold 29 = .ok (.invokevirtual 502, 3) := by decide +kernel
theorem dX8_hasDepthAsTold_32 : decode cX8_hasDepthAsTold 32 = .ok (.if_icmp .ne 7, 3) := by decide +kernel
theorem dX8_hasDepthAsTold_35 : decode cX8_hasDepthAsTold 35 = .ok (.iconst 1, 1) := by decide +kernel
theorem dX8_hasDepthAsTold_36 : decode cX8_hasDepthAsTold 36 = .ok (.goto 4, 3) := by decide +kernel
theorem dX8_hasDepthAsTold_39 : decode cX8_hasDepthAsTold 39 = .ok (.iconst 0, 1) := by decide +kernel
theorem dX8_hasDepthAsTold_40 : decode cX8_hasDepthAsTold 40 = .ok (.ireturn, 1) := by decide +kernel
theorem dX8_isSound_0 : decode cX8_isSound 0 = .ok (.aload_n 0, 1) := by decide +kernel
theorem dX8_isSound_1 : decode cX8_isSound 1 = .ok (.getfield 40, 3) := by decide +kernel
theorem dX8_isSound_4 : decode cX8_isSound 4 = .ok (.getfield 207, 3) := by decide +kernel
theorem dX8_isSound_7 : decode cX8_isSound 7 = .ok (.bipush 60, 2) := by decide +kernel
theorem dX8_isSound_9 : decode cX8_isSound 9 = .ok (.if_icmp .gt 12, 3) := by decide +kernel
theorem dX8_isSound_12 : decode cX8_isSound 12 = .ok (.aload_n 0, 1) := by decide +kernel
theorem dX8_isSound_13 : decode cX8_isSound 13 = .ok (.getfield 50, 3) := by decide +kernel
theorem dX8_isSound_16 : decode cX8_isSound 16 = .ok (.bipush 12, 2) := by decide +kernel
theorem dX8_isSound_18 : decode cX8_isSound 18 = .ok (.if_icmp .le 5, 3) := by decide +kernel
theorem dX8_isSound_21 : decode cX8_isSound 21 = .ok (.iconst 0, 1) := by decide +kernel
theorem dX8_isSound_22 : decode cX8_isSound 22 = .ok (.ireturn, 1) := by decide +kernel
theorem dX8_isSound_23 : decode cX8_isSound 23 = .ok (.aload_n 0, 1) := by decide +kernel
theorem dX8_isSound_24 : decode cX8_isSound 24 = .ok (.getfield 53, 3) := by decide +kernel
theorem dX8_isSound_27 : decode cX8_isSound 27 = .ok (.bipush 114, 2) := by decide +kernel
theorem dX8_isSound_29 : decode cX8_isSound 29 = .ok (.if_icmp .ne 19, 3) := by decide +kernel
theorem dX8_isSound_32 : decode cX8_isSound 32 = .ok (.aload_n 0, 1) := by decide +kernel
theorem dX8_isSound_33 : decode cX8_isSound 33 = .ok (.getfield 40, 3) := by decide +kernel
theorem dX8_isSound_36 : decode cX8_isSound 36 = .ok (.aload_n 0, 1) := by decide +kernel
theorem dX8_isSound_37 : decode cX8_isSound 37 = .ok (.getfield 62, 3) := by decide +kernel
theorem dX8_isSound_40 : decode cX8_isSound 40 = .ok (.invokevirtual 477, 3) := by decide +kernel
theorem dX8_isSound_43 : decode cX8_isSound 43 = .ok (.ifCond .ne 5, 3) := by decide +kernel
theorem dX8_isSound_46 : decode cX8_isSound 46 = .ok (.iconst 0, 1) := by decide +kernel
theorem dX8_isSound_47 : decode cX8_isSound 47 = .ok (.ireturn, 1) := by decide +kernel
theorem dX8_isSound_48 : decode cX8_isSound 48 = .ok (.aload_n 0, 1) := by decide +kernel
theorem dX8_isSound_49 : decode cX8_isSound 49 = .ok (.invokevirtual 479, 3) := by decide +kernel
theorem dX8_isSound_52 : decode cX8_isSound 52 = .ok (.ifCond .eq 31, 3) := by decide +kernel
theorem dX8_isSound_55 : decode cX8_isSound 55 = .ok (.aload_n 0, 1) := by decide +kernel
theorem dX8_isSound_56 : decode cX8_isSound 56 = .ok (.getfield 40, 3) := by decide +kernel
theorem dX8_isSound_59 : decode cX8_isSound 59 = .ok (.invokevirtual 482, 3) := by decide +kernel
theorem dX8_isSound_62 : decode cX8_isSound 62 = .ok (.ifCond .eq 21, 3) := by decide +kernel
theorem dX8_isSound_65 : decode cX8_isSound 65 = .ok (.aload_n 0, 1) := by decide +kernel
theorem dX8_isSound_66 : decode cX8_isSound 66 = .ok (.invokevirtual 485, 3) := by decide +kernel
theorem dX8_isSound_69 : decode cX8_isSound 69 = .ok (.ifCond .eq 14, 3) := by decide +kernel
theorem dX8_isSound_72 : decode cX8_isSound 72 = .ok (.aload_n 0, 1) := by decide +kernel
theorem dX8_isSound_73 : decode cX8_isSound 73 = .ok (.invokevirtual 488, 3) := by decide +kernel
theorem dX8_isSound_76 : decode cX8_isSound 76 = .ok (.ifCond .eq 7, 3) := by decide +kernel
theorem dX8_isSound_79 : decode cX8_isSound 79 = .ok (.iconst 1, 1) := by decide +kernel
theorem dX8_isSound_80 : decode cX8_isSound 80 = .ok (.goto 4, 3) := by decide +kernel
theorem dX8_isSound_83 : decode cX8_isSound 83 = .ok (.iconst 0, 1) := by decide +kernel
theorem dX8_isSound_84 : decode cX8_isSound 84 = .ok (.ireturn, 1) := by decide +kernel
theorem dX6_init_0 : decode cX6_init 0 = .ok (.aload_n 0, 1) := by decide +kernel
theorem dX6_init_1 : decode cX6_init 1 = .ok (.invokespecial 3, 3) := by decide +kernel
theorem dX6_init_4 : decode cX6_init 4 = .ok (.aload_n 0, 1) := by decide +kernel
theorem dX6_init_5 : decode cX6_init 5 = .ok (.iconst 0, 1) := by decide +kernel
theorem dX6_init_6 : decode cX6_init 6 = .ok (.putfield 9, 3) := by decide +kernel
theorem dX6_init_9 : decode cX6_init 9 = .ok (.aload_n 0, 1) := by decide +kernel
theorem dX6_init_10 : decode cX6_init 10 = .ok (.iconst 0, 1) := by decide +kernel
theorem dX6_init_11 : decode cX6_init 11 = .ok (.putfield 15, 3) := by decide +kernel
theorem dX6_init_14 : decode cX6_init 14 = .ok (.aload_n 0, 1) := by decide +kernel
theorem dX6_init_15 : decode cX6_init 15 = .ok (.iload_n 1, 1) := by decide +kernel
theorem dX6_init_16 : decode cX6_init 16 = .ok (.putfield 19, 3) := by decide +kernel
theorem dX6_init_19 : decode cX6_init 19 = .ok (.aload_n 0, 1) := by decide +kernel
theorem dX6_init_20 : decode cX6_init 20 = .ok (.iload_n 2, 1) := by decide +kernel
theorem dX6_init_21 : decode cX6_init 21 = .ok (.putfield 22, 3) := by decide +kernel
theorem dX6_init_24 : decode cX6_init 24 = .ok (.aload_n 0, 1) := by decide +kernel
theorem dX6_init_25 : decode cX6_init 25 = .ok (.iload_n 3, 1) := by decide +kernel
theorem dX6_init_26 : decode cX6_init 26 = .ok (.putfield 25, 3) := by decide +kernel
theorem dX6_init_29 : decode cX6_init 29 = .ok (.aload_n 0, 1) := by decide +kernel
theorem dX6_init_30 : decode cX6_init 30 = .ok (.iload 4, 2) := by decide +kernel
theorem dX6_init_32 : decode cX6_init 32 = .ok (.putfield 28, 3) := by decide +kernel
theorem dX6_init_35 : decode cX6_init 35 = .ok (.aload_n 0, 1) := by decide +kernel
theorem dX6_init_36 : decode cX6_init 36 = .ok (.aload 5, 2) := by decide +kernel
theorem dX6_init_38 : decode cX6_init 38 = .ok (.putfield 31, 3) := by decide +kernel
theorem dX6_init_41 : decode cX6_init 41 = .ok (.return_, 1) := by decide +kernel
theorem dJ7_fill_53178_0 : decode cJ7_fill_53178 0 = .ok (.iconst 0, 1) := by decide +kernel
theorem dJ7_fill_53178_1 : decode cJ7_fill_53178 1 = .ok (.istore_n 2, 1) := by decide +kernel
theorem dJ7_fill_53178_2 : decode cJ7_fill_53178 2 = .ok (.aload_n 0, 1) := by decide +kernel
theorem dJ7_fill_53178_3 : decode cJ7_fill_53178 3 = .ok (.arraylength, 1) := by decide +kernel
theorem dJ7_fill_53178_4 : decode cJ7_fill_53178 4 = .ok (.istore_n 3, 1) := by decide +kernel
theorem dJ7_fill_53178_5 : decode cJ7_fill_53178 5 = .ok (.iload_n 2, 1) := by decide +kernel
theorem dJ7_fill_53178_6 : decode cJ7_fill_53178 6 = .ok (.iload_n 3, 1) := by decide +kernel
theorem dJ7_fill_53178_7 : decode cJ7_fill_53178 7 = .ok (.if_icmp .ge 13, 3) := by decide +kernel
theorem dJ7_fill_53178_10 : decode cJ7_fill_53178 10 = .ok (.aload_n 0, 1) := by decide +kernel
theorem dJ7_fill_53178_11 : decode cJ7_fill_53178 11 = .ok (.iload_n 2, 1) := by decide +kernel
theorem dJ7_fill_53178_12 : decode cJ7_fill_53178 12 = .ok (.iload_n 1, 1) := by decide +kernel
theorem dJ7_fill_53178_13 : decode cJ7_fill_53178 13 = .ok (.iastore, 1) := by decide +kernel
theorem dJ7_fill_53178_14 : decode cJ7_fill_53178 14 = .ok (.iinc 2 1, 3) := by decide +kernel
theorem dJ7_fill_53178_17 : decode cJ7_fill_53178 17 = .ok (.goto (-12), 3) := by decide +kernel
theorem dJ7_fill_53178_20 : decode cJ7_fill_53178 20 = .ok (.return_, 1) := by decide +kernel
theorem dX3_comeTo_0 : decode cX3_comeTo 0 = .ok (.iload_n 1, 1) := by decide +kernel
theorem dX3_comeTo_1 : decode cX3_comeTo 1 = .ok (.aload_n 0, 1) := by decide +kernel
theorem dX3_comeTo_2 : decode cX3_comeTo 2 = .ok (.getfield 28, 3) := by decide +kernel
theorem dX3_comeTo_5 : decode cX3_comeTo 5 = .ok (.invokestatic 35, 3) := by decide +kernel
theorem dX3_comeTo_8 : decode cX3_comeTo 8 = .ok (.ifCond .eq 18, 3) := by decide +kernel
theorem dX3_comeTo_11 : decode cX3_comeTo 11 = .ok (.iload_n 1, 1) := by decide +kernel
theorem dX3_comeTo_12 : decode cX3_comeTo 12 = .ok (.bipush 24, 2) := by decide +kernel
theorem dX3_comeTo_14 : decode cX3_comeTo 14 = .ok (.invokestatic 35, 3) := by decide +kernel
theorem dX3_comeTo_17 : decode cX3_comeTo 17 = .ok (.ifCond .eq 9, 3) := by decide +kernel
theorem dX3_comeTo_20 : decode cX3_comeTo 20 = .ok (.iload_n 2, 1) := by decide +kernel
theorem dX3_comeTo_21 : decode cX3_comeTo 21 = .ok (.bipush 8, 2) := by decide +kernel
theorem dX3_comeTo_23 : decode cX3_comeTo 23 = .ok (.if_icmp .le 5, 3) := by decide +kernel
theorem dX3_comeTo_26 : decode cX3_comeTo 26 = .ok (.iconst 0, 1) := by decide +kernel
theorem dX3_comeTo_27 : decode cX3_comeTo 27 = .ok (.ireturn, 1) := by decide +kernel
theorem dX3_comeTo_28 : decode cX3_comeTo 28 = .ok (.aload_n 0, 1) := by decide +kernel
theorem dX3_comeTo_29 : decode cX3_comeTo 29 = .ok (.getfield 22, 3) := by decide +kernel
theorem dX3_comeTo_32 : decode cX3_comeTo 32 = .ok (.iload_n 1, 1) := by decide +kernel
theorem dX3_comeTo_33 : decode cX3_comeTo 33 = .ok (.iaload, 1) := by decide +kernel
theorem dX3_comeTo_34 : decode cX3_comeTo 34 = .ok (.iconst (-1), 1) := by decide +kernel
theorem dX3_comeTo_35 : decode cX3_comeTo 35 = .ok (.if_icmp .eq 19, 3) := by decide +kernel
theorem dX3_comeTo_38 : decode cX3_comeTo 38 = .ok (.aload_n 0, 1) := by decide +kernel
theorem dX3_comeTo_39 : decode cX3_comeTo 39 = .ok (.getfield 22, 3) := by decide +kernel
theorem dX3_comeTo_42 : decode cX3_comeTo 42 = .ok (.iload_n 1, 1) := by decide +kernel
theorem dX3_comeTo_43 : decode cX3_comeTo 43 = .ok (.iaload, 1) := by decide +kernel
theorem dX3_comeTo_44 : decode cX3_comeTo 44 = .ok (.iload_n 2, 1) := by decide +kernel
theorem dX3_comeTo_45 : decode cX3_comeTo 45 = .ok (.if_icmp .ne 7, 3) := by decide +kernel
theorem dX3_comeTo_48 : decode cX3_comeTo 48 = .ok (.iconst 1, 1) := by decide +kernel
theorem dX3_comeTo_49 : decode cX3_comeTo 49 = .ok (.goto 4, 3) := by decide +kernel
theorem dX3_comeTo_52 : decode cX3_comeTo 52 = .ok (.iconst 0, 1) := by decide +kernel
theorem dX3_comeTo_53 : decode cX3_comeTo 53 = .ok (.ireturn, 1) := by decide +kernel
theorem dX3_comeTo_54 : decode cX3_comeTo 54 = .ok (.aload_n 0, 1) := by decide +kernel
theorem dX3_comeTo_55 : decode cX3_comeTo 55 = .ok (.getfield 22, 3) := by decide +kernel
theorem dX3_comeTo_58 : decode cX3_comeTo 58 = .ok (.iload_n 1, 1) := by decide +kernel
theorem dX3_comeTo_59 : decode cX3_comeTo 59 = .ok (.iload_n 2, 1) := by decide +kernel
theorem dX3_comeTo_60 : decode cX3_comeTo 60 = .ok (.iastore, 1) := by decide +kernel
theorem dX3_comeTo_61 : decode cX3_comeTo 61 = .ok (.aload_n 0, 1) := by decide +kernel
theorem dX3_comeTo_62 : decode cX3_comeTo 62 = .ok (.getfield 32, 3) := by decide +kernel
theorem dX3_comeTo_65 : decode cX3_comeTo 65 = .ok (.bipush 24, 2) := by decide +kernel
theorem dX3_comeTo_67 : decode cX3_comeTo 67 = .ok (.invokestatic 35, 3) := by decide +kernel
theorem dX3_comeTo_70 : decode cX3_comeTo 70 = .ok (.ifCond .eq 23, 3) := by decide +kernel
theorem dX3_comeTo_73 : decode cX3_comeTo 73 = .ok (.aload_n 0, 1) := by decide +kernel
theorem dX3_comeTo_74 : decode cX3_comeTo 74 = .ok (.getfield 25, 3) := by decide +kernel
theorem dX3_comeTo_77 : decode cX3_comeTo 77 = .ok (.aload_n 0, 1) := by decide +kernel
theorem dX3_comeTo_78 : decode cX3_comeTo 78 = .ok (.getfield 32, 3) := by decide +kernel
theorem dX3_comeTo_81 : decode cX3_comeTo 81 = .ok (.iload_n 1, 1) := by decide +kernel
theorem dX3_comeTo_82 : decode cX3_comeTo 82 = .ok (.iastore, 1) := by decide +kernel
theorem dX3_comeTo_83 : decode cX3_comeTo 83 = .ok (.aload_n 0, 1) := by decide +kernel
theorem dX3_comeTo_84 : decode cX3_comeTo 84 = .ok (.dup, 1) := by decide +kernel
theorem dX3_comeTo_85 : decode cX3_comeTo 85 = .ok (.getfield 32, 3) := by decide +kernel
theorem dX3_comeTo_88 : decode cX3_comeTo 88 = .ok (.iconst 1, 1) := by decide +kernel
theorem dX3_comeTo_89 : decode cX3_comeTo 89 = .ok (.iadd, 1) := by decide +kernel
theorem dX3_comeTo_90 : decode cX3_comeTo 90 = .ok (.putfield 32, 3) := by decide +kernel
theorem dX3_comeTo_93 : decode cX3_comeTo 93 = .ok (.iconst 1, 1) := by decide +kernel
theorem dX3_comeTo_94 : decode cX3_comeTo 94 = .ok (.ireturn, 1) := by decide +kernel
theorem dX3_comeToFirst_0 : decode cX3_comeToFirst 0 = .ok (.aload_n 0, 1) := by decide +kernel
theorem dX3_comeToFirst_1 : decode cX3_comeToFirst 1 = .ok (.getfield 22, 3) := by decide +kernel
theorem dX3_comeToFirst_4 : decode cX3_comeToFirst 4 = .ok (.iconst (-1), 1) := by decide +kernel
theorem dX3_comeToFirst_5 : decode cX3_comeToFirst 5 = .ok (.invokestatic 39, 3) := by decide +kernel
theorem dX3_comeToFirst_8 : decode cX3_comeToFirst 8 = .ok (.aload_n 0, 1) := by decide +kernel
theorem dX3_comeToFirst_9 : decode cX3_comeToFirst 9 = .ok (.iconst 0, 1) := by decide +kernel
theorem dX3_comeToFirst_10 : decode cX3_comeToFirst 10 = .ok (.putfield 32, 3) := by decide +kernel
theorem dX3_comeToFirst_13 : decode cX3_comeToFirst 13 = .ok (.aload_n 0, 1) := by decide +kernel
theorem dX3_comeToFirst_14 : decode cX3_comeToFirst 14 = .ok (.iconst 0, 1) := by decide +kernel
theorem dX3_comeToFirst_15 : decode cX3_comeToFirst 15 = .ok (.iconst 0, 1) := by decide +kernel
theorem dX3_comeToFirst_16 : decode cX3_comeToFirst 16 = .ok (.invokevirtual 45, 3) := by decide +kernel
theorem dX3_comeToFirst_19 : decode cX3_comeToFirst 19 = .ok (.ireturn, 1) := by decide +kernel
theorem dX6_isWellTold_0 : decode cX6_isWellTold 0 = .ok (.aload_n 0, 1) := by decide +kernel
theorem dX6_isWellTold_1 : decode cX6_isWellTold 1 = .ok (.getfield 31, 3) := by decide +kernel
theorem dX6_isWellTold_4 : decode cX6_isWellTold 4 = .ok (.invokevirtual 35, 3) := by decide +kernel
theorem dX6_isWellTold_7 : decode cX6_isWellTold 7 = .ok (.ifCond .ne 5, 3) := by decide +kernel
theorem dX6_isWellTold_10 : decode cX6_isWellTold 10 = .ok (.iconst 0, 1) := by decide +kernel
theorem dX6_isWellTold_11 : decode cX6_isWellTold 11 = .ok (.ireturn, 1) := by decide +kernel
theorem dX6_isWellTold_12 : decode cX6_isWellTold 12 = .ok (.iconst 0, 1) := by decide +kernel
theorem dX6_isWellTold_13 : decode cX6_isWellTold 13 = .ok (.istore_n 2, 1) := by decide +kernel
theorem dX6_isWellTold_14 : decode cX6_isWellTold 14 = .ok (.iload_n 2, 1) := by decide +kernel
theorem dX6_isWellTold_15 : decode cX6_isWellTold 15 = .ok (.bipush 24, 2) := by decide +kernel
theorem dX6_isWellTold_17 : decode cX6_isWellTold 17 = .ok (.if_icmp .ge 51, 3) := by decide +kernel
theorem dX6_isWellTold_20 : decode cX6_isWellTold 20 = .ok (.iload_n 2, 1) := by decide +kernel
theorem dX6_isWellTold_21 : decode cX6_isWellTold 21 = .ok (.aload_n 0, 1) := by decide +kernel
theorem dX6_isWellTold_22 : decode cX6_isWellTold 22 = .ok (.getfield 31, 3) := by decide +kernel
theorem dX6_isWellTold_25 : decode cX6_isWellTold 25 = .ok (.getfield 41, 3) := by decide +kernel
theorem dX6_isWellTold_28 : decode cX6_isWellTold 28 = .ok (.if_icmp .ge 40, 3) := by decide +kernel
theorem dX6_isWellTold_31 : decode cX6_isWellTold 31 = .ok (.aload_n 0, 1) := by decide +kernel
theorem dX6_isWellTold_32 : decode cX6_isWellTold 32 = .ok (.getfield 31, 3) := by decide +kernel
theorem dX6_isWellTold_35 : decode cX6_isWellTold 35 = .ok (.iload_n 2, 1) := by decide +kernel
theorem dX6_isWellTold_36 : decode cX6_isWellTold 36 = .ok (.invokevirtual 44, 3) := by decide +kernel
theorem dX6_isWellTold_39 : decode cX6_isWellTold 39 = .ok (.istore_n 3, 1) := by decide +kernel
theorem dX6_isWellTold_40 : decode cX6_isWellTold 40 = .ok (.aload_n 0, 1) := by decide +kernel
theorem dX6_isWellTold_41 : decode cX6_isWellTold 41 = .ok (.iload_n 3, 1) := by decide +kernel
theorem dX6_isWellTold_42 : decode cX6_isWellTold 42 = .ok (.aload_n 1, 1) := by decide +kernel
theorem dX6_isWellTold_43 : decode cX6_isWellTold 43 = .ok (.invokevirtual 48, 3) := by decide +kernel
theorem dX6_isWellTold_46 : decode cX6_isWellTold 46 = .ok (.ifCond .eq 14, 3) := by decide +kernel
theorem dX6_isWellTold_49 : decode cX6_isWellTold 49 = .ok (.aload_n 0, 1) := by decide +kernel
theorem dX6_isWellTold_50 : decode cX6_isWellTold 50 = .ok (.getfield 31, 3) := by decide +kernel
theorem dX6_isWellTold_53 : decode cX6_isWellTold 53 = .ok (.iload_n 3, 1) := by decide +kernel
theorem dX6_isWellTold_54 : decode cX6_isWellTold 54 = .ok (.invokevirtual 52, 3) := by decide +kernel
theorem dX6_isWellTold_57 : decode cX6_isWellTold 57 = .ok (.ifCond .ne 5, 3) := by decide +kernel
theorem dX6_isWellTold_60 : decode cX6_isWellTold 60 = .ok (.iconst 0, 1) := by decide +kernel
theorem dX6_isWellTold_61 : decode cX6_isWellTold 61 = .ok (.ireturn, 1) := by decide +kernel
theorem dX6_isWellTold_62 : decode cX6_isWellTold 62 = .ok (.iinc 2 1, 3) := by decide +kernel
theorem dX6_isWellTold_65 : decode cX6_isWellTold 65 = .ok (.goto (-51), 3) := by decide +kernel
theorem dX6_isWellTold_68 : decode cX6_isWellTold 68 = .ok (.iconst 1, 1) := by decide +kernel
theorem dX6_isWellTold_69 : decode cX6_isWellTold 69 = .ok (.ireturn, 1) := by decide +kernel
theorem dX8_method_0 : decode cX8_method 0 = .ok (.aload_n 0, 1) := by decide +kernel
theorem dX8_method_1 : decode cX8_method 1 = .ok (.iload_n 1, 1) := by decide +kernel
theorem dX8_method_2 : decode cX8_method 2 = .ok (.iload_n 2, 1) := by decide +kernel
theorem dX8_method_3 : decode cX8_method 3 = .ok (.invokevirtual 134, 3) := by decide +kernel
theorem dX8_method_6 : decode cX8_method 6 = .ok (.iload_n 3, 1) := by decide +kernel
theorem dX8_method_7 : decode cX8_method 7 = .ok (.iconst 3, 1) := by decide +kernel
theorem dX8_method_8 : decode cX8_method 8 = .ok (.invokestatic 97, 3) := by decide +kernel
theorem dX8_method_11 : decode cX8_method 11 = .ok (.ifCond .eq 12, 3) := by decide +kernel
theorem dX8_method_14 : decode cX8_method 14 = .ok (.iload 4, 2) := by decide +kernel
theorem dX8_method_16 : decode cX8_method 16 = .ok (.iconst 5, 1) := by decide +kernel
theorem dX8_method_17 : decode cX8_method 17 = .ok (.invokestatic 97, 3) := by decide +kernel
theorem dX8_method_20 : decode cX8_method 20 = .ok (.ifCond .ne 13, 3) := by decide +kernel
theorem dX8_method_23 : decode cX8_method 23 = .ok (.new 105, 3) := by decide +kernel
theorem dX8_method_26 : decode cX8_method 26 = .ok (.dup, 1) := by decide +kernel
theorem dX8_method_27 : decode cX8_method 27 = .ok (.ldc 138, 2) := by decide +kernel
theorem dX8_method_29 : decode cX8_method 29 = .ok (.invokespecial 109, 3) := by decide +kernel
theorem dX8_method_32 : decode cX8_method 32 = .ok (.athrow, 1) := by decide +kernel
theorem dX8_method_33 : decode cX8_method 33 = .ok (.new 16, 3) := by decide +kernel
theorem dX8_method_36 : decode cX8_method 36 = .ok (.dup, 1) := by decide +kernel
theorem dX8_method_37 : decode cX8_method 37 = .ok (.iload_n 1, 1) := by decide +kernel
theorem dX8_method_38 : decode cX8_method 38 = .ok (.iload_n 2, 1) := by decide +kernel
theorem dX8_method_39 : decode cX8_method 39 = .ok (.iload_n 3, 1) := by decide +kernel
theorem dX8_method_40 : decode cX8_method 40 = .ok (.iload 4, 2) := by decide +kernel
theorem dX8_method_42 : decode cX8_method 42 = .ok (.aload_n 0, 1) := by decide +kernel
theorem dX8_method_43 : decode cX8_method 43 = .ok (.getfield 25, 3) := by decide +kernel
theorem dX8_method_46 : decode cX8_method 46 = .ok (.invokespecial 140, 3) := by decide +kernel
theorem dX8_method_49 : decode cX8_method 49 = .ok (.astore 5, 2) := by decide +kernel
theorem dX8_method_51 : decode cX8_method 51 = .ok (.aload 5, 2) := by decide +kernel
theorem dX8_method_53 : decode cX8_method 53 = .ok (.aload_n 0, 1) := by decide +kernel
theorem dX8_method_54 : decode cX8_method 54 = .ok (.getfield 10, 3) := by decide +kernel
theorem dX8_method_57 : decode cX8_method 57 = .ok (.invokevirtual 143, 3) := by decide +kernel
theorem dX8_method_60 : decode cX8_method 60 = .ok (.ifCond .ne 13, 3) := by decide +kernel
theorem dX8_method_63 : decode cX8_method 63 = .ok (.new 147, 3) := by decide +kernel
theorem dX8_method_66 : decode cX8_method 66 = .ok (.dup, 1) := by decide +kernel
theorem dX8_method_67 : decode cX8_method 67 = .ok (.ldc 149, 2) := by decide +kernel
theorem dX8_method_69 : decode cX8_method 69 = .ok (.invokespecial 151, 3) := by decide +kernel
theorem dX8_method_72 : decode cX8_method 72 = .ok (.athrow, 1) := by decide +kernel
theorem dX8_method_73 : decode cX8_method 73 = .ok (.aload_n 0, 1) := by decide +kernel
theorem dX8_method_74 : decode cX8_method 74 = .ok (.iload_n 1, 1) := by decide +kernel
theorem dX8_method_75 : decode cX8_method 75 = .ok (.iload_n 2, 1) := by decide +kernel
theorem dX8_method_76 : decode cX8_method 76 = .ok (.aload 5, 2) := by decide +kernel
theorem dX8_method_78 : decode cX8_method 78 = .ok (.invokevirtual 152, 3) := by decide +kernel
theorem dX8_method_81 : decode cX8_method 81 = .ok (.aload_n 0, 1) := by decide +kernel
theorem dX8_method_82 : decode cX8_method 82 = .ok (.new 22, 3) := by decide +kernel
theorem dX8_method_85 : decode cX8_method 85 = .ok (.dup, 1) := by decide +kernel
theorem dX8_method_86 : decode cX8_method 86 = .ok (.invokespecial 24, 3) := by decide +kernel
theorem dX8_method_89 : decode cX8_method 89 = .ok (.putfield 25, 3) := by decide +kernel
theorem dX8_method_92 : decode cX8_method 92 = .ok (.aload 5, 2) := by decide +kernel
theorem dX8_method_94 : decode cX8_method 94 = .ok (.getfield 156, 3) := by decide +kernel
theorem dX8_method_97 : decode cX8_method 97 = .ok (.getfield 128, 3) := by decide +kernel
theorem dX8_method_100 : decode cX8_method 100 = .ok (.ireturn, 1) := by decide +kernel
section SITES
variable {p : Program} {l : Launch} {e : Env} {R : Room} {s : State} {m : MethodId} {args : Array Value} {below : List Frame} {meth : Method} {c : Code} {H : Heap} {locs : List Loc} {cells slots : Nat} {Q : State → Prop}
variable {pc : Nat} {ls : Array Slot} {rest : List Value} {D : va_G} {ar : Nat → ClassId} {κ : Nat → Nat} {A : Nat → Prop} {a : Nat} {H0 : Heap} {G : gW} {nz nL : Nat} {cc : ByteArray}
theorem m_3_142 : (Cond.code yX8_isLetter cX8_isLetter 1 (some .boolean)) ∈ lwA := lwA_mk (ck_3 _ (List.mem_of_getElem? (i := 142) rfl)) rfl
theorem m_3_140 : (Cond.methodLink RX8 122 yX8_isLetter) ∈ lwA := lwA_mk (ck_3 _ (List.mem_of_getElem? (i := 140) rfl)) rfl
theorem m_3_141 : (Cond.static yX8_isLetter) ∈ lwA := lwA_mk (ck_3 _ (List.mem_of_getElem? (i := 141) rfl)) rfl
theorem k_RX8_122 {args : Array Value} {s : State} {R rm : Room} (hts : ∀ w ∈ lwA, w.before args s = true) (hR : rm.frames + 1 ≤ R.frames ∧ 8 + (1 + 11) + rm.locals ≤ R.locals) : CallB R s args RX8 122 yX8_isLetter cX8_isLetter 1 (some .boolean) (lwC yX8_isLetter cX8_isLetter 1 (some .boolean)) rm rm.cells rm.slots 1 ∧ (Cond.static yX8_isLetter).before args s = true := cwS 1 hts (gdS m_3_140 m_3_141 m_1_1 m_3_142) rfl rfl rfl (by decide +kernel) hR
theorem m_3_148 : (Cond.code yX3_enlist cX3_enlist 4 none) ∈ lwA := lwA_mk (ck_3 _ (List.mem_of_getElem? (i := 148) rfl)) rfl
theorem m_3_145 : (Cond.methodLink RX8 131 yX3_enlist) ∈ lwA := lwA_mk (ck_3 _ (List.mem_of_getElem? (i := 145) rfl)) rfl
theorem m_3_146 : (Cond.instanceMethod yX3_enlist) ∈ lwA := lwA_mk (ck_3 _ (List.mem_of_getElem? (i := 146) rfl)) rfl
theorem m_3_147 : (Cond.selects RX3 yX3_enlist yX3_enlist) ∈ lwA := lwA_mk (ck_3 _ (List.mem_of_getElem? (i := 147) rfl)) rfl
theorem k_RX8_131 {args : Array Value} {s : State} {R rm : Room} (hts : ∀ w ∈ lwA, w.before args s = true) (hR : rm.frames + 1 ≤ R.frames ∧ 8 + (4 + 11) + rm.locals ≤ R.locals) : CallW R s args RX8 RX3 131 yX3_enlist cX3_enlist 4 none (lwC yX3_enlist cX3_enlist 4 none) rm rm.cells rm.slots 3 := cwV 3 hts (gdV m_3_145 m_3_146 m_3_147 m_1_3 m_3_148) rfl rfl rfl (by decide +kernel) hR
theorem m_6_88 : (Cond.code yX8_toldMethods cX8_toldMethods 6 (some .int)) ∈ lwA := lwA_mk (ck_6 _ (List.mem_of_getElem? (i := 88) rfl)) rfl
theorem m_6_85 : (Cond.methodLink RX8 443 yX8_toldMethods) ∈ lwA := lwA_mk (ck_6 _ (List.mem_of_getElem? (i := 85) rfl)) rfl
theorem m_6_87 : (Cond.instanceMethod yX8_toldMethods) ∈ lwA := lwA_mk (ck_6 _ (List.mem_of_getElem? (i := 87) rfl)) rfl
theorem ms_39 : (Cond.selects RX8 yX8_toldMethods yX8_toldMethods) ∈ lwA := lwA_mk (List.mem_append_left _ (List.mem_of_getElem? (i := 39) rfl)) rfl
theorem k_RX8_443 {args : Array Value} {s : State} {R rm : Room} (hts : ∀ w ∈ lwA, w.before args s = true) (hR : rm.frames + 1 ≤ R.frames ∧ 8 + (6 + 11) + rm.locals ≤ R.locals) : CallW R s args RX8 RX8 443 yX8_toldMethods cX8_toldMethods 6 (some .int) (lwC yX8_toldMethods cX8_toldMethods 6 (some .int)) rm rm.cells rm.slots 0 := cwV 0 hts (gdV m_6_85 m_6_87 ms_39 m_1_1 m_6_88) rfl rfl rfl (by decide +kernel) hR
theorem m_6_89 : (Cond.classLink RX8 446 "java/lang/ArithmeticException") ∈ lwA := lwA_mk (ck_6 _ (List.mem_of_getElem? (i := 89) rfl)) rfl
theorem m_1_40 : (Cond.initialized "java/lang/ArithmeticException") ∈ lwA := lwA_mk (ck_1 _ (List.mem_of_getElem? (i := 40) rfl)) rfl
theorem th_RX8_446_450_1 : ∀ w ∈ (vx_atS RX8 450 "java/lang/ArithmeticException" ["java/lang/RuntimeException", "java/lang/Exception"]).filter goodWord, w ∈ lwA := gA_f (by decide +kernel)
theorem th_RX8_446_450_2 : ∀ w ∈ (vx_atS RX8 450 "java/lang/ArithmeticException" ["java/lang/RuntimeException", "java/lang/Exception"]).filter (fun w => !goodWord w), w ∈ lwN ∧ w.onTables = true := by decide +kernel
theorem th_RX8_446_450_3 : ∀ w ∈ Cond.classLink RX8 446 "java/lang/ArithmeticException" :: Cond.initialized "java/lang/ArithmeticException" :: vx_atS RX8 450 "java/lang/ArithmeticException" ["java/lang/RuntimeException", "java/lang/Exception"], vx_ot w = true := by decide +kernel
theorem m_2_148 : (Cond.constantLong RX8 491 (31)) ∈ lwA := lwA_mk (ck_2 _ (List.mem_of_getElem? (i := 148) rfl)) rfl
theorem m_2_147 : (Cond.code yX8_plus cX8_plus 4 (some .long)) ∈ lwA := lwA_mk (ck_2 _ (List.mem_of_getElem? (i := 147) rfl)) rfl
theorem m_2_145 : (Cond.methodLink RX8 453 yX8_plus) ∈ lwA := lwA_mk (ck_2 _ (List.mem_of_getElem? (i := 145) rfl)) rfl
theorem m_2_146 : (Cond.static yX8_plus) ∈ lwA := lwA_mk (ck_2 _ (List.mem_of_getElem? (i := 146) rfl)) rfl
theorem k_RX8_453 {args : Array Value} {s : State} {R rm : Room} (hts : ∀ w ∈ lwA, w.before args s = true) (hR : rm.frames + 1 ≤ R.frames ∧ 8 + (4 + 11) + rm.locals ≤ R.locals) : CallB R s args RX8 453 yX8_plus cX8_plus 4 (some .long) (lwC yX8_plus cX8_plus 4 (some .long)) rm rm.cells rm.slots 2 ∧ (Cond.static yX8_plus).before args s = true := cwS 2 hts (gdS m_2_145 m_2_146 m_1_1 m_2_147) rfl rfl rfl (by decide +kernel) hR
theorem m_2_144 : (Cond.constantLong RX8 451 (7)) ∈ lwA := lwA_mk (ck_2 _ (List.mem_of_getElem? (i := 144) rfl)) rfl
theorem m_2_151 : (Cond.code yX8_plusValue cX8_plusValue 4 (some .long)) ∈ lwA := lwA_mk (ck_2 _ (List.mem_of_getElem? (i := 151) rfl)) rfl
theorem m_2_149 : (Cond.methodLink RX8 457 yX8_plusValue) ∈ lwA := lwA_mk (ck_2 _ (List.mem_of_getElem? (i := 149) rfl)) rfl
theorem m_2_150 : (Cond.static yX8_plusValue) ∈ lwA := lwA_mk (ck_2 _ (List.mem_of_getElem? (i := 150) rfl)) rfl
theorem k_RX8_457 {args : Array Value} {s : State} {R rm : Room} (hts : ∀ w ∈ lwA, w.before args s = true) (hR : rm.frames + 1 ≤ R.frames ∧ 8 + (4 + 11) + rm.locals ≤ R.locals) : CallB R s args RX8 457 yX8_plusValue cX8_plusValue 4 (some .long) (lwC yX8_plusValue cX8_plusValue 4 (some .long)) rm rm.cells rm.slots 2 ∧ (Cond.static yX8_plusValue).before args s = true := cwS 2 hts (gdS m_2_149 m_2_150 m_1_1 m_2_151) rfl rfl rfl (by decide +kernel) hR
theorem gf_RX8_471_11 {A9 : Nat → Prop} {H9 : Heap} {fs : List Value} {v : Value} (S : CallFix p m c cc nL s args lwA RX8) (hE : g_E D vwCl (gT ar) (EX1 κ) A9 s H9) (w : g_S D vwCl A H0 G H locs nz) (ha : G a = some (.inr (11, fs))) (hv : fs[3]? = some v) (hdg : decode cc pc = .ok (.getfield 471, 3)) (kk : W p l e R s m args below meth c H locs cells slots Q (F0 m (pc + 3) ls (v :: rest))) : W p l e R s m args below meth c H locs cells slots Q (F0 m pc ls (.ref a :: rest)) :=
  va_getN (ci := 11) (C := RX7) (T := TX7) (N := 4) S.1 S.2.1 S.2.2.2.2 inA_RX7 S.2.2.2.1 hE.1 (g_1 w.1 ha) 0 rfl rfl 3 (by decide) (va_Nw.use rfl (hE.2.1.1 _ (ckN_0 _ (List.mem_of_getElem? (i := 22) rfl)))) (fun _ h => h) hv hdg kk
theorem gf_RX8_474_11 {A9 : Nat → Prop} {H9 : Heap} {fs : List Value} {v : Value} (S : CallFix p m c cc nL s args lwA RX8) (hE : g_E D vwCl (gT ar) (EX1 κ) A9 s H9) (w : g_S D vwCl A H0 G H locs nz) (ha : G a = some (.inr (11, fs))) (hv : fs[2]? = some v) (hdg : decode cc pc = .ok (.getfield 474, 3)) (kk : W p l e R s m args below meth c H locs cells slots Q (F0 m (pc + 3) ls (v :: rest))) : W p l e R s m args below meth c H locs cells slots Q (F0 m pc ls (.ref a :: rest)) :=
  va_getN (ci := 11) (C := RX7) (T := TX7) (N := 4) S.1 S.2.1 S.2.2.2.2 inA_RX7 S.2.2.2.1 hE.1 (g_1 w.1 ha) 0 rfl rfl 2 (by decide) (va_Nw.use rfl (hE.2.1.1 _ (ckN_0 _ (List.mem_of_getElem? (i := 21) rfl)))) (fun _ h => h) hv hdg kk
theorem m_2_179 : (Cond.code yX5_has cX5_has 3 (some .boolean)) ∈ lwA := lwA_mk (ck_2 _ (List.mem_of_getElem? (i := 179) rfl)) rfl
theorem m_2_176 : (Cond.methodLink RX8 477 yX5_has) ∈ lwA := lwA_mk (ck_2 _ (List.mem_of_getElem? (i := 176) rfl)) rfl
theorem m_2_177 : (Cond.instanceMethod yX5_has) ∈ lwA := lwA_mk (ck_2 _ (List.mem_of_getElem? (i := 177) rfl)) rfl
theorem m_2_178 : (Cond.selects RX5 yX5_has yX5_has) ∈ lwA := lwA_mk (ck_2 _ (List.mem_of_getElem? (i := 178) rfl)) rfl
theorem k_RX8_477 {args : Array Value} {s : State} {R rm : Room} (hts : ∀ w ∈ lwA, w.before args s = true) (hR : rm.frames + 1 ≤ R.frames ∧ 8 + (3 + 11) + rm.locals ≤ R.locals) : CallW R s args RX8 RX5 477 yX5_has cX5_has 3 (some .boolean) (lwC yX5_has cX5_has 3 (some .boolean)) rm rm.cells rm.slots 1 := cwV 1 hts (gdV m_2_176 m_2_177 m_2_178 m_1_4 m_2_179) rfl rfl rfl (by decide +kernel) hR
theorem m_2_183 : (Cond.code yX8_hasGlobalsThere cX8_hasGlobalsThere 6 (some .boolean)) ∈ lwA := lwA_mk (ck_2 _ (List.mem_of_getElem? (i := 183) rfl)) rfl
theorem m_2_180 : (Cond.methodLink RX8 479 yX8_hasGlobalsThere) ∈ lwA := lwA_mk (ck_2 _ (List.mem_of_getElem? (i := 180) rfl)) rfl
theorem m_2_182 : (Cond.instanceMethod yX8_hasGlobalsThere) ∈ lwA := lwA_mk (ck_2 _ (List.mem_of_getElem? (i := 182) rfl)) rfl
theorem ms_2 : (Cond.selects RX8 yX8_hasGlobalsThere yX8_hasGlobalsThere) ∈ lwA := lwA_mk (List.mem_append_left _ (List.mem_of_getElem? (i := 2) rfl)) rfl
theorem k_RX8_479 {args : Array Value} {s : State} {R rm : Room} (hts : ∀ w ∈ lwA, w.before args s = true) (hR : rm.frames + 1 ≤ R.frames ∧ 8 + (6 + 11) + rm.locals ≤ R.locals) : CallW R s args RX8 RX8 479 yX8_hasGlobalsThere cX8_hasGlobalsThere 6 (some .boolean) (lwC yX8_hasGlobalsThere cX8_hasGlobalsThere 6 (some .boolean)) rm rm.cells rm.slots 0 := cwV 0 hts (gdV m_2_180 m_2_182 ms_2 m_1_1 m_2_183) rfl rfl rfl (by decide +kernel) hR
theorem m_2_187 : (Cond.code yX5_hasFieldsThere cX5_hasFieldsThere 3 (some .boolean)) ∈ lwA := lwA_mk (ck_2 _ (List.mem_of_getElem? (i := 187) rfl)) rfl
theorem m_2_184 : (Cond.methodLink RX8 482 yX5_hasFieldsThere) ∈ lwA := lwA_mk (ck_2 _ (List.mem_of_getElem? (i := 184) rfl)) rfl
theorem m_2_185 : (Cond.instanceMethod yX5_hasFieldsThere) ∈ lwA := lwA_mk (ck_2 _ (List.mem_of_getElem? (i := 185) rfl)) rfl
theorem m_2_186 : (Cond.selects RX5 yX5_hasFieldsThere yX5_hasFieldsThere) ∈ lwA := lwA_mk (ck_2 _ (List.mem_of_getElem? (i := 186) rfl)) rfl
theorem k_RX8_482 {args : Array Value} {s : State} {R rm : Room} (hts : ∀ w ∈ lwA, w.before args s = true) (hR : rm.frames + 1 ≤ R.frames ∧ 8 + (3 + 11) + rm.locals ≤ R.locals) : CallW R s args RX8 RX5 482 yX5_hasFieldsThere cX5_hasFieldsThere 3 (some .boolean) (lwC yX5_hasFieldsThere cX5_hasFieldsThere 3 (some .boolean)) rm rm.cells rm.slots 0 := cwV 0 hts (gdV m_2_184 m_2_185 m_2_186 m_1_4 m_2_187) rfl rfl rfl (by decide +kernel) hR
theorem m_2_197 : (Cond.code yX8_hasFramesThere cX8_hasFramesThere 3 (some .boolean)) ∈ lwA := lwA_mk (ck_2 _ (List.mem_of_getElem? (i := 197) rfl)) rfl
theorem m_2_194 : (Cond.methodLink RX8 485 yX8_hasFramesThere) ∈ lwA := lwA_mk (ck_2 _ (List.mem_of_getElem? (i := 194) rfl)) rfl
theorem m_2_196 : (Cond.instanceMethod yX8_hasFramesThere) ∈ lwA := lwA_mk (ck_2 _ (List.mem_of_getElem? (i := 196) rfl)) rfl
theorem ms_4 : (Cond.selects RX8 yX8_hasFramesThere yX8_hasFramesThere) ∈ lwA := lwA_mk (List.mem_append_left _ (List.mem_of_getElem? (i := 4) rfl)) rfl
theorem k_RX8_485 {args : Array Value} {s : State} {R rm : Room} (hts : ∀ w ∈ lwA, w.before args s = true) (hR : rm.frames + 1 ≤ R.frames ∧ 8 + (3 + 11) + rm.locals ≤ R.locals) : CallW R s args RX8 RX8 485 yX8_hasFramesThere cX8_hasFramesThere 3 (some .boolean) (lwC yX8_hasFramesThere cX8_hasFramesThere 3 (some .boolean)) rm rm.cells rm.slots 0 := cwV 0 hts (gdV m_2_194 m_2_196 ms_4 m_1_1 m_2_197) rfl rfl rfl (by decide +kernel) hR
theorem m_2_205 : (Cond.code yX8_hasDepthAsTold cX8_hasDepthAsTold 2 (some .boolean)) ∈ lwA := lwA_mk (ck_2 _ (List.mem_of_getElem? (i := 205) rfl)) rfl
theorem m_2_202 : (Cond.methodLink RX8 488 yX8_hasDepthAsTold) ∈ lwA := lwA_mk (ck_2 _ (List.mem_of_getElem? (i := 202) rfl)) rfl
theorem m_2_204 : (Cond.instanceMethod yX8_hasDepthAsTold) ∈ lwA := lwA_mk (ck_2 _ (List.mem_of_getElem? (i := 204) rfl)) rfl
theorem ms_6 : (Cond.selects RX8 yX8_hasDepthAsTold yX8_hasDepthAsTold) ∈ lwA := lwA_mk (List.mem_append_left _ (List.mem_of_getElem? (i := 6) rfl)) rfl
theorem k_RX8_488 {args : Array Value} {s : State} {R rm : Room} (hts : ∀ w ∈ lwA, w.before args s = true) (hR : rm.frames + 1 ≤ R.frames ∧ 8 + (2 + 11) + rm.locals ≤ R.locals) : CallW R s args RX8 RX8 488 yX8_hasDepthAsTold cX8_hasDepthAsTold 2 (some .boolean) (lwC yX8_hasDepthAsTold cX8_hasDepthAsTold 2 (some .boolean)) rm rm.cells rm.slots 0 := cwV 0 hts (gdV m_2_202 m_2_204 ms_6 m_1_1 m_2_205) rfl rfl rfl (by decide +kernel) hR
theorem m_3_167 : (Cond.methodLink RX6 3 objectInit) ∈ lwA := lwA_mk (ck_3 _ (List.mem_of_getElem? (i := 167) rfl)) rfl
theorem inA_RX6 : ∀ w ∈ u_ws RX6 TX6 7, w ∈ lwA := gA_r _ [734, 736, 738, 740, 742, 744, 746] (by decide +kernel) (by decide +kernel)
theorem m_3_181 : (Cond.fieldLink RX6 9 "Sendhouse$Told" "calls" "I") ∈ lwA := lwA_mk (ck_3 _ (List.mem_of_getElem? (i := 181) rfl)) rfl
theorem pf_RX6_9_10 {A9 : Nat → Prop} {H9 : Heap} {fs : List Value} {v : Value} (S : CallFix p m c cc nL s args lwA RX6) (hE : g_E D vwCl (gT ar) (EX1 κ) A9 s H9) (w : g_S D vwCl A H0 G H locs nz) (ha : G a = some (.inr (10, fs))) (hn : narrow .int v = v) (hfit : fits .int v = true) (hl : 5 < fs.length) {fs1 : List Value} (hfs : fs.set 5 v = fs1) (hdg : decode cc pc = .ok (.putfield 9, 3)) (kk : ∀ (H1 : Heap) (locs1 : List Loc), g_S D vwCl A H0 (g_up G a (.inr (10, fs1))) H1 locs1 nz → W p l e R s m args below meth c H1 locs1 cells slots Q (F0 m (pc + 3) ls rest)) : W p l e R s m args below meth c H locs cells slots Q (F0 m pc ls (v :: .ref a :: rest)) :=
  g_put (ci := 10) (ty := .int) (C := RX6) (T := TX6) (N := 7) S.1 S.2.1 S.2.2.2.2 inA_RX6 tyX6 tyX6_ok nmX6 S.2.2.2.1 hE.1 w ha rfl 5 (by decide) (S.2.2.2.2 _ m_3_181) (fun _ h => h) rfl (by decide +kernel) hn hfit hl hdg (fun H1 l1 w1 => kk H1 l1 (by rw [← hfs]; exact w1))
theorem m_3_183 : (Cond.fieldLink RX6 15 "Sendhouse$Told" "compiled" "Z") ∈ lwA := lwA_mk (ck_3 _ (List.mem_of_getElem? (i := 183) rfl)) rfl
theorem pf_RX6_15_10 {A9 : Nat → Prop} {H9 : Heap} {fs : List Value} {v : Value} (S : CallFix p m c cc nL s args lwA RX6) (hE : g_E D vwCl (gT ar) (EX1 κ) A9 s H9) (w : g_S D vwCl A H0 G H locs nz) (ha : G a = some (.inr (10, fs))) (hn : narrow .boolean v = v) (hfit : fits .boolean v = true) (hl : 6 < fs.length) {fs1 : List Value} (hfs : fs.set 6 v = fs1) (hdg : decode cc pc = .ok (.putfield 15, 3)) (kk : ∀ (H1 : Heap) (locs1 : List Loc), g_S D vwCl A H0 (g_up G a (.inr (10, fs1))) H1 locs1 nz → W p l e R s m args below meth c H1 locs1 cells slots Q (F0 m (pc + 3) ls rest)) : W p l e R s m args below meth c H locs cells slots Q (F0 m pc ls (v :: .ref a :: rest)) :=
  g_put (ci := 10) (ty := .boolean) (C := RX6) (T := TX6) (N := 7) S.1 S.2.1 S.2.2.2.2 inA_RX6 tyX6 tyX6_ok nmX6 S.2.2.2.1 hE.1 w ha rfl 6 (by decide) (S.2.2.2.2 _ m_3_183) (fun _ h => h) rfl (by decide +kernel) hn hfit hl hdg (fun H1 l1 w1 => kk H1 l1 (by rw [← hfs]; exact w1))
theorem m_3_168 : (Cond.fieldLink RX6 19 "Sendhouse$Told" "cls" "I") ∈ lwA := lwA_mk (ck_3 _ (List.mem_of_getElem? (i := 168) rfl)) rfl
theorem pf_RX6_19_10 {A9 : Nat → Prop} {H9 : Heap} {fs : List Value} {v : Value} (S : CallFix p m c cc nL s args lwA RX6) (hE : g_E D vwCl (gT ar) (EX1 κ) A9 s H9) (hin : meth.name = "<init>") (w : g_S D vwCl A H0 G H locs nz) (ha : G a = some (.inr (10, fs))) (hn : narrow .int v = v) (hfit : fits .int v = true) (hl : 0 < fs.length) {fs1 : List Value} (hfs : fs.set 0 v = fs1) (hdg : decode cc pc = .ok (.putfield 19, 3)) (kk : ∀ (H1 : Heap) (locs1 : List Loc), g_S D vwCl A H0 (g_up G a (.inr (10, fs1))) H1 locs1 nz → W p l e R s m args below meth c H1 locs1 cells slots Q (F0 m (pc + 3) ls rest)) : W p l e R s m args below meth c H locs cells slots Q (F0 m pc ls (v :: .ref a :: rest)) :=
  g_putF (ci := 10) (ty := .int) (C := RX6) (T := TX6) (N := 7) S.1 S.2.1 S.2.2.2.2 inA_RX6 tyX6 tyX6_ok nmX6 S.2.2.2.1 hE.1 w ha rfl 0 (by decide) (S.2.2.2.2 _ m_3_168) (fun _ h => h) rfl hin rfl (by decide +kernel) hn hfit hl hdg (fun H1 l1 w1 => kk H1 l1 (by rw [← hfs]; exact w1))
theorem m_3_171 : (Cond.fieldLink RX6 22 "Sendhouse$Told" "selector" "I") ∈ lwA := lwA_mk (ck_3 _ (List.mem_of_getElem? (i := 171) rfl)) rfl
theorem pf_RX6_22_10 {A9 : Nat → Prop} {H9 : Heap} {fs : List Value} {v : Value} (S : CallFix p m c cc nL s args lwA RX6) (hE : g_E D vwCl (gT ar) (EX1 κ) A9 s H9) (hin : meth.name = "<init>") (w : g_S D vwCl A H0 G H locs nz) (ha : G a = some (.inr (10, fs))) (hn : narrow .int v = v) (hfit : fits .int v = true) (hl : 1 < fs.length) {fs1 : List Value} (hfs : fs.set 1 v = fs1) (hdg : decode cc pc = .ok (.putfield 22, 3)) (kk : ∀ (H1 : Heap) (locs1 : List Loc), g_S D vwCl A H0 (g_up G a (.inr (10, fs1))) H1 locs1 nz → W p l e R s m args below meth c H1 locs1 cells slots Q (F0 m (pc + 3) ls rest)) : W p l e R s m args below meth c H locs cells slots Q (F0 m pc ls (v :: .ref a :: rest)) :=
  g_putF (ci := 10) (ty := .int) (C := RX6) (T := TX6) (N := 7) S.1 S.2.1 S.2.2.2.2 inA_RX6 tyX6 tyX6_ok nmX6 S.2.2.2.1 hE.1 w ha rfl 1 (by decide) (S.2.2.2.2 _ m_3_171) (fun _ h => h) rfl hin rfl (by decide +kernel) hn hfit hl hdg (fun H1 l1 w1 => kk H1 l1 (by rw [← hfs]; exact w1))
theorem m_3_173 : (Cond.fieldLink RX6 25 "Sendhouse$Told" "arguments" "I") ∈ lwA := lwA_mk (ck_3 _ (List.mem_of_getElem? (i := 173) rfl)) rfl
theorem pf_RX6_25_10 {A9 : Nat → Prop} {H9 : Heap} {fs : List Value} {v : Value} (S : CallFix p m c cc nL s args lwA RX6) (hE : g_E D vwCl (gT ar) (EX1 κ) A9 s H9) (hin : meth.name = "<init>") (w : g_S D vwCl A H0 G H locs nz) (ha : G a = some (.inr (10, fs))) (hn : narrow .int v = v) (hfit : fits .int v = true) (hl : 2 < fs.length) {fs1 : List Value} (hfs : fs.set 2 v = fs1) (hdg : decode cc pc = .ok (.putfield 25, 3)) (kk : ∀ (H1 : Heap) (locs1 : List Loc), g_S D vwCl A H0 (g_up G a (.inr (10, fs1))) H1 locs1 nz → W p l e R s m args below meth c H1 locs1 cells slots Q (F0 m (pc + 3) ls rest)) : W p l e R s m args below meth c H locs cells slots Q (F0 m pc ls (v :: .ref a :: rest)) :=
  g_putF (ci := 10) (ty := .int) (C := RX6) (T := TX6) (N := 7) S.1 S.2.1 S.2.2.2.2 inA_RX6 tyX6 tyX6_ok nmX6 S.2.2.2.1 hE.1 w ha rfl 2 (by decide) (S.2.2.2.2 _ m_3_173) (fun _ h => h) rfl hin rfl (by decide +kernel) hn hfit hl hdg (fun H1 l1 w1 => kk H1 l1 (by rw [← hfs]; exact w1))
theorem m_3_176 : (Cond.fieldLink RX6 28 "Sendhouse$Told" "temporaries" "I") ∈ lwA := lwA_mk (ck_3 _ (List.mem_of_getElem? (i := 176) rfl)) rfl
theorem pf_RX6_28_10 {A9 : Nat → Prop} {H9 : Heap} {fs : List Value} {v : Value} (S : CallFix p m c cc nL s args lwA RX6) (hE : g_E D vwCl (gT ar) (EX1 κ) A9 s H9) (hin : meth.name = "<init>") (w : g_S D vwCl A H0 G H locs nz) (ha : G a = some (.inr (10, fs))) (hn : narrow .int v = v) (hfit : fits .int v = true) (hl : 3 < fs.length) {fs1 : List Value} (hfs : fs.set 3 v = fs1) (hdg : decode cc pc = .ok (.putfield 28, 3)) (kk : ∀ (H1 : Heap) (locs1 : List Loc), g_S D vwCl A H0 (g_up G a (.inr (10, fs1))) H1 locs1 nz → W p l e R s m args below meth c H1 locs1 cells slots Q (F0 m (pc + 3) ls rest)) : W p l e R s m args below meth c H locs cells slots Q (F0 m pc ls (v :: .ref a :: rest)) :=
  g_putF (ci := 10) (ty := .int) (C := RX6) (T := TX6) (N := 7) S.1 S.2.1 S.2.2.2.2 inA_RX6 tyX6 tyX6_ok nmX6 S.2.2.2.1 hE.1 w ha rfl 3 (by decide) (S.2.2.2.2 _ m_3_176) (fun _ h => h) rfl hin rfl (by decide +kernel) hn hfit hl hdg (fun H1 l1 w1 => kk H1 l1 (by rw [← hfs]; exact w1))
theorem m_3_178 : (Cond.fieldLink RX6 31 "Sendhouse$Told" "rows" "LSendhouse$Rows;") ∈ lwA := lwA_mk (ck_3 _ (List.mem_of_getElem? (i := 178) rfl)) rfl
theorem pf_RX6_31_10 {A9 : Nat → Prop} {H9 : Heap} {fs : List Value} {v : Value} (S : CallFix p m c cc nL s args lwA RX6) (hE : g_E D vwCl (gT ar) (EX1 κ) A9 s H9) (hin : meth.name = "<init>") (w : g_S D vwCl A H0 G H locs nz) (ha : G a = some (.inr (10, fs))) (hn : narrow (.object "Sendhouse$Rows") v = v) (hfit : fits (.object "Sendhouse$Rows") v = true) (hl : 4 < fs.length) {fs1 : List Value} (hfs : fs.set 4 v = fs1) (hdg : decode cc pc = .ok (.putfield 31, 3)) (kk : ∀ (H1 : Heap) (locs1 : List Loc), g_S D vwCl A H0 (g_up G a (.inr (10, fs1))) H1 locs1 nz → W p l e R s m args below meth c H1 locs1 cells slots Q (F0 m (pc + 3) ls rest)) : W p l e R s m args below meth c H locs cells slots Q (F0 m pc ls (v :: .ref a :: rest)) :=
  g_putF (ci := 10) (ty := (.object "Sendhouse$Rows")) (C := RX6) (T := TX6) (N := 7) S.1 S.2.1 S.2.2.2.2 inA_RX6 tyX6 tyX6_ok nmX6 S.2.2.2.1 hE.1 w ha rfl 4 (by decide) (S.2.2.2.2 _ m_3_178) (fun _ h => h) rfl hin rfl (by decide +kernel) hn hfit hl hdg (fun H1 l1 w1 => kk H1 l1 (by rw [← hfs]; exact w1))
theorem gf_RX3_22_7 {A9 : Nat → Prop} {H9 : Heap} {fs : List Value} {v : Value} (S : CallFix p m c cc nL s args lwA RX3) (hE : g_E D vwCl (gT ar) (EX1 κ) A9 s H9) (w : g_S D vwCl A H0 G H locs nz) (ha : G a = some (.inr (7, fs))) (hv : fs[3]? = some v) (hdg : decode cc pc = .ok (.getfield 22, 3)) (kk : W p l e R s m args below meth c H locs cells slots Q (F0 m (pc + 3) ls (v :: rest))) : W p l e R s m args below meth c H locs cells slots Q (F0 m pc ls (.ref a :: rest)) :=
  va_get (ci := 7) (C := RX3) (T := TX3) (N := 7) S.1 S.2.1 S.2.2.2.2 inA_RX3 S.2.2.2.1 hE.1 (g_1 w.1 ha) 0 rfl rfl 3 (by decide) (S.2.2.2.2 _ m_1_78) (fun _ h => h) hv hdg kk
theorem m_3_210 : (Cond.code yJ7_fill_53178 cJ7_fill_53178 4 none) ∈ lwA := lwA_mk (ck_3 _ (List.mem_of_getElem? (i := 210) rfl)) rfl
theorem m_3_208 : (Cond.methodLink RX3 39 yJ7_fill_53178) ∈ lwA := lwA_mk (ck_3 _ (List.mem_of_getElem? (i := 208) rfl)) rfl
theorem m_3_209 : (Cond.static yJ7_fill_53178) ∈ lwA := lwA_mk (ck_3 _ (List.mem_of_getElem? (i := 209) rfl)) rfl
theorem k_RX3_39 {args : Array Value} {s : State} {R rm : Room} (hts : ∀ w ∈ lwA, w.before args s = true) (hR : rm.frames + 1 ≤ R.frames ∧ 8 + (4 + 11) + rm.locals ≤ R.locals) : CallB R s args RX3 39 yJ7_fill_53178 cJ7_fill_53178 4 none (lwC yJ7_fill_53178 cJ7_fill_53178 4 none) rm rm.cells rm.slots 2 ∧ (Cond.static yJ7_fill_53178).before args s = true := va_cwS 2 hts (gdT m_3_208 m_3_209 m_1_10 m_3_210) rfl rfl rfl (by decide +kernel) hR
theorem m_3_214 : (Cond.code yX3_comeTo cX3_comeTo 3 (some .boolean)) ∈ lwA := lwA_mk (ck_3 _ (List.mem_of_getElem? (i := 214) rfl)) rfl
theorem m_3_211 : (Cond.methodLink RX3 45 yX3_comeTo) ∈ lwA := lwA_mk (ck_3 _ (List.mem_of_getElem? (i := 211) rfl)) rfl
theorem m_3_212 : (Cond.instanceMethod yX3_comeTo) ∈ lwA := lwA_mk (ck_3 _ (List.mem_of_getElem? (i := 212) rfl)) rfl
theorem m_3_213 : (Cond.selects RX3 yX3_comeTo yX3_comeTo) ∈ lwA := lwA_mk (ck_3 _ (List.mem_of_getElem? (i := 213) rfl)) rfl
theorem k_RX3_45 {args : Array Value} {s : State} {R rm : Room} (hts : ∀ w ∈ lwA, w.before args s = true) (hR : rm.frames + 1 ≤ R.frames ∧ 8 + (3 + 11) + rm.locals ≤ R.locals) : CallW R s args RX3 RX3 45 yX3_comeTo cX3_comeTo 3 (some .boolean) (lwC yX3_comeTo cX3_comeTo 3 (some .boolean)) rm rm.cells rm.slots 2 := cwV 2 hts (gdV m_3_211 m_3_212 m_3_213 m_1_3 m_3_214) rfl rfl rfl (by decide +kernel) hR
theorem gf_RX6_31_10 {A9 : Nat → Prop} {H9 : Heap} {fs : List Value} {v : Value} (S : CallFix p m c cc nL s args lwA RX6) (hE : g_E D vwCl (gT ar) (EX1 κ) A9 s H9) (w : g_S D vwCl A H0 G H locs nz) (ha : G a = some (.inr (10, fs))) (hv : fs[4]? = some v) (hdg : decode cc pc = .ok (.getfield 31, 3)) (kk : W p l e R s m args below meth c H locs cells slots Q (F0 m (pc + 3) ls (v :: rest))) : W p l e R s m args below meth c H locs cells slots Q (F0 m pc ls (.ref a :: rest)) :=
  va_get (ci := 10) (C := RX6) (T := TX6) (N := 7) S.1 S.2.1 S.2.2.2.2 inA_RX6 S.2.2.2.1 hE.1 (g_1 w.1 ha) 0 rfl rfl 4 (by decide) (S.2.2.2.2 _ m_3_178) (fun _ h => h) hv hdg kk
theorem m_3_207 : (Cond.code yX3_comeToFirst cX3_comeToFirst 1 (some .boolean)) ∈ lwA := lwA_mk (ck_3 _ (List.mem_of_getElem? (i := 207) rfl)) rfl
theorem m_3_204 : (Cond.methodLink RX6 35 yX3_comeToFirst) ∈ lwA := lwA_mk (ck_3 _ (List.mem_of_getElem? (i := 204) rfl)) rfl
theorem m_3_205 : (Cond.instanceMethod yX3_comeToFirst) ∈ lwA := lwA_mk (ck_3 _ (List.mem_of_getElem? (i := 205) rfl)) rfl
theorem m_3_206 : (Cond.selects RX3 yX3_comeToFirst yX3_comeToFirst) ∈ lwA := lwA_mk (ck_3 _ (List.mem_of_getElem? (i := 206) rfl)) rfl
theorem k_RX6_35 {args : Array Value} {s : State} {R rm : Room} (hts : ∀ w ∈ lwA, w.before args s = true) (hR : rm.frames + 1 ≤ R.frames ∧ 8 + (1 + 11) + rm.locals ≤ R.locals) : CallW R s args RX6 RX3 35 yX3_comeToFirst cX3_comeToFirst 1 (some .boolean) (lwC yX3_comeToFirst cX3_comeToFirst 1 (some .boolean)) rm rm.cells rm.slots 0 := cwV 0 hts (gdV m_3_204 m_3_205 m_3_206 m_1_3 m_3_207) rfl rfl rfl (by decide +kernel) hR
theorem m_3_163 : (Cond.instantiable RX6 7) ∈ lwA := lwA_mk (ck_3 _ (List.mem_of_getElem? (i := 163) rfl)) rfl
theorem m_1_32 : (Cond.initialized RX6) ∈ lwA := lwA_mk (ck_1 _ (List.mem_of_getElem? (i := 32) rfl)) rfl
theorem nw_RX8_16 {A9 : Nat → Prop} {H9 : Heap} (S : CallFix p m c cc nL s args lwA RX8) (hE : g_E D vwCl (gT ar) (EX1 κ) A9 s H9) (w : g_S D vwCl A H0 G H locs nz) (hcells : cells + 1 ≤ R.cells) (hslots : slots + 7 ≤ R.slots) (hdg : decode cc pc = .ok (.new 16, 3)) (kk : ∀ (H1 : Heap), g_S D vwCl A H0 (g_up G nz (.inr (10, [.int 0, .int 0, .int 0, .int 0, .null, .int 0, .int 0]))) H1 locs (nz + 1) → W p l e R s m args below meth c H1 locs (cells + 1) (slots + 7) Q (F0 m (pc + 3) ls (.ref nz :: rest))) : W p l e R s m args below meth c H locs cells slots Q (F0 m pc ls rest) :=
  g_new (ci := 10) (fs := [.int 0, .int 0, .int 0, .int 0, .null, .int 0, .int 0]) (C := RX6) (T := TX6) (N := 7) S.1 S.2.1 S.2.2.2.2 inA_RX6 tyX6 tyX6_ok S.2.2.2.1 (S.2.2.2.2 _ m_1_67) (S.2.2.2.2 _ m_3_163) (S.2.2.2.2 _ m_1_32) hE.1 w rfl (fun j hj => by rcases (show j = 0 ∨ j = 1 ∨ j = 2 ∨ j = 3 ∨ j = 4 ∨ j = 5 ∨ j = 6 by omega) with rfl | rfl | rfl | rfl | rfl | rfl | rfl <;> rfl) hcells hslots hdg kk
theorem m_3_166 : (Cond.code yX6_init cX6_init 6 none) ∈ lwA := lwA_mk (ck_3 _ (List.mem_of_getElem? (i := 166) rfl)) rfl
theorem m_3_164 : (Cond.methodLink RX8 140 yX6_init) ∈ lwA := lwA_mk (ck_3 _ (List.mem_of_getElem? (i := 164) rfl)) rfl
theorem m_3_165 : (Cond.instanceMethod yX6_init) ∈ lwA := lwA_mk (ck_3 _ (List.mem_of_getElem? (i := 165) rfl)) rfl
theorem k_RX8_140 {args : Array Value} {s : State} {R rm : Room} (hts : ∀ w ∈ lwA, w.before args s = true) (hR : rm.frames + 1 ≤ R.frames ∧ 8 + (6 + 11) + rm.locals ≤ R.locals) : CallB R s args RX8 140 yX6_init cX6_init 6 none (lwC yX6_init cX6_init 6 none) rm rm.cells rm.slots 5 ∧ yX6_init.name = "<init>" ∧ (Cond.instanceMethod yX6_init).before args s = true := cwI 5 hts (gd m_3_166) rfl rfl rfl (hts _ m_1_32) (hts _ m_3_164) (hts _ m_3_165) rfl (by decide +kernel) hR
theorem m_3_203 : (Cond.code yX6_isWellTold cX6_isWellTold 4 (some .boolean)) ∈ lwA := lwA_mk (ck_3 _ (List.mem_of_getElem? (i := 203) rfl)) rfl
theorem m_3_200 : (Cond.methodLink RX8 143 yX6_isWellTold) ∈ lwA := lwA_mk (ck_3 _ (List.mem_of_getElem? (i := 200) rfl)) rfl
theorem m_3_201 : (Cond.instanceMethod yX6_isWellTold) ∈ lwA := lwA_mk (ck_3 _ (List.mem_of_getElem? (i := 201) rfl)) rfl
theorem m_3_202 : (Cond.selects RX6 yX6_isWellTold yX6_isWellTold) ∈ lwA := lwA_mk (ck_3 _ (List.mem_of_getElem? (i := 202) rfl)) rfl
theorem k_RX8_143 {args : Array Value} {s : State} {R rm : Room} (hts : ∀ w ∈ lwA, w.before args s = true) (hR : rm.frames + 1 ≤ R.frames ∧ 8 + (4 + 11) + rm.locals ≤ R.locals) : CallW R s args RX8 RX6 143 yX6_isWellTold cX6_isWellTold 4 (some .boolean) (lwC yX6_isWellTold cX6_isWellTold 4 (some .boolean)) rm rm.cells rm.slots 1 := cwV 1 hts (gdV m_3_200 m_3_201 m_3_202 m_1_32 m_3_203) rfl rfl rfl (by decide +kernel) hR
end SITES
def LOFF : Array Int := #[335, 335, 337, 335, 337, 335, 337, 337, 337, 337, 337, 337, 337, 337, 337, 337, 337, 337, 335, 335, 337, 337, 337, 337, 337, 337, 337, 337, 335, 335, 337, 337, 337, 337, 337, 335, 337, 337, 337, 337, 337, 337, 335, 337, 337, 337, 337, 337, 337, 337, 337, 337, 337, 337, 337, 335, 337, 335, 335, 337, 335, 335, 337, 337, 335, 335, 337, 335, 335, 337, 335, 337, 335, 335, 335, 335, 337, 335, 337, 335]
def isL (x : Int32) : Int32 := if x.toInt < 42 then 0 else if 121 < x.toInt then 0 else if LOFF[(x.toInt - 42).toNat]? = some 335 then 1 else 0
theorem isL_c {x : Int32} (h1 : ¬ x.toInt < 42) (h2 : ¬ 121 < x.toInt) : LOFF[(x.toInt - 42).toNat]? = some 335 ∨ LOFF[(x.toInt - 42).toNat]? = some 337 := by
  have h : ∀ k : Fin 80, LOFF[k.val]? = some 335 ∨ LOFF[k.val]? = some 337 := by decide +kernel
  exact h ⟨(x.toInt - 42).toNat, by omega⟩
def K_row (x : Int32) : Int32 := if isL x = 0 then 1 else 0
theorem m_int335 : ¬ (some (337 : Int) = some 335) := by decide
set_option maxHeartbeats 4000000 in
set_option maxRecDepth 100000 in
theorem c_X8_isLetter (l : Launch) (D : va_G) (ar : Nat → ClassId) (κ : Nat → Nat) (G : gW) (sz : Nat) (x : Int32) : Met l yX8_isLetter (lwC yX8_isLetter cX8_isLetter 1 (some .boolean)) (rD 1 0 0) (g_Pc D vwCl (gT ar) (EX1 κ) G sz [.int x]) (g_Qi D vwCl (g_A G sz) (fun r u => r = isL x ∧ u = (G, sz))) 0 0 (g_A G sz) := by
  refine g_ofW (by decide +kernel) (Nat.le_of_ble_eq_true rfl) ?_
  intro p e s m below meth c ls S hr hlk hin hE w hl
  have hx := S.1
  have hb := S.2.1
  have hl : lv_has ls 1 [(0, .int x)] := hl
  refine lv_iload_n hx hb dX8_isLetter_0 rfl (lv_at hl 0 rfl) ?_
  by_cases q1 : (x : Int32).toInt < 42
  · refine lv_tableOut (tgt := 338) hx hb dX8_isLetter_1 (Or.inl q1) (by decide) ?_
    refine lv_iconst (v := 0) hx hb dX8_isLetter_338 (by decide) ?_
    exact g_zret hx hb hr hlk w (Nat.le_of_ble_eq_true rfl) (Nat.le_of_ble_eq_true rfl) dX8_isLetter_339 rfl ⟨by simp [isL, q1], rfl⟩
  by_cases q2 : 121 < (x : Int32).toInt
  · refine lv_tableOut (tgt := 338) hx hb dX8_isLetter_1 (Or.inr q2) (by decide) ?_
    refine lv_iconst (v := 0) hx hb dX8_isLetter_338 (by decide) ?_
    exact g_zret hx hb hr hlk w (Nat.le_of_ble_eq_true rfl) (Nat.le_of_ble_eq_true rfl) dX8_isLetter_339 rfl ⟨by simp [isL, q1, q2], rfl⟩
  rcases isL_c q1 q2 with q3 | q3
  · refine lv_tableIn (off := 335) (tgt := 336) hx hb dX8_isLetter_1 q1 q2 q3 (by decide) ?_
    refine lv_iconst (v := 1) hx hb dX8_isLetter_336 (by decide) ?_
    exact g_zret hx hb hr hlk w (Nat.le_of_ble_eq_true rfl) (Nat.le_of_ble_eq_true rfl) dX8_isLetter_337 rfl ⟨by simp [isL, q1, q2, q3], rfl⟩
  · refine lv_tableIn (off := 337) (tgt := 338) hx hb dX8_isLetter_1 q1 q2 q3 (by decide) ?_
    refine lv_iconst (v := 0) hx hb dX8_isLetter_338 (by decide) ?_
    exact g_zret hx hb hr hlk w (Nat.le_of_ble_eq_true rfl) (Nat.le_of_ble_eq_true rfl) dX8_isLetter_339 rfl ⟨by simp [isL, q1, q2, q3, m_int335], rfl⟩
set_option maxHeartbeats 4000000 in
set_option maxRecDepth 100000 in
theorem h_row (l : Launch) (D : va_G) (ar : Nat → ClassId) (κ : Nat → Nat) (G : gW) (sz : Nat) (x : Nat) (c0 : Int32) (x1 : Int32) (y1 : Int32) (q : Nat) (hF : FH ar κ G x q) (hlt : l.stackTraces = false) : vx_Met l yX8_row (lwC yX8_row cX8_row 4 (some .int)) (rD 8 1 6) (g_Pc D vwCl (gT ar) (EX1 κ) G sz [.ref x, .int c0, .int x1, .int y1]) (g_Qi D vwCl (g_A G sz) (fun r u => K_row c0 = 0 ∧ r = 1)) (gX D (g_A G sz) (fun E u => (E = "java/lang/IllegalArgumentException" ∧ K_row c0 = 1) ∨ (E = "java/lang/IllegalStateException" ∧ K_row c0 = 2))) 1 6 (g_A G sz) := by
  refine gx_ofW (by decide +kernel) (Nat.le_of_ble_eq_true rfl) ?_
  intro p e s m below meth c ls S hr hlk ht hE w hl
  have hx := S.1
  have hb := S.2.1
  have hl : lv_has ls 4 [(0, .ref x), (1, .int c0), (2, .int x1), (3, .int y1)] := hl
  obtain ⟨hxq, f0, f1, f2, f3, f4, f5, f6, f7, f8, f9, f10, f11, f12, f13, f14, f15, f16, f17, f18, f19⟩ := id hF
  refine lv_iload_n hx hb dX8_row_0 rfl (lv_at hl 1 rfl) ?_
  refine g_calli w (g_runS (As := [.int c0]) (rest := []) S hE w hl (c_X8_isLetter l D ar κ G sz c0) (k_RX8_122 S.2.2.2.2 ⟨Nat.le_of_ble_eq_true rfl, Nat.le_of_ble_eq_true rfl⟩) rfl rfl (Nat.le_of_ble_eq_true rfl) dX8_row_1 ⟨Nat.le_of_ble_eq_true rfl, Nat.le_of_ble_eq_true rfl⟩) (fun r u H locs hp hnz w => ?_)
  obtain ⟨rfl, rfl⟩ := hp
  dsimp only at w
  refine lv_if_ne (tgt := 17) hx hb dX8_row_4 (by decide) (fun c_4 => ?_) (fun c_4 => ?_)
  · refine lv_aload_n hx hb dX8_row_17 rfl (lv_at hl 0 rfl) ?_
    refine gf_RX8_25_12 S hE w f0 rfl dX8_row_18 ?_
    refine gf_RX8_128_7 S hE w f5 rfl dX8_row_21 ?_
    refine lv_bipush (v := 24) hx hb dX8_row_24 (by decide) ?_
    refine lv_icmp_lt (tgt := 39) hx hb dX8_row_26 (by decide) (fun _ => ?_) (fun c => absurd (by decide) c)
    refine lv_aload_n hx hb dX8_row_39 rfl (lv_at hl 0 rfl) ?_
    refine gf_RX8_25_12 S hE w f0 rfl dX8_row_40 ?_
    refine lv_iload_n hx hb dX8_row_43 rfl (lv_at hl 1 rfl) ?_
    refine lv_iload_n hx hb dX8_row_44 rfl (lv_at hl 2 rfl) ?_
    refine lv_iload_n hx hb dX8_row_45 rfl (lv_at hl 3 rfl) ?_
    refine g_callv w (g_runV (As := [.int c0, .int x1, .int y1]) (rest := []) S hE w hl (c_X3_enlist l D ar κ G sz (q + 4) c0 x1 y1 (q + 5) (q + 6) (q + 7) (q + 8) (q + 9) 0 0 (fun _ => 0) (fun _ => 0) (fun _ => 0) f5 f6 f7 f8 (by omega) (by omega) (by omega) (by decide)) (k_RX8_131 S.2.2.2.2 ⟨Nat.le_of_ble_eq_true rfl, Nat.le_of_ble_eq_true rfl⟩) f5 rfl rfl rfl rfl (Nat.le_of_ble_eq_true rfl) dX8_row_46 ⟨Nat.le_of_ble_eq_true rfl, Nat.le_of_ble_eq_true rfl⟩) (fun u H locs hp hnz w => ?_)
    obtain rfl := hp
    dsimp only at w
    rw [show ((0 + 1) : Int32) = 1 from by decide +kernel] at w
    refine lv_aload_n hx hb dX8_row_49 rfl (lv_at hl 0 rfl) ?_
    refine gf_RX8_25_12 S hE w (g_up_o (g_nx f0 f5 (by simp)) (g_up_o (g_nx f0 f8 (by simp)) (g_up_o (g_nx f0 f7 (by simp)) (g_up_o (g_nx f0 f6 (by simp)) f0)))) rfl dX8_row_50 ?_
    refine gf_RX8_128_7 S hE w g_up_s rfl dX8_row_53 ?_
    exact vx_ret (g_iret hx hb hr hlk w (Nat.le_of_ble_eq_true rfl) (Nat.le_of_ble_eq_true rfl) dX8_row_56 (by first | (simp [K_row, c_4]; done) | (simp [K_row, c_4]; decide)))
  · exact g_throwS (names := ["java/lang/RuntimeException", "java/lang/Exception"]) hlt S hE w hl ht hlk (by decide +kernel) (by decide +kernel) m_3_89 m_1_24 (List.mem_of_getElem? (i := 3) rfl) th_RX8_105_109_1 th_RX8_105_109_2 th_RX8_105_109_3 dX8_row_7 dX8_row_10 dX8_row_11 dX8_row_13 dX8_row_16 (Nat.le_of_ble_eq_true rfl) (Nat.le_of_ble_eq_true rfl) (Nat.le_of_ble_eq_true rfl) (Nat.le_of_ble_eq_true rfl) (Nat.le_of_ble_eq_true rfl) (Nat.le_of_ble_eq_true rfl) (fun _ _ => Or.inl ⟨rfl, by simp [K_row, c_4]⟩)
set_option maxHeartbeats 4000000 in
set_option maxRecDepth 100000 in
theorem h_toldMethods (l : Launch) (D : va_G) (ar : Nat → ClassId) (κ : Nat → Nat) (G : gW) (sz : Nat) (x : Nat) (q : Nat) (hF : FH ar κ G x q) : Met l yX8_toldMethods (lwC yX8_toldMethods cX8_toldMethods 6 (some .int)) (rD 3 0 0) (g_Pc D vwCl (gT ar) (EX1 κ) G sz [.ref x]) (g_Qi D vwCl (g_A G sz) (fun r u => r = 0 ∧ u = (G, sz))) 0 0 (g_A G sz) := by
  refine g_ofW (by decide +kernel) (Nat.le_of_ble_eq_true rfl) ?_
  intro p e s m below meth c ls S hr hlk hin hE w hl
  have hx := S.1
  have hb := S.2.1
  have hl : lv_has ls 6 [(0, .ref x)] := hl
  obtain ⟨hxq, f0, f1, f2, f3, f4, f5, f6, f7, f8, f9, f10, f11, f12, f13, f14, f15, f16, f17, f18, f19⟩ := id hF
  refine lv_iconst (v := 0) hx hb dX8_toldMethods_0 (by decide) ?_
  refine lv_istore_n (lv' := [(1, .int 0), (0, .ref x)]) hx hb dX8_toldMethods_1 rfl hl (by decide) rfl (fun ls hl => ?_)
  refine lv_aload_n hx hb dX8_toldMethods_2 rfl (lv_at hl 1 rfl) ?_
  refine gf_RX8_18_12 S hE w f0 rfl dX8_toldMethods_3 ?_
  refine lv_astore_n (lv' := [(2, .ref (q + 3)), (1, .int 0), (0, .ref x)]) hx hb dX8_toldMethods_6 rfl hl (by decide) rfl (fun ls hl => ?_)
  refine lv_aload_n hx hb dX8_toldMethods_7 rfl (lv_at hl 0 rfl) ?_
  refine va_alen (v := 192) hx hb hE.1 (g_1 w.1 f4) 0 8 rfl rfl rfl dX8_toldMethods_8 ?_
  refine lv_istore_n (lv' := [(3, .int 192), (2, .ref (q + 3)), (1, .int 0), (0, .ref x)]) hx hb dX8_toldMethods_9 rfl hl (by decide) rfl (fun ls hl => ?_)
  refine lv_iconst (v := 0) hx hb dX8_toldMethods_10 (by decide) ?_
  refine lv_istore (lv' := [(4, .int 0), (3, .int 192), (2, .ref (q + 3)), (1, .int 0), (0, .ref x)]) hx hb dX8_toldMethods_11 hl (by decide) rfl (fun ls hl => ?_)
  have key : ∀ (n9 i : Nat), i ≤ 192 → 192 + 1 ≤ i + n9 → ∀ (x9 : Int32), x9 = nI i → ∀ (H : Heap) (locs : List Loc) (ls : Array Slot), g_S D vwCl (g_A G sz) s.heap (G) H locs (sz) → lv_has ls 6 [(4, .int x9), (3, .int 192), (2, .ref (q + 3)), (1, .int 0), (0, .ref x)] → W p l e (rD 3 0 0) s m ([.ref x] : List Value).toArray below meth c H locs (0) (0) (MQ below (g_Qi D vwCl (g_A G sz) (fun r u => r = 0 ∧ u = (G, sz))) ([.ref x] : List Value).toArray s 0 0 (g_A G sz)) (F0 m 13 ls []) := by
    intro n9
    induction n9 with
    | zero => intro i hi1 hi2; exact absurd hi2 (by omega)
    | succ n9 ih =>
      intro i hi1 hi2 x9 ex9 H locs ls w hl
      refine lv_iload hx hb dX8_toldMethods_13 (lv_at hl 0 rfl) ?_
      refine lv_iload_n hx hb dX8_toldMethods_15 rfl (lv_at hl 1 rfl) ?_
      refine lv_icmp_ge (tgt := 39) hx hb dX8_toldMethods_16 (by decide) (fun c_16 => ?_) (fun c_16 => ?_)
      · refine lv_iload_n hx hb dX8_toldMethods_39 rfl (lv_at hl 3 rfl) ?_
        exact g_iret hx hb hr hlk w (by (try dsimp only [rD]); omega) (by (try dsimp only [rD]); omega) dX8_toldMethods_40 ⟨rfl, rfl⟩
      · have hlt9 := lp_lt (n := 192) rfl ex9 hi1 (by decide) c_16
        refine lv_aload_n hx hb dX8_toldMethods_19 rfl (lv_at hl 2 rfl) ?_
        refine lv_iload hx hb dX8_toldMethods_20 (lv_at hl 0 rfl) ?_
        refine va_aldq hx hb hE.1 (g_1 w.1 f4) 0 8 rfl rfl (by rw [ex9]; exact vp_in_nI (by omega) (by decide)) dX8_toldMethods_22 ?_
        show W p l e _ s m _ below meth c _ _ _ _ _ (F0 m 23 ls (.null :: _))
        refine lv_astoreN (lv' := [(5, .null), (4, .int x9), (3, .int 192), (2, .ref (q + 3)), (1, .int 0), (0, .ref x)]) hx hb dX8_toldMethods_23 hl (by decide) rfl (fun ls hl => ?_)
        refine lv_aloadN hx hb dX8_toldMethods_25 (lv_at hl 0 rfl) ?_
        refine lv_ifnullN (tgt := 33) hx hb dX8_toldMethods_27 (by decide) ?_
        refine lv_iinc (v := x9 + 1) (lv' := [(4, .int (x9 + 1)), (5, .null), (3, .int 192), (2, .ref (q + 3)), (1, .int 0), (0, .ref x)]) hx hb dX8_toldMethods_33 hl (k := 1) rfl rfl (by decide) rfl (fun ls hl => ?_)
        refine lv_goto (tgt := 13) hx hb dX8_toldMethods_36 (by decide) ?_
        exact ih (i + 1) (by omega) (by omega) _ (by rw [ex9]; exact nI_1 i) _ _ _ w (lv_sub hl [0, 2, 3, 4, 5] rfl)
  exact key 193 0 (Nat.zero_le _) (by omega) 0 rfl _ _ _ w (lv_sub hl [0, 1, 2, 3, 4] rfl)
set_option maxHeartbeats 4000000 in
set_option maxRecDepth 100000 in
theorem h_compiledShare (l : Launch) (D : va_G) (ar : Nat → ClassId) (κ : Nat → Nat) (G : gW) (sz : Nat) (x : Nat) (q : Nat) (hF : FH ar κ G x q) (hlt : l.stackTraces = false) : vx_Met l yX8_compiledShare (lwC yX8_compiledShare cX8_compiledShare 2 (some .float)) (rD 8 1 6) (g_Pc D vwCl (gT ar) (EX1 κ) G sz [.ref x]) (g_Qq D vwCl (g_A G sz) (fun r u => False)) (gX D (g_A G sz) (fun E u => (E = "java/lang/ArithmeticException" ∧ True))) 1 6 (g_A G sz) := by
  refine gx_ofW (by decide +kernel) (Nat.le_of_ble_eq_true rfl) ?_
  intro p e s m below meth c ls S hr hlk ht hE w hl
  have hx := S.1
  have hb := S.2.1
  have hl : lv_has ls 2 [(0, .ref x)] := hl
  obtain ⟨hxq, f0, f1, f2, f3, f4, f5, f6, f7, f8, f9, f10, f11, f12, f13, f14, f15, f16, f17, f18, f19⟩ := id hF
  refine lv_aload_n hx hb dX8_compiledShare_0 rfl (lv_at hl 0 rfl) ?_
  refine g_calli w (g_runV (As := []) (rest := []) S hE w hl (h_toldMethods l D ar κ G sz x q hF) (k_RX8_443 S.2.2.2.2 ⟨Nat.le_of_ble_eq_true rfl, Nat.le_of_ble_eq_true rfl⟩) f0 rfl rfl rfl rfl (Nat.le_of_ble_eq_true rfl) dX8_compiledShare_1 ⟨Nat.le_of_ble_eq_true rfl, Nat.le_of_ble_eq_true rfl⟩) (fun r u H locs hp hnz w => ?_)
  obtain ⟨rfl, rfl⟩ := hp
  dsimp only at w
  refine lv_istore_n (lv' := [(1, .int 0), (0, .ref x)]) hx hb dX8_compiledShare_4 rfl hl (by decide) rfl (fun ls hl => ?_)
  refine lv_iload_n hx hb dX8_compiledShare_5 rfl (lv_at hl 0 rfl) ?_
  refine lv_if_ne (tgt := 20) hx hb dX8_compiledShare_6 (by decide) (fun c => absurd (by decide) c) (fun _ => ?_)
  exact g_throwSW (names := ["java/lang/RuntimeException", "java/lang/Exception"]) hlt S hE w hl ht hlk (by decide +kernel) (by decide +kernel) m_6_89 m_1_40 (List.mem_of_getElem? (i := 26) rfl) th_RX8_446_450_1 th_RX8_446_450_2 th_RX8_446_450_3 dX8_compiledShare_9 dX8_compiledShare_12 dX8_compiledShare_13 dX8_compiledShare_16 dX8_compiledShare_19 (Nat.le_of_ble_eq_true rfl) (Nat.le_of_ble_eq_true rfl) (Nat.le_of_ble_eq_true rfl) (Nat.le_of_ble_eq_true rfl) (Nat.le_of_ble_eq_true rfl) (Nat.le_of_ble_eq_true rfl) (fun _ _ => ⟨rfl, by simp []⟩)
set_option maxHeartbeats 4000000 in
set_option maxRecDepth 100000 in
theorem h_meanCalls (l : Launch) (D : va_G) (ar : Nat → ClassId) (κ : Nat → Nat) (G : gW) (sz : Nat) (x : Nat) (q : Nat) (hF : FH ar κ G x q) (hlt : l.stackTraces = false) : vx_Met l yX8_meanCalls (lwC yX8_meanCalls cX8_meanCalls 8 (some .double)) (rD 8 1 6) (g_Pc D vwCl (gT ar) (EX1 κ) G sz [.ref x]) (g_Qq D vwCl (g_A G sz) (fun r u => False)) (gX D (g_A G sz) (fun E u => (E = "java/lang/ArithmeticException" ∧ True))) 1 6 (g_A G sz) := by
  refine gx_ofW (by decide +kernel) (Nat.le_of_ble_eq_true rfl) ?_
  intro p e s m below meth c ls S hr hlk ht hE w hl
  have hx := S.1
  have hb := S.2.1
  have hl : lv_has ls 8 [(0, .ref x)] := hl
  obtain ⟨hxq, f0, f1, f2, f3, f4, f5, f6, f7, f8, f9, f10, f11, f12, f13, f14, f15, f16, f17, f18, f19⟩ := id hF
  refine lv_aload_n hx hb dX8_meanCalls_0 rfl (lv_at hl 0 rfl) ?_
  refine g_calli w (g_runV (As := []) (rest := []) S hE w hl (h_toldMethods l D ar κ G sz x q hF) (k_RX8_443 S.2.2.2.2 ⟨Nat.le_of_ble_eq_true rfl, Nat.le_of_ble_eq_true rfl⟩) f0 rfl rfl rfl rfl (Nat.le_of_ble_eq_true rfl) dX8_meanCalls_1 ⟨Nat.le_of_ble_eq_true rfl, Nat.le_of_ble_eq_true rfl⟩) (fun r u H locs hp hnz w => ?_)
  obtain ⟨rfl, rfl⟩ := hp
  dsimp only at w
  refine lv_istore_n (lv' := [(1, .int 0), (0, .ref x)]) hx hb dX8_meanCalls_4 rfl hl (by decide) rfl (fun ls hl => ?_)
  refine lv_iload_n hx hb dX8_meanCalls_5 rfl (lv_at hl 0 rfl) ?_
  refine lv_if_ne (tgt := 20) hx hb dX8_meanCalls_6 (by decide) (fun c => absurd (by decide) c) (fun _ => ?_)
  exact g_throwSW (names := ["java/lang/RuntimeException", "java/lang/Exception"]) hlt S hE w hl ht hlk (by decide +kernel) (by decide +kernel) m_6_89 m_1_40 (List.mem_of_getElem? (i := 26) rfl) th_RX8_446_450_1 th_RX8_446_450_2 th_RX8_446_450_3 dX8_meanCalls_9 dX8_meanCalls_12 dX8_meanCalls_13 dX8_meanCalls_16 dX8_meanCalls_19 (Nat.le_of_ble_eq_true rfl) (Nat.le_of_ble_eq_true rfl) (Nat.le_of_ble_eq_true rfl) (Nat.le_of_ble_eq_true rfl) (Nat.le_of_ble_eq_true rfl) (Nat.le_of_ble_eq_true rfl) (fun _ _ => ⟨rfl, by simp []⟩)
set_option maxHeartbeats 4000000 in
set_option maxRecDepth 100000 in
theorem c_X8_plus (l : Launch) (D : va_G) (ar : Nat → ClassId) (κ : Nat → Nat) (G : gW) (sz : Nat) (a : Int64) (b : Int64) : Met l yX8_plus (lwC yX8_plus cX8_plus 4 (some .long)) (rD 1 0 0) (g_Pc D vwCl (gT ar) (EX1 κ) G sz [.long a, .long b]) (g_Ql D vwCl (g_A G sz) (fun r u => r = 31 * a + b ∧ u = (G, sz))) 0 0 (g_A G sz) := by
  refine g_ofW (by decide +kernel) (Nat.le_of_ble_eq_true rfl) ?_
  intro p e s m below meth c ls S hr hlk hin hE w hl
  have hx := S.1
  have hb := S.2.1
  have hl : lv_has ls 4 [(0, .long a), (2, .long b)] := hl
  refine lv_ldc2 hx hb S.2.2.2.1 (S.2.2.2.2 _ m_2_148) dX8_plus_0 ?_
  refine lv_lload_n hx hb dX8_plus_3 rfl (lv_at hl 0 rfl) ?_
  refine lv_lmul hx hb dX8_plus_4 ?_
  refine lv_lload_n hx hb dX8_plus_5 rfl (lv_at hl 1 rfl) ?_
  refine lv_ladd hx hb dX8_plus_6 ?_
  exact g_lret hx hb hr hlk w (Nat.le_of_ble_eq_true rfl) (Nat.le_of_ble_eq_true rfl) dX8_plus_7 ⟨rfl, rfl⟩
set_option maxHeartbeats 4000000 in
set_option maxRecDepth 100000 in
theorem c_X8_plusValue (l : Launch) (D : va_G) (ar : Nat → ClassId) (κ : Nat → Nat) (G : gW) (sz : Nat) (a : Int64) (v : Int64) : Met l yX8_plusValue (lwC yX8_plusValue cX8_plusValue 4 (some .long)) (rD 2 0 0) (g_Pc D vwCl (gT ar) (EX1 κ) G sz [.long a, .long v]) (g_Ql D vwCl (g_A G sz) (fun r u => r = 31 * (31 * a + (kf v).toInt64) + (nf v).toInt64 ∧ u = (G, sz))) 0 0 (g_A G sz) := by
  refine g_ofW (by decide +kernel) (Nat.le_of_ble_eq_true rfl) ?_
  intro p e s m below meth c ls S hr hlk hin hE w hl
  have hx := S.1
  have hb := S.2.1
  have hl : lv_has ls 4 [(0, .long a), (2, .long v)] := hl
  refine lv_lload_n hx hb dX8_plusValue_0 rfl (lv_at hl 0 rfl) ?_
  refine lv_lload_n hx hb dX8_plusValue_1 rfl (lv_at hl 1 rfl) ?_
  refine g_calli w (g_runS (As := [.long v]) (rest := [.long a]) S hE w hl (c_X8_kindOf l D ar κ G sz v) (k_RX8_226 S.2.2.2.2 ⟨Nat.le_of_ble_eq_true rfl, Nat.le_of_ble_eq_true rfl⟩) rfl rfl (Nat.le_of_ble_eq_true rfl) dX8_plusValue_2 ⟨Nat.le_of_ble_eq_true rfl, Nat.le_of_ble_eq_true rfl⟩) (fun r u H locs hp hnz w => ?_)
  obtain ⟨rfl, rfl⟩ := hp
  dsimp only at w
  refine lv_i2l hx hb dX8_plusValue_5 rfl ?_
  refine g_calll w (g_runS (As := [.long a, .long ((kf v).toInt64)]) (rest := []) S hE w hl (c_X8_plus l D ar κ G sz a ((kf v).toInt64)) (k_RX8_453 S.2.2.2.2 ⟨Nat.le_of_ble_eq_true rfl, Nat.le_of_ble_eq_true rfl⟩) rfl rfl (Nat.le_of_ble_eq_true rfl) dX8_plusValue_6 ⟨Nat.le_of_ble_eq_true rfl, Nat.le_of_ble_eq_true rfl⟩) (fun r u H locs hp hnz w => ?_)
  obtain ⟨rfl, rfl⟩ := hp
  dsimp only at w
  refine lv_lload_n hx hb dX8_plusValue_9 rfl (lv_at hl 1 rfl) ?_
  refine g_calli w (g_runS (As := [.long v]) (rest := [.long (31 * a + ((kf v).toInt64))]) S hE w hl (c_X8_numberOf l D ar κ G sz v) (k_RX8_230 S.2.2.2.2 ⟨Nat.le_of_ble_eq_true rfl, Nat.le_of_ble_eq_true rfl⟩) rfl rfl (Nat.le_of_ble_eq_true rfl) dX8_plusValue_10 ⟨Nat.le_of_ble_eq_true rfl, Nat.le_of_ble_eq_true rfl⟩) (fun r u H locs hp hnz w => ?_)
  obtain ⟨rfl, rfl⟩ := hp
  dsimp only at w
  refine lv_i2l hx hb dX8_plusValue_13 rfl ?_
  refine g_calll w (g_runS (As := [.long (31 * a + ((kf v).toInt64)), .long ((nf v).toInt64)]) (rest := []) S hE w hl (c_X8_plus l D ar κ G sz (31 * a + ((kf v).toInt64)) ((nf v).toInt64)) (k_RX8_453 S.2.2.2.2 ⟨Nat.le_of_ble_eq_true rfl, Nat.le_of_ble_eq_true rfl⟩) rfl rfl (Nat.le_of_ble_eq_true rfl) dX8_plusValue_14 ⟨Nat.le_of_ble_eq_true rfl, Nat.le_of_ble_eq_true rfl⟩) (fun r u H locs hp hnz w => ?_)
  obtain ⟨rfl, rfl⟩ := hp
  dsimp only at w
  exact g_lret hx hb hr hlk w (Nat.le_of_ble_eq_true rfl) (Nat.le_of_ble_eq_true rfl) dX8_plusValue_17 ⟨rfl, rfl⟩
set_option maxHeartbeats 4000000 in
set_option maxRecDepth 100000 in
theorem h_checksum (l : Launch) (D : va_G) (ar : Nat → ClassId) (κ : Nat → Nat) (G : gW) (sz : Nat) (x : Nat) (q : Nat) (hF : FH ar κ G x q) : Met l yX8_checksum (lwC yX8_checksum cX8_checksum 8 (some .long)) (rD 4 0 0) (g_Pc D vwCl (gT ar) (EX1 κ) G sz [.ref x]) (g_Ql D vwCl (g_A G sz) (fun r u => r = 278040950975800092)) 0 0 (g_A G sz) := by
  refine g_ofW (by decide +kernel) (Nat.le_of_ble_eq_true rfl) ?_
  intro p e s m below meth c ls S hr hlk hin hE w hl
  have hx := S.1
  have hb := S.2.1
  have hl : lv_has ls 8 [(0, .ref x)] := hl
  obtain ⟨hxq, f0, f1, f2, f3, f4, f5, f6, f7, f8, f9, f10, f11, f12, f13, f14, f15, f16, f17, f18, f19⟩ := id hF
  refine lv_ldc2 hx hb S.2.2.2.1 (S.2.2.2.2 _ m_2_144) dX8_checksum_0 ?_
  refine lv_aload_n hx hb dX8_checksum_3 rfl (lv_at hl 0 rfl) ?_
  refine gf_RX8_66_12 S hE w f0 rfl dX8_checksum_4 ?_
  refine lv_i2l hx hb dX8_checksum_7 rfl ?_
  rw [show ((0 : Int32)).toInt64 = 0 by decide +kernel]
  refine g_calll w (g_runS (As := [.long 7, .long 0]) (rest := []) S hE w hl (c_X8_plus l D ar κ G sz 7 0) (k_RX8_453 S.2.2.2.2 ⟨Nat.le_of_ble_eq_true rfl, Nat.le_of_ble_eq_true rfl⟩) rfl rfl (Nat.le_of_ble_eq_true rfl) dX8_checksum_8 ⟨Nat.le_of_ble_eq_true rfl, Nat.le_of_ble_eq_true rfl⟩) (fun r u H locs hp hnz w => ?_)
  obtain ⟨rfl, rfl⟩ := hp
  rw [show (31 * 7 + 0 : Int64) = 217 from by decide +kernel]
  dsimp only at w
  refine lv_lstore_n (lv' := [(1, .long 217), (0, .ref x)]) hx hb dX8_checksum_11 rfl hl (by decide) rfl (fun ls hl => ?_)
  refine lv_aload_n hx hb dX8_checksum_12 rfl (lv_at hl 1 rfl) ?_
  refine gf_RX8_33_12 S hE w f0 rfl dX8_checksum_13 ?_
  refine lv_astore_n (lv' := [(3, .ref (q + 10)), (1, .long 217), (0, .ref x)]) hx hb dX8_checksum_16 rfl hl (by decide) rfl (fun ls hl => ?_)
  refine lv_aload_n hx hb dX8_checksum_17 rfl (lv_at hl 0 rfl) ?_
  refine va_alen (v := 8) hx hb hE.1 (g_1 w.1 f11) 0 1 rfl rfl rfl dX8_checksum_18 ?_
  refine lv_istore (lv' := [(4, .int 8), (3, .ref (q + 10)), (1, .long 217), (0, .ref x)]) hx hb dX8_checksum_19 hl (by decide) rfl (fun ls hl => ?_)
  refine lv_iconst (v := 0) hx hb dX8_checksum_21 (by decide) ?_
  refine lv_istore (lv' := [(5, .int 0), (4, .int 8), (3, .ref (q + 10)), (1, .long 217), (0, .ref x)]) hx hb dX8_checksum_22 hl (by decide) rfl (fun ls hl => ?_)
  refine lv_iload hx hb dX8_checksum_24 (lv_at hl 0 rfl) ?_
  refine lv_iload hx hb dX8_checksum_26 (lv_at hl 1 rfl) ?_
  refine lv_icmp_ge (tgt := 50) hx hb dX8_checksum_28 (by decide) (fun c => absurd c (by decide)) (fun _ => ?_)
  refine lv_aload_n hx hb dX8_checksum_31 rfl (lv_at hl 2 rfl) ?_
  refine lv_iload hx hb dX8_checksum_32 (lv_at hl 0 rfl) ?_
  refine va_lald hx hb hE.1 (g_1 w.1 f11) 0 1 rfl rfl (vp_in_nI (n := 0) (by decide) (by decide)) dX8_checksum_34 ?_
  rw [show (fillJ (fun _ => 0) 502511173632 8) (Int32.toNatClampNeg 0) = 502511173632 from (by decide +kernel)]
  refine lv_lstore (lv' := [(6, .long 502511173632), (5, .int 0), (4, .int 8), (3, .ref (q + 10)), (1, .long 217), (0, .ref x)]) hx hb dX8_checksum_35 hl (by decide) rfl (fun ls hl => ?_)
  refine lv_lload_n hx hb dX8_checksum_37 rfl (lv_at hl 4 rfl) ?_
  refine lv_lload hx hb dX8_checksum_38 (lv_at hl 0 rfl) ?_
  refine g_calll w (g_runS (As := [.long 217, .long 502511173632]) (rest := []) S hE w hl (c_X8_plusValue l D ar κ G sz 217 502511173632) (k_RX8_457 S.2.2.2.2 ⟨Nat.le_of_ble_eq_true rfl, Nat.le_of_ble_eq_true rfl⟩) rfl rfl (Nat.le_of_ble_eq_true rfl) dX8_checksum_40 ⟨Nat.le_of_ble_eq_true rfl, Nat.le_of_ble_eq_true rfl⟩) (fun r u H locs hp hnz w => ?_)
  obtain ⟨rfl, rfl⟩ := hp
  rw [show (31 * (31 * 217 + (kf 502511173632).toInt64) + (nf 502511173632).toInt64 : Int64) = 212164 from by decide +kernel]
  dsimp only at w
  refine lv_lstore_n (lv' := [(1, .long 212164), (6, .long 502511173632), (5, .int 0), (4, .int 8), (3, .ref (q + 10)), (0, .ref x)]) hx hb dX8_checksum_43 rfl hl (by decide) rfl (fun ls hl => ?_)
  refine lv_iinc (v := 1) (lv' := [(5, .int 1), (1, .long 212164), (6, .long 502511173632), (4, .int 8), (3, .ref (q + 10)), (0, .ref x)]) hx hb dX8_checksum_44 hl (k := 2) rfl (by decide) (by decide) rfl (fun ls hl => ?_)
  refine lv_goto (tgt := 24) hx hb dX8_checksum_47 (by decide) ?_
  refine lv_iload hx hb dX8_checksum_24 (lv_at hl 0 rfl) ?_
  refine lv_iload hx hb dX8_checksum_26 (lv_at hl 3 rfl) ?_
  refine lv_icmp_ge (tgt := 50) hx hb dX8_checksum_28 (by decide) (fun c => absurd c (by decide)) (fun _ => ?_)
  refine lv_aload_n hx hb dX8_checksum_31 rfl (lv_at hl 4 rfl) ?_
  refine lv_iload hx hb dX8_checksum_32 (lv_at hl 0 rfl) ?_
  refine va_lald hx hb hE.1 (g_1 w.1 f11) 0 1 rfl rfl (vp_in_nI (n := 1) (by decide) (by decide)) dX8_checksum_34 ?_
  rw [show (fillJ (fun _ => 0) 502511173632 8) (Int32.toNatClampNeg 1) = 502511173632 from (by decide +kernel)]
  refine lv_lstore (lv' := [(6, .long 502511173632), (5, .int 1), (1, .long 212164), (4, .int 8), (3, .ref (q + 10)), (0, .ref x)]) hx hb dX8_checksum_35 hl (by decide) rfl (fun ls hl => ?_)
  refine lv_lload_n hx hb dX8_checksum_37 rfl (lv_at hl 2 rfl) ?_
  refine lv_lload hx hb dX8_checksum_38 (lv_at hl 0 rfl) ?_
  refine g_calll w (g_runS (As := [.long 212164, .long 502511173632]) (rest := []) S hE w hl (c_X8_plusValue l D ar κ G sz 212164 502511173632) (k_RX8_457 S.2.2.2.2 ⟨Nat.le_of_ble_eq_true rfl, Nat.le_of_ble_eq_true rfl⟩) rfl rfl (Nat.le_of_ble_eq_true rfl) dX8_checksum_40 ⟨Nat.le_of_ble_eq_true rfl, Nat.le_of_ble_eq_true rfl⟩) (fun r u H locs hp hnz w => ?_)
  obtain ⟨rfl, rfl⟩ := hp
  rw [show (31 * (31 * 212164 + (kf 502511173632).toInt64) + (nf 502511173632).toInt64 : Int64) = 203893231 from by decide +kernel]
  dsimp only at w
  refine lv_lstore_n (lv' := [(1, .long 203893231), (6, .long 502511173632), (5, .int 1), (4, .int 8), (3, .ref (q + 10)), (0, .ref x)]) hx hb dX8_checksum_43 rfl hl (by decide) rfl (fun ls hl => ?_)
  refine lv_iinc (v := 2) (lv' := [(5, .int 2), (1, .long 203893231), (6, .long 502511173632), (4, .int 8), (3, .ref (q + 10)), (0, .ref x)]) hx hb dX8_checksum_44 hl (k := 2) rfl (by decide) (by decide) rfl (fun ls hl => ?_)
  refine lv_goto (tgt := 24) hx hb dX8_checksum_47 (by decide) ?_
  refine lv_iload hx hb dX8_checksum_24 (lv_at hl 0 rfl) ?_
  refine lv_iload hx hb dX8_checksum_26 (lv_at hl 3 rfl) ?_
  refine lv_icmp_ge (tgt := 50) hx hb dX8_checksum_28 (by decide) (fun c => absurd c (by decide)) (fun _ => ?_)
  refine lv_aload_n hx hb dX8_checksum_31 rfl (lv_at hl 4 rfl) ?_
  refine lv_iload hx hb dX8_checksum_32 (lv_at hl 0 rfl) ?_
  refine va_lald hx hb hE.1 (g_1 w.1 f11) 0 1 rfl rfl (vp_in_nI (n := 2) (by decide) (by decide)) dX8_checksum_34 ?_
  rw [show (fillJ (fun _ => 0) 502511173632 8) (Int32.toNatClampNeg 2) = 502511173632 from (by decide +kernel)]
  refine lv_lstore (lv' := [(6, .long 502511173632), (5, .int 2), (1, .long 203893231), (4, .int 8), (3, .ref (q + 10)), (0, .ref x)]) hx hb dX8_checksum_35 hl (by decide) rfl (fun ls hl => ?_)
  refine lv_lload_n hx hb dX8_checksum_37 rfl (lv_at hl 2 rfl) ?_
  refine lv_lload hx hb dX8_checksum_38 (lv_at hl 0 rfl) ?_
  refine g_calll w (g_runS (As := [.long 203893231, .long 502511173632]) (rest := []) S hE w hl (c_X8_plusValue l D ar κ G sz 203893231 502511173632) (k_RX8_457 S.2.2.2.2 ⟨Nat.le_of_ble_eq_true rfl, Nat.le_of_ble_eq_true rfl⟩) rfl rfl (Nat.le_of_ble_eq_true rfl) dX8_checksum_40 ⟨Nat.le_of_ble_eq_true rfl, Nat.le_of_ble_eq_true rfl⟩) (fun r u H locs hp hnz w => ?_)
  obtain ⟨rfl, rfl⟩ := hp
  rw [show (31 * (31 * 203893231 + (kf 502511173632).toInt64) + (nf 502511173632).toInt64 : Int64) = 195941398618 from by decide +kernel]
  dsimp only at w
  refine lv_lstore_n (lv' := [(1, .long 195941398618), (6, .long 502511173632), (5, .int 2), (4, .int 8), (3, .ref (q + 10)), (0, .ref x)]) hx hb dX8_checksum_43 rfl hl (by decide) rfl (fun ls hl => ?_)
  refine lv_iinc (v := 3) (lv' := [(5, .int 3), (1, .long 195941398618), (6, .long 502511173632), (4, .int 8), (3, .ref (q + 10)), (0, .ref x)]) hx hb dX8_checksum_44 hl (k := 2) rfl (by decide) (by decide) rfl (fun ls hl => ?_)
  refine lv_goto (tgt := 24) hx hb dX8_checksum_47 (by decide) ?_
  refine lv_iload hx hb dX8_checksum_24 (lv_at hl 0 rfl) ?_
  refine lv_iload hx hb dX8_checksum_26 (lv_at hl 3 rfl) ?_
  refine lv_icmp_ge (tgt := 50) hx hb dX8_checksum_28 (by decide) (fun c => absurd c (by decide)) (fun _ => ?_)
  refine lv_aload_n hx hb dX8_checksum_31 rfl (lv_at hl 4 rfl) ?_
  refine lv_iload hx hb dX8_checksum_32 (lv_at hl 0 rfl) ?_
  refine va_lald hx hb hE.1 (g_1 w.1 f11) 0 1 rfl rfl (vp_in_nI (n := 3) (by decide) (by decide)) dX8_checksum_34 ?_
  rw [show (fillJ (fun _ => 0) 502511173632 8) (Int32.toNatClampNeg 3) = 502511173632 from (by decide +kernel)]
  refine lv_lstore (lv' := [(6, .long 502511173632), (5, .int 3), (1, .long 195941398618), (4, .int 8), (3, .ref (q + 10)), (0, .ref x)]) hx hb dX8_checksum_35 hl (by decide) rfl (fun ls hl => ?_)
  refine lv_lload_n hx hb dX8_checksum_37 rfl (lv_at hl 2 rfl) ?_
  refine lv_lload hx hb dX8_checksum_38 (lv_at hl 0 rfl) ?_
  refine g_calll w (g_runS (As := [.long 195941398618, .long 502511173632]) (rest := []) S hE w hl (c_X8_plusValue l D ar κ G sz 195941398618 502511173632) (k_RX8_457 S.2.2.2.2 ⟨Nat.le_of_ble_eq_true rfl, Nat.le_of_ble_eq_true rfl⟩) rfl rfl (Nat.le_of_ble_eq_true rfl) dX8_checksum_40 ⟨Nat.le_of_ble_eq_true rfl, Nat.le_of_ble_eq_true rfl⟩) (fun r u H locs hp hnz w => ?_)
  obtain ⟨rfl, rfl⟩ := hp
  rw [show (31 * (31 * 195941398618 + (kf 502511173632).toInt64) + (nf 502511173632).toInt64 : Int64) = 188299684075525 from by decide +kernel]
  dsimp only at w
  refine lv_lstore_n (lv' := [(1, .long 188299684075525), (6, .long 502511173632), (5, .int 3), (4, .int 8), (3, .ref (q + 10)), (0, .ref x)]) hx hb dX8_checksum_43 rfl hl (by decide) rfl (fun ls hl => ?_)
  refine lv_iinc (v := 4) (lv' := [(5, .int 4), (1, .long 188299684075525), (6, .long 502511173632), (4, .int 8), (3, .ref (q + 10)), (0, .ref x)]) hx hb dX8_checksum_44 hl (k := 2) rfl (by decide) (by decide) rfl (fun ls hl => ?_)
  refine lv_goto (tgt := 24) hx hb dX8_checksum_47 (by decide) ?_
  refine lv_iload hx hb dX8_checksum_24 (lv_at hl 0 rfl) ?_
  refine lv_iload hx hb dX8_checksum_26 (lv_at hl 3 rfl) ?_
  refine lv_icmp_ge (tgt := 50) hx hb dX8_checksum_28 (by decide) (fun c => absurd c (by decide)) (fun _ => ?_)
  refine lv_aload_n hx hb dX8_checksum_31 rfl (lv_at hl 4 rfl) ?_
  refine lv_iload hx hb dX8_checksum_32 (lv_at hl 0 rfl) ?_
  refine va_lald hx hb hE.1 (g_1 w.1 f11) 0 1 rfl rfl (vp_in_nI (n := 4) (by decide) (by decide)) dX8_checksum_34 ?_
  rw [show (fillJ (fun _ => 0) 502511173632 8) (Int32.toNatClampNeg 4) = 502511173632 from (by decide +kernel)]
  refine lv_lstore (lv' := [(6, .long 502511173632), (5, .int 4), (1, .long 188299684075525), (4, .int 8), (3, .ref (q + 10)), (0, .ref x)]) hx hb dX8_checksum_35 hl (by decide) rfl (fun ls hl => ?_)
  refine lv_lload_n hx hb dX8_checksum_37 rfl (lv_at hl 2 rfl) ?_
  refine lv_lload hx hb dX8_checksum_38 (lv_at hl 0 rfl) ?_
  refine g_calll w (g_runS (As := [.long 188299684075525, .long 502511173632]) (rest := []) S hE w hl (c_X8_plusValue l D ar κ G sz 188299684075525 502511173632) (k_RX8_457 S.2.2.2.2 ⟨Nat.le_of_ble_eq_true rfl, Nat.le_of_ble_eq_true rfl⟩) rfl rfl (Nat.le_of_ble_eq_true rfl) dX8_checksum_40 ⟨Nat.le_of_ble_eq_true rfl, Nat.le_of_ble_eq_true rfl⟩) (fun r u H locs hp hnz w => ?_)
  obtain ⟨rfl, rfl⟩ := hp
  rw [show (31 * (31 * 188299684075525 + (kf 502511173632).toInt64) + (nf 502511173632).toInt64 : Int64) = 180955996396583152 from by decide +kernel]
  dsimp only at w
  refine lv_lstore_n (lv' := [(1, .long 180955996396583152), (6, .long 502511173632), (5, .int 4), (4, .int 8), (3, .ref (q + 10)), (0, .ref x)]) hx hb dX8_checksum_43 rfl hl (by decide) rfl (fun ls hl => ?_)
  refine lv_iinc (v := 5) (lv' := [(5, .int 5), (1, .long 180955996396583152), (6, .long 502511173632), (4, .int 8), (3, .ref (q + 10)), (0, .ref x)]) hx hb dX8_checksum_44 hl (k := 2) rfl (by decide) (by decide) rfl (fun ls hl => ?_)
  refine lv_goto (tgt := 24) hx hb dX8_checksum_47 (by decide) ?_
  refine lv_iload hx hb dX8_checksum_24 (lv_at hl 0 rfl) ?_
  refine lv_iload hx hb dX8_checksum_26 (lv_at hl 3 rfl) ?_
  refine lv_icmp_ge (tgt := 50) hx hb dX8_checksum_28 (by decide) (fun c => absurd c (by decide)) (fun _ => ?_)
  refine lv_aload_n hx hb dX8_checksum_31 rfl (lv_at hl 4 rfl) ?_
  refine lv_iload hx hb dX8_checksum_32 (lv_at hl 0 rfl) ?_
  refine va_lald hx hb hE.1 (g_1 w.1 f11) 0 1 rfl rfl (vp_in_nI (n := 5) (by decide) (by decide)) dX8_checksum_34 ?_
  rw [show (fillJ (fun _ => 0) 502511173632 8) (Int32.toNatClampNeg 5) = 502511173632 from (by decide +kernel)]
  refine lv_lstore (lv' := [(6, .long 502511173632), (5, .int 5), (1, .long 180955996396583152), (4, .int 8), (3, .ref (q + 10)), (0, .ref x)]) hx hb dX8_checksum_35 hl (by decide) rfl (fun ls hl => ?_)
  refine lv_lload_n hx hb dX8_checksum_37 rfl (lv_at hl 2 rfl) ?_
  refine lv_lload hx hb dX8_checksum_38 (lv_at hl 0 rfl) ?_
  refine g_calll w (g_runS (As := [.long 180955996396583152, .long 502511173632]) (rest := []) S hE w hl (c_X8_plusValue l D ar κ G sz 180955996396583152 502511173632) (k_RX8_457 S.2.2.2.2 ⟨Nat.le_of_ble_eq_true rfl, Nat.le_of_ble_eq_true rfl⟩) rfl rfl (Nat.le_of_ble_eq_true rfl) dX8_checksum_40 ⟨Nat.le_of_ble_eq_true rfl, Nat.le_of_ble_eq_true rfl⟩) (fun r u H locs hp hnz w => ?_)
  obtain ⟨rfl, rfl⟩ := hp
  rw [show (31 * (31 * 180955996396583152 + (kf 502511173632).toInt64) + (nf 502511173632).toInt64 : Int64) = 7878015873730448155 from by decide +kernel]
  dsimp only at w
  refine lv_lstore_n (lv' := [(1, .long 7878015873730448155), (6, .long 502511173632), (5, .int 5), (4, .int 8), (3, .ref (q + 10)), (0, .ref x)]) hx hb dX8_checksum_43 rfl hl (by decide) rfl (fun ls hl => ?_)
  refine lv_iinc (v := 6) (lv' := [(5, .int 6), (1, .long 7878015873730448155), (6, .long 502511173632), (4, .int 8), (3, .ref (q + 10)), (0, .ref x)]) hx hb dX8_checksum_44 hl (k := 2) rfl (by decide) (by decide) rfl (fun ls hl => ?_)
  refine lv_goto (tgt := 24) hx hb dX8_checksum_47 (by decide) ?_
  refine lv_iload hx hb dX8_checksum_24 (lv_at hl 0 rfl) ?_
  refine lv_iload hx hb dX8_checksum_26 (lv_at hl 3 rfl) ?_
  refine lv_icmp_ge (tgt := 50) hx hb dX8_checksum_28 (by decide) (fun c => absurd c (by decide)) (fun _ => ?_)
  refine lv_aload_n hx hb dX8_checksum_31 rfl (lv_at hl 4 rfl) ?_
  refine lv_iload hx hb dX8_checksum_32 (lv_at hl 0 rfl) ?_
  refine va_lald hx hb hE.1 (g_1 w.1 f11) 0 1 rfl rfl (vp_in_nI (n := 6) (by decide) (by decide)) dX8_checksum_34 ?_
  rw [show (fillJ (fun _ => 0) 502511173632 8) (Int32.toNatClampNeg 6) = 502511173632 from (by decide +kernel)]
  refine lv_lstore (lv' := [(6, .long 502511173632), (5, .int 6), (1, .long 7878015873730448155), (4, .int 8), (3, .ref (q + 10)), (0, .ref x)]) hx hb dX8_checksum_35 hl (by decide) rfl (fun ls hl => ?_)
  refine lv_lload_n hx hb dX8_checksum_37 rfl (lv_at hl 2 rfl) ?_
  refine lv_lload hx hb dX8_checksum_38 (lv_at hl 0 rfl) ?_
  refine g_calll w (g_runS (As := [.long 7878015873730448155, .long 502511173632]) (rest := []) S hE w hl (c_X8_plusValue l D ar κ G sz 7878015873730448155 502511173632) (k_RX8_457 S.2.2.2.2 ⟨Nat.le_of_ble_eq_true rfl, Nat.le_of_ble_eq_true rfl⟩) rfl rfl (Nat.le_of_ble_eq_true rfl) dX8_checksum_40 ⟨Nat.le_of_ble_eq_true rfl, Nat.le_of_ble_eq_true rfl⟩) (fun r u H locs hp hnz w => ?_)
  obtain ⟨rfl, rfl⟩ := hp
  rw [show (31 * (31 * 7878015873730448155 + (kf 502511173632).toInt64) + (nf 502511173632).toInt64 : Int64) = 7608184434044518022 from by decide +kernel]
  dsimp only at w
  refine lv_lstore_n (lv' := [(1, .long 7608184434044518022), (6, .long 502511173632), (5, .int 6), (4, .int 8), (3, .ref (q + 10)), (0, .ref x)]) hx hb dX8_checksum_43 rfl hl (by decide) rfl (fun ls hl => ?_)
  refine lv_iinc (v := 7) (lv' := [(5, .int 7), (1, .long 7608184434044518022), (6, .long 502511173632), (4, .int 8), (3, .ref (q + 10)), (0, .ref x)]) hx hb dX8_checksum_44 hl (k := 2) rfl (by decide) (by decide) rfl (fun ls hl => ?_)
  refine lv_goto (tgt := 24) hx hb dX8_checksum_47 (by decide) ?_
  refine lv_iload hx hb dX8_checksum_24 (lv_at hl 0 rfl) ?_
  refine lv_iload hx hb dX8_checksum_26 (lv_at hl 3 rfl) ?_
  refine lv_icmp_ge (tgt := 50) hx hb dX8_checksum_28 (by decide) (fun c => absurd c (by decide)) (fun _ => ?_)
  refine lv_aload_n hx hb dX8_checksum_31 rfl (lv_at hl 4 rfl) ?_
  refine lv_iload hx hb dX8_checksum_32 (lv_at hl 0 rfl) ?_
  refine va_lald hx hb hE.1 (g_1 w.1 f11) 0 1 rfl rfl (vp_in_nI (n := 7) (by decide) (by decide)) dX8_checksum_34 ?_
  rw [show (fillJ (fun _ => 0) 502511173632 8) (Int32.toNatClampNeg 7) = 502511173632 from (by decide +kernel)]
  refine lv_lstore (lv' := [(6, .long 502511173632), (5, .int 7), (1, .long 7608184434044518022), (4, .int 8), (3, .ref (q + 10)), (0, .ref x)]) hx hb dX8_checksum_35 hl (by decide) rfl (fun ls hl => ?_)
  refine lv_lload_n hx hb dX8_checksum_37 rfl (lv_at hl 2 rfl) ?_
  refine lv_lload hx hb dX8_checksum_38 (lv_at hl 0 rfl) ?_
  refine g_calll w (g_runS (As := [.long 7608184434044518022, .long 502511173632]) (rest := []) S hE w hl (c_X8_plusValue l D ar κ G sz 7608184434044518022 502511173632) (k_RX8_457 S.2.2.2.2 ⟨Nat.le_of_ble_eq_true rfl, Nat.le_of_ble_eq_true rfl⟩) rfl rfl (Nat.le_of_ble_eq_true rfl) dX8_checksum_40 ⟨Nat.le_of_ble_eq_true rfl, Nat.le_of_ble_eq_true rfl⟩) (fun r u H locs hp hnz w => ?_)
  obtain ⟨rfl, rfl⟩ := hp
  rw [show (31 * (31 * 7608184434044518022 + (kf 502511173632).toInt64) + (nf 502511173632).toInt64 : Int64) = 6554587927799382833 from by decide +kernel]
  dsimp only at w
  refine lv_lstore_n (lv' := [(1, .long 6554587927799382833), (6, .long 502511173632), (5, .int 7), (4, .int 8), (3, .ref (q + 10)), (0, .ref x)]) hx hb dX8_checksum_43 rfl hl (by decide) rfl (fun ls hl => ?_)
  refine lv_iinc (v := 8) (lv' := [(5, .int 8), (1, .long 6554587927799382833), (6, .long 502511173632), (4, .int 8), (3, .ref (q + 10)), (0, .ref x)]) hx hb dX8_checksum_44 hl (k := 2) rfl (by decide) (by decide) rfl (fun ls hl => ?_)
  refine lv_goto (tgt := 24) hx hb dX8_checksum_47 (by decide) ?_
  refine lv_iload hx hb dX8_checksum_24 (lv_at hl 0 rfl) ?_
  refine lv_iload hx hb dX8_checksum_26 (lv_at hl 3 rfl) ?_
  refine lv_icmp_ge (tgt := 50) hx hb dX8_checksum_28 (by decide) (fun _ => ?_) (fun c => absurd (by decide) c)
  refine lv_iconst (v := 0) hx hb dX8_checksum_50 (by decide) ?_
  refine lv_istore_n (lv' := [(3, .int 0), (5, .int 8), (1, .long 6554587927799382833), (6, .long 502511173632), (4, .int 8), (0, .ref x)]) hx hb dX8_checksum_51 rfl hl (by decide) rfl (fun ls hl => ?_)
  refine lv_iload_n hx hb dX8_checksum_52 rfl (lv_at hl 0 rfl) ?_
  refine lv_aload_n hx hb dX8_checksum_53 rfl (lv_at hl 5 rfl) ?_
  refine gf_RX8_40_12 S hE w f0 rfl dX8_checksum_54 ?_
  refine gf_RX8_207_9 S hE w f12 rfl dX8_checksum_57 ?_
  refine lv_icmp_ge (tgt := 82) hx hb dX8_checksum_60 (by decide) (fun _ => ?_) (fun c => absurd (by decide) c)
  refine lv_lload_n hx hb dX8_checksum_82 rfl (lv_at hl 2 rfl) ?_
  refine lv_aload_n hx hb dX8_checksum_83 rfl (lv_at hl 5 rfl) ?_
  refine gf_RX8_53_12 S hE w f0 rfl dX8_checksum_84 ?_
  refine lv_i2l hx hb dX8_checksum_87 rfl ?_
  rw [show ((45 : Int32)).toInt64 = 45 by decide +kernel]
  refine g_calll w (g_runS (As := [.long 6554587927799382833, .long 45]) (rest := []) S hE w hl (c_X8_plus l D ar κ G sz 6554587927799382833 45) (k_RX8_453 S.2.2.2.2 ⟨Nat.le_of_ble_eq_true rfl, Nat.le_of_ble_eq_true rfl⟩) rfl rfl (Nat.le_of_ble_eq_true rfl) dX8_checksum_88 ⟨Nat.le_of_ble_eq_true rfl, Nat.le_of_ble_eq_true rfl⟩) (fun r u H locs hp hnz w => ?_)
  obtain ⟨rfl, rfl⟩ := hp
  rw [show (31 * 6554587927799382833 + 45 : Int64) = 278040950975800092 from by decide +kernel]
  dsimp only at w
  refine lv_lstore_n (lv' := [(1, .long 278040950975800092), (3, .int 0), (5, .int 8), (6, .long 502511173632), (4, .int 8), (0, .ref x)]) hx hb dX8_checksum_91 rfl hl (by decide) rfl (fun ls hl => ?_)
  refine lv_iconst (v := 0) hx hb dX8_checksum_92 (by decide) ?_
  refine lv_istore_n (lv' := [(3, .int 0), (1, .long 278040950975800092), (5, .int 8), (6, .long 502511173632), (4, .int 8), (0, .ref x)]) hx hb dX8_checksum_93 rfl hl (by decide) rfl (fun ls hl => ?_)
  refine lv_iload_n hx hb dX8_checksum_94 rfl (lv_at hl 0 rfl) ?_
  refine lv_aload_n hx hb dX8_checksum_95 rfl (lv_at hl 5 rfl) ?_
  refine gf_RX8_50_12 S hE w f0 rfl dX8_checksum_96 ?_
  refine lv_icmp_ge (tgt := 118) hx hb dX8_checksum_99 (by decide) (fun _ => ?_) (fun c => absurd (by decide) c)
  refine lv_lload_n hx hb dX8_checksum_118 rfl (lv_at hl 1 rfl) ?_
  refine lv_aload_n hx hb dX8_checksum_119 rfl (lv_at hl 5 rfl) ?_
  refine gf_RX8_72_12 S hE w f0 rfl dX8_checksum_120 ?_
  refine gf_RX8_471_11 S hE w f18 rfl dX8_checksum_123 ?_
  refine lv_lmul hx hb dX8_checksum_126 ?_
  rw [show (278040950975800092 * 1 : Int64) = 278040950975800092 by decide +kernel]
  refine lv_aload_n hx hb dX8_checksum_127 rfl (lv_at hl 5 rfl) ?_
  refine gf_RX8_72_12 S hE w f0 rfl dX8_checksum_128 ?_
  refine gf_RX8_474_11 S hE w f18 rfl dX8_checksum_131 ?_
  refine lv_ladd hx hb dX8_checksum_134 ?_
  rw [show (278040950975800092 + 0 : Int64) = 278040950975800092 by decide +kernel]
  exact g_lret hx hb hr hlk w (Nat.le_of_ble_eq_true rfl) (Nat.le_of_ble_eq_true rfl) dX8_checksum_135 rfl
set_option maxHeartbeats 4000000 in
set_option maxRecDepth 100000 in
theorem h_hasGlobalsThere (l : Launch) (D : va_G) (ar : Nat → ClassId) (κ : Nat → Nat) (G : gW) (sz : Nat) (x : Nat) (q : Nat) (hF : FH ar κ G x q) : Met l yX8_hasGlobalsThere (lwC yX8_hasGlobalsThere cX8_hasGlobalsThere 6 (some .boolean)) (rD 5 0 0) (g_Pc D vwCl (gT ar) (EX1 κ) G sz [.ref x]) (g_Qi D vwCl (g_A G sz) (fun r u => r = 1 ∧ u = (G, sz))) 0 0 (g_A G sz) := by
  refine g_ofW (by decide +kernel) (Nat.le_of_ble_eq_true rfl) ?_
  intro p e s m below meth c ls S hr hlk hin hE w hl
  have hx := S.1
  have hb := S.2.1
  have hl : lv_has ls 6 [(0, .ref x)] := hl
  obtain ⟨hxq, f0, f1, f2, f3, f4, f5, f6, f7, f8, f9, f10, f11, f12, f13, f14, f15, f16, f17, f18, f19⟩ := id hF
  refine lv_aload_n hx hb dX8_hasGlobalsThere_0 rfl (lv_at hl 0 rfl) ?_
  refine gf_RX8_33_12 S hE w f0 rfl dX8_hasGlobalsThere_1 ?_
  refine lv_astore_n (lv' := [(1, .ref (q + 10)), (0, .ref x)]) hx hb dX8_hasGlobalsThere_4 rfl hl (by decide) rfl (fun ls hl => ?_)
  refine lv_aload_n hx hb dX8_hasGlobalsThere_5 rfl (lv_at hl 0 rfl) ?_
  refine va_alen (v := 8) hx hb hE.1 (g_1 w.1 f11) 0 1 rfl rfl rfl dX8_hasGlobalsThere_6 ?_
  refine lv_istore_n (lv' := [(2, .int 8), (1, .ref (q + 10)), (0, .ref x)]) hx hb dX8_hasGlobalsThere_7 rfl hl (by decide) rfl (fun ls hl => ?_)
  refine lv_iconst (v := 0) hx hb dX8_hasGlobalsThere_8 (by decide) ?_
  refine lv_istore_n (lv' := [(3, .int 0), (2, .int 8), (1, .ref (q + 10)), (0, .ref x)]) hx hb dX8_hasGlobalsThere_9 rfl hl (by decide) rfl (fun ls hl => ?_)
  refine lv_iload_n hx hb dX8_hasGlobalsThere_10 rfl (lv_at hl 0 rfl) ?_
  refine lv_iload_n hx hb dX8_hasGlobalsThere_11 rfl (lv_at hl 1 rfl) ?_
  refine lv_icmp_ge (tgt := 40) hx hb dX8_hasGlobalsThere_12 (by decide) (fun c => absurd c (by decide)) (fun _ => ?_)
  refine lv_aload_n hx hb dX8_hasGlobalsThere_15 rfl (lv_at hl 2 rfl) ?_
  refine lv_iload_n hx hb dX8_hasGlobalsThere_16 rfl (lv_at hl 0 rfl) ?_
  refine va_lald hx hb hE.1 (g_1 w.1 f11) 0 1 rfl rfl (vp_in_nI (n := 0) (by decide) (by decide)) dX8_hasGlobalsThere_17 ?_
  rw [show (fillJ (fun _ => 0) 502511173632 8) (Int32.toNatClampNeg 0) = 502511173632 from (by decide +kernel)]
  refine lv_lstore (lv' := [(4, .long 502511173632), (3, .int 0), (2, .int 8), (1, .ref (q + 10)), (0, .ref x)]) hx hb dX8_hasGlobalsThere_18 hl (by decide) rfl (fun ls hl => ?_)
  refine lv_aload_n hx hb dX8_hasGlobalsThere_20 rfl (lv_at hl 4 rfl) ?_
  refine gf_RX8_40_12 S hE w f0 rfl dX8_hasGlobalsThere_21 ?_
  refine lv_lload hx hb dX8_hasGlobalsThere_24 (lv_at hl 0 rfl) ?_
  refine g_calli w (g_runV (As := [.long 502511173632]) (rest := []) S hE w hl (c_X5_has l D ar κ G sz (q + 11) 502511173632 (q + 12) (q + 13) f12 (by decide +kernel)) (k_RX8_477 S.2.2.2.2 ⟨Nat.le_of_ble_eq_true rfl, Nat.le_of_ble_eq_true rfl⟩) f12 rfl rfl rfl rfl (Nat.le_of_ble_eq_true rfl) dX8_hasGlobalsThere_26 ⟨Nat.le_of_ble_eq_true rfl, Nat.le_of_ble_eq_true rfl⟩) (fun r u H locs hp hnz w => ?_)
  obtain ⟨rfl, rfl⟩ := hp
  dsimp only at w
  refine lv_if_ne (tgt := 34) hx hb dX8_hasGlobalsThere_29 (by decide) (fun _ => ?_) (fun c => absurd c (by decide))
  refine lv_iinc (v := 1) (lv' := [(3, .int 1), (4, .long 502511173632), (2, .int 8), (1, .ref (q + 10)), (0, .ref x)]) hx hb dX8_hasGlobalsThere_34 hl (k := 1) rfl (by decide) (by decide) rfl (fun ls hl => ?_)
  refine lv_goto (tgt := 10) hx hb dX8_hasGlobalsThere_37 (by decide) ?_
  refine lv_iload_n hx hb dX8_hasGlobalsThere_10 rfl (lv_at hl 0 rfl) ?_
  refine lv_iload_n hx hb dX8_hasGlobalsThere_11 rfl (lv_at hl 2 rfl) ?_
  refine lv_icmp_ge (tgt := 40) hx hb dX8_hasGlobalsThere_12 (by decide) (fun c => absurd c (by decide)) (fun _ => ?_)
  refine lv_aload_n hx hb dX8_hasGlobalsThere_15 rfl (lv_at hl 3 rfl) ?_
  refine lv_iload_n hx hb dX8_hasGlobalsThere_16 rfl (lv_at hl 0 rfl) ?_
  refine va_lald hx hb hE.1 (g_1 w.1 f11) 0 1 rfl rfl (vp_in_nI (n := 1) (by decide) (by decide)) dX8_hasGlobalsThere_17 ?_
  rw [show (fillJ (fun _ => 0) 502511173632 8) (Int32.toNatClampNeg 1) = 502511173632 from (by decide +kernel)]
  refine lv_lstore (lv' := [(4, .long 502511173632), (3, .int 1), (2, .int 8), (1, .ref (q + 10)), (0, .ref x)]) hx hb dX8_hasGlobalsThere_18 hl (by decide) rfl (fun ls hl => ?_)
  refine lv_aload_n hx hb dX8_hasGlobalsThere_20 rfl (lv_at hl 4 rfl) ?_
  refine gf_RX8_40_12 S hE w f0 rfl dX8_hasGlobalsThere_21 ?_
  refine lv_lload hx hb dX8_hasGlobalsThere_24 (lv_at hl 0 rfl) ?_
  refine g_calli w (g_runV (As := [.long 502511173632]) (rest := []) S hE w hl (c_X5_has l D ar κ G sz (q + 11) 502511173632 (q + 12) (q + 13) f12 (by decide +kernel)) (k_RX8_477 S.2.2.2.2 ⟨Nat.le_of_ble_eq_true rfl, Nat.le_of_ble_eq_true rfl⟩) f12 rfl rfl rfl rfl (Nat.le_of_ble_eq_true rfl) dX8_hasGlobalsThere_26 ⟨Nat.le_of_ble_eq_true rfl, Nat.le_of_ble_eq_true rfl⟩) (fun r u H locs hp hnz w => ?_)
  obtain ⟨rfl, rfl⟩ := hp
  dsimp only at w
  refine lv_if_ne (tgt := 34) hx hb dX8_hasGlobalsThere_29 (by decide) (fun _ => ?_) (fun c => absurd c (by decide))
  refine lv_iinc (v := 2) (lv' := [(3, .int 2), (4, .long 502511173632), (2, .int 8), (1, .ref (q + 10)), (0, .ref x)]) hx hb dX8_hasGlobalsThere_34 hl (k := 1) rfl (by decide) (by decide) rfl (fun ls hl => ?_)
  refine lv_goto (tgt := 10) hx hb dX8_hasGlobalsThere_37 (by decide) ?_
  refine lv_iload_n hx hb dX8_hasGlobalsThere_10 rfl (lv_at hl 0 rfl) ?_
  refine lv_iload_n hx hb dX8_hasGlobalsThere_11 rfl (lv_at hl 2 rfl) ?_
  refine lv_icmp_ge (tgt := 40) hx hb dX8_hasGlobalsThere_12 (by decide) (fun c => absurd c (by decide)) (fun _ => ?_)
  refine lv_aload_n hx hb dX8_hasGlobalsThere_15 rfl (lv_at hl 3 rfl) ?_
  refine lv_iload_n hx hb dX8_hasGlobalsThere_16 rfl (lv_at hl 0 rfl) ?_
  refine va_lald hx hb hE.1 (g_1 w.1 f11) 0 1 rfl rfl (vp_in_nI (n := 2) (by decide) (by decide)) dX8_hasGlobalsThere_17 ?_
  rw [show (fillJ (fun _ => 0) 502511173632 8) (Int32.toNatClampNeg 2) = 502511173632 from (by decide +kernel)]
  refine lv_lstore (lv' := [(4, .long 502511173632), (3, .int 2), (2, .int 8), (1, .ref (q + 10)), (0, .ref x)]) hx hb dX8_hasGlobalsThere_18 hl (by decide) rfl (fun ls hl => ?_)
  refine lv_aload_n hx hb dX8_hasGlobalsThere_20 rfl (lv_at hl 4 rfl) ?_
  refine gf_RX8_40_12 S hE w f0 rfl dX8_hasGlobalsThere_21 ?_
  refine lv_lload hx hb dX8_hasGlobalsThere_24 (lv_at hl 0 rfl) ?_
  refine g_calli w (g_runV (As := [.long 502511173632]) (rest := []) S hE w hl (c_X5_has l D ar κ G sz (q + 11) 502511173632 (q + 12) (q + 13) f12 (by decide +kernel)) (k_RX8_477 S.2.2.2.2 ⟨Nat.le_of_ble_eq_true rfl, Nat.le_of_ble_eq_true rfl⟩) f12 rfl rfl rfl rfl (Nat.le_of_ble_eq_true rfl) dX8_hasGlobalsThere_26 ⟨Nat.le_of_ble_eq_true rfl, Nat.le_of_ble_eq_true rfl⟩) (fun r u H locs hp hnz w => ?_)
  obtain ⟨rfl, rfl⟩ := hp
  dsimp only at w
  refine lv_if_ne (tgt := 34) hx hb dX8_hasGlobalsThere_29 (by decide) (fun _ => ?_) (fun c => absurd c (by decide))
  refine lv_iinc (v := 3) (lv' := [(3, .int 3), (4, .long 502511173632), (2, .int 8), (1, .ref (q + 10)), (0, .ref x)]) hx hb dX8_hasGlobalsThere_34 hl (k := 1) rfl (by decide) (by decide) rfl (fun ls hl => ?_)
  refine lv_goto (tgt := 10) hx hb dX8_hasGlobalsThere_37 (by decide) ?_
  refine lv_iload_n hx hb dX8_hasGlobalsThere_10 rfl (lv_at hl 0 rfl) ?_
  refine lv_iload_n hx hb dX8_hasGlobalsThere_11 rfl (lv_at hl 2 rfl) ?_
  refine lv_icmp_ge (tgt := 40) hx hb dX8_hasGlobalsThere_12 (by decide) (fun c => absurd c (by decide)) (fun _ => ?_)
  refine lv_aload_n hx hb dX8_hasGlobalsThere_15 rfl (lv_at hl 3 rfl) ?_
  refine lv_iload_n hx hb dX8_hasGlobalsThere_16 rfl (lv_at hl 0 rfl) ?_
  refine va_lald hx hb hE.1 (g_1 w.1 f11) 0 1 rfl rfl (vp_in_nI (n := 3) (by decide) (by decide)) dX8_hasGlobalsThere_17 ?_
  rw [show (fillJ (fun _ => 0) 502511173632 8) (Int32.toNatClampNeg 3) = 502511173632 from (by decide +kernel)]
  refine lv_lstore (lv' := [(4, .long 502511173632), (3, .int 3), (2, .int 8), (1, .ref (q + 10)), (0, .ref x)]) hx hb dX8_hasGlobalsThere_18 hl (by decide) rfl (fun ls hl => ?_)
  refine lv_aload_n hx hb dX8_hasGlobalsThere_20 rfl (lv_at hl 4 rfl) ?_
  refine gf_RX8_40_12 S hE w f0 rfl dX8_hasGlobalsThere_21 ?_
  refine lv_lload hx hb dX8_hasGlobalsThere_24 (lv_at hl 0 rfl) ?_
  refine g_calli w (g_runV (As := [.long 502511173632]) (rest := []) S hE w hl (c_X5_has l D ar κ G sz (q + 11) 502511173632 (q + 12) (q + 13) f12 (by decide +kernel)) (k_RX8_477 S.2.2.2.2 ⟨Nat.le_of_ble_eq_true rfl, Nat.le_of_ble_eq_true rfl⟩) f12 rfl rfl rfl rfl (Nat.le_of_ble_eq_true rfl) dX8_hasGlobalsThere_26 ⟨Nat.le_of_ble_eq_true rfl, Nat.le_of_ble_eq_true rfl⟩) (fun r u H locs hp hnz w => ?_)
  obtain ⟨rfl, rfl⟩ := hp
  dsimp only at w
  refine lv_if_ne (tgt := 34) hx hb dX8_hasGlobalsThere_29 (by decide) (fun _ => ?_) (fun c => absurd c (by decide))
  refine lv_iinc (v := 4) (lv' := [(3, .int 4), (4, .long 502511173632), (2, .int 8), (1, .ref (q + 10)), (0, .ref x)]) hx hb dX8_hasGlobalsThere_34 hl (k := 1) rfl (by decide) (by decide) rfl (fun ls hl => ?_)
  refine lv_goto (tgt := 10) hx hb dX8_hasGlobalsThere_37 (by decide) ?_
  refine lv_iload_n hx hb dX8_hasGlobalsThere_10 rfl (lv_at hl 0 rfl) ?_
  refine lv_iload_n hx hb dX8_hasGlobalsThere_11 rfl (lv_at hl 2 rfl) ?_
  refine lv_icmp_ge (tgt := 40) hx hb dX8_hasGlobalsThere_12 (by decide) (fun c => absurd c (by decide)) (fun _ => ?_)
  refine lv_aload_n hx hb dX8_hasGlobalsThere_15 rfl (lv_at hl 3 rfl) ?_
  refine lv_iload_n hx hb dX8_hasGlobalsThere_16 rfl (lv_at hl 0 rfl) ?_
  refine va_lald hx hb hE.1 (g_1 w.1 f11) 0 1 rfl rfl (vp_in_nI (n := 4) (by decide) (by decide)) dX8_hasGlobalsThere_17 ?_
  rw [show (fillJ (fun _ => 0) 502511173632 8) (Int32.toNatClampNeg 4) = 502511173632 from (by decide +kernel)]
  refine lv_lstore (lv' := [(4, .long 502511173632), (3, .int 4), (2, .int 8), (1, .ref (q + 10)), (0, .ref x)]) hx hb dX8_hasGlobalsThere_18 hl (by decide) rfl (fun ls hl => ?_)
  refine lv_aload_n hx hb dX8_hasGlobalsThere_20 rfl (lv_at hl 4 rfl) ?_
  refine gf_RX8_40_12 S hE w f0 rfl dX8_hasGlobalsThere_21 ?_
  refine lv_lload hx hb dX8_hasGlobalsThere_24 (lv_at hl 0 rfl) ?_
  refine g_calli w (g_runV (As := [.long 502511173632]) (rest := []) S hE w hl (c_X5_has l D ar κ G sz (q + 11) 502511173632 (q + 12) (q + 13) f12 (by decide +kernel)) (k_RX8_477 S.2.2.2.2 ⟨Nat.le_of_ble_eq_true rfl, Nat.le_of_ble_eq_true rfl⟩) f12 rfl rfl rfl rfl (Nat.le_of_ble_eq_true rfl) dX8_hasGlobalsThere_26 ⟨Nat.le_of_ble_eq_true rfl, Nat.le_of_ble_eq_true rfl⟩) (fun r u H locs hp hnz w => ?_)
  obtain ⟨rfl, rfl⟩ := hp
  dsimp only at w
  refine lv_if_ne (tgt := 34) hx hb dX8_hasGlobalsThere_29 (by decide) (fun _ => ?_) (fun c => absurd c (by decide))
  refine lv_iinc (v := 5) (lv' := [(3, .int 5), (4, .long 502511173632), (2, .int 8), (1, .ref (q + 10)), (0, .ref x)]) hx hb dX8_hasGlobalsThere_34 hl (k := 1) rfl (by decide) (by decide) rfl (fun ls hl => ?_)
  refine lv_goto (tgt := 10) hx hb dX8_hasGlobalsThere_37 (by decide) ?_
  refine lv_iload_n hx hb dX8_hasGlobalsThere_10 rfl (lv_at hl 0 rfl) ?_
  refine lv_iload_n hx hb dX8_hasGlobalsThere_11 rfl (lv_at hl 2 rfl) ?_
  refine lv_icmp_ge (tgt := 40) hx hb dX8_hasGlobalsThere_12 (by decide) (fun c => absurd c (by decide)) (fun _ => ?_)
  refine lv_aload_n hx hb dX8_hasGlobalsThere_15 rfl (lv_at hl 3 rfl) ?_
  refine lv_iload_n hx hb dX8_hasGlobalsThere_16 rfl (lv_at hl 0 rfl) ?_
  refine va_lald hx hb hE.1 (g_1 w.1 f11) 0 1 rfl rfl (vp_in_nI (n := 5) (by decide) (by decide)) dX8_hasGlobalsThere_17 ?_
  rw [show (fillJ (fun _ => 0) 502511173632 8) (Int32.toNatClampNeg 5) = 502511173632 from (by decide +kernel)]
  refine lv_lstore (lv' := [(4, .long 502511173632), (3, .int 5), (2, .int 8), (1, .ref (q + 10)), (0, .ref x)]) hx hb dX8_hasGlobalsThere_18 hl (by decide) rfl (fun ls hl => ?_)
  refine lv_aload_n hx hb dX8_hasGlobalsThere_20 rfl (lv_at hl 4 rfl) ?_
  refine gf_RX8_40_12 S hE w f0 rfl dX8_hasGlobalsThere_21 ?_
  refine lv_lload hx hb dX8_hasGlobalsThere_24 (lv_at hl 0 rfl) ?_
  refine g_calli w (g_runV (As := [.long 502511173632]) (rest := []) S hE w hl (c_X5_has l D ar κ G sz (q + 11) 502511173632 (q + 12) (q + 13) f12 (by decide +kernel)) (k_RX8_477 S.2.2.2.2 ⟨Nat.le_of_ble_eq_true rfl, Nat.le_of_ble_eq_true rfl⟩) f12 rfl rfl rfl rfl (Nat.le_of_ble_eq_true rfl) dX8_hasGlobalsThere_26 ⟨Nat.le_of_ble_eq_true rfl, Nat.le_of_ble_eq_true rfl⟩) (fun r u H locs hp hnz w => ?_)
  obtain ⟨rfl, rfl⟩ := hp
  dsimp only at w
  refine lv_if_ne (tgt := 34) hx hb dX8_hasGlobalsThere_29 (by decide) (fun _ => ?_) (fun c => absurd c (by decide))
  refine lv_iinc (v := 6) (lv' := [(3, .int 6), (4, .long 502511173632), (2, .int 8), (1, .ref (q + 10)), (0, .ref x)]) hx hb dX8_hasGlobalsThere_34 hl (k := 1) rfl (by decide) (by decide) rfl (fun ls hl => ?_)
  refine lv_goto (tgt := 10) hx hb dX8_hasGlobalsThere_37 (by decide) ?_
  refine lv_iload_n hx hb dX8_hasGlobalsThere_10 rfl (lv_at hl 0 rfl) ?_
  refine lv_iload_n hx hb dX8_hasGlobalsThere_11 rfl (lv_at hl 2 rfl) ?_
  refine lv_icmp_ge (tgt := 40) hx hb dX8_hasGlobalsThere_12 (by decide) (fun c => absurd c (by decide)) (fun _ => ?_)
  refine lv_aload_n hx hb dX8_hasGlobalsThere_15 rfl (lv_at hl 3 rfl) ?_
  refine lv_iload_n hx hb dX8_hasGlobalsThere_16 rfl (lv_at hl 0 rfl) ?_
  refine va_lald hx hb hE.1 (g_1 w.1 f11) 0 1 rfl rfl (vp_in_nI (n := 6) (by decide) (by decide)) dX8_hasGlobalsThere_17 ?_
  rw [show (fillJ (fun _ => 0) 502511173632 8) (Int32.toNatClampNeg 6) = 502511173632 from (by decide +kernel)]
  refine lv_lstore (lv' := [(4, .long 502511173632), (3, .int 6), (2, .int 8), (1, .ref (q + 10)), (0, .ref x)]) hx hb dX8_hasGlobalsThere_18 hl (by decide) rfl (fun ls hl => ?_)
  refine lv_aload_n hx hb dX8_hasGlobalsThere_20 rfl (lv_at hl 4 rfl) ?_
  refine gf_RX8_40_12 S hE w f0 rfl dX8_hasGlobalsThere_21 ?_
  refine lv_lload hx hb dX8_hasGlobalsThere_24 (lv_at hl 0 rfl) ?_
  refine g_calli w (g_runV (As := [.long 502511173632]) (rest := []) S hE w hl (c_X5_has l D ar κ G sz (q + 11) 502511173632 (q + 12) (q + 13) f12 (by decide +kernel)) (k_RX8_477 S.2.2.2.2 ⟨Nat.le_of_ble_eq_true rfl, Nat.le_of_ble_eq_true rfl⟩) f12 rfl rfl rfl rfl (Nat.le_of_ble_eq_true rfl) dX8_hasGlobalsThere_26 ⟨Nat.le_of_ble_eq_true rfl, Nat.le_of_ble_eq_true rfl⟩) (fun r u H locs hp hnz w => ?_)
  obtain ⟨rfl, rfl⟩ := hp
  dsimp only at w
  refine lv_if_ne (tgt := 34) hx hb dX8_hasGlobalsThere_29 (by decide) (fun _ => ?_) (fun c => absurd c (by decide))
  refine lv_iinc (v := 7) (lv' := [(3, .int 7), (4, .long 502511173632), (2, .int 8), (1, .ref (q + 10)), (0, .ref x)]) hx hb dX8_hasGlobalsThere_34 hl (k := 1) rfl (by decide) (by decide) rfl (fun ls hl => ?_)
  refine lv_goto (tgt := 10) hx hb dX8_hasGlobalsThere_37 (by decide) ?_
  refine lv_iload_n hx hb dX8_hasGlobalsThere_10 rfl (lv_at hl 0 rfl) ?_
  refine lv_iload_n hx hb dX8_hasGlobalsThere_11 rfl (lv_at hl 2 rfl) ?_
  refine lv_icmp_ge (tgt := 40) hx hb dX8_hasGlobalsThere_12 (by decide) (fun c => absurd c (by decide)) (fun _ => ?_)
  refine lv_aload_n hx hb dX8_hasGlobalsThere_15 rfl (lv_at hl 3 rfl) ?_
  refine lv_iload_n hx hb dX8_hasGlobalsThere_16 rfl (lv_at hl 0 rfl) ?_
  refine va_lald hx hb hE.1 (g_1 w.1 f11) 0 1 rfl rfl (vp_in_nI (n := 7) (by decide) (by decide)) dX8_hasGlobalsThere_17 ?_
  rw [show (fillJ (fun _ => 0) 502511173632 8) (Int32.toNatClampNeg 7) = 502511173632 from (by decide +kernel)]
  refine lv_lstore (lv' := [(4, .long 502511173632), (3, .int 7), (2, .int 8), (1, .ref (q + 10)), (0, .ref x)]) hx hb dX8_hasGlobalsThere_18 hl (by decide) rfl (fun ls hl => ?_)
  refine lv_aload_n hx hb dX8_hasGlobalsThere_20 rfl (lv_at hl 4 rfl) ?_
  refine gf_RX8_40_12 S hE w f0 rfl dX8_hasGlobalsThere_21 ?_
  refine lv_lload hx hb dX8_hasGlobalsThere_24 (lv_at hl 0 rfl) ?_
  refine g_calli w (g_runV (As := [.long 502511173632]) (rest := []) S hE w hl (c_X5_has l D ar κ G sz (q + 11) 502511173632 (q + 12) (q + 13) f12 (by decide +kernel)) (k_RX8_477 S.2.2.2.2 ⟨Nat.le_of_ble_eq_true rfl, Nat.le_of_ble_eq_true rfl⟩) f12 rfl rfl rfl rfl (Nat.le_of_ble_eq_true rfl) dX8_hasGlobalsThere_26 ⟨Nat.le_of_ble_eq_true rfl, Nat.le_of_ble_eq_true rfl⟩) (fun r u H locs hp hnz w => ?_)
  obtain ⟨rfl, rfl⟩ := hp
  dsimp only at w
  refine lv_if_ne (tgt := 34) hx hb dX8_hasGlobalsThere_29 (by decide) (fun _ => ?_) (fun c => absurd c (by decide))
  refine lv_iinc (v := 8) (lv' := [(3, .int 8), (4, .long 502511173632), (2, .int 8), (1, .ref (q + 10)), (0, .ref x)]) hx hb dX8_hasGlobalsThere_34 hl (k := 1) rfl (by decide) (by decide) rfl (fun ls hl => ?_)
  refine lv_goto (tgt := 10) hx hb dX8_hasGlobalsThere_37 (by decide) ?_
  refine lv_iload_n hx hb dX8_hasGlobalsThere_10 rfl (lv_at hl 0 rfl) ?_
  refine lv_iload_n hx hb dX8_hasGlobalsThere_11 rfl (lv_at hl 2 rfl) ?_
  refine lv_icmp_ge (tgt := 40) hx hb dX8_hasGlobalsThere_12 (by decide) (fun _ => ?_) (fun c => absurd (by decide) c)
  refine lv_iconst (v := 1) hx hb dX8_hasGlobalsThere_40 (by decide) ?_
  exact g_zret hx hb hr hlk w (Nat.le_of_ble_eq_true rfl) (Nat.le_of_ble_eq_true rfl) dX8_hasGlobalsThere_41 rfl ⟨rfl, rfl⟩
set_option maxHeartbeats 4000000 in
set_option maxRecDepth 100000 in
theorem h_hasFramesThere (l : Launch) (D : va_G) (ar : Nat → ClassId) (κ : Nat → Nat) (G : gW) (sz : Nat) (x : Nat) (q : Nat) (hF : FH ar κ G x q) : Met l yX8_hasFramesThere (lwC yX8_hasFramesThere cX8_hasFramesThere 3 (some .boolean)) (rD 2 0 0) (g_Pc D vwCl (gT ar) (EX1 κ) G sz [.ref x]) (g_Qi D vwCl (g_A G sz) (fun r u => r = 1 ∧ u = (G, sz))) 0 0 (g_A G sz) := by
  refine g_ofW (by decide +kernel) (Nat.le_of_ble_eq_true rfl) ?_
  intro p e s m below meth c ls S hr hlk hin hE w hl
  have hx := S.1
  have hb := S.2.1
  have hl : lv_has ls 3 [(0, .ref x)] := hl
  obtain ⟨hxq, f0, f1, f2, f3, f4, f5, f6, f7, f8, f9, f10, f11, f12, f13, f14, f15, f16, f17, f18, f19⟩ := id hF
  refine lv_iconst (v := 0) hx hb dX8_hasFramesThere_0 (by decide) ?_
  refine lv_istore_n (lv' := [(1, .int 0), (0, .ref x)]) hx hb dX8_hasFramesThere_1 rfl hl (by decide) rfl (fun ls hl => ?_)
  refine lv_iload_n hx hb dX8_hasFramesThere_2 rfl (lv_at hl 0 rfl) ?_
  refine lv_aload_n hx hb dX8_hasFramesThere_3 rfl (lv_at hl 1 rfl) ?_
  refine gf_RX8_50_12 S hE w f0 rfl dX8_hasFramesThere_4 ?_
  refine lv_icmp_ge (tgt := 36) hx hb dX8_hasFramesThere_7 (by decide) (fun _ => ?_) (fun c => absurd (by decide) c)
  refine lv_iconst (v := 1) hx hb dX8_hasFramesThere_36 (by decide) ?_
  exact g_zret hx hb hr hlk w (Nat.le_of_ble_eq_true rfl) (Nat.le_of_ble_eq_true rfl) dX8_hasFramesThere_37 rfl ⟨rfl, rfl⟩
set_option maxHeartbeats 4000000 in
set_option maxRecDepth 100000 in
theorem h_hasDepthAsTold (l : Launch) (D : va_G) (ar : Nat → ClassId) (κ : Nat → Nat) (G : gW) (sz : Nat) (x : Nat) (q : Nat) (hF : FH ar κ G x q) : Met l yX8_hasDepthAsTold (lwC yX8_hasDepthAsTold cX8_hasDepthAsTold 2 (some .boolean)) (rD 2 0 0) (g_Pc D vwCl (gT ar) (EX1 κ) G sz [.ref x]) (g_Qi D vwCl (g_A G sz) (fun r u => r = 1 ∧ u = (G, sz))) 0 0 (g_A G sz) := by
  refine g_ofW (by decide +kernel) (Nat.le_of_ble_eq_true rfl) ?_
  intro p e s m below meth c ls S hr hlk hin hE w hl
  have hx := S.1
  have hb := S.2.1
  have hl : lv_has ls 2 [(0, .ref x)] := hl
  obtain ⟨hxq, f0, f1, f2, f3, f4, f5, f6, f7, f8, f9, f10, f11, f12, f13, f14, f15, f16, f17, f18, f19⟩ := id hF
  refine lv_aload_n hx hb dX8_hasDepthAsTold_0 rfl (lv_at hl 0 rfl) ?_
  refine gf_RX8_50_12 S hE w f0 rfl dX8_hasDepthAsTold_1 ?_
  refine lv_if_ne (tgt := 9) hx hb dX8_hasDepthAsTold_4 (by decide) (fun c => absurd (by decide) c) (fun _ => ?_)
  refine lv_iconst (v := 1) hx hb dX8_hasDepthAsTold_7 (by decide) ?_
  exact g_zret hx hb hr hlk w (Nat.le_of_ble_eq_true rfl) (Nat.le_of_ble_eq_true rfl) dX8_hasDepthAsTold_8 rfl ⟨rfl, rfl⟩
set_option maxHeartbeats 4000000 in
set_option maxRecDepth 100000 in
theorem h_isSound (l : Launch) (D : va_G) (ar : Nat → ClassId) (κ : Nat → Nat) (G : gW) (sz : Nat) (x : Nat) (q : Nat) (hF : FH ar κ G x q) : Met l yX8_isSound (lwC yX8_isSound cX8_isSound 1 (some .boolean)) (rD 6 0 0) (g_Pc D vwCl (gT ar) (EX1 κ) G sz [.ref x]) (g_Qi D vwCl (g_A G sz) (fun r u => r = 1)) 0 0 (g_A G sz) := by
  refine g_ofW (by decide +kernel) (Nat.le_of_ble_eq_true rfl) ?_
  intro p e s m below meth c ls S hr hlk hin hE w hl
  have hx := S.1
  have hb := S.2.1
  have hl : lv_has ls 1 [(0, .ref x)] := hl
  obtain ⟨hxq, f0, f1, f2, f3, f4, f5, f6, f7, f8, f9, f10, f11, f12, f13, f14, f15, f16, f17, f18, f19⟩ := id hF
  refine lv_aload_n hx hb dX8_isSound_0 rfl (lv_at hl 0 rfl) ?_
  refine gf_RX8_40_12 S hE w f0 rfl dX8_isSound_1 ?_
  refine gf_RX8_207_9 S hE w f12 rfl dX8_isSound_4 ?_
  refine lv_bipush (v := 60) hx hb dX8_isSound_7 (by decide) ?_
  refine lv_icmp_gt (tgt := 21) hx hb dX8_isSound_9 (by decide) (fun c => absurd c (by decide)) (fun _ => ?_)
  refine lv_aload_n hx hb dX8_isSound_12 rfl (lv_at hl 0 rfl) ?_
  refine gf_RX8_50_12 S hE w f0 rfl dX8_isSound_13 ?_
  refine lv_bipush (v := 12) hx hb dX8_isSound_16 (by decide) ?_
  refine lv_icmp_le (tgt := 23) hx hb dX8_isSound_18 (by decide) (fun _ => ?_) (fun c => absurd (by decide) c)
  refine lv_aload_n hx hb dX8_isSound_23 rfl (lv_at hl 0 rfl) ?_
  refine gf_RX8_53_12 S hE w f0 rfl dX8_isSound_24 ?_
  refine lv_bipush (v := 114) hx hb dX8_isSound_27 (by decide) ?_
  refine lv_icmp_ne (tgt := 48) hx hb dX8_isSound_29 (by decide) (fun _ => ?_) (fun c => absurd c (by decide))
  refine lv_aload_n hx hb dX8_isSound_48 rfl (lv_at hl 0 rfl) ?_
  refine g_calli w (g_runV (As := []) (rest := []) S hE w hl (h_hasGlobalsThere l D ar κ G sz x q hF) (k_RX8_479 S.2.2.2.2 ⟨Nat.le_of_ble_eq_true rfl, Nat.le_of_ble_eq_true rfl⟩) f0 rfl rfl rfl rfl (Nat.le_of_ble_eq_true rfl) dX8_isSound_49 ⟨Nat.le_of_ble_eq_true rfl, Nat.le_of_ble_eq_true rfl⟩) (fun r u H locs hp hnz w => ?_)
  obtain ⟨rfl, rfl⟩ := hp
  dsimp only at w
  refine lv_if_eq (tgt := 83) hx hb dX8_isSound_52 (by decide) (fun c => absurd c (by decide)) (fun _ => ?_)
  refine lv_aload_n hx hb dX8_isSound_55 rfl (lv_at hl 0 rfl) ?_
  refine gf_RX8_40_12 S hE w f0 rfl dX8_isSound_56 ?_
  refine g_calli w (g_runV (As := []) (rest := []) S hE w hl (c_X5_hasFieldsThere l D ar κ G sz (q + 11) (q + 12) (q + 13) f12) (k_RX8_482 S.2.2.2.2 ⟨Nat.le_of_ble_eq_true rfl, Nat.le_of_ble_eq_true rfl⟩) f12 rfl rfl rfl rfl (Nat.le_of_ble_eq_true rfl) dX8_isSound_59 ⟨Nat.le_of_ble_eq_true rfl, Nat.le_of_ble_eq_true rfl⟩) (fun r u H locs hp hnz w => ?_)
  obtain ⟨rfl, rfl⟩ := hp
  dsimp only at w
  refine lv_if_eq (tgt := 83) hx hb dX8_isSound_62 (by decide) (fun c => absurd c (by decide)) (fun _ => ?_)
  refine lv_aload_n hx hb dX8_isSound_65 rfl (lv_at hl 0 rfl) ?_
  refine g_calli w (g_runV (As := []) (rest := []) S hE w hl (h_hasFramesThere l D ar κ G sz x q hF) (k_RX8_485 S.2.2.2.2 ⟨Nat.le_of_ble_eq_true rfl, Nat.le_of_ble_eq_true rfl⟩) f0 rfl rfl rfl rfl (Nat.le_of_ble_eq_true rfl) dX8_isSound_66 ⟨Nat.le_of_ble_eq_true rfl, Nat.le_of_ble_eq_true rfl⟩) (fun r u H locs hp hnz w => ?_)
  obtain ⟨rfl, rfl⟩ := hp
  dsimp only at w
  refine lv_if_eq (tgt := 83) hx hb dX8_isSound_69 (by decide) (fun c => absurd c (by decide)) (fun _ => ?_)
  refine lv_aload_n hx hb dX8_isSound_72 rfl (lv_at hl 0 rfl) ?_
  refine g_calli w (g_runV (As := []) (rest := []) S hE w hl (h_hasDepthAsTold l D ar κ G sz x q hF) (k_RX8_488 S.2.2.2.2 ⟨Nat.le_of_ble_eq_true rfl, Nat.le_of_ble_eq_true rfl⟩) f0 rfl rfl rfl rfl (Nat.le_of_ble_eq_true rfl) dX8_isSound_73 ⟨Nat.le_of_ble_eq_true rfl, Nat.le_of_ble_eq_true rfl⟩) (fun r u H locs hp hnz w => ?_)
  obtain ⟨rfl, rfl⟩ := hp
  dsimp only at w
  refine lv_if_eq (tgt := 83) hx hb dX8_isSound_76 (by decide) (fun c => absurd c (by decide)) (fun _ => ?_)
  refine lv_iconst (v := 1) hx hb dX8_isSound_79 (by decide) ?_
  refine lv_goto (tgt := 84) hx hb dX8_isSound_80 (by decide) ?_
  exact g_zret hx hb hr hlk w (Nat.le_of_ble_eq_true rfl) (Nat.le_of_ble_eq_true rfl) dX8_isSound_84 rfl rfl
set_option maxHeartbeats 4000000 in
set_option maxRecDepth 100000 in
theorem c_X6_init (l : Launch) (D : va_G) (ar : Nat → ClassId) (κ : Nat → Nat) (G : gW) (sz : Nat) (o : Nat) (i1 : Int32) (i2 : Int32) (i3 : Int32) (i4 : Int32) (rr : Nat) (ho : G o = some (.inr (10, [.int 0, .int 0, .int 0, .int 0, .null, .int 0, .int 0]))) : Met l yX6_init (lwC yX6_init cX6_init 6 none) (rD 2 0 0) (g_Pc D vwCl (gT ar) (EX1 κ) G sz [.ref o, .int i1, .int i2, .int i3, .int i4, .ref rr]) (g_Qv D vwCl (g_A G sz) (fun u => u = ((g_up G o (.inr (10, [.int i1, .int i2, .int i3, .int i4, .ref rr, .int 0, .int 0]))), sz))) 0 0 (g_A G sz) := by
  refine g_ofW (by decide +kernel) (Nat.le_of_ble_eq_true rfl) ?_
  intro p e s m below meth c ls S hr hlk hin hE w hl
  have hx := S.1
  have hb := S.2.1
  have hl : lv_has ls 6 [(0, .ref o), (1, .int i1), (2, .int i2), (3, .int i3), (4, .int i4), (5, .ref rr)] := hl
  have lt_ho : o < sz := g_ltn w ho
  refine lv_aload_n hx hb dX6_init_0 rfl (lv_at hl 0 rfl) ?_
  refine W.objInit hx hb S.2.2.2.1 (S.2.2.2.2 _ m_3_167) (S.2.2.2.2 _ m_1_47) (S.2.2.2.2 _ m_obj) rfl (by rw [S.2.2.1]; exact hl.1) rfl dX6_init_1 (Nat.le_of_ble_eq_true rfl) (Nat.le_of_ble_eq_true rfl) ?_
  refine W.eq (g2 := F0 m 4 ls []) rfl ?_
  refine lv_aload_n hx hb dX6_init_4 rfl (lv_at hl 0 rfl) ?_
  refine lv_iconst (v := 0) hx hb dX6_init_5 (by decide) ?_
  refine pf_RX6_9_10 (fs1 := [.int 0, .int 0, .int 0, .int 0, .null, .int 0, .int 0]) S hE w ho rfl rfl (Nat.le_of_ble_eq_true rfl) rfl dX6_init_6 (fun H locs w => ?_)
  refine lv_aload_n hx hb dX6_init_9 rfl (lv_at hl 0 rfl) ?_
  refine lv_iconst (v := 0) hx hb dX6_init_10 (by decide) ?_
  refine pf_RX6_15_10 (fs1 := [.int 0, .int 0, .int 0, .int 0, .null, .int 0, .int 0]) S hE w g_up_s rfl rfl (Nat.le_of_ble_eq_true rfl) rfl dX6_init_11 (fun H locs w => ?_)
  have w := g_eqw w g_over
  refine lv_aload_n hx hb dX6_init_14 rfl (lv_at hl 0 rfl) ?_
  refine lv_iload_n hx hb dX6_init_15 rfl (lv_at hl 1 rfl) ?_
  refine pf_RX6_19_10 (fs1 := [.int i1, .int 0, .int 0, .int 0, .null, .int 0, .int 0]) S hE hin w g_up_s rfl rfl (Nat.le_of_ble_eq_true rfl) rfl dX6_init_16 (fun H locs w => ?_)
  have w := g_eqw w g_over
  refine lv_aload_n hx hb dX6_init_19 rfl (lv_at hl 0 rfl) ?_
  refine lv_iload_n hx hb dX6_init_20 rfl (lv_at hl 2 rfl) ?_
  refine pf_RX6_22_10 (fs1 := [.int i1, .int i2, .int 0, .int 0, .null, .int 0, .int 0]) S hE hin w g_up_s rfl rfl (Nat.le_of_ble_eq_true rfl) rfl dX6_init_21 (fun H locs w => ?_)
  have w := g_eqw w g_over
  refine lv_aload_n hx hb dX6_init_24 rfl (lv_at hl 0 rfl) ?_
  refine lv_iload_n hx hb dX6_init_25 rfl (lv_at hl 3 rfl) ?_
  refine pf_RX6_25_10 (fs1 := [.int i1, .int i2, .int i3, .int 0, .null, .int 0, .int 0]) S hE hin w g_up_s rfl rfl (Nat.le_of_ble_eq_true rfl) rfl dX6_init_26 (fun H locs w => ?_)
  have w := g_eqw w g_over
  refine lv_aload_n hx hb dX6_init_29 rfl (lv_at hl 0 rfl) ?_
  refine lv_iload hx hb dX6_init_30 (lv_at hl 4 rfl) ?_
  refine pf_RX6_28_10 (fs1 := [.int i1, .int i2, .int i3, .int i4, .null, .int 0, .int 0]) S hE hin w g_up_s rfl rfl (Nat.le_of_ble_eq_true rfl) rfl dX6_init_32 (fun H locs w => ?_)
  have w := g_eqw w g_over
  refine lv_aload_n hx hb dX6_init_35 rfl (lv_at hl 0 rfl) ?_
  refine lv_aload hx hb dX6_init_36 (lv_at hl 5 rfl) ?_
  refine pf_RX6_31_10 (fs1 := [.int i1, .int i2, .int i3, .int i4, .ref rr, .int 0, .int 0]) S hE hin w g_up_s rfl rfl (Nat.le_of_ble_eq_true rfl) rfl dX6_init_38 (fun H locs w => ?_)
  have w := g_eqw w g_over
  exact g_vret hx hb hr hlk w (Nat.le_of_ble_eq_true rfl) (Nat.le_of_ble_eq_true rfl) dX6_init_41 rfl
def fillI (f : Nat → Int32) (v : Int32) (i : Nat) : Nat → Int32 := fun k => if k < i then v else f k
theorem fillI_0 {f : Nat → Int32} {v : Int32} : fillI f v 0 = f := by funext k; simp [fillI]
theorem fillI_s {f : Nat → Int32} {v : Int32} {i : Nat} (h : i < 2 ^ 31) : upd (fillI f v i) (nI i).toNatClampNeg v = fillI f v (i + 1) := by
  funext k
  rw [nI_clamp h]
  unfold fillI upd
  by_cases h1 : k = i
  · simp [h1]
  · by_cases h2 : k < i
    · have h3 : k < i + 1 := by omega
      simp [h1, h2, h3]
    · have h3 : ¬ k < i + 1 := by omega
      simp [h1, h2, h3]
set_option maxHeartbeats 4000000 in
set_option maxRecDepth 100000 in
theorem c_fillI (l : Launch) (D : va_G) (ar : Nat → ClassId) (κ : Nat → Nat) (G : gW) (sz : Nat) (a : Nat) (v : Int32) (n : Nat) (f : Nat → Int32) (ha : G a = some (.inl (ar 0, n, .inl f))) (hn : n < 2 ^ 31) : Met l yJ7_fill_53178 (lwC yJ7_fill_53178 cJ7_fill_53178 4 none) (rD 1 0 0) (g_Pc D vwCl (gT ar) (EX1 κ) G sz [.ref a, .int v]) (g_Qv D vwCl (g_A G sz) (fun u => u = (g_up G a (.inl (ar 0, n, .inl (fillI f v n))), sz))) 0 0 (g_A G sz) := by
  refine g_ofW (by decide +kernel) (Nat.le_of_ble_eq_true rfl) ?_
  intro p e s m below meth c ls S hr hlk hin hE w hl
  have hx := S.1
  have hb := S.2.1
  have hl : lv_has ls 4 [(0, .ref a), (1, .int v)] := hl
  refine lv_iconst (v := 0) hx hb dJ7_fill_53178_0 (by decide) ?_
  refine lv_istore_n (lv' := [(2, .int 0), (0, .ref a), (1, .int v)]) hx hb dJ7_fill_53178_1 rfl hl (by decide) rfl (fun ls hl => ?_)
  refine lv_aload_n hx hb dJ7_fill_53178_2 rfl (lv_at hl 1 rfl) ?_
  refine va_alen (v := Int32.ofNat n) hx hb hE.1 (g_1 w.1 ha) 0 0 rfl rfl rfl dJ7_fill_53178_3 ?_
  refine lv_istore_n (lv' := [(3, .int (Int32.ofNat n)), (2, .int 0), (0, .ref a), (1, .int v)]) hx hb dJ7_fill_53178_4 rfl hl (by decide) rfl (fun ls hl => ?_)
  have key : ∀ (n9 i : Nat), i ≤ n → n + 1 ≤ i + n9 → ∀ (x9 : Int32), x9 = nI i → ∀ (H : Heap) (locs : List Loc) (ls : Array Slot), g_S D vwCl (g_A G sz) s.heap ((g_up G a (.inl (ar 0, n, .inl (fillI f v i))))) H locs (sz) → lv_has ls 4 [(2, .int x9), (3, .int (Int32.ofNat n)), (0, .ref a), (1, .int v)] → W p l e (rD 1 0 0) s m ([.ref a, .int v] : List Value).toArray below meth c H locs (0) (0) (MQ below (g_Qv D vwCl (g_A G sz) (fun u => u = (g_up G a (.inl (ar 0, n, .inl (fillI f v n))), sz))) ([.ref a, .int v] : List Value).toArray s 0 0 (g_A G sz)) (F0 m 5 ls []) := by
    intro n9
    induction n9 with
    | zero => intro i hi1 hi2; exact absurd hi2 (by omega)
    | succ n9 ih =>
      intro i hi1 hi2 x9 ex9 H locs ls w hl
      refine lv_iload_n hx hb dJ7_fill_53178_5 rfl (lv_at hl 0 rfl) ?_
      refine lv_iload_n hx hb dJ7_fill_53178_6 rfl (lv_at hl 1 rfl) ?_
      refine lv_icmp_ge (tgt := 20) hx hb dJ7_fill_53178_7 (by decide) (fun c_7 => ?_) (fun c_7 => ?_)
      · have hin9 := lp_eq rfl ex9 hi1 hn c_7
        exact g_vret hx hb hr hlk w (by (try dsimp only [rD]); omega) (by (try dsimp only [rD]); omega) dJ7_fill_53178_20 (by rw [hin9])
      · have hlt9 := lp_lt rfl ex9 hi1 hn c_7
        refine lv_aload_n hx hb dJ7_fill_53178_10 rfl (lv_at hl 2 rfl) ?_
        refine lv_iload_n hx hb dJ7_fill_53178_11 rfl (lv_at hl 0 rfl) ?_
        refine lv_iload_n hx hb dJ7_fill_53178_12 rfl (lv_at hl 3 rfl) ?_
        refine g_iast hx hb hE.1 w 0 g_up_s rfl (by rw [ex9]; exact vp_in_nI (by omega) hn) dJ7_fill_53178_13 (fun H locs w => ?_)
        have w := g_eqw w g_over
        refine lv_iinc (v := x9 + 1) (lv' := [(2, .int (x9 + 1)), (3, .int (Int32.ofNat n)), (0, .ref a), (1, .int v)]) hx hb dJ7_fill_53178_14 hl (k := 0) rfl rfl (by decide) rfl (fun ls hl => ?_)
        refine lv_goto (tgt := 5) hx hb dJ7_fill_53178_17 (by decide) ?_
        exact ih (i + 1) (by omega) (by omega) _ (by rw [ex9]; exact nI_1 i) _ _ _ (by rw [ex9, fillI_s (by omega)] at w; exact w) (lv_sub hl [0, 1, 2, 3] rfl)
  exact key (n + 1) 0 (Nat.zero_le _) (by omega) 0 rfl _ _ _ (g_eqw w (by rw [fillI_0]; exact (g_id ha).symm)) (lv_sub hl [1, 0, 2, 3] rfl)
set_option maxHeartbeats 4000000 in
set_option maxRecDepth 100000 in
theorem c_X3_comeTo (l : Launch) (D : va_G) (ar : Nat → ClassId) (κ : Nat → Nat) (G : gW) (sz : Nat) (o : Nat) (i : Int32) (j : Int32) (a1 : Nat) (a2 : Nat) (a3 : Nat) (a4 : Nat) (a5 : Nat) (k2 : Int32) (ho : G o = some (.inr (7, [.ref a1, .ref a2, .ref a3, .ref a4, .ref a5, .int 0, .int k2]))) : Met l yX3_comeTo (lwC yX3_comeTo cX3_comeTo 3 (some .boolean)) (rD 3 0 0) (g_Pc D vwCl (gT ar) (EX1 κ) G sz [.ref o, .int i, .int j]) (g_Qi D vwCl (g_A G sz) (fun r u => r = 0 ∧ u = (G, sz))) 0 0 (g_A G sz) := by
  refine g_ofW (by decide +kernel) (Nat.le_of_ble_eq_true rfl) ?_
  intro p e s m below meth c ls S hr hlk hin hE w hl
  have hx := S.1
  have hb := S.2.1
  have hl : lv_has ls 3 [(0, .ref o), (1, .int i), (2, .int j)] := hl
  have lt_ho : o < sz := g_ltn w ho
  refine lv_iload_n hx hb dX3_comeTo_0 rfl (lv_at hl 1 rfl) ?_
  refine lv_aload_n hx hb dX3_comeTo_1 rfl (lv_at hl 0 rfl) ?_
  refine gf_RX3_28_7 S hE w ho rfl dX3_comeTo_2 ?_
  refine g_calli w (g_runSN (As := [.int i, .int 0]) (rest := []) S hE w hl (c_X8_isBelow l D ar κ G sz i 0) (k_RX3_35 S.2.2.2.2 (hE.2.1.1 _ (ckN_0 _ (List.mem_of_getElem? (i := 34) rfl))) ⟨Nat.le_of_ble_eq_true rfl, Nat.le_of_ble_eq_true rfl⟩) rfl rfl (Nat.le_of_ble_eq_true rfl) dX3_comeTo_5 ⟨Nat.le_of_ble_eq_true rfl, Nat.le_of_ble_eq_true rfl⟩) (fun r u H locs hp hnz w => ?_)
  obtain ⟨rfl, rfl⟩ := hp
  rw [show (isB i 0 : Int32) = 0 from isB_z]
  dsimp only at w
  refine lv_if_eq (tgt := 26) hx hb dX3_comeTo_8 (by decide) (fun _ => ?_) (fun c => absurd (by decide) c)
  refine lv_iconst (v := 0) hx hb dX3_comeTo_26 (by decide) ?_
  exact g_zret hx hb hr hlk w (Nat.le_of_ble_eq_true rfl) (Nat.le_of_ble_eq_true rfl) dX3_comeTo_27 rfl ⟨rfl, rfl⟩
set_option maxHeartbeats 4000000 in
set_option maxRecDepth 100000 in
theorem c_X3_comeToFirst (l : Launch) (D : va_G) (ar : Nat → ClassId) (κ : Nat → Nat) (G : gW) (sz : Nat) (o : Nat) (a1 : Nat) (a2 : Nat) (a3 : Nat) (a4 : Nat) (a5 : Nat) (k2 : Int32) (f4 : Nat → Int32) (ho : G o = some (.inr (7, [.ref a1, .ref a2, .ref a3, .ref a4, .ref a5, .int 0, .int k2]))) (h4 : G a4 = some (.inl (ar 0, 24, .inl f4))) : Met l yX3_comeToFirst (lwC yX3_comeToFirst cX3_comeToFirst 1 (some .boolean)) (rD 4 0 0) (g_Pc D vwCl (gT ar) (EX1 κ) G sz [.ref o]) (g_Qi D vwCl (g_A G sz) (fun r u => r = 0 ∧ u = ((g_up (g_up G a4 (.inl (ar 0, 24, .inl (fillI f4 (-1) 24)))) o (.inr (7, [.ref a1, .ref a2, .ref a3, .ref a4, .ref a5, .int 0, .int 0]))), sz))) 0 0 (g_A G sz) := by
  refine g_ofW (by decide +kernel) (Nat.le_of_ble_eq_true rfl) ?_
  intro p e s m below meth c ls S hr hlk hin hE w hl
  have hx := S.1
  have hb := S.2.1
  have hl : lv_has ls 1 [(0, .ref o)] := hl
  have lt_ho : o < sz := g_ltn w ho
  have lt_h4 : a4 < sz := g_ltn w h4
  refine lv_aload_n hx hb dX3_comeToFirst_0 rfl (lv_at hl 0 rfl) ?_
  refine gf_RX3_22_7 S hE w ho rfl dX3_comeToFirst_1 ?_
  refine lv_iconst (v := (-1)) hx hb dX3_comeToFirst_4 (by decide) ?_
  refine g_callv w (g_runS (As := [.ref a4, .int (-1)]) (rest := []) S hE w hl (c_fillI l D ar κ G sz a4 (-1) 24 f4 h4 (by decide)) (k_RX3_39 S.2.2.2.2 ⟨Nat.le_of_ble_eq_true rfl, Nat.le_of_ble_eq_true rfl⟩) rfl rfl (Nat.le_of_ble_eq_true rfl) dX3_comeToFirst_5 ⟨Nat.le_of_ble_eq_true rfl, Nat.le_of_ble_eq_true rfl⟩) (fun u H locs hp hnz w => ?_)
  obtain rfl := hp
  dsimp only at w
  refine lv_aload_n hx hb dX3_comeToFirst_8 rfl (lv_at hl 0 rfl) ?_
  refine lv_iconst (v := 0) hx hb dX3_comeToFirst_9 (by decide) ?_
  refine pf_RX3_32_7 (fs1 := [.ref a1, .ref a2, .ref a3, .ref a4, .ref a5, .int 0, .int 0]) S hE w (g_up_o (g_nx ho h4 (by simp)) ho) rfl rfl (Nat.le_of_ble_eq_true rfl) rfl dX3_comeToFirst_10 (fun H locs w => ?_)
  refine lv_aload_n hx hb dX3_comeToFirst_13 rfl (lv_at hl 0 rfl) ?_
  refine lv_iconst (v := 0) hx hb dX3_comeToFirst_14 (by decide) ?_
  refine lv_iconst (v := 0) hx hb dX3_comeToFirst_15 (by decide) ?_
  refine g_calli w (g_runV (As := [.int 0, .int 0]) (rest := []) S hE w hl (c_X3_comeTo l D ar κ (g_up (g_up G a4 (.inl (ar 0, 24, .inl (fillI f4 (-1) 24)))) o (.inr (7, [.ref a1, .ref a2, .ref a3, .ref a4, .ref a5, .int 0, .int 0]))) sz o 0 0 a1 a2 a3 a4 a5 0 g_up_s) (k_RX3_45 S.2.2.2.2 ⟨Nat.le_of_ble_eq_true rfl, Nat.le_of_ble_eq_true rfl⟩) g_up_s rfl rfl rfl rfl (Nat.le_of_ble_eq_true rfl) dX3_comeToFirst_16 ⟨Nat.le_of_ble_eq_true rfl, Nat.le_of_ble_eq_true rfl⟩) (fun r u H locs hp hnz w => ?_)
  obtain ⟨rfl, rfl⟩ := hp
  dsimp only at w
  exact g_zret hx hb hr hlk w (Nat.le_of_ble_eq_true rfl) (Nat.le_of_ble_eq_true rfl) dX3_comeToFirst_19 rfl ⟨rfl, rfl⟩
set_option maxHeartbeats 4000000 in
set_option maxRecDepth 100000 in
theorem c_X6_isWellTold (l : Launch) (D : va_G) (ar : Nat → ClassId) (κ : Nat → Nat) (G : gW) (sz : Nat) (o : Nat) (cc1 : Nat) (i1 : Int32) (i2 : Int32) (i3 : Int32) (i4 : Int32) (rr : Nat) (a1 : Nat) (a2 : Nat) (a3 : Nat) (a4 : Nat) (a5 : Nat) (k2 : Int32) (f4 : Nat → Int32) (ho : G o = some (.inr (10, [.int i1, .int i2, .int i3, .int i4, .ref rr, .int 0, .int 0]))) (hr0 : G rr = some (.inr (7, [.ref a1, .ref a2, .ref a3, .ref a4, .ref a5, .int 0, .int k2]))) (h4 : G a4 = some (.inl (ar 0, 24, .inl f4))) : Met l yX6_isWellTold (lwC yX6_isWellTold cX6_isWellTold 4 (some .boolean)) (rD 5 0 0) (g_Pc D vwCl (gT ar) (EX1 κ) G sz [.ref o, .ref cc1]) (g_Qi D vwCl (g_A G sz) (fun r u => r = 0 ∧ u = ((g_up (g_up G a4 (.inl (ar 0, 24, .inl (fillI f4 (-1) 24)))) rr (.inr (7, [.ref a1, .ref a2, .ref a3, .ref a4, .ref a5, .int 0, .int 0]))), sz))) 0 0 (g_A G sz) := by
  refine g_ofW (by decide +kernel) (Nat.le_of_ble_eq_true rfl) ?_
  intro p e s m below meth c ls S hr hlk hin hE w hl
  have hx := S.1
  have hb := S.2.1
  have hl : lv_has ls 4 [(0, .ref o), (1, .ref cc1)] := hl
  have lt_ho : o < sz := g_ltn w ho
  have lt_hr0 : rr < sz := g_ltn w hr0
  have lt_h4 : a4 < sz := g_ltn w h4
  refine lv_aload_n hx hb dX6_isWellTold_0 rfl (lv_at hl 0 rfl) ?_
  refine gf_RX6_31_10 S hE w ho rfl dX6_isWellTold_1 ?_
  refine g_calli w (g_runV (As := []) (rest := []) S hE w hl (c_X3_comeToFirst l D ar κ G sz rr a1 a2 a3 a4 a5 k2 f4 hr0 h4) (k_RX6_35 S.2.2.2.2 ⟨Nat.le_of_ble_eq_true rfl, Nat.le_of_ble_eq_true rfl⟩) hr0 rfl rfl rfl rfl (Nat.le_of_ble_eq_true rfl) dX6_isWellTold_4 ⟨Nat.le_of_ble_eq_true rfl, Nat.le_of_ble_eq_true rfl⟩) (fun r u H locs hp hnz w => ?_)
  obtain ⟨rfl, rfl⟩ := hp
  dsimp only at w
  refine lv_if_ne (tgt := 12) hx hb dX6_isWellTold_7 (by decide) (fun c => absurd (by decide) c) (fun _ => ?_)
  refine lv_iconst (v := 0) hx hb dX6_isWellTold_10 (by decide) ?_
  exact g_zret hx hb hr hlk w (Nat.le_of_ble_eq_true rfl) (Nat.le_of_ble_eq_true rfl) dX6_isWellTold_11 rfl ⟨rfl, rfl⟩
set_option maxHeartbeats 4000000 in
set_option maxRecDepth 100000 in
theorem h_method (l : Launch) (D : va_G) (ar : Nat → ClassId) (κ : Nat → Nat) (G : gW) (sz : Nat) (x : Nat) (cl : Int32) (se : Int32) (a : Int32) (t : Int32) (q : Nat) (hF : FH ar κ G x q) (hlt : l.stackTraces = false) : vx_Met l yX8_method (lwC yX8_method cX8_method 6 (some .int)) (rD 8 3 19) (g_Pc D vwCl (gT ar) (EX1 κ) G sz [.ref x, .int cl, .int se, .int a, .int t]) (g_Qi D vwCl (g_A G sz) (fun r u => False)) (gX D (g_A G sz) (fun E u => (E = "java/lang/IndexOutOfBoundsException" ∧ K_told cl se a t = 1) ∨ (E = "java/lang/IllegalArgumentException" ∧ K_told cl se a t = 2) ∨ (E = "java/lang/UnsupportedOperationException" ∧ K_told cl se a t = 3))) 3 19 (g_A G sz) := by
  refine gx_ofW (by decide +kernel) (Nat.le_of_ble_eq_true rfl) ?_
  intro p e s m below meth c ls S hr hlk ht hE w hl
  have hx := S.1
  have hb := S.2.1
  have hl : lv_has ls 6 [(0, .ref x), (1, .int cl), (2, .int se), (3, .int a), (4, .int t)] := hl
  obtain ⟨hxq, f0, f1, f2, f3, f4, f5, f6, f7, f8, f9, f10, f11, f12, f13, f14, f15, f16, f17, f18, f19⟩ := id hF
  have lt19 : q + 136 < sz := g_ltn w f19
  refine lv_aload_n hx hb dX8_method_0 rfl (lv_at hl 0 rfl) ?_
  refine lv_iload_n hx hb dX8_method_1 rfl (lv_at hl 1 rfl) ?_
  refine lv_iload_n hx hb dX8_method_2 rfl (lv_at hl 2 rfl) ?_
  refine gx_callv w (gx_runV (As := [.int cl, .int se]) (rest := []) S hE w hl (h_checkPlace l D ar κ G sz x cl se q hF hlt) (k_RX8_134 S.2.2.2.2 ⟨Nat.le_of_ble_eq_true rfl, Nat.le_of_ble_eq_true rfl⟩) f0 rfl rfl rfl rfl (Nat.le_of_ble_eq_true rfl) dX8_method_3 ⟨Nat.le_of_ble_eq_true rfl, Nat.le_of_ble_eq_true rfl⟩) (fun E ce q9 u H locs hp hnz w hce hv hcl => g_pass ht hlk w hce hv hcl (by rcases hp with ⟨rfl, h9 | h9⟩ <;> exact Or.inl ⟨rfl, by simp [K_told, h9]⟩) (Nat.le_of_ble_eq_true rfl) (Nat.le_of_ble_eq_true rfl)) (fun u H locs hp hnz w => ?_)
  obtain ⟨n_3, rfl⟩ := hp
  dsimp only at w
  refine lv_iload_n hx hb dX8_method_6 rfl (lv_at hl 3 rfl) ?_
  refine lv_iconst (v := 3) hx hb dX8_method_7 (by decide) ?_
  refine g_calli w (g_runS (As := [.int a, .int 3]) (rest := []) S hE w hl (c_X8_isBelow l D ar κ G sz a 3) (k_RX8_97 S.2.2.2.2 ⟨Nat.le_of_ble_eq_true rfl, Nat.le_of_ble_eq_true rfl⟩) rfl rfl (Nat.le_of_ble_eq_true rfl) dX8_method_8 ⟨Nat.le_of_ble_eq_true rfl, Nat.le_of_ble_eq_true rfl⟩) (fun r u H locs hp hnz w => ?_)
  obtain ⟨rfl, rfl⟩ := hp
  dsimp only at w
  refine lv_if_eq (tgt := 23) hx hb dX8_method_11 (by decide) (fun c_11 => ?_) (fun c_11 => ?_)
  · exact g_throwS (names := ["java/lang/RuntimeException", "java/lang/Exception"]) hlt S hE w hl ht hlk (by decide +kernel) (by decide +kernel) m_3_89 m_1_24 (List.mem_of_getElem? (i := 6) rfl) th_RX8_105_109_1 th_RX8_105_109_2 th_RX8_105_109_3 dX8_method_23 dX8_method_26 dX8_method_27 dX8_method_29 dX8_method_32 (Nat.le_of_ble_eq_true rfl) (Nat.le_of_ble_eq_true rfl) (Nat.le_of_ble_eq_true rfl) (Nat.le_of_ble_eq_true rfl) (Nat.le_of_ble_eq_true rfl) (Nat.le_of_ble_eq_true rfl) (fun _ _ => Or.inr (Or.inl ⟨rfl, by simp [K_told, n_3.1, n_3.2, c_11]⟩))
  · refine lv_iload hx hb dX8_method_14 (lv_at hl 4 rfl) ?_
    refine lv_iconst (v := 5) hx hb dX8_method_16 (by decide) ?_
    refine g_calli w (g_runS (As := [.int t, .int 5]) (rest := []) S hE w hl (c_X8_isBelow l D ar κ G sz t 5) (k_RX8_97 S.2.2.2.2 ⟨Nat.le_of_ble_eq_true rfl, Nat.le_of_ble_eq_true rfl⟩) rfl rfl (Nat.le_of_ble_eq_true rfl) dX8_method_17 ⟨Nat.le_of_ble_eq_true rfl, Nat.le_of_ble_eq_true rfl⟩) (fun r u H locs hp hnz w => ?_)
    obtain ⟨rfl, rfl⟩ := hp
    dsimp only at w
    refine lv_if_ne (tgt := 33) hx hb dX8_method_20 (by decide) (fun c_20 => ?_) (fun c_20 => ?_)
    · refine nw_RX8_16 S hE w (Nat.le_of_ble_eq_true rfl) (Nat.le_of_ble_eq_true rfl) dX8_method_33 (fun H w => ?_)
      refine lv_dup hx hb dX8_method_36 rfl ?_
      refine lv_iload_n hx hb dX8_method_37 rfl (lv_at hl 1 rfl) ?_
      refine lv_iload_n hx hb dX8_method_38 rfl (lv_at hl 2 rfl) ?_
      refine lv_iload_n hx hb dX8_method_39 rfl (lv_at hl 3 rfl) ?_
      refine lv_iload hx hb dX8_method_40 (lv_at hl 4 rfl) ?_
      refine lv_aload_n hx hb dX8_method_42 rfl (lv_at hl 0 rfl) ?_
      refine gf_RX8_25_12 S hE w (g_up_o (by omega) f0) rfl dX8_method_43 ?_
      refine g_callv w (g_runI (As := [.int cl, .int se, .int a, .int t, .ref (q + 4)]) (rest := [.ref sz]) S hE w hl (c_X6_init l D ar κ (g_up G sz (.inr (10, [.int 0, .int 0, .int 0, .int 0, .null, .int 0, .int 0]))) (sz + 1) sz cl se a t (q + 4) g_up_s) (k_RX8_140 S.2.2.2.2 ⟨Nat.le_of_ble_eq_true rfl, Nat.le_of_ble_eq_true rfl⟩) rfl rfl (Nat.le_of_ble_eq_true rfl) dX8_method_46 ⟨Nat.le_of_ble_eq_true rfl, Nat.le_of_ble_eq_true rfl⟩) (fun u H locs hp hnz w => ?_)
      obtain rfl := hp
      dsimp only at w
      have w := g_eqw w g_over
      refine lv_astore (lv' := [(5, .ref sz), (0, .ref x), (1, .int cl), (2, .int se), (3, .int a), (4, .int t)]) hx hb dX8_method_49 hl (by decide) rfl (fun ls hl => ?_)
      refine lv_aload hx hb dX8_method_51 (lv_at hl 0 rfl) ?_
      refine lv_aload_n hx hb dX8_method_53 rfl (lv_at hl 1 rfl) ?_
      refine gf_RX8_10_12 S hE w (g_up_o (by omega) f0) rfl dX8_method_54 ?_
      refine g_calli w (g_runV (As := [.ref q]) (rest := []) S hE w hl (c_X6_isWellTold l D ar κ (g_up G sz (.inr (10, [.int cl, .int se, .int a, .int t, .ref (q + 4), .int 0, .int 0]))) (sz + 1) sz q cl se a t (q + 4) (q + 5) (q + 6) (q + 7) (q + 8) (q + 9) 0 (fun _ => 0) g_up_s (g_up_o (by omega) f5) (g_up_o (by omega) f9)) (k_RX8_143 S.2.2.2.2 ⟨Nat.le_of_ble_eq_true rfl, Nat.le_of_ble_eq_true rfl⟩) g_up_s rfl rfl rfl rfl (Nat.le_of_ble_eq_true rfl) dX8_method_57 ⟨Nat.le_of_ble_eq_true rfl, Nat.le_of_ble_eq_true rfl⟩) (fun r u H locs hp hnz w => ?_)
      obtain ⟨rfl, rfl⟩ := hp
      dsimp only at w
      refine lv_if_ne (tgt := 73) hx hb dX8_method_60 (by decide) (fun c => absurd (by decide) c) (fun _ => ?_)
      exact g_throwS (names := ["java/lang/RuntimeException", "java/lang/Exception"]) hlt S hE w hl ht hlk (by decide +kernel) (by decide +kernel) m_4_13 m_1_33 (List.mem_of_getElem? (i := 7) rfl) th_RX8_147_151_1 th_RX8_147_151_2 th_RX8_147_151_3 dX8_method_63 dX8_method_66 dX8_method_67 dX8_method_69 dX8_method_72 (Nat.le_of_ble_eq_true rfl) (Nat.le_of_ble_eq_true rfl) (Nat.le_of_ble_eq_true rfl) (Nat.le_of_ble_eq_true rfl) (Nat.le_of_ble_eq_true rfl) (Nat.le_of_ble_eq_true rfl) (fun _ _ => Or.inr (Or.inr ⟨rfl, by simp [K_told, n_3.1, n_3.2, c_11, c_20]⟩))
    · exact g_throwS (names := ["java/lang/RuntimeException", "java/lang/Exception"]) hlt S hE w hl ht hlk (by decide +kernel) (by decide +kernel) m_3_89 m_1_24 (List.mem_of_getElem? (i := 6) rfl) th_RX8_105_109_1 th_RX8_105_109_2 th_RX8_105_109_3 dX8_method_23 dX8_method_26 dX8_method_27 dX8_method_29 dX8_method_32 (Nat.le_of_ble_eq_true rfl) (Nat.le_of_ble_eq_true rfl) (Nat.le_of_ble_eq_true rfl) (Nat.le_of_ble_eq_true rfl) (Nat.le_of_ble_eq_true rfl) (Nat.le_of_ble_eq_true rfl) (fun _ _ => Or.inr (Or.inl ⟨rfl, by simp [K_told, n_3.1, n_3.2, c_11, c_20]⟩))
