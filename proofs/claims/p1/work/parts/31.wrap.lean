theorem dL_add_0 : decode cL_add 0 = .ok (.aload_n 3, 1) := by decide +kernel
theorem dL_add_1 : decode cL_add 1 = .ok (.iconst 0, 1) := by decide +kernel
theorem dL_add_2 : decode cL_add 2 = .ok (.aload_n 0, 1) := by decide +kernel
theorem dL_add_3 : decode cL_add 3 = .ok (.iload_n 1, 1) := by decide +kernel
theorem dL_add_4 : decode cL_add 4 = .ok (.iload_n 2, 1) := by decide +kernel
theorem dL_add_5 : decode cL_add 5 = .ok (.invokevirtual 7, 3) := by decide +kernel
theorem dL_add_8 : decode cL_add 8 = .ok (.i2l, 1) := by decide +kernel
theorem dL_add_9 : decode cL_add 9 = .ok (.lastore, 1) := by decide +kernel
theorem dL_add_10 : decode cL_add 10 = .ok (.goto 15, 3) := by decide +kernel
theorem dL_add_13 : decode cL_add 13 = .ok (.astore 4, 2) := by decide +kernel
theorem dL_add_15 : decode cL_add 15 = .ok (.iconst 1, 1) := by decide +kernel
theorem dL_add_16 : decode cL_add 16 = .ok (.ireturn, 1) := by decide +kernel
theorem dL_add_17 : decode cL_add 17 = .ok (.astore 4, 2) := by decide +kernel
theorem dL_add_19 : decode cL_add 19 = .ok (.iconst 2, 1) := by decide +kernel
theorem dL_add_20 : decode cL_add 20 = .ok (.ireturn, 1) := by decide +kernel
theorem dL_add_21 : decode cL_add 21 = .ok (.astore 4, 2) := by decide +kernel
theorem dL_add_23 : decode cL_add 23 = .ok (.iconst 3, 1) := by decide +kernel
theorem dL_add_24 : decode cL_add 24 = .ok (.ireturn, 1) := by decide +kernel
theorem dL_add_25 : decode cL_add 25 = .ok (.iconst 0, 1) := by decide +kernel
theorem dL_add_26 : decode cL_add 26 = .ok (.ireturn, 1) := by decide +kernel
theorem dL_fields_0 : decode cL_fields 0 = .ok (.aload_n 2, 1) := by decide +kernel
theorem dL_fields_1 : decode cL_fields 1 = .ok (.iconst 0, 1) := by decide +kernel
theorem dL_fields_2 : decode cL_fields 2 = .ok (.aload_n 0, 1) := by decide +kernel
theorem dL_fields_3 : decode cL_fields 3 = .ok (.iload_n 1, 1) := by decide +kernel
theorem dL_fields_4 : decode cL_fields 4 = .ok (.invokevirtual 19, 3) := by decide +kernel
theorem dL_fields_7 : decode cL_fields 7 = .ok (.i2l, 1) := by decide +kernel
theorem dL_fields_8 : decode cL_fields 8 = .ok (.lastore, 1) := by decide +kernel
theorem dL_fields_9 : decode cL_fields 9 = .ok (.goto 6, 3) := by decide +kernel
theorem dL_fields_12 : decode cL_fields 12 = .ok (.astore_n 3, 1) := by decide +kernel
theorem dL_fields_13 : decode cL_fields 13 = .ok (.iconst 1, 1) := by decide +kernel
theorem dL_fields_14 : decode cL_fields 14 = .ok (.ireturn, 1) := by decide +kernel
theorem dL_fields_15 : decode cL_fields 15 = .ok (.iconst 0, 1) := by decide +kernel
theorem dL_fields_16 : decode cL_fields 16 = .ok (.ireturn, 1) := by decide +kernel
theorem dL_row_0 : decode cL_row 0 = .ok (.aload 4, 2) := by decide +kernel
theorem dL_row_2 : decode cL_row 2 = .ok (.iconst 0, 1) := by decide +kernel
theorem dL_row_3 : decode cL_row 3 = .ok (.aload_n 0, 1) := by decide +kernel
theorem dL_row_4 : decode cL_row 4 = .ok (.iload_n 1, 1) := by decide +kernel
theorem dL_row_5 : decode cL_row 5 = .ok (.iload_n 2, 1) := by decide +kernel
theorem dL_row_6 : decode cL_row 6 = .ok (.iload_n 3, 1) := by decide +kernel
theorem dL_row_7 : decode cL_row 7 = .ok (.invokevirtual 23, 3) := by decide +kernel
theorem dL_row_10 : decode cL_row 10 = .ok (.i2l, 1) := by decide +kernel
theorem dL_row_11 : decode cL_row 11 = .ok (.lastore, 1) := by decide +kernel
theorem dL_row_12 : decode cL_row 12 = .ok (.goto 11, 3) := by decide +kernel
theorem dL_row_15 : decode cL_row 15 = .ok (.astore 5, 2) := by decide +kernel
theorem dL_row_17 : decode cL_row 17 = .ok (.iconst 1, 1) := by decide +kernel
theorem dL_row_18 : decode cL_row 18 = .ok (.ireturn, 1) := by decide +kernel
theorem dL_row_19 : decode cL_row 19 = .ok (.astore 5, 2) := by decide +kernel
theorem dL_row_21 : decode cL_row 21 = .ok (.iconst 2, 1) := by decide +kernel
theorem dL_row_22 : decode cL_row 22 = .ok (.ireturn, 1) := by decide +kernel
theorem dL_row_23 : decode cL_row 23 = .ok (.iconst 0, 1) := by decide +kernel
theorem dL_row_24 : decode cL_row 24 = .ok (.ireturn, 1) := by decide +kernel
theorem dL_method_0 : decode cL_method 0 = .ok (.aload 5, 2) := by decide +kernel
theorem dL_method_2 : decode cL_method 2 = .ok (.iconst 0, 1) := by decide +kernel
theorem dL_method_3 : decode cL_method 3 = .ok (.aload_n 0, 1) := by decide +kernel
theorem dL_method_4 : decode cL_method 4 = .ok (.iload_n 1, 1) := by decide +kernel
theorem dL_method_5 : decode cL_method 5 = .ok (.iload_n 2, 1) := by decide +kernel
theorem dL_method_6 : decode cL_method 6 = .ok (.iload_n 3, 1) := by decide +kernel
theorem dL_method_7 : decode cL_method 7 = .ok (.iload 4, 2) := by decide +kernel
theorem dL_method_9 : decode cL_method 9 = .ok (.invokevirtual 27, 3) := by decide +kernel
theorem dL_method_12 : decode cL_method 12 = .ok (.i2l, 1) := by decide +kernel
theorem dL_method_13 : decode cL_method 13 = .ok (.lastore, 1) := by decide +kernel
theorem dL_method_14 : decode cL_method 14 = .ok (.goto 15, 3) := by decide +kernel
theorem dL_method_17 : decode cL_method 17 = .ok (.astore 6, 2) := by decide +kernel
theorem dL_method_19 : decode cL_method 19 = .ok (.iconst 1, 1) := by decide +kernel
theorem dL_method_20 : decode cL_method 20 = .ok (.ireturn, 1) := by decide +kernel
theorem dL_method_21 : decode cL_method 21 = .ok (.astore 6, 2) := by decide +kernel
theorem dL_method_23 : decode cL_method 23 = .ok (.iconst 2, 1) := by decide +kernel
theorem dL_method_24 : decode cL_method 24 = .ok (.ireturn, 1) := by decide +kernel
theorem dL_method_25 : decode cL_method 25 = .ok (.astore 6, 2) := by decide +kernel
theorem dL_method_27 : decode cL_method 27 = .ok (.iconst 3, 1) := by decide +kernel
theorem dL_method_28 : decode cL_method 28 = .ok (.ireturn, 1) := by decide +kernel
theorem dL_method_29 : decode cL_method 29 = .ok (.iconst 0, 1) := by decide +kernel
theorem dL_method_30 : decode cL_method 30 = .ok (.ireturn, 1) := by decide +kernel
theorem dL_remove_0 : decode cL_remove 0 = .ok (.aload_n 3, 1) := by decide +kernel
theorem dL_remove_1 : decode cL_remove 1 = .ok (.iconst 0, 1) := by decide +kernel
theorem dL_remove_2 : decode cL_remove 2 = .ok (.aload_n 0, 1) := by decide +kernel
theorem dL_remove_3 : decode cL_remove 3 = .ok (.iload_n 1, 1) := by decide +kernel
theorem dL_remove_4 : decode cL_remove 4 = .ok (.iload_n 2, 1) := by decide +kernel
theorem dL_remove_5 : decode cL_remove 5 = .ok (.invokevirtual 33, 3) := by decide +kernel
theorem dL_remove_8 : decode cL_remove 8 = .ok (.i2l, 1) := by decide +kernel
theorem dL_remove_9 : decode cL_remove 9 = .ok (.lastore, 1) := by decide +kernel
theorem dL_remove_10 : decode cL_remove 10 = .ok (.goto 11, 3) := by decide +kernel
theorem dL_remove_13 : decode cL_remove 13 = .ok (.astore 4, 2) := by decide +kernel
theorem dL_remove_15 : decode cL_remove 15 = .ok (.iconst 1, 1) := by decide +kernel
theorem dL_remove_16 : decode cL_remove 16 = .ok (.ireturn, 1) := by decide +kernel
theorem dL_remove_17 : decode cL_remove 17 = .ok (.astore 4, 2) := by decide +kernel
theorem dL_remove_19 : decode cL_remove 19 = .ok (.iconst 2, 1) := by decide +kernel
theorem dL_remove_20 : decode cL_remove 20 = .ok (.ireturn, 1) := by decide +kernel
theorem dL_remove_21 : decode cL_remove 21 = .ok (.iconst 0, 1) := by decide +kernel
theorem dL_remove_22 : decode cL_remove 22 = .ok (.ireturn, 1) := by decide +kernel
theorem dL_find_0 : decode cL_find 0 = .ok (.aload_n 3, 1) := by decide +kernel
theorem dL_find_1 : decode cL_find 1 = .ok (.iconst 0, 1) := by decide +kernel
theorem dL_find_2 : decode cL_find 2 = .ok (.aload_n 0, 1) := by decide +kernel
theorem dL_find_3 : decode cL_find 3 = .ok (.iload_n 1, 1) := by decide +kernel
theorem dL_find_4 : decode cL_find 4 = .ok (.iload_n 2, 1) := by decide +kernel
theorem dL_find_5 : decode cL_find 5 = .ok (.invokevirtual 38, 3) := by decide +kernel
theorem dL_find_8 : decode cL_find 8 = .ok (.i2l, 1) := by decide +kernel
theorem dL_find_9 : decode cL_find 9 = .ok (.lastore, 1) := by decide +kernel
theorem dL_find_10 : decode cL_find 10 = .ok (.goto 11, 3) := by decide +kernel
theorem dL_find_13 : decode cL_find 13 = .ok (.astore 4, 2) := by decide +kernel
theorem dL_find_15 : decode cL_find 15 = .ok (.iconst 1, 1) := by decide +kernel
theorem dL_find_16 : decode cL_find 16 = .ok (.ireturn, 1) := by decide +kernel
theorem dL_find_17 : decode cL_find 17 = .ok (.astore 4, 2) := by decide +kernel
theorem dL_find_19 : decode cL_find 19 = .ok (.iconst 2, 1) := by decide +kernel
theorem dL_find_20 : decode cL_find 20 = .ok (.ireturn, 1) := by decide +kernel
theorem dL_find_21 : decode cL_find 21 = .ok (.iconst 0, 1) := by decide +kernel
theorem dL_find_22 : decode cL_find 22 = .ok (.ireturn, 1) := by decide +kernel
theorem dL_calls_0 : decode cL_calls 0 = .ok (.aload_n 3, 1) := by decide +kernel
theorem dL_calls_1 : decode cL_calls 1 = .ok (.iconst 0, 1) := by decide +kernel
theorem dL_calls_2 : decode cL_calls 2 = .ok (.aload_n 0, 1) := by decide +kernel
theorem dL_calls_3 : decode cL_calls 3 = .ok (.iload_n 1, 1) := by decide +kernel
theorem dL_calls_4 : decode cL_calls 4 = .ok (.iload_n 2, 1) := by decide +kernel
theorem dL_calls_5 : decode cL_calls 5 = .ok (.invokevirtual 41, 3) := by decide +kernel
theorem dL_calls_8 : decode cL_calls 8 = .ok (.i2l, 1) := by decide +kernel
theorem dL_calls_9 : decode cL_calls 9 = .ok (.lastore, 1) := by decide +kernel
theorem dL_calls_10 : decode cL_calls 10 = .ok (.goto 11, 3) := by decide +kernel
theorem dL_calls_13 : decode cL_calls 13 = .ok (.astore 4, 2) := by decide +kernel
theorem dL_calls_15 : decode cL_calls 15 = .ok (.iconst 1, 1) := by decide +kernel
theorem dL_calls_16 : decode cL_calls 16 = .ok (.ireturn, 1) := by decide +kernel
theorem dL_calls_17 : decode cL_calls 17 = .ok (.astore 4, 2) := by decide +kernel
theorem dL_calls_19 : decode cL_calls 19 = .ok (.iconst 2, 1) := by decide +kernel
theorem dL_calls_20 : decode cL_calls 20 = .ok (.ireturn, 1) := by decide +kernel
theorem dL_calls_21 : decode cL_calls 21 = .ok (.iconst 0, 1) := by decide +kernel
theorem dL_calls_22 : decode cL_calls 22 = .ok (.ireturn, 1) := by decide +kernel
theorem dL_compile_0 : decode cL_compile 0 = .ok (.aload_n 3, 1) := by decide +kernel
theorem dL_compile_1 : decode cL_compile 1 = .ok (.iconst 0, 1) := by decide +kernel
theorem dL_compile_2 : decode cL_compile 2 = .ok (.aload_n 0, 1) := by decide +kernel
theorem dL_compile_3 : decode cL_compile 3 = .ok (.iload_n 1, 1) := by decide +kernel
theorem dL_compile_4 : decode cL_compile 4 = .ok (.iload_n 2, 1) := by decide +kernel
theorem dL_compile_5 : decode cL_compile 5 = .ok (.invokevirtual 44, 3) := by decide +kernel
theorem dL_compile_8 : decode cL_compile 8 = .ok (.i2l, 1) := by decide +kernel
theorem dL_compile_9 : decode cL_compile 9 = .ok (.lastore, 1) := by decide +kernel
theorem dL_compile_10 : decode cL_compile 10 = .ok (.goto 11, 3) := by decide +kernel
theorem dL_compile_13 : decode cL_compile 13 = .ok (.astore 4, 2) := by decide +kernel
theorem dL_compile_15 : decode cL_compile 15 = .ok (.iconst 1, 1) := by decide +kernel
theorem dL_compile_16 : decode cL_compile 16 = .ok (.ireturn, 1) := by decide +kernel
theorem dL_compile_17 : decode cL_compile 17 = .ok (.astore 4, 2) := by decide +kernel
theorem dL_compile_19 : decode cL_compile 19 = .ok (.iconst 2, 1) := by decide +kernel
theorem dL_compile_20 : decode cL_compile 20 = .ok (.ireturn, 1) := by decide +kernel
theorem dL_compile_21 : decode cL_compile 21 = .ok (.iconst 0, 1) := by decide +kernel
theorem dL_compile_22 : decode cL_compile 22 = .ok (.ireturn, 1) := by decide +kernel
theorem dL_isCompiled_0 : decode cL_isCompiled 0 = .ok (.aload_n 3, 1) := by decide +kernel
theorem dL_isCompiled_1 : decode cL_isCompiled 1 = .ok (.iconst 0, 1) := by decide +kernel
theorem dL_isCompiled_2 : decode cL_isCompiled 2 = .ok (.aload_n 0, 1) := by decide +kernel
theorem dL_isCompiled_3 : decode cL_isCompiled 3 = .ok (.iload_n 1, 1) := by decide +kernel
theorem dL_isCompiled_4 : decode cL_isCompiled 4 = .ok (.iload_n 2, 1) := by decide +kernel
theorem dL_isCompiled_5 : decode cL_isCompiled 5 = .ok (.invokevirtual 47, 3) := by decide +kernel
theorem dL_isCompiled_8 : decode cL_isCompiled 8 = .ok (.ifCond .eq 7, 3) := by decide +kernel
theorem dL_isCompiled_11 : decode cL_isCompiled 11 = .ok (.lconst 1, 1) := by decide +kernel
theorem dL_isCompiled_12 : decode cL_isCompiled 12 = .ok (.goto 4, 3) := by decide +kernel
theorem dL_isCompiled_15 : decode cL_isCompiled 15 = .ok (.lconst 0, 1) := by decide +kernel
theorem dL_isCompiled_16 : decode cL_isCompiled 16 = .ok (.lastore, 1) := by decide +kernel
theorem dL_isCompiled_17 : decode cL_isCompiled 17 = .ok (.goto 11, 3) := by decide +kernel
theorem dL_isCompiled_20 : decode cL_isCompiled 20 = .ok (.astore 4, 2) := by decide +kernel
theorem dL_isCompiled_22 : decode cL_isCompiled 22 = .ok (.iconst 1, 1) := by decide +kernel
theorem dL_isCompiled_23 : decode cL_isCompiled 23 = .ok (.ireturn, 1) := by decide +kernel
theorem dL_isCompiled_24 : decode cL_isCompiled 24 = .ok (.astore 4, 2) := by decide +kernel
theorem dL_isCompiled_26 : decode cL_isCompiled 26 = .ok (.iconst 2, 1) := by decide +kernel
theorem dL_isCompiled_27 : decode cL_isCompiled 27 = .ok (.ireturn, 1) := by decide +kernel
theorem dL_isCompiled_28 : decode cL_isCompiled 28 = .ok (.iconst 0, 1) := by decide +kernel
theorem dL_isCompiled_29 : decode cL_isCompiled 29 = .ok (.ireturn, 1) := by decide +kernel
theorem dL_hot_0 : decode cL_hot 0 = .ok (.aload_n 2, 1) := by decide +kernel
theorem dL_hot_1 : decode cL_hot 1 = .ok (.iconst 0, 1) := by decide +kernel
theorem dL_hot_2 : decode cL_hot 2 = .ok (.aload_n 0, 1) := by decide +kernel
theorem dL_hot_3 : decode cL_hot 3 = .ok (.iload_n 1, 1) := by decide +kernel
theorem dL_hot_4 : decode cL_hot 4 = .ok (.invokevirtual 51, 3) := by decide +kernel
theorem dL_hot_7 : decode cL_hot 7 = .ok (.i2l, 1) := by decide +kernel
theorem dL_hot_8 : decode cL_hot 8 = .ok (.lastore, 1) := by decide +kernel
theorem dL_hot_9 : decode cL_hot 9 = .ok (.goto 6, 3) := by decide +kernel
theorem dL_hot_12 : decode cL_hot 12 = .ok (.astore_n 3, 1) := by decide +kernel
theorem dL_hot_13 : decode cL_hot 13 = .ok (.iconst 1, 1) := by decide +kernel
theorem dL_hot_14 : decode cL_hot 14 = .ok (.ireturn, 1) := by decide +kernel
theorem dL_hot_15 : decode cL_hot 15 = .ok (.iconst 0, 1) := by decide +kernel
theorem dL_hot_16 : decode cL_hot 16 = .ok (.ireturn, 1) := by decide +kernel
theorem dL_number_0 : decode cL_number 0 = .ok (.aload_n 3, 1) := by decide +kernel
theorem dL_number_1 : decode cL_number 1 = .ok (.iconst 0, 1) := by decide +kernel
theorem dL_number_2 : decode cL_number 2 = .ok (.aload_n 0, 1) := by decide +kernel
theorem dL_number_3 : decode cL_number 3 = .ok (.iload_n 1, 1) := by decide +kernel
theorem dL_number_4 : decode cL_number 4 = .ok (.iload_n 2, 1) := by decide +kernel
theorem dL_number_5 : decode cL_number 5 = .ok (.invokevirtual 54, 3) := by decide +kernel
theorem dL_number_8 : decode cL_number 8 = .ok (.i2l, 1) := by decide +kernel
theorem dL_number_9 : decode cL_number 9 = .ok (.lastore, 1) := by decide +kernel
theorem dL_number_10 : decode cL_number 10 = .ok (.goto 7, 3) := by decide +kernel
theorem dL_number_13 : decode cL_number 13 = .ok (.astore 4, 2) := by decide +kernel
theorem dL_number_15 : decode cL_number 15 = .ok (.iconst 1, 1) := by decide +kernel
theorem dL_number_16 : decode cL_number 16 = .ok (.ireturn, 1) := by decide +kernel
theorem dL_number_17 : decode cL_number 17 = .ok (.iconst 0, 1) := by decide +kernel
theorem dL_number_18 : decode cL_number 18 = .ok (.ireturn, 1) := by decide +kernel
theorem dL_nothing_0 : decode cL_nothing 0 = .ok (.aload_n 2, 1) := by decide +kernel
theorem dL_nothing_1 : decode cL_nothing 1 = .ok (.iconst 0, 1) := by decide +kernel
theorem dL_nothing_2 : decode cL_nothing 2 = .ok (.aload_n 0, 1) := by decide +kernel
theorem dL_nothing_3 : decode cL_nothing 3 = .ok (.iload_n 1, 1) := by decide +kernel
theorem dL_nothing_4 : decode cL_nothing 4 = .ok (.invokevirtual 57, 3) := by decide +kernel
theorem dL_nothing_7 : decode cL_nothing 7 = .ok (.i2l, 1) := by decide +kernel
theorem dL_nothing_8 : decode cL_nothing 8 = .ok (.lastore, 1) := by decide +kernel
theorem dL_nothing_9 : decode cL_nothing 9 = .ok (.goto 6, 3) := by decide +kernel
theorem dL_nothing_12 : decode cL_nothing 12 = .ok (.astore_n 3, 1) := by decide +kernel
theorem dL_nothing_13 : decode cL_nothing 13 = .ok (.iconst 1, 1) := by decide +kernel
theorem dL_nothing_14 : decode cL_nothing 14 = .ok (.ireturn, 1) := by decide +kernel
theorem dL_nothing_15 : decode cL_nothing 15 = .ok (.iconst 0, 1) := by decide +kernel
theorem dL_nothing_16 : decode cL_nothing 16 = .ok (.ireturn, 1) := by decide +kernel
theorem dL_make_0 : decode cL_make 0 = .ok (.aload_n 3, 1) := by decide +kernel
theorem dL_make_1 : decode cL_make 1 = .ok (.iconst 0, 1) := by decide +kernel
theorem dL_make_2 : decode cL_make 2 = .ok (.aload_n 0, 1) := by decide +kernel
theorem dL_make_3 : decode cL_make 3 = .ok (.iload_n 1, 1) := by decide +kernel
theorem dL_make_4 : decode cL_make 4 = .ok (.iload_n 2, 1) := by decide +kernel
theorem dL_make_5 : decode cL_make 5 = .ok (.invokevirtual 60, 3) := by decide +kernel
theorem dL_make_8 : decode cL_make 8 = .ok (.i2l, 1) := by decide +kernel
theorem dL_make_9 : decode cL_make 9 = .ok (.lastore, 1) := by decide +kernel
theorem dL_make_10 : decode cL_make 10 = .ok (.goto 15, 3) := by decide +kernel
theorem dL_make_13 : decode cL_make 13 = .ok (.astore 4, 2) := by decide +kernel
theorem dL_make_15 : decode cL_make 15 = .ok (.iconst 1, 1) := by decide +kernel
theorem dL_make_16 : decode cL_make 16 = .ok (.ireturn, 1) := by decide +kernel
theorem dL_make_17 : decode cL_make 17 = .ok (.astore 4, 2) := by decide +kernel
theorem dL_make_19 : decode cL_make 19 = .ok (.iconst 2, 1) := by decide +kernel
theorem dL_make_20 : decode cL_make 20 = .ok (.ireturn, 1) := by decide +kernel
theorem dL_make_21 : decode cL_make 21 = .ok (.astore 4, 2) := by decide +kernel
theorem dL_make_23 : decode cL_make 23 = .ok (.iconst 3, 1) := by decide +kernel
theorem dL_make_24 : decode cL_make 24 = .ok (.ireturn, 1) := by decide +kernel
theorem dL_make_25 : decode cL_make 25 = .ok (.iconst 0, 1) := by decide +kernel
theorem dL_make_26 : decode cL_make 26 = .ok (.ireturn, 1) := by decide +kernel
theorem dL_kind_0 : decode cL_kind 0 = .ok (.aload_n 2, 1) := by decide +kernel
theorem dL_kind_1 : decode cL_kind 1 = .ok (.iconst 0, 1) := by decide +kernel
theorem dL_kind_2 : decode cL_kind 2 = .ok (.aload_n 0, 1) := by decide +kernel
theorem dL_kind_3 : decode cL_kind 3 = .ok (.iload_n 1, 1) := by decide +kernel
theorem dL_kind_4 : decode cL_kind 4 = .ok (.invokevirtual 63, 3) := by decide +kernel
theorem dL_kind_7 : decode cL_kind 7 = .ok (.i2l, 1) := by decide +kernel
theorem dL_kind_8 : decode cL_kind 8 = .ok (.lastore, 1) := by decide +kernel
theorem dL_kind_9 : decode cL_kind 9 = .ok (.goto 6, 3) := by decide +kernel
theorem dL_kind_12 : decode cL_kind 12 = .ok (.astore_n 3, 1) := by decide +kernel
theorem dL_kind_13 : decode cL_kind 13 = .ok (.iconst 1, 1) := by decide +kernel
theorem dL_kind_14 : decode cL_kind 14 = .ok (.ireturn, 1) := by decide +kernel
theorem dL_kind_15 : decode cL_kind 15 = .ok (.iconst 0, 1) := by decide +kernel
theorem dL_kind_16 : decode cL_kind 16 = .ok (.ireturn, 1) := by decide +kernel
theorem dL_value_0 : decode cL_value 0 = .ok (.aload_n 2, 1) := by decide +kernel
theorem dL_value_1 : decode cL_value 1 = .ok (.iconst 0, 1) := by decide +kernel
theorem dL_value_2 : decode cL_value 2 = .ok (.aload_n 0, 1) := by decide +kernel
theorem dL_value_3 : decode cL_value 3 = .ok (.iload_n 1, 1) := by decide +kernel
theorem dL_value_4 : decode cL_value 4 = .ok (.invokevirtual 67, 3) := by decide +kernel
theorem dL_value_7 : decode cL_value 7 = .ok (.i2l, 1) := by decide +kernel
theorem dL_value_8 : decode cL_value 8 = .ok (.lastore, 1) := by decide +kernel
theorem dL_value_9 : decode cL_value 9 = .ok (.goto 6, 3) := by decide +kernel
theorem dL_value_12 : decode cL_value 12 = .ok (.astore_n 3, 1) := by decide +kernel
theorem dL_value_13 : decode cL_value 13 = .ok (.iconst 1, 1) := by decide +kernel
theorem dL_value_14 : decode cL_value 14 = .ok (.ireturn, 1) := by decide +kernel
theorem dL_value_15 : decode cL_value 15 = .ok (.iconst 0, 1) := by decide +kernel
theorem dL_value_16 : decode cL_value 16 = .ok (.ireturn, 1) := by decide +kernel
theorem dL_classOf_0 : decode cL_classOf 0 = .ok (.aload_n 2, 1) := by decide +kernel
theorem dL_classOf_1 : decode cL_classOf 1 = .ok (.iconst 0, 1) := by decide +kernel
theorem dL_classOf_2 : decode cL_classOf 2 = .ok (.aload_n 0, 1) := by decide +kernel
theorem dL_classOf_3 : decode cL_classOf 3 = .ok (.iload_n 1, 1) := by decide +kernel
theorem dL_classOf_4 : decode cL_classOf 4 = .ok (.invokevirtual 70, 3) := by decide +kernel
theorem dL_classOf_7 : decode cL_classOf 7 = .ok (.i2l, 1) := by decide +kernel
theorem dL_classOf_8 : decode cL_classOf 8 = .ok (.lastore, 1) := by decide +kernel
theorem dL_classOf_9 : decode cL_classOf 9 = .ok (.goto 6, 3) := by decide +kernel
theorem dL_classOf_12 : decode cL_classOf 12 = .ok (.astore_n 3, 1) := by decide +kernel
theorem dL_classOf_13 : decode cL_classOf 13 = .ok (.iconst 1, 1) := by decide +kernel
theorem dL_classOf_14 : decode cL_classOf 14 = .ok (.ireturn, 1) := by decide +kernel
theorem dL_classOf_15 : decode cL_classOf 15 = .ok (.iconst 0, 1) := by decide +kernel
theorem dL_classOf_16 : decode cL_classOf 16 = .ok (.ireturn, 1) := by decide +kernel
theorem dL_fieldKind_0 : decode cL_fieldKind 0 = .ok (.aload_n 3, 1) := by decide +kernel
theorem dL_fieldKind_1 : decode cL_fieldKind 1 = .ok (.iconst 0, 1) := by decide +kernel
theorem dL_fieldKind_2 : decode cL_fieldKind 2 = .ok (.aload_n 0, 1) := by decide +kernel
theorem dL_fieldKind_3 : decode cL_fieldKind 3 = .ok (.iload_n 1, 1) := by decide +kernel
theorem dL_fieldKind_4 : decode cL_fieldKind 4 = .ok (.iload_n 2, 1) := by decide +kernel
theorem dL_fieldKind_5 : decode cL_fieldKind 5 = .ok (.invokevirtual 73, 3) := by decide +kernel
theorem dL_fieldKind_8 : decode cL_fieldKind 8 = .ok (.i2l, 1) := by decide +kernel
theorem dL_fieldKind_9 : decode cL_fieldKind 9 = .ok (.lastore, 1) := by decide +kernel
theorem dL_fieldKind_10 : decode cL_fieldKind 10 = .ok (.goto 7, 3) := by decide +kernel
theorem dL_fieldKind_13 : decode cL_fieldKind 13 = .ok (.astore 4, 2) := by decide +kernel
theorem dL_fieldKind_15 : decode cL_fieldKind 15 = .ok (.iconst 1, 1) := by decide +kernel
theorem dL_fieldKind_16 : decode cL_fieldKind 16 = .ok (.ireturn, 1) := by decide +kernel
theorem dL_fieldKind_17 : decode cL_fieldKind 17 = .ok (.iconst 0, 1) := by decide +kernel
theorem dL_fieldKind_18 : decode cL_fieldKind 18 = .ok (.ireturn, 1) := by decide +kernel
theorem dL_fieldValue_0 : decode cL_fieldValue 0 = .ok (.aload_n 3, 1) := by decide +kernel
theorem dL_fieldValue_1 : decode cL_fieldValue 1 = .ok (.iconst 0, 1) := by decide +kernel
theorem dL_fieldValue_2 : decode cL_fieldValue 2 = .ok (.aload_n 0, 1) := by decide +kernel
theorem dL_fieldValue_3 : decode cL_fieldValue 3 = .ok (.iload_n 1, 1) := by decide +kernel
theorem dL_fieldValue_4 : decode cL_fieldValue 4 = .ok (.iload_n 2, 1) := by decide +kernel
theorem dL_fieldValue_5 : decode cL_fieldValue 5 = .ok (.invokevirtual 77, 3) := by decide +kernel
theorem dL_fieldValue_8 : decode cL_fieldValue 8 = .ok (.i2l, 1) := by decide +kernel
theorem dL_fieldValue_9 : decode cL_fieldValue 9 = .ok (.lastore, 1) := by decide +kernel
theorem dL_fieldValue_10 : decode cL_fieldValue 10 = .ok (.goto 7, 3) := by decide +kernel
theorem dL_fieldValue_13 : decode cL_fieldValue 13 = .ok (.astore 4, 2) := by decide +kernel
theorem dL_fieldValue_15 : decode cL_fieldValue 15 = .ok (.iconst 1, 1) := by decide +kernel
theorem dL_fieldValue_16 : decode cL_fieldValue 16 = .ok (.ireturn, 1) := by decide +kernel
theorem dL_fieldValue_17 : decode cL_fieldValue 17 = .ok (.iconst 0, 1) := by decide +kernel
theorem dL_fieldValue_18 : decode cL_fieldValue 18 = .ok (.ireturn, 1) := by decide +kernel
theorem dL_begin_0 : decode cL_begin 0 = .ok (.aload 6, 2) := by decide +kernel
theorem dL_begin_2 : decode cL_begin 2 = .ok (.iconst 0, 1) := by decide +kernel
theorem dL_begin_3 : decode cL_begin 3 = .ok (.aload_n 0, 1) := by decide +kernel
theorem dL_begin_4 : decode cL_begin 4 = .ok (.iload_n 1, 1) := by decide +kernel
theorem dL_begin_5 : decode cL_begin 5 = .ok (.iload_n 2, 1) := by decide +kernel
theorem dL_begin_6 : decode cL_begin 6 = .ok (.iload_n 3, 1) := by decide +kernel
theorem dL_begin_7 : decode cL_begin 7 = .ok (.iload 4, 2) := by decide +kernel
theorem dL_begin_9 : decode cL_begin 9 = .ok (.iload 5, 2) := by decide +kernel
theorem dL_begin_11 : decode cL_begin 11 = .ok (.invokevirtual 80, 3) := by decide +kernel
theorem dL_begin_14 : decode cL_begin 14 = .ok (.i2l, 1) := by decide +kernel
theorem dL_begin_15 : decode cL_begin 15 = .ok (.lastore, 1) := by decide +kernel
theorem dL_begin_16 : decode cL_begin 16 = .ok (.goto 19, 3) := by decide +kernel
theorem dL_begin_19 : decode cL_begin 19 = .ok (.astore 7, 2) := by decide +kernel
theorem dL_begin_21 : decode cL_begin 21 = .ok (.iconst 1, 1) := by decide +kernel
theorem dL_begin_22 : decode cL_begin 22 = .ok (.ireturn, 1) := by decide +kernel
theorem dL_begin_23 : decode cL_begin 23 = .ok (.astore 7, 2) := by decide +kernel
theorem dL_begin_25 : decode cL_begin 25 = .ok (.iconst 2, 1) := by decide +kernel
theorem dL_begin_26 : decode cL_begin 26 = .ok (.ireturn, 1) := by decide +kernel
theorem dL_begin_27 : decode cL_begin 27 = .ok (.astore 7, 2) := by decide +kernel
theorem dL_begin_29 : decode cL_begin 29 = .ok (.iconst 3, 1) := by decide +kernel
theorem dL_begin_30 : decode cL_begin 30 = .ok (.ireturn, 1) := by decide +kernel
theorem dL_begin_31 : decode cL_begin 31 = .ok (.astore 7, 2) := by decide +kernel
theorem dL_begin_33 : decode cL_begin 33 = .ok (.iconst 4, 1) := by decide +kernel
theorem dL_begin_34 : decode cL_begin 34 = .ok (.ireturn, 1) := by decide +kernel
theorem dL_begin_35 : decode cL_begin 35 = .ok (.iconst 0, 1) := by decide +kernel
theorem dL_begin_36 : decode cL_begin 36 = .ok (.ireturn, 1) := by decide +kernel
theorem dL_go_0 : decode cL_go 0 = .ok (.aload_n 2, 1) := by decide +kernel
theorem dL_go_1 : decode cL_go 1 = .ok (.iconst 0, 1) := by decide +kernel
theorem dL_go_2 : decode cL_go 2 = .ok (.aload_n 0, 1) := by decide +kernel
theorem dL_go_3 : decode cL_go 3 = .ok (.iload_n 1, 1) := by decide +kernel
theorem dL_go_4 : decode cL_go 4 = .ok (.invokevirtual 84, 3) := by decide +kernel
theorem dL_go_7 : decode cL_go 7 = .ok (.i2l, 1) := by decide +kernel
theorem dL_go_8 : decode cL_go 8 = .ok (.lastore, 1) := by decide +kernel
theorem dL_go_9 : decode cL_go 9 = .ok (.goto 9, 3) := by decide +kernel
theorem dL_go_12 : decode cL_go 12 = .ok (.astore_n 3, 1) := by decide +kernel
theorem dL_go_13 : decode cL_go 13 = .ok (.iconst 1, 1) := by decide +kernel
theorem dL_go_14 : decode cL_go 14 = .ok (.ireturn, 1) := by decide +kernel
theorem dL_go_15 : decode cL_go 15 = .ok (.astore_n 3, 1) := by decide +kernel
theorem dL_go_16 : decode cL_go 16 = .ok (.iconst 2, 1) := by decide +kernel
theorem dL_go_17 : decode cL_go 17 = .ok (.ireturn, 1) := by decide +kernel
theorem dL_go_18 : decode cL_go 18 = .ok (.iconst 0, 1) := by decide +kernel
theorem dL_go_19 : decode cL_go 19 = .ok (.ireturn, 1) := by decide +kernel
theorem dL_end_0 : decode cL_end 0 = .ok (.aload_n 1, 1) := by decide +kernel
theorem dL_end_1 : decode cL_end 1 = .ok (.iconst 0, 1) := by decide +kernel
theorem dL_end_2 : decode cL_end 2 = .ok (.aload_n 0, 1) := by decide +kernel
theorem dL_end_3 : decode cL_end 3 = .ok (.invokevirtual 87, 3) := by decide +kernel
theorem dL_end_6 : decode cL_end 6 = .ok (.i2l, 1) := by decide +kernel
theorem dL_end_7 : decode cL_end 7 = .ok (.lastore, 1) := by decide +kernel
theorem dL_end_8 : decode cL_end 8 = .ok (.goto 6, 3) := by decide +kernel
theorem dL_end_11 : decode cL_end 11 = .ok (.astore_n 2, 1) := by decide +kernel
theorem dL_end_12 : decode cL_end 12 = .ok (.iconst 1, 1) := by decide +kernel
theorem dL_end_13 : decode cL_end 13 = .ok (.ireturn, 1) := by decide +kernel
theorem dL_end_14 : decode cL_end 14 = .ok (.iconst 0, 1) := by decide +kernel
theorem dL_end_15 : decode cL_end 15 = .ok (.ireturn, 1) := by decide +kernel
theorem dL_reason_0 : decode cL_reason 0 = .ok (.aload_n 1, 1) := by decide +kernel
theorem dL_reason_1 : decode cL_reason 1 = .ok (.iconst 0, 1) := by decide +kernel
theorem dL_reason_2 : decode cL_reason 2 = .ok (.aload_n 0, 1) := by decide +kernel
theorem dL_reason_3 : decode cL_reason 3 = .ok (.invokevirtual 91, 3) := by decide +kernel
theorem dL_reason_6 : decode cL_reason 6 = .ok (.i2l, 1) := by decide +kernel
theorem dL_reason_7 : decode cL_reason 7 = .ok (.lastore, 1) := by decide +kernel
theorem dL_reason_8 : decode cL_reason 8 = .ok (.goto 6, 3) := by decide +kernel
theorem dL_reason_11 : decode cL_reason 11 = .ok (.astore_n 2, 1) := by decide +kernel
theorem dL_reason_12 : decode cL_reason 12 = .ok (.iconst 1, 1) := by decide +kernel
theorem dL_reason_13 : decode cL_reason 13 = .ok (.ireturn, 1) := by decide +kernel
theorem dL_reason_14 : decode cL_reason 14 = .ok (.iconst 0, 1) := by decide +kernel
theorem dL_reason_15 : decode cL_reason 15 = .ok (.ireturn, 1) := by decide +kernel
theorem dL_answerKind_0 : decode cL_answerKind 0 = .ok (.aload_n 1, 1) := by decide +kernel
theorem dL_answerKind_1 : decode cL_answerKind 1 = .ok (.iconst 0, 1) := by decide +kernel
theorem dL_answerKind_2 : decode cL_answerKind 2 = .ok (.aload_n 0, 1) := by decide +kernel
theorem dL_answerKind_3 : decode cL_answerKind 3 = .ok (.invokevirtual 95, 3) := by decide +kernel
theorem dL_answerKind_6 : decode cL_answerKind 6 = .ok (.i2l, 1) := by decide +kernel
theorem dL_answerKind_7 : decode cL_answerKind 7 = .ok (.lastore, 1) := by decide +kernel
theorem dL_answerKind_8 : decode cL_answerKind 8 = .ok (.goto 6, 3) := by decide +kernel
theorem dL_answerKind_11 : decode cL_answerKind 11 = .ok (.astore_n 2, 1) := by decide +kernel
theorem dL_answerKind_12 : decode cL_answerKind 12 = .ok (.iconst 1, 1) := by decide +kernel
theorem dL_answerKind_13 : decode cL_answerKind 13 = .ok (.ireturn, 1) := by decide +kernel
theorem dL_answerKind_14 : decode cL_answerKind 14 = .ok (.iconst 0, 1) := by decide +kernel
theorem dL_answerKind_15 : decode cL_answerKind 15 = .ok (.ireturn, 1) := by decide +kernel
theorem dL_answer_0 : decode cL_answer 0 = .ok (.aload_n 1, 1) := by decide +kernel
theorem dL_answer_1 : decode cL_answer 1 = .ok (.iconst 0, 1) := by decide +kernel
theorem dL_answer_2 : decode cL_answer 2 = .ok (.aload_n 0, 1) := by decide +kernel
theorem dL_answer_3 : decode cL_answer 3 = .ok (.invokevirtual 98, 3) := by decide +kernel
theorem dL_answer_6 : decode cL_answer 6 = .ok (.i2l, 1) := by decide +kernel
theorem dL_answer_7 : decode cL_answer 7 = .ok (.lastore, 1) := by decide +kernel
theorem dL_answer_8 : decode cL_answer 8 = .ok (.goto 6, 3) := by decide +kernel
theorem dL_answer_11 : decode cL_answer 11 = .ok (.astore_n 2, 1) := by decide +kernel
theorem dL_answer_12 : decode cL_answer 12 = .ok (.iconst 1, 1) := by decide +kernel
theorem dL_answer_13 : decode cL_answer 13 = .ok (.ireturn, 1) := by decide +kernel
theorem dL_answer_14 : decode cL_answer 14 = .ok (.iconst 0, 1) := by decide +kernel
theorem dL_answer_15 : decode cL_answer 15 = .ok (.ireturn, 1) := by decide +kernel
theorem dL_frame_0 : decode cL_frame 0 = .ok (.aload_n 3, 1) := by decide +kernel
theorem dL_frame_1 : decode cL_frame 1 = .ok (.iconst 0, 1) := by decide +kernel
theorem dL_frame_2 : decode cL_frame 2 = .ok (.aload_n 0, 1) := by decide +kernel
theorem dL_frame_3 : decode cL_frame 3 = .ok (.iload_n 1, 1) := by decide +kernel
theorem dL_frame_4 : decode cL_frame 4 = .ok (.iload_n 2, 1) := by decide +kernel
theorem dL_frame_5 : decode cL_frame 5 = .ok (.invokevirtual 101, 3) := by decide +kernel
theorem dL_frame_8 : decode cL_frame 8 = .ok (.i2l, 1) := by decide +kernel
theorem dL_frame_9 : decode cL_frame 9 = .ok (.lastore, 1) := by decide +kernel
theorem dL_frame_10 : decode cL_frame 10 = .ok (.goto 11, 3) := by decide +kernel
theorem dL_frame_13 : decode cL_frame 13 = .ok (.astore 4, 2) := by decide +kernel
theorem dL_frame_15 : decode cL_frame 15 = .ok (.iconst 1, 1) := by decide +kernel
theorem dL_frame_16 : decode cL_frame 16 = .ok (.ireturn, 1) := by decide +kernel
theorem dL_frame_17 : decode cL_frame 17 = .ok (.astore 4, 2) := by decide +kernel
theorem dL_frame_19 : decode cL_frame 19 = .ok (.iconst 2, 1) := by decide +kernel
theorem dL_frame_20 : decode cL_frame 20 = .ok (.ireturn, 1) := by decide +kernel
theorem dL_frame_21 : decode cL_frame 21 = .ok (.iconst 0, 1) := by decide +kernel
theorem dL_frame_22 : decode cL_frame 22 = .ok (.ireturn, 1) := by decide +kernel
theorem dL_slotKind_0 : decode cL_slotKind 0 = .ok (.aload 4, 2) := by decide +kernel
theorem dL_slotKind_2 : decode cL_slotKind 2 = .ok (.iconst 0, 1) := by decide +kernel
theorem dL_slotKind_3 : decode cL_slotKind 3 = .ok (.aload_n 0, 1) := by decide +kernel
theorem dL_slotKind_4 : decode cL_slotKind 4 = .ok (.iload_n 1, 1) := by decide +kernel
theorem dL_slotKind_5 : decode cL_slotKind 5 = .ok (.iload_n 2, 1) := by decide +kernel
theorem dL_slotKind_6 : decode cL_slotKind 6 = .ok (.iload_n 3, 1) := by decide +kernel
theorem dL_slotKind_7 : decode cL_slotKind 7 = .ok (.invokevirtual 105, 3) := by decide +kernel
theorem dL_slotKind_10 : decode cL_slotKind 10 = .ok (.i2l, 1) := by decide +kernel
theorem dL_slotKind_11 : decode cL_slotKind 11 = .ok (.lastore, 1) := by decide +kernel
theorem dL_slotKind_12 : decode cL_slotKind 12 = .ok (.goto 15, 3) := by decide +kernel
theorem dL_slotKind_15 : decode cL_slotKind 15 = .ok (.astore 5, 2) := by decide +kernel
theorem dL_slotKind_17 : decode cL_slotKind 17 = .ok (.iconst 1, 1) := by decide +kernel
theorem dL_slotKind_18 : decode cL_slotKind 18 = .ok (.ireturn, 1) := by decide +kernel
theorem dL_slotKind_19 : decode cL_slotKind 19 = .ok (.astore 5, 2) := by decide +kernel
theorem dL_slotKind_21 : decode cL_slotKind 21 = .ok (.iconst 2, 1) := by decide +kernel
theorem dL_slotKind_22 : decode cL_slotKind 22 = .ok (.ireturn, 1) := by decide +kernel
theorem dL_slotKind_23 : decode cL_slotKind 23 = .ok (.astore 5, 2) := by decide +kernel
theorem dL_slotKind_25 : decode cL_slotKind 25 = .ok (.iconst 3, 1) := by decide +kernel
theorem dL_slotKind_26 : decode cL_slotKind 26 = .ok (.ireturn, 1) := by decide +kernel
theorem dL_slotKind_27 : decode cL_slotKind 27 = .ok (.iconst 0, 1) := by decide +kernel
theorem dL_slotKind_28 : decode cL_slotKind 28 = .ok (.ireturn, 1) := by decide +kernel
theorem dL_slot_0 : decode cL_slot 0 = .ok (.aload 4, 2) := by decide +kernel
theorem dL_slot_2 : decode cL_slot 2 = .ok (.iconst 0, 1) := by decide +kernel
theorem dL_slot_3 : decode cL_slot 3 = .ok (.aload_n 0, 1) := by decide +kernel
theorem dL_slot_4 : decode cL_slot 4 = .ok (.iload_n 1, 1) := by decide +kernel
theorem dL_slot_5 : decode cL_slot 5 = .ok (.iload_n 2, 1) := by decide +kernel
theorem dL_slot_6 : decode cL_slot 6 = .ok (.iload_n 3, 1) := by decide +kernel
theorem dL_slot_7 : decode cL_slot 7 = .ok (.invokevirtual 109, 3) := by decide +kernel
theorem dL_slot_10 : decode cL_slot 10 = .ok (.i2l, 1) := by decide +kernel
theorem dL_slot_11 : decode cL_slot 11 = .ok (.lastore, 1) := by decide +kernel
theorem dL_slot_12 : decode cL_slot 12 = .ok (.goto 15, 3) := by decide +kernel
theorem dL_slot_15 : decode cL_slot 15 = .ok (.astore 5, 2) := by decide +kernel
theorem dL_slot_17 : decode cL_slot 17 = .ok (.iconst 1, 1) := by decide +kernel
theorem dL_slot_18 : decode cL_slot 18 = .ok (.ireturn, 1) := by decide +kernel
theorem dL_slot_19 : decode cL_slot 19 = .ok (.astore 5, 2) := by decide +kernel
theorem dL_slot_21 : decode cL_slot 21 = .ok (.iconst 2, 1) := by decide +kernel
theorem dL_slot_22 : decode cL_slot 22 = .ok (.ireturn, 1) := by decide +kernel
theorem dL_slot_23 : decode cL_slot 23 = .ok (.astore 5, 2) := by decide +kernel
theorem dL_slot_25 : decode cL_slot 25 = .ok (.iconst 3, 1) := by decide +kernel
theorem dL_slot_26 : decode cL_slot 26 = .ok (.ireturn, 1) := by decide +kernel
theorem dL_slot_27 : decode cL_slot 27 = .ok (.iconst 0, 1) := by decide +kernel
theorem dL_slot_28 : decode cL_slot 28 = .ok (.ireturn, 1) := by decide +kernel
theorem dL_writtenKind_0 : decode cL_writtenKind 0 = .ok (.aload_n 2, 1) := by decide +kernel
theorem dL_writtenKind_1 : decode cL_writtenKind 1 = .ok (.iconst 0, 1) := by decide +kernel
theorem dL_writtenKind_2 : decode cL_writtenKind 2 = .ok (.aload_n 0, 1) := by decide +kernel
theorem dL_writtenKind_3 : decode cL_writtenKind 3 = .ok (.iload_n 1, 1) := by decide +kernel
theorem dL_writtenKind_4 : decode cL_writtenKind 4 = .ok (.invokevirtual 113, 3) := by decide +kernel
theorem dL_writtenKind_7 : decode cL_writtenKind 7 = .ok (.i2l, 1) := by decide +kernel
theorem dL_writtenKind_8 : decode cL_writtenKind 8 = .ok (.lastore, 1) := by decide +kernel
theorem dL_writtenKind_9 : decode cL_writtenKind 9 = .ok (.goto 6, 3) := by decide +kernel
theorem dL_writtenKind_12 : decode cL_writtenKind 12 = .ok (.astore_n 3, 1) := by decide +kernel
theorem dL_writtenKind_13 : decode cL_writtenKind 13 = .ok (.iconst 1, 1) := by decide +kernel
theorem dL_writtenKind_14 : decode cL_writtenKind 14 = .ok (.ireturn, 1) := by decide +kernel
theorem dL_writtenKind_15 : decode cL_writtenKind 15 = .ok (.iconst 0, 1) := by decide +kernel
theorem dL_writtenKind_16 : decode cL_writtenKind 16 = .ok (.ireturn, 1) := by decide +kernel
theorem dL_writtenValue_0 : decode cL_writtenValue 0 = .ok (.aload_n 2, 1) := by decide +kernel
theorem dL_writtenValue_1 : decode cL_writtenValue 1 = .ok (.iconst 0, 1) := by decide +kernel
theorem dL_writtenValue_2 : decode cL_writtenValue 2 = .ok (.aload_n 0, 1) := by decide +kernel
theorem dL_writtenValue_3 : decode cL_writtenValue 3 = .ok (.iload_n 1, 1) := by decide +kernel
theorem dL_writtenValue_4 : decode cL_writtenValue 4 = .ok (.invokevirtual 116, 3) := by decide +kernel
theorem dL_writtenValue_7 : decode cL_writtenValue 7 = .ok (.i2l, 1) := by decide +kernel
theorem dL_writtenValue_8 : decode cL_writtenValue 8 = .ok (.lastore, 1) := by decide +kernel
theorem dL_writtenValue_9 : decode cL_writtenValue 9 = .ok (.goto 6, 3) := by decide +kernel
theorem dL_writtenValue_12 : decode cL_writtenValue 12 = .ok (.astore_n 3, 1) := by decide +kernel
theorem dL_writtenValue_13 : decode cL_writtenValue 13 = .ok (.iconst 1, 1) := by decide +kernel
theorem dL_writtenValue_14 : decode cL_writtenValue 14 = .ok (.ireturn, 1) := by decide +kernel
theorem dL_writtenValue_15 : decode cL_writtenValue 15 = .ok (.iconst 0, 1) := by decide +kernel
theorem dL_writtenValue_16 : decode cL_writtenValue 16 = .ok (.ireturn, 1) := by decide +kernel
theorem dL_compiledShare_0 : decode cL_compiledShare 0 = .ok (.aload_n 1, 1) := by decide +kernel
theorem dL_compiledShare_1 : decode cL_compiledShare 1 = .ok (.iconst 0, 1) := by decide +kernel
theorem dL_compiledShare_2 : decode cL_compiledShare 2 = .ok (.aload_n 0, 1) := by decide +kernel
theorem dL_compiledShare_3 : decode cL_compiledShare 3 = .ok (.invokevirtual 119, 3) := by decide +kernel
theorem dL_compiledShare_6 : decode cL_compiledShare 6 = .ok (.f2d, 1) := by decide +kernel
theorem dL_compiledShare_7 : decode cL_compiledShare 7 = .ok (.dastore, 1) := by decide +kernel
theorem dL_compiledShare_8 : decode cL_compiledShare 8 = .ok (.goto 6, 3) := by decide +kernel
theorem dL_compiledShare_11 : decode cL_compiledShare 11 = .ok (.astore_n 2, 1) := by decide +kernel
theorem dL_compiledShare_12 : decode cL_compiledShare 12 = .ok (.iconst 1, 1) := by decide +kernel
theorem dL_compiledShare_13 : decode cL_compiledShare 13 = .ok (.ireturn, 1) := by decide +kernel
theorem dL_compiledShare_14 : decode cL_compiledShare 14 = .ok (.iconst 0, 1) := by decide +kernel
theorem dL_compiledShare_15 : decode cL_compiledShare 15 = .ok (.ireturn, 1) := by decide +kernel
theorem dL_meanCalls_0 : decode cL_meanCalls 0 = .ok (.aload_n 1, 1) := by decide +kernel
theorem dL_meanCalls_1 : decode cL_meanCalls 1 = .ok (.iconst 0, 1) := by decide +kernel
theorem dL_meanCalls_2 : decode cL_meanCalls 2 = .ok (.aload_n 0, 1) := by decide +kernel
theorem dL_meanCalls_3 : decode cL_meanCalls 3 = .ok (.invokevirtual 125, 3) := by decide +kernel
theorem dL_meanCalls_6 : decode cL_meanCalls 6 = .ok (.dastore, 1) := by decide +kernel
theorem dL_meanCalls_7 : decode cL_meanCalls 7 = .ok (.goto 6, 3) := by decide +kernel
theorem dL_meanCalls_10 : decode cL_meanCalls 10 = .ok (.astore_n 2, 1) := by decide +kernel
theorem dL_meanCalls_11 : decode cL_meanCalls 11 = .ok (.iconst 1, 1) := by decide +kernel
theorem dL_meanCalls_12 : decode cL_meanCalls 12 = .ok (.ireturn, 1) := by decide +kernel
theorem dL_meanCalls_13 : decode cL_meanCalls 13 = .ok (.iconst 0, 1) := by decide +kernel
theorem dL_meanCalls_14 : decode cL_meanCalls 14 = .ok (.ireturn, 1) := by decide +kernel
section SITES
variable {p : Program} {l : Launch} {e : Env} {R : Room} {s : State} {m : MethodId} {args : Array Value} {below : List Frame} {meth : Method} {c : Code} {H : Heap} {locs : List Loc} {cells slots : Nat} {Q : State → Prop}
variable {pc : Nat} {ls : Array Slot} {rest : List Value} {D : va_G} {ar : Nat → ClassId} {κ : Nat → Nat} {A : Nat → Prop} {a : Nat} {H0 : Heap} {G : gW} {nz nL : Nat} {cc : ByteArray}
theorem m_3_63 : (Cond.code yX8_add cX8_add 3 (some .int)) ∈ lwA := lwA_mk (ck_3 _ (List.mem_of_getElem? (i := 63) rfl)) rfl
theorem m_3_60 : (Cond.methodLink RL 7 yX8_add) ∈ lwA := lwA_mk (ck_3 _ (List.mem_of_getElem? (i := 60) rfl)) rfl
theorem m_3_61 : (Cond.instanceMethod yX8_add) ∈ lwA := lwA_mk (ck_3 _ (List.mem_of_getElem? (i := 61) rfl)) rfl
theorem m_3_62 : (Cond.selects RX8 yX8_add yX8_add) ∈ lwA := lwA_mk (ck_3 _ (List.mem_of_getElem? (i := 62) rfl)) rfl
theorem k_RL_7 {args : Array Value} {s : State} {R rm : Room} (hts : ∀ w ∈ lwA, w.before args s = true) (hR : rm.frames + 1 ≤ R.frames ∧ 8 + (3 + 11) + rm.locals ≤ R.locals) : CallW R s args RL RX8 7 yX8_add cX8_add 3 (some .int) (lwC yX8_add cX8_add 3 (some .int)) rm rm.cells rm.slots 2 := cwV 2 hts (gdV m_3_60 m_3_61 m_3_62 m_1_1 m_3_63) rfl rfl rfl (by decide +kernel) hR
theorem m_2_218 : (Cond.classLink RL 13 "java/lang/IndexOutOfBoundsException") ∈ lwA := lwA_mk (ck_2 _ (List.mem_of_getElem? (i := 218) rfl)) rfl
theorem m_3_58 : (Cond.classLink RL 15 "java/lang/IllegalArgumentException") ∈ lwA := lwA_mk (ck_3 _ (List.mem_of_getElem? (i := 58) rfl)) rfl
theorem m_3_59 : (Cond.classLink RL 17 "java/lang/IllegalStateException") ∈ lwA := lwA_mk (ck_3 _ (List.mem_of_getElem? (i := 59) rfl)) rfl
theorem m_3_132 : (Cond.code yX8_fields cX8_fields 2 (some .int)) ∈ lwA := lwA_mk (ck_3 _ (List.mem_of_getElem? (i := 132) rfl)) rfl
theorem m_3_129 : (Cond.methodLink RL 19 yX8_fields) ∈ lwA := lwA_mk (ck_3 _ (List.mem_of_getElem? (i := 129) rfl)) rfl
theorem m_3_130 : (Cond.instanceMethod yX8_fields) ∈ lwA := lwA_mk (ck_3 _ (List.mem_of_getElem? (i := 130) rfl)) rfl
theorem m_3_131 : (Cond.selects RX8 yX8_fields yX8_fields) ∈ lwA := lwA_mk (ck_3 _ (List.mem_of_getElem? (i := 131) rfl)) rfl
theorem k_RL_19 {args : Array Value} {s : State} {R rm : Room} (hts : ∀ w ∈ lwA, w.before args s = true) (hR : rm.frames + 1 ≤ R.frames ∧ 8 + (2 + 11) + rm.locals ≤ R.locals) : CallW R s args RL RX8 19 yX8_fields cX8_fields 2 (some .int) (lwC yX8_fields cX8_fields 2 (some .int)) rm rm.cells rm.slots 1 := cwV 1 hts (gdV m_3_129 m_3_130 m_3_131 m_1_1 m_3_132) rfl rfl rfl (by decide +kernel) hR
theorem m_3_139 : (Cond.code yX8_row cX8_row 4 (some .int)) ∈ lwA := lwA_mk (ck_3 _ (List.mem_of_getElem? (i := 139) rfl)) rfl
theorem m_3_136 : (Cond.methodLink RL 23 yX8_row) ∈ lwA := lwA_mk (ck_3 _ (List.mem_of_getElem? (i := 136) rfl)) rfl
theorem m_3_137 : (Cond.instanceMethod yX8_row) ∈ lwA := lwA_mk (ck_3 _ (List.mem_of_getElem? (i := 137) rfl)) rfl
theorem m_3_138 : (Cond.selects RX8 yX8_row yX8_row) ∈ lwA := lwA_mk (ck_3 _ (List.mem_of_getElem? (i := 138) rfl)) rfl
theorem k_RL_23 {args : Array Value} {s : State} {R rm : Room} (hts : ∀ w ∈ lwA, w.before args s = true) (hR : rm.frames + 1 ≤ R.frames ∧ 8 + (4 + 11) + rm.locals ≤ R.locals) : CallW R s args RL RX8 23 yX8_row cX8_row 4 (some .int) (lwC yX8_row cX8_row 4 (some .int)) rm rm.cells rm.slots 3 := cwV 3 hts (gdV m_3_136 m_3_137 m_3_138 m_1_1 m_3_139) rfl rfl rfl (by decide +kernel) hR
theorem m_3_156 : (Cond.code yX8_method cX8_method 6 (some .int)) ∈ lwA := lwA_mk (ck_3 _ (List.mem_of_getElem? (i := 156) rfl)) rfl
theorem m_3_153 : (Cond.methodLink RL 27 yX8_method) ∈ lwA := lwA_mk (ck_3 _ (List.mem_of_getElem? (i := 153) rfl)) rfl
theorem m_3_154 : (Cond.instanceMethod yX8_method) ∈ lwA := lwA_mk (ck_3 _ (List.mem_of_getElem? (i := 154) rfl)) rfl
theorem m_3_155 : (Cond.selects RX8 yX8_method yX8_method) ∈ lwA := lwA_mk (ck_3 _ (List.mem_of_getElem? (i := 155) rfl)) rfl
theorem k_RL_27 {args : Array Value} {s : State} {R rm : Room} (hts : ∀ w ∈ lwA, w.before args s = true) (hR : rm.frames + 1 ≤ R.frames ∧ 8 + (6 + 11) + rm.locals ≤ R.locals) : CallW R s args RL RX8 27 yX8_method cX8_method 6 (some .int) (lwC yX8_method cX8_method 6 (some .int)) rm rm.cells rm.slots 4 := cwV 4 hts (gdV m_3_153 m_3_154 m_3_155 m_1_1 m_3_156) rfl rfl rfl (by decide +kernel) hR
theorem m_3_152 : (Cond.classLink RL 31 "java/lang/UnsupportedOperationException") ∈ lwA := lwA_mk (ck_3 _ (List.mem_of_getElem? (i := 152) rfl)) rfl
theorem m_4_40 : (Cond.code yX8_remove cX8_remove 4 (some .int)) ∈ lwA := lwA_mk (ck_4 _ (List.mem_of_getElem? (i := 40) rfl)) rfl
theorem m_4_37 : (Cond.methodLink RL 33 yX8_remove) ∈ lwA := lwA_mk (ck_4 _ (List.mem_of_getElem? (i := 37) rfl)) rfl
theorem m_4_38 : (Cond.instanceMethod yX8_remove) ∈ lwA := lwA_mk (ck_4 _ (List.mem_of_getElem? (i := 38) rfl)) rfl
theorem m_4_39 : (Cond.selects RX8 yX8_remove yX8_remove) ∈ lwA := lwA_mk (ck_4 _ (List.mem_of_getElem? (i := 39) rfl)) rfl
theorem k_RL_33 {args : Array Value} {s : State} {R rm : Room} (hts : ∀ w ∈ lwA, w.before args s = true) (hR : rm.frames + 1 ≤ R.frames ∧ 8 + (4 + 11) + rm.locals ≤ R.locals) : CallW R s args RL RX8 33 yX8_remove cX8_remove 4 (some .int) (lwC yX8_remove cX8_remove 4 (some .int)) rm rm.cells rm.slots 2 := cwV 2 hts (gdV m_4_37 m_4_38 m_4_39 m_1_1 m_4_40) rfl rfl rfl (by decide +kernel) hR
theorem m_4_36 : (Cond.classLink RL 36 "java/util/NoSuchElementException") ∈ lwA := lwA_mk (ck_4 _ (List.mem_of_getElem? (i := 36) rfl)) rfl
theorem m_4_71 : (Cond.code yX8_find cX8_find 4 (some .int)) ∈ lwA := lwA_mk (ck_4 _ (List.mem_of_getElem? (i := 71) rfl)) rfl
theorem m_4_68 : (Cond.methodLink RL 38 yX8_find) ∈ lwA := lwA_mk (ck_4 _ (List.mem_of_getElem? (i := 68) rfl)) rfl
theorem m_4_69 : (Cond.instanceMethod yX8_find) ∈ lwA := lwA_mk (ck_4 _ (List.mem_of_getElem? (i := 69) rfl)) rfl
theorem m_4_70 : (Cond.selects RX8 yX8_find yX8_find) ∈ lwA := lwA_mk (ck_4 _ (List.mem_of_getElem? (i := 70) rfl)) rfl
theorem k_RL_38 {args : Array Value} {s : State} {R rm : Room} (hts : ∀ w ∈ lwA, w.before args s = true) (hR : rm.frames + 1 ≤ R.frames ∧ 8 + (4 + 11) + rm.locals ≤ R.locals) : CallW R s args RL RX8 38 yX8_find cX8_find 4 (some .int) (lwC yX8_find cX8_find 4 (some .int)) rm rm.cells rm.slots 2 := cwV 2 hts (gdV m_4_68 m_4_69 m_4_70 m_1_1 m_4_71) rfl rfl rfl (by decide +kernel) hR
theorem m_4_87 : (Cond.code yX8_calls cX8_calls 3 (some .int)) ∈ lwA := lwA_mk (ck_4 _ (List.mem_of_getElem? (i := 87) rfl)) rfl
theorem m_4_84 : (Cond.methodLink RL 41 yX8_calls) ∈ lwA := lwA_mk (ck_4 _ (List.mem_of_getElem? (i := 84) rfl)) rfl
theorem m_4_85 : (Cond.instanceMethod yX8_calls) ∈ lwA := lwA_mk (ck_4 _ (List.mem_of_getElem? (i := 85) rfl)) rfl
theorem m_4_86 : (Cond.selects RX8 yX8_calls yX8_calls) ∈ lwA := lwA_mk (ck_4 _ (List.mem_of_getElem? (i := 86) rfl)) rfl
theorem k_RL_41 {args : Array Value} {s : State} {R rm : Room} (hts : ∀ w ∈ lwA, w.before args s = true) (hR : rm.frames + 1 ≤ R.frames ∧ 8 + (3 + 11) + rm.locals ≤ R.locals) : CallW R s args RL RX8 41 yX8_calls cX8_calls 3 (some .int) (lwC yX8_calls cX8_calls 3 (some .int)) rm rm.cells rm.slots 2 := cwV 2 hts (gdV m_4_84 m_4_85 m_4_86 m_1_1 m_4_87) rfl rfl rfl (by decide +kernel) hR
theorem m_4_94 : (Cond.code yX8_compile cX8_compile 3 (some .int)) ∈ lwA := lwA_mk (ck_4 _ (List.mem_of_getElem? (i := 94) rfl)) rfl
theorem m_4_91 : (Cond.methodLink RL 44 yX8_compile) ∈ lwA := lwA_mk (ck_4 _ (List.mem_of_getElem? (i := 91) rfl)) rfl
theorem m_4_92 : (Cond.instanceMethod yX8_compile) ∈ lwA := lwA_mk (ck_4 _ (List.mem_of_getElem? (i := 92) rfl)) rfl
theorem m_4_93 : (Cond.selects RX8 yX8_compile yX8_compile) ∈ lwA := lwA_mk (ck_4 _ (List.mem_of_getElem? (i := 93) rfl)) rfl
theorem k_RL_44 {args : Array Value} {s : State} {R rm : Room} (hts : ∀ w ∈ lwA, w.before args s = true) (hR : rm.frames + 1 ≤ R.frames ∧ 8 + (3 + 11) + rm.locals ≤ R.locals) : CallW R s args RL RX8 44 yX8_compile cX8_compile 3 (some .int) (lwC yX8_compile cX8_compile 3 (some .int)) rm rm.cells rm.slots 2 := cwV 2 hts (gdV m_4_91 m_4_92 m_4_93 m_1_1 m_4_94) rfl rfl rfl (by decide +kernel) hR
theorem m_4_105 : (Cond.code yX8_isCompiled cX8_isCompiled 3 (some .boolean)) ∈ lwA := lwA_mk (ck_4 _ (List.mem_of_getElem? (i := 105) rfl)) rfl
theorem m_4_102 : (Cond.methodLink RL 47 yX8_isCompiled) ∈ lwA := lwA_mk (ck_4 _ (List.mem_of_getElem? (i := 102) rfl)) rfl
theorem m_4_103 : (Cond.instanceMethod yX8_isCompiled) ∈ lwA := lwA_mk (ck_4 _ (List.mem_of_getElem? (i := 103) rfl)) rfl
theorem m_4_104 : (Cond.selects RX8 yX8_isCompiled yX8_isCompiled) ∈ lwA := lwA_mk (ck_4 _ (List.mem_of_getElem? (i := 104) rfl)) rfl
theorem k_RL_47 {args : Array Value} {s : State} {R rm : Room} (hts : ∀ w ∈ lwA, w.before args s = true) (hR : rm.frames + 1 ≤ R.frames ∧ 8 + (3 + 11) + rm.locals ≤ R.locals) : CallW R s args RL RX8 47 yX8_isCompiled cX8_isCompiled 3 (some .boolean) (lwC yX8_isCompiled cX8_isCompiled 3 (some .boolean)) rm rm.cells rm.slots 2 := cwV 2 hts (gdV m_4_102 m_4_103 m_4_104 m_1_1 m_4_105) rfl rfl rfl (by decide +kernel) hR
theorem m_4_112 : (Cond.code yX8_hot cX8_hot 3 (some .int)) ∈ lwA := lwA_mk (ck_4 _ (List.mem_of_getElem? (i := 112) rfl)) rfl
theorem m_4_109 : (Cond.methodLink RL 51 yX8_hot) ∈ lwA := lwA_mk (ck_4 _ (List.mem_of_getElem? (i := 109) rfl)) rfl
theorem m_4_110 : (Cond.instanceMethod yX8_hot) ∈ lwA := lwA_mk (ck_4 _ (List.mem_of_getElem? (i := 110) rfl)) rfl
theorem m_4_111 : (Cond.selects RX8 yX8_hot yX8_hot) ∈ lwA := lwA_mk (ck_4 _ (List.mem_of_getElem? (i := 111) rfl)) rfl
theorem k_RL_51 {args : Array Value} {s : State} {R rm : Room} (hts : ∀ w ∈ lwA, w.before args s = true) (hR : rm.frames + 1 ≤ R.frames ∧ 8 + (3 + 11) + rm.locals ≤ R.locals) : CallW R s args RL RX8 51 yX8_hot cX8_hot 3 (some .int) (lwC yX8_hot cX8_hot 3 (some .int)) rm rm.cells rm.slots 1 := cwV 1 hts (gdV m_4_109 m_4_110 m_4_111 m_1_1 m_4_112) rfl rfl rfl (by decide +kernel) hR
theorem m_4_119 : (Cond.code yX8_number cX8_number 3 (some .int)) ∈ lwA := lwA_mk (ck_4 _ (List.mem_of_getElem? (i := 119) rfl)) rfl
theorem m_4_116 : (Cond.methodLink RL 54 yX8_number) ∈ lwA := lwA_mk (ck_4 _ (List.mem_of_getElem? (i := 116) rfl)) rfl
theorem m_4_117 : (Cond.instanceMethod yX8_number) ∈ lwA := lwA_mk (ck_4 _ (List.mem_of_getElem? (i := 117) rfl)) rfl
theorem m_4_118 : (Cond.selects RX8 yX8_number yX8_number) ∈ lwA := lwA_mk (ck_4 _ (List.mem_of_getElem? (i := 118) rfl)) rfl
theorem k_RL_54 {args : Array Value} {s : State} {R rm : Room} (hts : ∀ w ∈ lwA, w.before args s = true) (hR : rm.frames + 1 ≤ R.frames ∧ 8 + (3 + 11) + rm.locals ≤ R.locals) : CallW R s args RL RX8 54 yX8_number cX8_number 3 (some .int) (lwC yX8_number cX8_number 3 (some .int)) rm rm.cells rm.slots 2 := cwV 2 hts (gdV m_4_116 m_4_117 m_4_118 m_1_1 m_4_119) rfl rfl rfl (by decide +kernel) hR
theorem m_4_139 : (Cond.code yX8_nothing cX8_nothing 2 (some .int)) ∈ lwA := lwA_mk (ck_4 _ (List.mem_of_getElem? (i := 139) rfl)) rfl
theorem m_4_136 : (Cond.methodLink RL 57 yX8_nothing) ∈ lwA := lwA_mk (ck_4 _ (List.mem_of_getElem? (i := 136) rfl)) rfl
theorem m_4_137 : (Cond.instanceMethod yX8_nothing) ∈ lwA := lwA_mk (ck_4 _ (List.mem_of_getElem? (i := 137) rfl)) rfl
theorem m_4_138 : (Cond.selects RX8 yX8_nothing yX8_nothing) ∈ lwA := lwA_mk (ck_4 _ (List.mem_of_getElem? (i := 138) rfl)) rfl
theorem k_RL_57 {args : Array Value} {s : State} {R rm : Room} (hts : ∀ w ∈ lwA, w.before args s = true) (hR : rm.frames + 1 ≤ R.frames ∧ 8 + (2 + 11) + rm.locals ≤ R.locals) : CallW R s args RL RX8 57 yX8_nothing cX8_nothing 2 (some .int) (lwC yX8_nothing cX8_nothing 2 (some .int)) rm rm.cells rm.slots 1 := cwV 1 hts (gdV m_4_136 m_4_137 m_4_138 m_1_1 m_4_139) rfl rfl rfl (by decide +kernel) hR
theorem m_4_146 : (Cond.code yX8_make cX8_make 4 (some .int)) ∈ lwA := lwA_mk (ck_4 _ (List.mem_of_getElem? (i := 146) rfl)) rfl
theorem m_4_143 : (Cond.methodLink RL 60 yX8_make) ∈ lwA := lwA_mk (ck_4 _ (List.mem_of_getElem? (i := 143) rfl)) rfl
theorem m_4_144 : (Cond.instanceMethod yX8_make) ∈ lwA := lwA_mk (ck_4 _ (List.mem_of_getElem? (i := 144) rfl)) rfl
theorem m_4_145 : (Cond.selects RX8 yX8_make yX8_make) ∈ lwA := lwA_mk (ck_4 _ (List.mem_of_getElem? (i := 145) rfl)) rfl
theorem k_RL_60 {args : Array Value} {s : State} {R rm : Room} (hts : ∀ w ∈ lwA, w.before args s = true) (hR : rm.frames + 1 ≤ R.frames ∧ 8 + (4 + 11) + rm.locals ≤ R.locals) : CallW R s args RL RX8 60 yX8_make cX8_make 4 (some .int) (lwC yX8_make cX8_make 4 (some .int)) rm rm.cells rm.slots 2 := cwV 2 hts (gdV m_4_143 m_4_144 m_4_145 m_1_1 m_4_146) rfl rfl rfl (by decide +kernel) hR
theorem m_4_174 : (Cond.code yX8_kind cX8_kind 2 (some .char)) ∈ lwA := lwA_mk (ck_4 _ (List.mem_of_getElem? (i := 174) rfl)) rfl
theorem m_4_171 : (Cond.methodLink RL 63 yX8_kind) ∈ lwA := lwA_mk (ck_4 _ (List.mem_of_getElem? (i := 171) rfl)) rfl
theorem m_4_172 : (Cond.instanceMethod yX8_kind) ∈ lwA := lwA_mk (ck_4 _ (List.mem_of_getElem? (i := 172) rfl)) rfl
theorem m_4_173 : (Cond.selects RX8 yX8_kind yX8_kind) ∈ lwA := lwA_mk (ck_4 _ (List.mem_of_getElem? (i := 173) rfl)) rfl
theorem k_RL_63 {args : Array Value} {s : State} {R rm : Room} (hts : ∀ w ∈ lwA, w.before args s = true) (hR : rm.frames + 1 ≤ R.frames ∧ 8 + (2 + 11) + rm.locals ≤ R.locals) : CallW R s args RL RX8 63 yX8_kind cX8_kind 2 (some .char) (lwC yX8_kind cX8_kind 2 (some .char)) rm rm.cells rm.slots 1 := cwV 1 hts (gdV m_4_171 m_4_172 m_4_173 m_1_1 m_4_174) rfl rfl rfl (by decide +kernel) hR
theorem m_4_181 : (Cond.code yX8_value cX8_value 2 (some .int)) ∈ lwA := lwA_mk (ck_4 _ (List.mem_of_getElem? (i := 181) rfl)) rfl
theorem m_4_178 : (Cond.methodLink RL 67 yX8_value) ∈ lwA := lwA_mk (ck_4 _ (List.mem_of_getElem? (i := 178) rfl)) rfl
theorem m_4_179 : (Cond.instanceMethod yX8_value) ∈ lwA := lwA_mk (ck_4 _ (List.mem_of_getElem? (i := 179) rfl)) rfl
theorem m_4_180 : (Cond.selects RX8 yX8_value yX8_value) ∈ lwA := lwA_mk (ck_4 _ (List.mem_of_getElem? (i := 180) rfl)) rfl
theorem k_RL_67 {args : Array Value} {s : State} {R rm : Room} (hts : ∀ w ∈ lwA, w.before args s = true) (hR : rm.frames + 1 ≤ R.frames ∧ 8 + (2 + 11) + rm.locals ≤ R.locals) : CallW R s args RL RX8 67 yX8_value cX8_value 2 (some .int) (lwC yX8_value cX8_value 2 (some .int)) rm rm.cells rm.slots 1 := cwV 1 hts (gdV m_4_178 m_4_179 m_4_180 m_1_1 m_4_181) rfl rfl rfl (by decide +kernel) hR
theorem m_4_188 : (Cond.code yX8_classOf cX8_classOf 3 (some .int)) ∈ lwA := lwA_mk (ck_4 _ (List.mem_of_getElem? (i := 188) rfl)) rfl
theorem m_4_185 : (Cond.methodLink RL 70 yX8_classOf) ∈ lwA := lwA_mk (ck_4 _ (List.mem_of_getElem? (i := 185) rfl)) rfl
theorem m_4_186 : (Cond.instanceMethod yX8_classOf) ∈ lwA := lwA_mk (ck_4 _ (List.mem_of_getElem? (i := 186) rfl)) rfl
theorem m_4_187 : (Cond.selects RX8 yX8_classOf yX8_classOf) ∈ lwA := lwA_mk (ck_4 _ (List.mem_of_getElem? (i := 187) rfl)) rfl
theorem k_RL_70 {args : Array Value} {s : State} {R rm : Room} (hts : ∀ w ∈ lwA, w.before args s = true) (hR : rm.frames + 1 ≤ R.frames ∧ 8 + (3 + 11) + rm.locals ≤ R.locals) : CallW R s args RL RX8 70 yX8_classOf cX8_classOf 3 (some .int) (lwC yX8_classOf cX8_classOf 3 (some .int)) rm rm.cells rm.slots 1 := cwV 1 hts (gdV m_4_185 m_4_186 m_4_187 m_1_1 m_4_188) rfl rfl rfl (by decide +kernel) hR
theorem m_4_197 : (Cond.code yX8_fieldKind cX8_fieldKind 3 (some .char)) ∈ lwA := lwA_mk (ck_4 _ (List.mem_of_getElem? (i := 197) rfl)) rfl
theorem m_4_194 : (Cond.methodLink RL 73 yX8_fieldKind) ∈ lwA := lwA_mk (ck_4 _ (List.mem_of_getElem? (i := 194) rfl)) rfl
theorem m_4_195 : (Cond.instanceMethod yX8_fieldKind) ∈ lwA := lwA_mk (ck_4 _ (List.mem_of_getElem? (i := 195) rfl)) rfl
theorem m_4_196 : (Cond.selects RX8 yX8_fieldKind yX8_fieldKind) ∈ lwA := lwA_mk (ck_4 _ (List.mem_of_getElem? (i := 196) rfl)) rfl
theorem k_RL_73 {args : Array Value} {s : State} {R rm : Room} (hts : ∀ w ∈ lwA, w.before args s = true) (hR : rm.frames + 1 ≤ R.frames ∧ 8 + (3 + 11) + rm.locals ≤ R.locals) : CallW R s args RL RX8 73 yX8_fieldKind cX8_fieldKind 3 (some .char) (lwC yX8_fieldKind cX8_fieldKind 3 (some .char)) rm rm.cells rm.slots 2 := cwV 2 hts (gdV m_4_194 m_4_195 m_4_196 m_1_1 m_4_197) rfl rfl rfl (by decide +kernel) hR
theorem m_4_214 : (Cond.code yX8_fieldValue cX8_fieldValue 3 (some .int)) ∈ lwA := lwA_mk (ck_4 _ (List.mem_of_getElem? (i := 214) rfl)) rfl
theorem m_4_211 : (Cond.methodLink RL 77 yX8_fieldValue) ∈ lwA := lwA_mk (ck_4 _ (List.mem_of_getElem? (i := 211) rfl)) rfl
theorem m_4_212 : (Cond.instanceMethod yX8_fieldValue) ∈ lwA := lwA_mk (ck_4 _ (List.mem_of_getElem? (i := 212) rfl)) rfl
theorem m_4_213 : (Cond.selects RX8 yX8_fieldValue yX8_fieldValue) ∈ lwA := lwA_mk (ck_4 _ (List.mem_of_getElem? (i := 213) rfl)) rfl
theorem k_RL_77 {args : Array Value} {s : State} {R rm : Room} (hts : ∀ w ∈ lwA, w.before args s = true) (hR : rm.frames + 1 ≤ R.frames ∧ 8 + (3 + 11) + rm.locals ≤ R.locals) : CallW R s args RL RX8 77 yX8_fieldValue cX8_fieldValue 3 (some .int) (lwC yX8_fieldValue cX8_fieldValue 3 (some .int)) rm rm.cells rm.slots 2 := cwV 2 hts (gdV m_4_211 m_4_212 m_4_213 m_1_1 m_4_214) rfl rfl rfl (by decide +kernel) hR
theorem m_4_221 : (Cond.code yX8_begin cX8_begin 10 (some .int)) ∈ lwA := lwA_mk (ck_4 _ (List.mem_of_getElem? (i := 221) rfl)) rfl
theorem m_4_218 : (Cond.methodLink RL 80 yX8_begin) ∈ lwA := lwA_mk (ck_4 _ (List.mem_of_getElem? (i := 218) rfl)) rfl
theorem m_4_219 : (Cond.instanceMethod yX8_begin) ∈ lwA := lwA_mk (ck_4 _ (List.mem_of_getElem? (i := 219) rfl)) rfl
theorem m_4_220 : (Cond.selects RX8 yX8_begin yX8_begin) ∈ lwA := lwA_mk (ck_4 _ (List.mem_of_getElem? (i := 220) rfl)) rfl
theorem k_RL_80 {args : Array Value} {s : State} {R rm : Room} (hts : ∀ w ∈ lwA, w.before args s = true) (hR : rm.frames + 1 ≤ R.frames ∧ 8 + (10 + 11) + rm.locals ≤ R.locals) : CallW R s args RL RX8 80 yX8_begin cX8_begin 10 (some .int) (lwC yX8_begin cX8_begin 10 (some .int)) rm rm.cells rm.slots 5 := cwV 5 hts (gdV m_4_218 m_4_219 m_4_220 m_1_1 m_4_221) rfl rfl rfl (by decide +kernel) hR
theorem m_5_11 : (Cond.code yX8_go cX8_go 5 (some .int)) ∈ lwA := lwA_mk (ck_5 _ (List.mem_of_getElem? (i := 11) rfl)) rfl
theorem m_5_8 : (Cond.methodLink RL 84 yX8_go) ∈ lwA := lwA_mk (ck_5 _ (List.mem_of_getElem? (i := 8) rfl)) rfl
theorem m_5_9 : (Cond.instanceMethod yX8_go) ∈ lwA := lwA_mk (ck_5 _ (List.mem_of_getElem? (i := 9) rfl)) rfl
theorem m_5_10 : (Cond.selects RX8 yX8_go yX8_go) ∈ lwA := lwA_mk (ck_5 _ (List.mem_of_getElem? (i := 10) rfl)) rfl
theorem k_RL_84 {args : Array Value} {s : State} {R rm : Room} (hts : ∀ w ∈ lwA, w.before args s = true) (hR : rm.frames + 1 ≤ R.frames ∧ 8 + (5 + 11) + rm.locals ≤ R.locals) : CallW R s args RL RX8 84 yX8_go cX8_go 5 (some .int) (lwC yX8_go cX8_go 5 (some .int)) rm rm.cells rm.slots 1 := cwV 1 hts (gdV m_5_8 m_5_9 m_5_10 m_1_1 m_5_11) rfl rfl rfl (by decide +kernel) hR
theorem m_5_217 : (Cond.code yX8_end cX8_end 2 (some .int)) ∈ lwA := lwA_mk (ck_5 _ (List.mem_of_getElem? (i := 217) rfl)) rfl
theorem m_5_214 : (Cond.methodLink RL 87 yX8_end) ∈ lwA := lwA_mk (ck_5 _ (List.mem_of_getElem? (i := 214) rfl)) rfl
theorem m_5_215 : (Cond.instanceMethod yX8_end) ∈ lwA := lwA_mk (ck_5 _ (List.mem_of_getElem? (i := 215) rfl)) rfl
theorem m_5_216 : (Cond.selects RX8 yX8_end yX8_end) ∈ lwA := lwA_mk (ck_5 _ (List.mem_of_getElem? (i := 216) rfl)) rfl
theorem k_RL_87 {args : Array Value} {s : State} {R rm : Room} (hts : ∀ w ∈ lwA, w.before args s = true) (hR : rm.frames + 1 ≤ R.frames ∧ 8 + (2 + 11) + rm.locals ≤ R.locals) : CallW R s args RL RX8 87 yX8_end cX8_end 2 (some .int) (lwC yX8_end cX8_end 2 (some .int)) rm rm.cells rm.slots 0 := cwV 0 hts (gdV m_5_214 m_5_215 m_5_216 m_1_1 m_5_217) rfl rfl rfl (by decide +kernel) hR
theorem m_5_225 : (Cond.code yX8_reason cX8_reason 1 (some .char)) ∈ lwA := lwA_mk (ck_5 _ (List.mem_of_getElem? (i := 225) rfl)) rfl
theorem m_5_222 : (Cond.methodLink RL 91 yX8_reason) ∈ lwA := lwA_mk (ck_5 _ (List.mem_of_getElem? (i := 222) rfl)) rfl
theorem m_5_223 : (Cond.instanceMethod yX8_reason) ∈ lwA := lwA_mk (ck_5 _ (List.mem_of_getElem? (i := 223) rfl)) rfl
theorem m_5_224 : (Cond.selects RX8 yX8_reason yX8_reason) ∈ lwA := lwA_mk (ck_5 _ (List.mem_of_getElem? (i := 224) rfl)) rfl
theorem k_RL_91 {args : Array Value} {s : State} {R rm : Room} (hts : ∀ w ∈ lwA, w.before args s = true) (hR : rm.frames + 1 ≤ R.frames ∧ 8 + (1 + 11) + rm.locals ≤ R.locals) : CallW R s args RL RX8 91 yX8_reason cX8_reason 1 (some .char) (lwC yX8_reason cX8_reason 1 (some .char)) rm rm.cells rm.slots 0 := cwV 0 hts (gdV m_5_222 m_5_223 m_5_224 m_1_1 m_5_225) rfl rfl rfl (by decide +kernel) hR
theorem m_5_233 : (Cond.code yX8_answerKind cX8_answerKind 1 (some .char)) ∈ lwA := lwA_mk (ck_5 _ (List.mem_of_getElem? (i := 233) rfl)) rfl
theorem m_5_230 : (Cond.methodLink RL 95 yX8_answerKind) ∈ lwA := lwA_mk (ck_5 _ (List.mem_of_getElem? (i := 230) rfl)) rfl
theorem m_5_231 : (Cond.instanceMethod yX8_answerKind) ∈ lwA := lwA_mk (ck_5 _ (List.mem_of_getElem? (i := 231) rfl)) rfl
theorem m_5_232 : (Cond.selects RX8 yX8_answerKind yX8_answerKind) ∈ lwA := lwA_mk (ck_5 _ (List.mem_of_getElem? (i := 232) rfl)) rfl
theorem k_RL_95 {args : Array Value} {s : State} {R rm : Room} (hts : ∀ w ∈ lwA, w.before args s = true) (hR : rm.frames + 1 ≤ R.frames ∧ 8 + (1 + 11) + rm.locals ≤ R.locals) : CallW R s args RL RX8 95 yX8_answerKind cX8_answerKind 1 (some .char) (lwC yX8_answerKind cX8_answerKind 1 (some .char)) rm rm.cells rm.slots 0 := cwV 0 hts (gdV m_5_230 m_5_231 m_5_232 m_1_1 m_5_233) rfl rfl rfl (by decide +kernel) hR
theorem m_6_5 : (Cond.code yX8_answer cX8_answer 1 (some .int)) ∈ lwA := lwA_mk (ck_6 _ (List.mem_of_getElem? (i := 5) rfl)) rfl
theorem m_6_2 : (Cond.methodLink RL 98 yX8_answer) ∈ lwA := lwA_mk (ck_6 _ (List.mem_of_getElem? (i := 2) rfl)) rfl
theorem m_6_3 : (Cond.instanceMethod yX8_answer) ∈ lwA := lwA_mk (ck_6 _ (List.mem_of_getElem? (i := 3) rfl)) rfl
theorem m_6_4 : (Cond.selects RX8 yX8_answer yX8_answer) ∈ lwA := lwA_mk (ck_6 _ (List.mem_of_getElem? (i := 4) rfl)) rfl
theorem k_RL_98 {args : Array Value} {s : State} {R rm : Room} (hts : ∀ w ∈ lwA, w.before args s = true) (hR : rm.frames + 1 ≤ R.frames ∧ 8 + (1 + 11) + rm.locals ≤ R.locals) : CallW R s args RL RX8 98 yX8_answer cX8_answer 1 (some .int) (lwC yX8_answer cX8_answer 1 (some .int)) rm rm.cells rm.slots 0 := cwV 0 hts (gdV m_6_2 m_6_3 m_6_4 m_1_1 m_6_5) rfl rfl rfl (by decide +kernel) hR
theorem m_6_12 : (Cond.code yX8_frame cX8_frame 4 (some .int)) ∈ lwA := lwA_mk (ck_6 _ (List.mem_of_getElem? (i := 12) rfl)) rfl
theorem m_6_9 : (Cond.methodLink RL 101 yX8_frame) ∈ lwA := lwA_mk (ck_6 _ (List.mem_of_getElem? (i := 9) rfl)) rfl
theorem m_6_10 : (Cond.instanceMethod yX8_frame) ∈ lwA := lwA_mk (ck_6 _ (List.mem_of_getElem? (i := 10) rfl)) rfl
theorem m_6_11 : (Cond.selects RX8 yX8_frame yX8_frame) ∈ lwA := lwA_mk (ck_6 _ (List.mem_of_getElem? (i := 11) rfl)) rfl
theorem k_RL_101 {args : Array Value} {s : State} {R rm : Room} (hts : ∀ w ∈ lwA, w.before args s = true) (hR : rm.frames + 1 ≤ R.frames ∧ 8 + (4 + 11) + rm.locals ≤ R.locals) : CallW R s args RL RX8 101 yX8_frame cX8_frame 4 (some .int) (lwC yX8_frame cX8_frame 4 (some .int)) rm rm.cells rm.slots 2 := cwV 2 hts (gdV m_6_9 m_6_10 m_6_11 m_1_1 m_6_12) rfl rfl rfl (by decide +kernel) hR
theorem m_6_25 : (Cond.code yX8_slotKind cX8_slotKind 4 (some .char)) ∈ lwA := lwA_mk (ck_6 _ (List.mem_of_getElem? (i := 25) rfl)) rfl
theorem m_6_22 : (Cond.methodLink RL 105 yX8_slotKind) ∈ lwA := lwA_mk (ck_6 _ (List.mem_of_getElem? (i := 22) rfl)) rfl
theorem m_6_23 : (Cond.instanceMethod yX8_slotKind) ∈ lwA := lwA_mk (ck_6 _ (List.mem_of_getElem? (i := 23) rfl)) rfl
theorem m_6_24 : (Cond.selects RX8 yX8_slotKind yX8_slotKind) ∈ lwA := lwA_mk (ck_6 _ (List.mem_of_getElem? (i := 24) rfl)) rfl
theorem k_RL_105 {args : Array Value} {s : State} {R rm : Room} (hts : ∀ w ∈ lwA, w.before args s = true) (hR : rm.frames + 1 ≤ R.frames ∧ 8 + (4 + 11) + rm.locals ≤ R.locals) : CallW R s args RL RX8 105 yX8_slotKind cX8_slotKind 4 (some .char) (lwC yX8_slotKind cX8_slotKind 4 (some .char)) rm rm.cells rm.slots 3 := cwV 3 hts (gdV m_6_22 m_6_23 m_6_24 m_1_1 m_6_25) rfl rfl rfl (by decide +kernel) hR
theorem m_6_39 : (Cond.code yX8_slot cX8_slot 4 (some .int)) ∈ lwA := lwA_mk (ck_6 _ (List.mem_of_getElem? (i := 39) rfl)) rfl
theorem m_6_36 : (Cond.methodLink RL 109 yX8_slot) ∈ lwA := lwA_mk (ck_6 _ (List.mem_of_getElem? (i := 36) rfl)) rfl
theorem m_6_37 : (Cond.instanceMethod yX8_slot) ∈ lwA := lwA_mk (ck_6 _ (List.mem_of_getElem? (i := 37) rfl)) rfl
theorem m_6_38 : (Cond.selects RX8 yX8_slot yX8_slot) ∈ lwA := lwA_mk (ck_6 _ (List.mem_of_getElem? (i := 38) rfl)) rfl
theorem k_RL_109 {args : Array Value} {s : State} {R rm : Room} (hts : ∀ w ∈ lwA, w.before args s = true) (hR : rm.frames + 1 ≤ R.frames ∧ 8 + (4 + 11) + rm.locals ≤ R.locals) : CallW R s args RL RX8 109 yX8_slot cX8_slot 4 (some .int) (lwC yX8_slot cX8_slot 4 (some .int)) rm rm.cells rm.slots 3 := cwV 3 hts (gdV m_6_36 m_6_37 m_6_38 m_1_1 m_6_39) rfl rfl rfl (by decide +kernel) hR
theorem m_6_46 : (Cond.code yX8_writtenKind cX8_writtenKind 2 (some .char)) ∈ lwA := lwA_mk (ck_6 _ (List.mem_of_getElem? (i := 46) rfl)) rfl
theorem m_6_43 : (Cond.methodLink RL 113 yX8_writtenKind) ∈ lwA := lwA_mk (ck_6 _ (List.mem_of_getElem? (i := 43) rfl)) rfl
theorem m_6_44 : (Cond.instanceMethod yX8_writtenKind) ∈ lwA := lwA_mk (ck_6 _ (List.mem_of_getElem? (i := 44) rfl)) rfl
theorem m_6_45 : (Cond.selects RX8 yX8_writtenKind yX8_writtenKind) ∈ lwA := lwA_mk (ck_6 _ (List.mem_of_getElem? (i := 45) rfl)) rfl
theorem k_RL_113 {args : Array Value} {s : State} {R rm : Room} (hts : ∀ w ∈ lwA, w.before args s = true) (hR : rm.frames + 1 ≤ R.frames ∧ 8 + (2 + 11) + rm.locals ≤ R.locals) : CallW R s args RL RX8 113 yX8_writtenKind cX8_writtenKind 2 (some .char) (lwC yX8_writtenKind cX8_writtenKind 2 (some .char)) rm rm.cells rm.slots 1 := cwV 1 hts (gdV m_6_43 m_6_44 m_6_45 m_1_1 m_6_46) rfl rfl rfl (by decide +kernel) hR
theorem m_6_63 : (Cond.code yX8_writtenValue cX8_writtenValue 2 (some .int)) ∈ lwA := lwA_mk (ck_6 _ (List.mem_of_getElem? (i := 63) rfl)) rfl
theorem m_6_60 : (Cond.methodLink RL 116 yX8_writtenValue) ∈ lwA := lwA_mk (ck_6 _ (List.mem_of_getElem? (i := 60) rfl)) rfl
theorem m_6_61 : (Cond.instanceMethod yX8_writtenValue) ∈ lwA := lwA_mk (ck_6 _ (List.mem_of_getElem? (i := 61) rfl)) rfl
theorem m_6_62 : (Cond.selects RX8 yX8_writtenValue yX8_writtenValue) ∈ lwA := lwA_mk (ck_6 _ (List.mem_of_getElem? (i := 62) rfl)) rfl
theorem k_RL_116 {args : Array Value} {s : State} {R rm : Room} (hts : ∀ w ∈ lwA, w.before args s = true) (hR : rm.frames + 1 ≤ R.frames ∧ 8 + (2 + 11) + rm.locals ≤ R.locals) : CallW R s args RL RX8 116 yX8_writtenValue cX8_writtenValue 2 (some .int) (lwC yX8_writtenValue cX8_writtenValue 2 (some .int)) rm rm.cells rm.slots 1 := cwV 1 hts (gdV m_6_60 m_6_61 m_6_62 m_1_1 m_6_63) rfl rfl rfl (by decide +kernel) hR
theorem m_6_84 : (Cond.code yX8_compiledShare cX8_compiledShare 2 (some .float)) ∈ lwA := lwA_mk (ck_6 _ (List.mem_of_getElem? (i := 84) rfl)) rfl
theorem m_6_81 : (Cond.methodLink RL 119 yX8_compiledShare) ∈ lwA := lwA_mk (ck_6 _ (List.mem_of_getElem? (i := 81) rfl)) rfl
theorem m_6_82 : (Cond.instanceMethod yX8_compiledShare) ∈ lwA := lwA_mk (ck_6 _ (List.mem_of_getElem? (i := 82) rfl)) rfl
theorem m_6_83 : (Cond.selects RX8 yX8_compiledShare yX8_compiledShare) ∈ lwA := lwA_mk (ck_6 _ (List.mem_of_getElem? (i := 83) rfl)) rfl
theorem k_RL_119 {args : Array Value} {s : State} {R rm : Room} (hts : ∀ w ∈ lwA, w.before args s = true) (hR : rm.frames + 1 ≤ R.frames ∧ 8 + (2 + 11) + rm.locals ≤ R.locals) : CallW R s args RL RX8 119 yX8_compiledShare cX8_compiledShare 2 (some .float) (lwC yX8_compiledShare cX8_compiledShare 2 (some .float)) rm rm.cells rm.slots 0 := cwV 0 hts (gdV m_6_81 m_6_82 m_6_83 m_1_1 m_6_84) rfl rfl rfl (by decide +kernel) hR
theorem m_6_67 : (Cond.classLink RL 123 "java/lang/ArithmeticException") ∈ lwA := lwA_mk (ck_6 _ (List.mem_of_getElem? (i := 67) rfl)) rfl
theorem m_6_98 : (Cond.code yX8_meanCalls cX8_meanCalls 8 (some .double)) ∈ lwA := lwA_mk (ck_6 _ (List.mem_of_getElem? (i := 98) rfl)) rfl
theorem m_6_95 : (Cond.methodLink RL 125 yX8_meanCalls) ∈ lwA := lwA_mk (ck_6 _ (List.mem_of_getElem? (i := 95) rfl)) rfl
theorem m_6_96 : (Cond.instanceMethod yX8_meanCalls) ∈ lwA := lwA_mk (ck_6 _ (List.mem_of_getElem? (i := 96) rfl)) rfl
theorem m_6_97 : (Cond.selects RX8 yX8_meanCalls yX8_meanCalls) ∈ lwA := lwA_mk (ck_6 _ (List.mem_of_getElem? (i := 97) rfl)) rfl
theorem k_RL_125 {args : Array Value} {s : State} {R rm : Room} (hts : ∀ w ∈ lwA, w.before args s = true) (hR : rm.frames + 1 ≤ R.frames ∧ 8 + (8 + 11) + rm.locals ≤ R.locals) : CallW R s args RL RX8 125 yX8_meanCalls cX8_meanCalls 8 (some .double) (lwC yX8_meanCalls cX8_meanCalls 8 (some .double)) rm rm.cells rm.slots 0 := cwV 0 hts (gdV m_6_95 m_6_96 m_6_97 m_1_1 m_6_98) rfl rfl rfl (by decide +kernel) hR
end SITES
theorem FH_mono {ar : Nat → ClassId} {κ : Nat → Nat} {G G1 : gW} {x q : Nat} (h : FH ar κ G x q) (e : ∀ a c, a ≤ q + 136 → G a = some c → G1 a = some c) : FH ar κ G1 x q := by
  obtain ⟨hxq, f0, f1, f2, f3, f4, f5, f6, f7, f8, f9, f10, f11, f12, f13, f14, f15, f16, f17, f18, f19⟩ := h
  exact ⟨hxq, e _ _ (by omega) f0, e _ _ (by omega) f1, e _ _ (by omega) f2, e _ _ (by omega) f3, e _ _ (by omega) f4, e _ _ (by omega) f5, e _ _ (by omega) f6, e _ _ (by omega) f7, e _ _ (by omega) f8, e _ _ (by omega) f9, e _ _ (by omega) f10, e _ _ (by omega) f11, e _ _ (by omega) f12, e _ _ (by omega) f13, e _ _ (by omega) f14, e _ _ (by omega) f15, e _ _ (by omega) f16, e _ _ (by omega) f17, e _ _ (by omega) f18, e _ _ (by omega) f19⟩
set_option maxHeartbeats 4000000 in
set_option maxRecDepth 100000 in
theorem w_add (l : Launch) (D : va_G) (ar : Nat → ClassId) (κ : Nat → Nat) (G : gW) (sz : Nat) (x : Nat) (a : Int32) (f : Int32) (out : Nat) (q : Nat) (gg0 : Nat → Int64) (hF : FH ar κ G x q) (ho : G out = some (.inl (ar 1, 1, .inr (.inl gg0)))) (hqo : q + 136 < out) (hlt : l.stackTraces = false) : Met l yL_add (lwCW yL_add cL_add 5 (some .int) [(0, 10, 13, 13), (0, 10, 17, 15), (0, 10, 21, 17)]) (rD 7 1 6) (g_Pc D vwCl (gT ar) (EX1 κ) G sz [.ref x, .int a, .int f, .ref out]) (g_Qi D vwCl (g_A G sz) (fun r u => r = K_add a f ∧ (r = 0 → ∃ g1 : Nat → Int64, u.1 out = some (.inl (ar 1, 1, .inr (.inl g1))) ∧ g1 0 = 3))) 1 6 (g_A G sz) := by
  refine gH_ofW (by decide +kernel) (Nat.le_of_ble_eq_true rfl) ?_
  intro p e s m below meth c ls S hr hlk ht hE w hl
  have hx := S.1
  have hb := S.2.1
  have hl : lv_has ls 5 [(0, .ref x), (1, .int a), (2, .int f), (3, .ref out)] := hl
  refine lv_aload_n hx hb dL_add_0 rfl (lv_at hl 3 rfl) ?_
  refine lv_iconst (v := 0) hx hb dL_add_1 (by decide) ?_
  refine lv_aload_n hx hb dL_add_2 rfl (lv_at hl 0 rfl) ?_
  refine lv_iload_n hx hb dL_add_3 rfl (lv_at hl 1 rfl) ?_
  refine lv_iload_n hx hb dL_add_4 rfl (lv_at hl 2 rfl) ?_
  have hF1 : FH ar κ (g_res (fun a9 => a9 < out) G) x q := FH_mono hF (fun a9 c9 h1 h2 => g_res_i (show a9 < out by omega) h2)
  refine gs_xcalli (g_res (fun a9 => ¬ a9 < out) G) w (fun _ _ => g_res_s) (fun _ _ => g_res_2) (gx_runV (As := [.int a, .int f]) (rest := [.int 0, .ref out]) S hE (g_sub w (fun _ _ => g_res_s)) hl (h_add l D ar κ (g_res (fun a9 => a9 < out) G) sz x a f q hF1 hlt) (k_RL_7 S.2.2.2.2 ⟨Nat.le_of_ble_eq_true rfl, Nat.le_of_ble_eq_true rfl⟩) hF1.2.1 rfl rfl rfl rfl (Nat.le_of_ble_eq_true rfl) dL_add_5 ⟨Nat.le_of_ble_eq_true rfl, Nat.le_of_ble_eq_true rfl⟩) (fun E ce q9 u H locs hp hnz w hce hv hcl => ?_) (fun r u H locs hp hnz w => ?_)
  · rcases hp with ⟨rfl, h9⟩ | ⟨rfl, h9⟩ | ⟨rfl, h9⟩
    · refine vx_catch S.2.2.2.1 [] ⟨0, 10, 13, 13⟩ [⟨0, 10, 17, 15⟩, ⟨0, 10, 21, 17⟩] (ht.trans rfl) (by intro z hz; cases hz) rfl (by decide) (S.2.2.2.2 _ m_2_218) (va_Nw.use rfl (hE.2.1.1 _ (ckN_1 _ (List.mem_of_getElem? (i := 5) rfl)))) hce hv hcl ?_
      refine lv_astore (lv' := [(4, .ref q9), (0, .ref x), (1, .int a), (2, .int f), (3, .ref out)]) hx hb dL_add_13 hl (by decide) rfl (fun ls hl => ?_)
      refine lv_iconst (v := 1) hx hb dL_add_15 (by decide) ?_
      exact g_iret hx hb hr hlk w (Nat.le_of_ble_eq_true rfl) (Nat.le_of_ble_eq_true rfl) dL_add_16 ⟨h9.symm, fun h => absurd h (by decide)⟩
    · refine vx_catch S.2.2.2.1 [⟨0, 10, 13, 13⟩] ⟨0, 10, 17, 15⟩ [⟨0, 10, 21, 17⟩] (ht.trans rfl) (by intro z hz; simp only [List.mem_cons, List.not_mem_nil, or_false] at hz; subst hz; exact Or.inr ⟨by decide, "java/lang/IndexOutOfBoundsException", S.2.2.2.2 _ m_2_218, hE.2.1.2.2 ("java/lang/IllegalArgumentException", "java/lang/IndexOutOfBoundsException") (List.mem_of_getElem? (i := 0) rfl)⟩) rfl (by decide) (S.2.2.2.2 _ m_3_58) (va_Nw.use rfl (hE.2.1.1 _ (ckN_1 _ (List.mem_of_getElem? (i := 6) rfl)))) hce hv hcl ?_
      refine lv_astore (lv' := [(4, .ref q9), (0, .ref x), (1, .int a), (2, .int f), (3, .ref out)]) hx hb dL_add_17 hl (by decide) rfl (fun ls hl => ?_)
      refine lv_iconst (v := 2) hx hb dL_add_19 (by decide) ?_
      exact g_iret hx hb hr hlk w (Nat.le_of_ble_eq_true rfl) (Nat.le_of_ble_eq_true rfl) dL_add_20 ⟨h9.symm, fun h => absurd h (by decide)⟩
    · refine vx_catch S.2.2.2.1 [⟨0, 10, 13, 13⟩, ⟨0, 10, 17, 15⟩] ⟨0, 10, 21, 17⟩ [] (ht.trans rfl) (by intro z hz; simp only [List.mem_cons, List.not_mem_nil, or_false] at hz; rcases hz with rfl | rfl; exact Or.inr ⟨by decide, "java/lang/IndexOutOfBoundsException", S.2.2.2.2 _ m_2_218, hE.2.1.2.2 ("java/lang/IllegalStateException", "java/lang/IndexOutOfBoundsException") (List.mem_of_getElem? (i := 1) rfl)⟩; exact Or.inr ⟨by decide, "java/lang/IllegalArgumentException", S.2.2.2.2 _ m_3_58, hE.2.1.2.2 ("java/lang/IllegalStateException", "java/lang/IllegalArgumentException") (List.mem_of_getElem? (i := 7) rfl)⟩) rfl (by decide) (S.2.2.2.2 _ m_3_59) (va_Nw.use rfl (hE.2.1.1 _ (ckN_1 _ (List.mem_of_getElem? (i := 7) rfl)))) hce hv hcl ?_
      refine lv_astore (lv' := [(4, .ref q9), (0, .ref x), (1, .int a), (2, .int f), (3, .ref out)]) hx hb dL_add_21 hl (by decide) rfl (fun ls hl => ?_)
      refine lv_iconst (v := 3) hx hb dL_add_23 (by decide) ?_
      exact g_iret hx hb hr hlk w (Nat.le_of_ble_eq_true rfl) (Nat.le_of_ble_eq_true rfl) dL_add_24 ⟨h9.symm, fun h => absurd h (by decide)⟩
  · obtain ⟨hk9, rfl⟩ := hp
    refine lv_i2l hx hb dL_add_8 rfl ?_
    rw [show ((3 : Int32)).toInt64 = 3 by decide +kernel]
    refine g_last hx hb hE.1 w 1 (g_ov_l (g_res_i (show ¬ out < out by omega) ho)) rfl (vp_in_nI (n := 0) (by decide) (by decide)) dL_add_9 (fun H locs w => ?_)
    refine lv_goto (tgt := 25) hx hb dL_add_10 (by decide) ?_
    refine lv_iconst (v := 0) hx hb dL_add_25 (by decide) ?_
    exact g_iret hx hb hr hlk w (Nat.le_of_ble_eq_true rfl) (Nat.le_of_ble_eq_true rfl) dL_add_26 ⟨hk9.symm, fun _ => ⟨_, g_up_s, rfl⟩⟩
set_option maxHeartbeats 4000000 in
set_option maxRecDepth 100000 in
theorem w_fields (l : Launch) (D : va_G) (ar : Nat → ClassId) (κ : Nat → Nat) (G : gW) (sz : Nat) (x : Nat) (a : Int32) (out : Nat) (q : Nat) (gg0 : Nat → Int64) (hF : FH ar κ G x q) (ho : G out = some (.inl (ar 1, 1, .inr (.inl gg0)))) (hqo : q + 136 < out) (hlt : l.stackTraces = false) : Met l yL_fields (lwCW yL_fields cL_fields 4 (some .int) [(0, 9, 12, 13)]) (rD 7 1 6) (g_Pc D vwCl (gT ar) (EX1 κ) G sz [.ref x, .int a, .ref out]) (g_Qi D vwCl (g_A G sz) (fun r u => r = K_cls a ∧ (r = 0 → ∃ g1 : Nat → Int64, u.1 out = some (.inl (ar 1, 1, .inr (.inl g1))) ∧ g1 0 = 0))) 1 6 (g_A G sz) := by
  refine gH_ofW (by decide +kernel) (Nat.le_of_ble_eq_true rfl) ?_
  intro p e s m below meth c ls S hr hlk ht hE w hl
  have hx := S.1
  have hb := S.2.1
  have hl : lv_has ls 4 [(0, .ref x), (1, .int a), (2, .ref out)] := hl
  refine lv_aload_n hx hb dL_fields_0 rfl (lv_at hl 2 rfl) ?_
  refine lv_iconst (v := 0) hx hb dL_fields_1 (by decide) ?_
  refine lv_aload_n hx hb dL_fields_2 rfl (lv_at hl 0 rfl) ?_
  refine lv_iload_n hx hb dL_fields_3 rfl (lv_at hl 1 rfl) ?_
  have hF1 : FH ar κ (g_res (fun a9 => a9 < out) G) x q := FH_mono hF (fun a9 c9 h1 h2 => g_res_i (show a9 < out by omega) h2)
  refine gs_xcalli (g_res (fun a9 => ¬ a9 < out) G) w (fun _ _ => g_res_s) (fun _ _ => g_res_2) (gx_runV (As := [.int a]) (rest := [.int 0, .ref out]) S hE (g_sub w (fun _ _ => g_res_s)) hl (h_fields l D ar κ (g_res (fun a9 => a9 < out) G) sz x a q hF1 hlt) (k_RL_19 S.2.2.2.2 ⟨Nat.le_of_ble_eq_true rfl, Nat.le_of_ble_eq_true rfl⟩) hF1.2.1 rfl rfl rfl rfl (Nat.le_of_ble_eq_true rfl) dL_fields_4 ⟨Nat.le_of_ble_eq_true rfl, Nat.le_of_ble_eq_true rfl⟩) (fun E ce q9 u H locs hp hnz w hce hv hcl => ?_) (fun r u H locs hp hnz w => ?_)
  · obtain ⟨rfl, h9⟩ := hp
    refine vx_catch S.2.2.2.1 [] ⟨0, 9, 12, 13⟩ [] (ht.trans rfl) (by intro z hz; cases hz) rfl (by decide) (S.2.2.2.2 _ m_2_218) (va_Nw.use rfl (hE.2.1.1 _ (ckN_1 _ (List.mem_of_getElem? (i := 5) rfl)))) hce hv hcl ?_
    refine lv_astore_n (lv' := [(3, .ref q9), (0, .ref x), (1, .int a), (2, .ref out)]) hx hb dL_fields_12 rfl hl (by decide) rfl (fun ls hl => ?_)
    refine lv_iconst (v := 1) hx hb dL_fields_13 (by decide) ?_
    exact g_iret hx hb hr hlk w (Nat.le_of_ble_eq_true rfl) (Nat.le_of_ble_eq_true rfl) dL_fields_14 ⟨h9.symm, fun h => absurd h (by decide)⟩
  · obtain ⟨hk9, rfl⟩ := hp
    refine lv_i2l hx hb dL_fields_7 rfl ?_
    rw [show ((0 : Int32)).toInt64 = 0 by decide +kernel]
    refine g_last hx hb hE.1 w 1 (g_ov_l (g_res_i (show ¬ out < out by omega) ho)) rfl (vp_in_nI (n := 0) (by decide) (by decide)) dL_fields_8 (fun H locs w => ?_)
    refine lv_goto (tgt := 15) hx hb dL_fields_9 (by decide) ?_
    refine lv_iconst (v := 0) hx hb dL_fields_15 (by decide) ?_
    exact g_iret hx hb hr hlk w (Nat.le_of_ble_eq_true rfl) (Nat.le_of_ble_eq_true rfl) dL_fields_16 ⟨hk9.symm, fun _ => ⟨_, g_up_s, rfl⟩⟩
set_option maxHeartbeats 4000000 in
set_option maxRecDepth 100000 in
theorem w_row (l : Launch) (D : va_G) (ar : Nat → ClassId) (κ : Nat → Nat) (G : gW) (sz : Nat) (x : Nat) (c0 : Int32) (x1 : Int32) (y1 : Int32) (out : Nat) (q : Nat) (gg0 : Nat → Int64) (hF : FH ar κ G x q) (ho : G out = some (.inl (ar 1, 1, .inr (.inl gg0)))) (hqo : q + 136 < out) (hlt : l.stackTraces = false) : Met l yL_row (lwCW yL_row cL_row 6 (some .int) [(0, 12, 15, 15), (0, 12, 19, 17)]) (rD 9 1 6) (g_Pc D vwCl (gT ar) (EX1 κ) G sz [.ref x, .int c0, .int x1, .int y1, .ref out]) (g_Qi D vwCl (g_A G sz) (fun r u => r = K_row c0 ∧ (r = 0 → ∃ g1 : Nat → Int64, u.1 out = some (.inl (ar 1, 1, .inr (.inl g1))) ∧ g1 0 = 1))) 1 6 (g_A G sz) := by
  refine gH_ofW (by decide +kernel) (Nat.le_of_ble_eq_true rfl) ?_
  intro p e s m below meth c ls S hr hlk ht hE w hl
  have hx := S.1
  have hb := S.2.1
  have hl : lv_has ls 6 [(0, .ref x), (1, .int c0), (2, .int x1), (3, .int y1), (4, .ref out)] := hl
  refine lv_aload hx hb dL_row_0 (lv_at hl 4 rfl) ?_
  refine lv_iconst (v := 0) hx hb dL_row_2 (by decide) ?_
  refine lv_aload_n hx hb dL_row_3 rfl (lv_at hl 0 rfl) ?_
  refine lv_iload_n hx hb dL_row_4 rfl (lv_at hl 1 rfl) ?_
  refine lv_iload_n hx hb dL_row_5 rfl (lv_at hl 2 rfl) ?_
  refine lv_iload_n hx hb dL_row_6 rfl (lv_at hl 3 rfl) ?_
  have hF1 : FH ar κ (g_res (fun a9 => a9 < out) G) x q := FH_mono hF (fun a9 c9 h1 h2 => g_res_i (show a9 < out by omega) h2)
  refine gs_xcalli (g_res (fun a9 => ¬ a9 < out) G) w (fun _ _ => g_res_s) (fun _ _ => g_res_2) (gx_runV (As := [.int c0, .int x1, .int y1]) (rest := [.int 0, .ref out]) S hE (g_sub w (fun _ _ => g_res_s)) hl (h_row l D ar κ (g_res (fun a9 => a9 < out) G) sz x c0 x1 y1 q hF1 hlt) (k_RL_23 S.2.2.2.2 ⟨Nat.le_of_ble_eq_true rfl, Nat.le_of_ble_eq_true rfl⟩) hF1.2.1 rfl rfl rfl rfl (Nat.le_of_ble_eq_true rfl) dL_row_7 ⟨Nat.le_of_ble_eq_true rfl, Nat.le_of_ble_eq_true rfl⟩) (fun E ce q9 u H locs hp hnz w hce hv hcl => ?_) (fun r u H locs hp hnz w => ?_)
  · rcases hp with ⟨rfl, h9⟩ | ⟨rfl, h9⟩
    · refine vx_catch S.2.2.2.1 [] ⟨0, 12, 15, 15⟩ [⟨0, 12, 19, 17⟩] (ht.trans rfl) (by intro z hz; cases hz) rfl (by decide) (S.2.2.2.2 _ m_3_58) (va_Nw.use rfl (hE.2.1.1 _ (ckN_1 _ (List.mem_of_getElem? (i := 6) rfl)))) hce hv hcl ?_
      refine lv_astore (lv' := [(5, .ref q9), (0, .ref x), (1, .int c0), (2, .int x1), (3, .int y1), (4, .ref out)]) hx hb dL_row_15 hl (by decide) rfl (fun ls hl => ?_)
      refine lv_iconst (v := 1) hx hb dL_row_17 (by decide) ?_
      exact g_iret hx hb hr hlk w (Nat.le_of_ble_eq_true rfl) (Nat.le_of_ble_eq_true rfl) dL_row_18 ⟨h9.symm, fun h => absurd h (by decide)⟩
    · refine vx_catch S.2.2.2.1 [⟨0, 12, 15, 15⟩] ⟨0, 12, 19, 17⟩ [] (ht.trans rfl) (by intro z hz; simp only [List.mem_cons, List.not_mem_nil, or_false] at hz; subst hz; exact Or.inr ⟨by decide, "java/lang/IllegalArgumentException", S.2.2.2.2 _ m_3_58, hE.2.1.2.2 ("java/lang/IllegalStateException", "java/lang/IllegalArgumentException") (List.mem_of_getElem? (i := 7) rfl)⟩) rfl (by decide) (S.2.2.2.2 _ m_3_59) (va_Nw.use rfl (hE.2.1.1 _ (ckN_1 _ (List.mem_of_getElem? (i := 7) rfl)))) hce hv hcl ?_
      refine lv_astore (lv' := [(5, .ref q9), (0, .ref x), (1, .int c0), (2, .int x1), (3, .int y1), (4, .ref out)]) hx hb dL_row_19 hl (by decide) rfl (fun ls hl => ?_)
      refine lv_iconst (v := 2) hx hb dL_row_21 (by decide) ?_
      exact g_iret hx hb hr hlk w (Nat.le_of_ble_eq_true rfl) (Nat.le_of_ble_eq_true rfl) dL_row_22 ⟨h9.symm, fun h => absurd h (by decide)⟩
  · obtain ⟨hk9, rfl⟩ := hp
    refine lv_i2l hx hb dL_row_10 rfl ?_
    rw [show ((1 : Int32)).toInt64 = 1 by decide +kernel]
    refine g_last hx hb hE.1 w 1 (g_ov_l (g_res_i (show ¬ out < out by omega) ho)) rfl (vp_in_nI (n := 0) (by decide) (by decide)) dL_row_11 (fun H locs w => ?_)
    refine lv_goto (tgt := 23) hx hb dL_row_12 (by decide) ?_
    refine lv_iconst (v := 0) hx hb dL_row_23 (by decide) ?_
    exact g_iret hx hb hr hlk w (Nat.le_of_ble_eq_true rfl) (Nat.le_of_ble_eq_true rfl) dL_row_24 ⟨hk9.symm, fun _ => ⟨_, g_up_s, rfl⟩⟩
set_option maxHeartbeats 4000000 in
set_option maxRecDepth 100000 in
theorem w_method (l : Launch) (D : va_G) (ar : Nat → ClassId) (κ : Nat → Nat) (G : gW) (sz : Nat) (x : Nat) (cl : Int32) (se : Int32) (a : Int32) (t : Int32) (out : Nat) (q : Nat) (gg0 : Nat → Int64) (hF : FH ar κ G x q) (ho : G out = some (.inl (ar 1, 1, .inr (.inl gg0)))) (hqo : q + 136 < out) (hlt : l.stackTraces = false) : Met l yL_method (lwCW yL_method cL_method 7 (some .int) [(0, 14, 17, 13), (0, 14, 21, 15), (0, 14, 25, 31)]) (rD 9 3 19) (g_Pc D vwCl (gT ar) (EX1 κ) G sz [.ref x, .int cl, .int se, .int a, .int t, .ref out]) (g_Qi D vwCl (g_A G sz) (fun r u => r = K_told cl se a t)) 3 19 (g_A G sz) := by
  refine gH_ofW (by decide +kernel) (Nat.le_of_ble_eq_true rfl) ?_
  intro p e s m below meth c ls S hr hlk ht hE w hl
  have hx := S.1
  have hb := S.2.1
  have hl : lv_has ls 7 [(0, .ref x), (1, .int cl), (2, .int se), (3, .int a), (4, .int t), (5, .ref out)] := hl
  refine lv_aload hx hb dL_method_0 (lv_at hl 5 rfl) ?_
  refine lv_iconst (v := 0) hx hb dL_method_2 (by decide) ?_
  refine lv_aload_n hx hb dL_method_3 rfl (lv_at hl 0 rfl) ?_
  refine lv_iload_n hx hb dL_method_4 rfl (lv_at hl 1 rfl) ?_
  refine lv_iload_n hx hb dL_method_5 rfl (lv_at hl 2 rfl) ?_
  refine lv_iload_n hx hb dL_method_6 rfl (lv_at hl 3 rfl) ?_
  refine lv_iload hx hb dL_method_7 (lv_at hl 4 rfl) ?_
  have hF1 : FH ar κ (g_res (fun a9 => a9 < out) G) x q := FH_mono hF (fun a9 c9 h1 h2 => g_res_i (show a9 < out by omega) h2)
  refine gs_xcalli (g_res (fun a9 => ¬ a9 < out) G) w (fun _ _ => g_res_s) (fun _ _ => g_res_2) (gx_runV (As := [.int cl, .int se, .int a, .int t]) (rest := [.int 0, .ref out]) S hE (g_sub w (fun _ _ => g_res_s)) hl (h_method l D ar κ (g_res (fun a9 => a9 < out) G) sz x cl se a t q hF1 hlt) (k_RL_27 S.2.2.2.2 ⟨Nat.le_of_ble_eq_true rfl, Nat.le_of_ble_eq_true rfl⟩) hF1.2.1 rfl rfl rfl rfl (Nat.le_of_ble_eq_true rfl) dL_method_9 ⟨Nat.le_of_ble_eq_true rfl, Nat.le_of_ble_eq_true rfl⟩) (fun E ce q9 u H locs hp hnz w hce hv hcl => ?_) (fun r u H locs hp hnz w => ?_)
  · rcases hp with ⟨rfl, h9⟩ | ⟨rfl, h9⟩ | ⟨rfl, h9⟩
    · refine vx_catch S.2.2.2.1 [] ⟨0, 14, 17, 13⟩ [⟨0, 14, 21, 15⟩, ⟨0, 14, 25, 31⟩] (ht.trans rfl) (by intro z hz; cases hz) rfl (by decide) (S.2.2.2.2 _ m_2_218) (va_Nw.use rfl (hE.2.1.1 _ (ckN_1 _ (List.mem_of_getElem? (i := 5) rfl)))) hce hv hcl ?_
      refine lv_astore (lv' := [(6, .ref q9), (0, .ref x), (1, .int cl), (2, .int se), (3, .int a), (4, .int t), (5, .ref out)]) hx hb dL_method_17 hl (by decide) rfl (fun ls hl => ?_)
      refine lv_iconst (v := 1) hx hb dL_method_19 (by decide) ?_
      exact g_iret hx hb hr hlk w (Nat.le_of_ble_eq_true rfl) (Nat.le_of_ble_eq_true rfl) dL_method_20 h9.symm
    · refine vx_catch S.2.2.2.1 [⟨0, 14, 17, 13⟩] ⟨0, 14, 21, 15⟩ [⟨0, 14, 25, 31⟩] (ht.trans rfl) (by intro z hz; simp only [List.mem_cons, List.not_mem_nil, or_false] at hz; subst hz; exact Or.inr ⟨by decide, "java/lang/IndexOutOfBoundsException", S.2.2.2.2 _ m_2_218, hE.2.1.2.2 ("java/lang/IllegalArgumentException", "java/lang/IndexOutOfBoundsException") (List.mem_of_getElem? (i := 0) rfl)⟩) rfl (by decide) (S.2.2.2.2 _ m_3_58) (va_Nw.use rfl (hE.2.1.1 _ (ckN_1 _ (List.mem_of_getElem? (i := 6) rfl)))) hce hv hcl ?_
      refine lv_astore (lv' := [(6, .ref q9), (0, .ref x), (1, .int cl), (2, .int se), (3, .int a), (4, .int t), (5, .ref out)]) hx hb dL_method_21 hl (by decide) rfl (fun ls hl => ?_)
      refine lv_iconst (v := 2) hx hb dL_method_23 (by decide) ?_
      exact g_iret hx hb hr hlk w (Nat.le_of_ble_eq_true rfl) (Nat.le_of_ble_eq_true rfl) dL_method_24 h9.symm
    · refine vx_catch S.2.2.2.1 [⟨0, 14, 17, 13⟩, ⟨0, 14, 21, 15⟩] ⟨0, 14, 25, 31⟩ [] (ht.trans rfl) (by intro z hz; simp only [List.mem_cons, List.not_mem_nil, or_false] at hz; rcases hz with rfl | rfl; exact Or.inr ⟨by decide, "java/lang/IndexOutOfBoundsException", S.2.2.2.2 _ m_2_218, hE.2.1.2.2 ("java/lang/UnsupportedOperationException", "java/lang/IndexOutOfBoundsException") (List.mem_of_getElem? (i := 2) rfl)⟩; exact Or.inr ⟨by decide, "java/lang/IllegalArgumentException", S.2.2.2.2 _ m_3_58, hE.2.1.2.2 ("java/lang/UnsupportedOperationException", "java/lang/IllegalArgumentException") (List.mem_of_getElem? (i := 8) rfl)⟩) rfl (by decide) (S.2.2.2.2 _ m_3_152) (va_Nw.use rfl (hE.2.1.1 _ (ckN_1 _ (List.mem_of_getElem? (i := 20) rfl)))) hce hv hcl ?_
      refine lv_astore (lv' := [(6, .ref q9), (0, .ref x), (1, .int cl), (2, .int se), (3, .int a), (4, .int t), (5, .ref out)]) hx hb dL_method_25 hl (by decide) rfl (fun ls hl => ?_)
      refine lv_iconst (v := 3) hx hb dL_method_27 (by decide) ?_
      exact g_iret hx hb hr hlk w (Nat.le_of_ble_eq_true rfl) (Nat.le_of_ble_eq_true rfl) dL_method_28 h9.symm
  · exact hp.elim
set_option maxHeartbeats 4000000 in
set_option maxRecDepth 100000 in
theorem w_remove (l : Launch) (D : va_G) (ar : Nat → ClassId) (κ : Nat → Nat) (G : gW) (sz : Nat) (x : Nat) (cl : Int32) (se : Int32) (out : Nat) (q : Nat) (gg0 : Nat → Int64) (hF : FH ar κ G x q) (ho : G out = some (.inl (ar 1, 1, .inr (.inl gg0)))) (hqo : q + 136 < out) (hlt : l.stackTraces = false) : Met l yL_remove (lwCW yL_remove cL_remove 5 (some .int) [(0, 10, 13, 13), (0, 10, 17, 36)]) (rD 9 2 12) (g_Pc D vwCl (gT ar) (EX1 κ) G sz [.ref x, .int cl, .int se, .ref out]) (g_Qi D vwCl (g_A G sz) (fun r u => r = K_meth cl se)) 2 12 (g_A G sz) := by
  refine gH_ofW (by decide +kernel) (Nat.le_of_ble_eq_true rfl) ?_
  intro p e s m below meth c ls S hr hlk ht hE w hl
  have hx := S.1
  have hb := S.2.1
  have hl : lv_has ls 5 [(0, .ref x), (1, .int cl), (2, .int se), (3, .ref out)] := hl
  refine lv_aload_n hx hb dL_remove_0 rfl (lv_at hl 3 rfl) ?_
  refine lv_iconst (v := 0) hx hb dL_remove_1 (by decide) ?_
  refine lv_aload_n hx hb dL_remove_2 rfl (lv_at hl 0 rfl) ?_
  refine lv_iload_n hx hb dL_remove_3 rfl (lv_at hl 1 rfl) ?_
  refine lv_iload_n hx hb dL_remove_4 rfl (lv_at hl 2 rfl) ?_
  have hF1 : FH ar κ (g_res (fun a9 => a9 < out) G) x q := FH_mono hF (fun a9 c9 h1 h2 => g_res_i (show a9 < out by omega) h2)
  refine gs_xcalli (g_res (fun a9 => ¬ a9 < out) G) w (fun _ _ => g_res_s) (fun _ _ => g_res_2) (gx_runV (As := [.int cl, .int se]) (rest := [.int 0, .ref out]) S hE (g_sub w (fun _ _ => g_res_s)) hl (h_remove l D ar κ (g_res (fun a9 => a9 < out) G) sz x cl se q hF1 hlt) (k_RL_33 S.2.2.2.2 ⟨Nat.le_of_ble_eq_true rfl, Nat.le_of_ble_eq_true rfl⟩) hF1.2.1 rfl rfl rfl rfl (Nat.le_of_ble_eq_true rfl) dL_remove_5 ⟨Nat.le_of_ble_eq_true rfl, Nat.le_of_ble_eq_true rfl⟩) (fun E ce q9 u H locs hp hnz w hce hv hcl => ?_) (fun r u H locs hp hnz w => ?_)
  · rcases hp with ⟨rfl, h9⟩ | ⟨rfl, h9⟩
    · refine vx_catch S.2.2.2.1 [] ⟨0, 10, 13, 13⟩ [⟨0, 10, 17, 36⟩] (ht.trans rfl) (by intro z hz; cases hz) rfl (by decide) (S.2.2.2.2 _ m_2_218) (va_Nw.use rfl (hE.2.1.1 _ (ckN_1 _ (List.mem_of_getElem? (i := 5) rfl)))) hce hv hcl ?_
      refine lv_astore (lv' := [(4, .ref q9), (0, .ref x), (1, .int cl), (2, .int se), (3, .ref out)]) hx hb dL_remove_13 hl (by decide) rfl (fun ls hl => ?_)
      refine lv_iconst (v := 1) hx hb dL_remove_15 (by decide) ?_
      exact g_iret hx hb hr hlk w (Nat.le_of_ble_eq_true rfl) (Nat.le_of_ble_eq_true rfl) dL_remove_16 h9.symm
    · refine vx_catch S.2.2.2.1 [⟨0, 10, 13, 13⟩] ⟨0, 10, 17, 36⟩ [] (ht.trans rfl) (by intro z hz; simp only [List.mem_cons, List.not_mem_nil, or_false] at hz; subst hz; exact Or.inr ⟨by decide, "java/lang/IndexOutOfBoundsException", S.2.2.2.2 _ m_2_218, hE.2.1.2.2 ("java/util/NoSuchElementException", "java/lang/IndexOutOfBoundsException") (List.mem_of_getElem? (i := 3) rfl)⟩) rfl (by decide) (S.2.2.2.2 _ m_4_36) (va_Nw.use rfl (hE.2.1.1 _ (ckN_1 _ (List.mem_of_getElem? (i := 21) rfl)))) hce hv hcl ?_
      refine lv_astore (lv' := [(4, .ref q9), (0, .ref x), (1, .int cl), (2, .int se), (3, .ref out)]) hx hb dL_remove_17 hl (by decide) rfl (fun ls hl => ?_)
      refine lv_iconst (v := 2) hx hb dL_remove_19 (by decide) ?_
      exact g_iret hx hb hr hlk w (Nat.le_of_ble_eq_true rfl) (Nat.le_of_ble_eq_true rfl) dL_remove_20 h9.symm
  · exact hp.elim
set_option maxHeartbeats 4000000 in
set_option maxRecDepth 100000 in
theorem w_find (l : Launch) (D : va_G) (ar : Nat → ClassId) (κ : Nat → Nat) (G : gW) (sz : Nat) (x : Nat) (cl : Int32) (se : Int32) (out : Nat) (q : Nat) (gg0 : Nat → Int64) (hF : FH ar κ G x q) (ho : G out = some (.inl (ar 1, 1, .inr (.inl gg0)))) (hqo : q + 136 < out) (hlt : l.stackTraces = false) : Met l yL_find (lwCW yL_find cL_find 5 (some .int) [(0, 10, 13, 13), (0, 10, 17, 36)]) (rD 9 2 12) (g_Pc D vwCl (gT ar) (EX1 κ) G sz [.ref x, .int cl, .int se, .ref out]) (g_Qi D vwCl (g_A G sz) (fun r u => r = K_meth cl se)) 2 12 (g_A G sz) := by
  refine gH_ofW (by decide +kernel) (Nat.le_of_ble_eq_true rfl) ?_
  intro p e s m below meth c ls S hr hlk ht hE w hl
  have hx := S.1
  have hb := S.2.1
  have hl : lv_has ls 5 [(0, .ref x), (1, .int cl), (2, .int se), (3, .ref out)] := hl
  refine lv_aload_n hx hb dL_find_0 rfl (lv_at hl 3 rfl) ?_
  refine lv_iconst (v := 0) hx hb dL_find_1 (by decide) ?_
  refine lv_aload_n hx hb dL_find_2 rfl (lv_at hl 0 rfl) ?_
  refine lv_iload_n hx hb dL_find_3 rfl (lv_at hl 1 rfl) ?_
  refine lv_iload_n hx hb dL_find_4 rfl (lv_at hl 2 rfl) ?_
  have hF1 : FH ar κ (g_res (fun a9 => a9 < out) G) x q := FH_mono hF (fun a9 c9 h1 h2 => g_res_i (show a9 < out by omega) h2)
  refine gs_xcalli (g_res (fun a9 => ¬ a9 < out) G) w (fun _ _ => g_res_s) (fun _ _ => g_res_2) (gx_runV (As := [.int cl, .int se]) (rest := [.int 0, .ref out]) S hE (g_sub w (fun _ _ => g_res_s)) hl (h_find l D ar κ (g_res (fun a9 => a9 < out) G) sz x cl se q hF1 hlt) (k_RL_38 S.2.2.2.2 ⟨Nat.le_of_ble_eq_true rfl, Nat.le_of_ble_eq_true rfl⟩) hF1.2.1 rfl rfl rfl rfl (Nat.le_of_ble_eq_true rfl) dL_find_5 ⟨Nat.le_of_ble_eq_true rfl, Nat.le_of_ble_eq_true rfl⟩) (fun E ce q9 u H locs hp hnz w hce hv hcl => ?_) (fun r u H locs hp hnz w => ?_)
  · rcases hp with ⟨rfl, h9⟩ | ⟨rfl, h9⟩
    · refine vx_catch S.2.2.2.1 [] ⟨0, 10, 13, 13⟩ [⟨0, 10, 17, 36⟩] (ht.trans rfl) (by intro z hz; cases hz) rfl (by decide) (S.2.2.2.2 _ m_2_218) (va_Nw.use rfl (hE.2.1.1 _ (ckN_1 _ (List.mem_of_getElem? (i := 5) rfl)))) hce hv hcl ?_
      refine lv_astore (lv' := [(4, .ref q9), (0, .ref x), (1, .int cl), (2, .int se), (3, .ref out)]) hx hb dL_find_13 hl (by decide) rfl (fun ls hl => ?_)
      refine lv_iconst (v := 1) hx hb dL_find_15 (by decide) ?_
      exact g_iret hx hb hr hlk w (Nat.le_of_ble_eq_true rfl) (Nat.le_of_ble_eq_true rfl) dL_find_16 h9.symm
    · refine vx_catch S.2.2.2.1 [⟨0, 10, 13, 13⟩] ⟨0, 10, 17, 36⟩ [] (ht.trans rfl) (by intro z hz; simp only [List.mem_cons, List.not_mem_nil, or_false] at hz; subst hz; exact Or.inr ⟨by decide, "java/lang/IndexOutOfBoundsException", S.2.2.2.2 _ m_2_218, hE.2.1.2.2 ("java/util/NoSuchElementException", "java/lang/IndexOutOfBoundsException") (List.mem_of_getElem? (i := 3) rfl)⟩) rfl (by decide) (S.2.2.2.2 _ m_4_36) (va_Nw.use rfl (hE.2.1.1 _ (ckN_1 _ (List.mem_of_getElem? (i := 21) rfl)))) hce hv hcl ?_
      refine lv_astore (lv' := [(4, .ref q9), (0, .ref x), (1, .int cl), (2, .int se), (3, .ref out)]) hx hb dL_find_17 hl (by decide) rfl (fun ls hl => ?_)
      refine lv_iconst (v := 2) hx hb dL_find_19 (by decide) ?_
      exact g_iret hx hb hr hlk w (Nat.le_of_ble_eq_true rfl) (Nat.le_of_ble_eq_true rfl) dL_find_20 h9.symm
  · exact hp.elim
set_option maxHeartbeats 4000000 in
set_option maxRecDepth 100000 in
theorem w_calls (l : Launch) (D : va_G) (ar : Nat → ClassId) (κ : Nat → Nat) (G : gW) (sz : Nat) (x : Nat) (cl : Int32) (se : Int32) (out : Nat) (q : Nat) (gg0 : Nat → Int64) (hF : FH ar κ G x q) (ho : G out = some (.inl (ar 1, 1, .inr (.inl gg0)))) (hqo : q + 136 < out) (hlt : l.stackTraces = false) : Met l yL_calls (lwCW yL_calls cL_calls 5 (some .int) [(0, 10, 13, 13), (0, 10, 17, 36)]) (rD 9 2 12) (g_Pc D vwCl (gT ar) (EX1 κ) G sz [.ref x, .int cl, .int se, .ref out]) (g_Qi D vwCl (g_A G sz) (fun r u => r = K_meth cl se)) 2 12 (g_A G sz) := by
  refine gH_ofW (by decide +kernel) (Nat.le_of_ble_eq_true rfl) ?_
  intro p e s m below meth c ls S hr hlk ht hE w hl
  have hx := S.1
  have hb := S.2.1
  have hl : lv_has ls 5 [(0, .ref x), (1, .int cl), (2, .int se), (3, .ref out)] := hl
  refine lv_aload_n hx hb dL_calls_0 rfl (lv_at hl 3 rfl) ?_
  refine lv_iconst (v := 0) hx hb dL_calls_1 (by decide) ?_
  refine lv_aload_n hx hb dL_calls_2 rfl (lv_at hl 0 rfl) ?_
  refine lv_iload_n hx hb dL_calls_3 rfl (lv_at hl 1 rfl) ?_
  refine lv_iload_n hx hb dL_calls_4 rfl (lv_at hl 2 rfl) ?_
  have hF1 : FH ar κ (g_res (fun a9 => a9 < out) G) x q := FH_mono hF (fun a9 c9 h1 h2 => g_res_i (show a9 < out by omega) h2)
  refine gs_xcalli (g_res (fun a9 => ¬ a9 < out) G) w (fun _ _ => g_res_s) (fun _ _ => g_res_2) (gx_runV (As := [.int cl, .int se]) (rest := [.int 0, .ref out]) S hE (g_sub w (fun _ _ => g_res_s)) hl (h_calls l D ar κ (g_res (fun a9 => a9 < out) G) sz x cl se q hF1 hlt) (k_RL_41 S.2.2.2.2 ⟨Nat.le_of_ble_eq_true rfl, Nat.le_of_ble_eq_true rfl⟩) hF1.2.1 rfl rfl rfl rfl (Nat.le_of_ble_eq_true rfl) dL_calls_5 ⟨Nat.le_of_ble_eq_true rfl, Nat.le_of_ble_eq_true rfl⟩) (fun E ce q9 u H locs hp hnz w hce hv hcl => ?_) (fun r u H locs hp hnz w => ?_)
  · rcases hp with ⟨rfl, h9⟩ | ⟨rfl, h9⟩
    · refine vx_catch S.2.2.2.1 [] ⟨0, 10, 13, 13⟩ [⟨0, 10, 17, 36⟩] (ht.trans rfl) (by intro z hz; cases hz) rfl (by decide) (S.2.2.2.2 _ m_2_218) (va_Nw.use rfl (hE.2.1.1 _ (ckN_1 _ (List.mem_of_getElem? (i := 5) rfl)))) hce hv hcl ?_
      refine lv_astore (lv' := [(4, .ref q9), (0, .ref x), (1, .int cl), (2, .int se), (3, .ref out)]) hx hb dL_calls_13 hl (by decide) rfl (fun ls hl => ?_)
      refine lv_iconst (v := 1) hx hb dL_calls_15 (by decide) ?_
      exact g_iret hx hb hr hlk w (Nat.le_of_ble_eq_true rfl) (Nat.le_of_ble_eq_true rfl) dL_calls_16 h9.symm
    · refine vx_catch S.2.2.2.1 [⟨0, 10, 13, 13⟩] ⟨0, 10, 17, 36⟩ [] (ht.trans rfl) (by intro z hz; simp only [List.mem_cons, List.not_mem_nil, or_false] at hz; subst hz; exact Or.inr ⟨by decide, "java/lang/IndexOutOfBoundsException", S.2.2.2.2 _ m_2_218, hE.2.1.2.2 ("java/util/NoSuchElementException", "java/lang/IndexOutOfBoundsException") (List.mem_of_getElem? (i := 3) rfl)⟩) rfl (by decide) (S.2.2.2.2 _ m_4_36) (va_Nw.use rfl (hE.2.1.1 _ (ckN_1 _ (List.mem_of_getElem? (i := 21) rfl)))) hce hv hcl ?_
      refine lv_astore (lv' := [(4, .ref q9), (0, .ref x), (1, .int cl), (2, .int se), (3, .ref out)]) hx hb dL_calls_17 hl (by decide) rfl (fun ls hl => ?_)
      refine lv_iconst (v := 2) hx hb dL_calls_19 (by decide) ?_
      exact g_iret hx hb hr hlk w (Nat.le_of_ble_eq_true rfl) (Nat.le_of_ble_eq_true rfl) dL_calls_20 h9.symm
  · exact hp.elim
set_option maxHeartbeats 4000000 in
set_option maxRecDepth 100000 in
theorem w_compile (l : Launch) (D : va_G) (ar : Nat → ClassId) (κ : Nat → Nat) (G : gW) (sz : Nat) (x : Nat) (cl : Int32) (se : Int32) (out : Nat) (q : Nat) (gg0 : Nat → Int64) (hF : FH ar κ G x q) (ho : G out = some (.inl (ar 1, 1, .inr (.inl gg0)))) (hqo : q + 136 < out) (hlt : l.stackTraces = false) : Met l yL_compile (lwCW yL_compile cL_compile 5 (some .int) [(0, 10, 13, 13), (0, 10, 17, 36)]) (rD 9 2 12) (g_Pc D vwCl (gT ar) (EX1 κ) G sz [.ref x, .int cl, .int se, .ref out]) (g_Qi D vwCl (g_A G sz) (fun r u => r = K_meth cl se)) 2 12 (g_A G sz) := by
  refine gH_ofW (by decide +kernel) (Nat.le_of_ble_eq_true rfl) ?_
  intro p e s m below meth c ls S hr hlk ht hE w hl
  have hx := S.1
  have hb := S.2.1
  have hl : lv_has ls 5 [(0, .ref x), (1, .int cl), (2, .int se), (3, .ref out)] := hl
  refine lv_aload_n hx hb dL_compile_0 rfl (lv_at hl 3 rfl) ?_
  refine lv_iconst (v := 0) hx hb dL_compile_1 (by decide) ?_
  refine lv_aload_n hx hb dL_compile_2 rfl (lv_at hl 0 rfl) ?_
  refine lv_iload_n hx hb dL_compile_3 rfl (lv_at hl 1 rfl) ?_
  refine lv_iload_n hx hb dL_compile_4 rfl (lv_at hl 2 rfl) ?_
  have hF1 : FH ar κ (g_res (fun a9 => a9 < out) G) x q := FH_mono hF (fun a9 c9 h1 h2 => g_res_i (show a9 < out by omega) h2)
  refine gs_xcalli (g_res (fun a9 => ¬ a9 < out) G) w (fun _ _ => g_res_s) (fun _ _ => g_res_2) (gx_runV (As := [.int cl, .int se]) (rest := [.int 0, .ref out]) S hE (g_sub w (fun _ _ => g_res_s)) hl (h_compile l D ar κ (g_res (fun a9 => a9 < out) G) sz x cl se q hF1 hlt) (k_RL_44 S.2.2.2.2 ⟨Nat.le_of_ble_eq_true rfl, Nat.le_of_ble_eq_true rfl⟩) hF1.2.1 rfl rfl rfl rfl (Nat.le_of_ble_eq_true rfl) dL_compile_5 ⟨Nat.le_of_ble_eq_true rfl, Nat.le_of_ble_eq_true rfl⟩) (fun E ce q9 u H locs hp hnz w hce hv hcl => ?_) (fun r u H locs hp hnz w => ?_)
  · rcases hp with ⟨rfl, h9⟩ | ⟨rfl, h9⟩
    · refine vx_catch S.2.2.2.1 [] ⟨0, 10, 13, 13⟩ [⟨0, 10, 17, 36⟩] (ht.trans rfl) (by intro z hz; cases hz) rfl (by decide) (S.2.2.2.2 _ m_2_218) (va_Nw.use rfl (hE.2.1.1 _ (ckN_1 _ (List.mem_of_getElem? (i := 5) rfl)))) hce hv hcl ?_
      refine lv_astore (lv' := [(4, .ref q9), (0, .ref x), (1, .int cl), (2, .int se), (3, .ref out)]) hx hb dL_compile_13 hl (by decide) rfl (fun ls hl => ?_)
      refine lv_iconst (v := 1) hx hb dL_compile_15 (by decide) ?_
      exact g_iret hx hb hr hlk w (Nat.le_of_ble_eq_true rfl) (Nat.le_of_ble_eq_true rfl) dL_compile_16 h9.symm
    · refine vx_catch S.2.2.2.1 [⟨0, 10, 13, 13⟩] ⟨0, 10, 17, 36⟩ [] (ht.trans rfl) (by intro z hz; simp only [List.mem_cons, List.not_mem_nil, or_false] at hz; subst hz; exact Or.inr ⟨by decide, "java/lang/IndexOutOfBoundsException", S.2.2.2.2 _ m_2_218, hE.2.1.2.2 ("java/util/NoSuchElementException", "java/lang/IndexOutOfBoundsException") (List.mem_of_getElem? (i := 3) rfl)⟩) rfl (by decide) (S.2.2.2.2 _ m_4_36) (va_Nw.use rfl (hE.2.1.1 _ (ckN_1 _ (List.mem_of_getElem? (i := 21) rfl)))) hce hv hcl ?_
      refine lv_astore (lv' := [(4, .ref q9), (0, .ref x), (1, .int cl), (2, .int se), (3, .ref out)]) hx hb dL_compile_17 hl (by decide) rfl (fun ls hl => ?_)
      refine lv_iconst (v := 2) hx hb dL_compile_19 (by decide) ?_
      exact g_iret hx hb hr hlk w (Nat.le_of_ble_eq_true rfl) (Nat.le_of_ble_eq_true rfl) dL_compile_20 h9.symm
  · exact hp.elim
set_option maxHeartbeats 4000000 in
set_option maxRecDepth 100000 in
theorem w_isCompiled (l : Launch) (D : va_G) (ar : Nat → ClassId) (κ : Nat → Nat) (G : gW) (sz : Nat) (x : Nat) (cl : Int32) (se : Int32) (out : Nat) (q : Nat) (gg0 : Nat → Int64) (hF : FH ar κ G x q) (ho : G out = some (.inl (ar 1, 1, .inr (.inl gg0)))) (hqo : q + 136 < out) (hlt : l.stackTraces = false) : Met l yL_isCompiled (lwCW yL_isCompiled cL_isCompiled 5 (some .int) [(0, 17, 20, 13), (0, 17, 24, 36)]) (rD 9 2 12) (g_Pc D vwCl (gT ar) (EX1 κ) G sz [.ref x, .int cl, .int se, .ref out]) (g_Qi D vwCl (g_A G sz) (fun r u => r = K_meth cl se)) 2 12 (g_A G sz) := by
  refine gH_ofW (by decide +kernel) (Nat.le_of_ble_eq_true rfl) ?_
  intro p e s m below meth c ls S hr hlk ht hE w hl
  have hx := S.1
  have hb := S.2.1
  have hl : lv_has ls 5 [(0, .ref x), (1, .int cl), (2, .int se), (3, .ref out)] := hl
  refine lv_aload_n hx hb dL_isCompiled_0 rfl (lv_at hl 3 rfl) ?_
  refine lv_iconst (v := 0) hx hb dL_isCompiled_1 (by decide) ?_
  refine lv_aload_n hx hb dL_isCompiled_2 rfl (lv_at hl 0 rfl) ?_
  refine lv_iload_n hx hb dL_isCompiled_3 rfl (lv_at hl 1 rfl) ?_
  refine lv_iload_n hx hb dL_isCompiled_4 rfl (lv_at hl 2 rfl) ?_
  have hF1 : FH ar κ (g_res (fun a9 => a9 < out) G) x q := FH_mono hF (fun a9 c9 h1 h2 => g_res_i (show a9 < out by omega) h2)
  refine gs_xcalli (g_res (fun a9 => ¬ a9 < out) G) w (fun _ _ => g_res_s) (fun _ _ => g_res_2) (gx_runV (As := [.int cl, .int se]) (rest := [.int 0, .ref out]) S hE (g_sub w (fun _ _ => g_res_s)) hl (h_isCompiled l D ar κ (g_res (fun a9 => a9 < out) G) sz x cl se q hF1 hlt) (k_RL_47 S.2.2.2.2 ⟨Nat.le_of_ble_eq_true rfl, Nat.le_of_ble_eq_true rfl⟩) hF1.2.1 rfl rfl rfl rfl (Nat.le_of_ble_eq_true rfl) dL_isCompiled_5 ⟨Nat.le_of_ble_eq_true rfl, Nat.le_of_ble_eq_true rfl⟩) (fun E ce q9 u H locs hp hnz w hce hv hcl => ?_) (fun r u H locs hp hnz w => ?_)
  · rcases hp with ⟨rfl, h9⟩ | ⟨rfl, h9⟩
    · refine vx_catch S.2.2.2.1 [] ⟨0, 17, 20, 13⟩ [⟨0, 17, 24, 36⟩] (ht.trans rfl) (by intro z hz; cases hz) rfl (by decide) (S.2.2.2.2 _ m_2_218) (va_Nw.use rfl (hE.2.1.1 _ (ckN_1 _ (List.mem_of_getElem? (i := 5) rfl)))) hce hv hcl ?_
      refine lv_astore (lv' := [(4, .ref q9), (0, .ref x), (1, .int cl), (2, .int se), (3, .ref out)]) hx hb dL_isCompiled_20 hl (by decide) rfl (fun ls hl => ?_)
      refine lv_iconst (v := 1) hx hb dL_isCompiled_22 (by decide) ?_
      exact g_iret hx hb hr hlk w (Nat.le_of_ble_eq_true rfl) (Nat.le_of_ble_eq_true rfl) dL_isCompiled_23 h9.symm
    · refine vx_catch S.2.2.2.1 [⟨0, 17, 20, 13⟩] ⟨0, 17, 24, 36⟩ [] (ht.trans rfl) (by intro z hz; simp only [List.mem_cons, List.not_mem_nil, or_false] at hz; subst hz; exact Or.inr ⟨by decide, "java/lang/IndexOutOfBoundsException", S.2.2.2.2 _ m_2_218, hE.2.1.2.2 ("java/util/NoSuchElementException", "java/lang/IndexOutOfBoundsException") (List.mem_of_getElem? (i := 3) rfl)⟩) rfl (by decide) (S.2.2.2.2 _ m_4_36) (va_Nw.use rfl (hE.2.1.1 _ (ckN_1 _ (List.mem_of_getElem? (i := 21) rfl)))) hce hv hcl ?_
      refine lv_astore (lv' := [(4, .ref q9), (0, .ref x), (1, .int cl), (2, .int se), (3, .ref out)]) hx hb dL_isCompiled_24 hl (by decide) rfl (fun ls hl => ?_)
      refine lv_iconst (v := 2) hx hb dL_isCompiled_26 (by decide) ?_
      exact g_iret hx hb hr hlk w (Nat.le_of_ble_eq_true rfl) (Nat.le_of_ble_eq_true rfl) dL_isCompiled_27 h9.symm
  · exact hp.elim
set_option maxHeartbeats 4000000 in
set_option maxRecDepth 100000 in
theorem w_hot (l : Launch) (D : va_G) (ar : Nat → ClassId) (κ : Nat → Nat) (G : gW) (sz : Nat) (x : Nat) (a : Int32) (out : Nat) (q : Nat) (gg0 : Nat → Int64) (hF : FH ar κ G x q) (ho : G out = some (.inl (ar 1, 1, .inr (.inl gg0)))) (hqo : q + 136 < out) (hlt : l.stackTraces = false) : Met l yL_hot (lwCW yL_hot cL_hot 4 (some .int) [(0, 9, 12, 15)]) (rD 9 1 6) (g_Pc D vwCl (gT ar) (EX1 κ) G sz [.ref x, .int a, .ref out]) (g_Qi D vwCl (g_A G sz) (fun r u => r = K_hot a ∧ (r = 0 → ∃ g1 : Nat → Int64, u.1 out = some (.inl (ar 1, 1, .inr (.inl g1))) ∧ g1 0 = 0))) 1 6 (g_A G sz) := by
  refine gH_ofW (by decide +kernel) (Nat.le_of_ble_eq_true rfl) ?_
  intro p e s m below meth c ls S hr hlk ht hE w hl
  have hx := S.1
  have hb := S.2.1
  have hl : lv_has ls 4 [(0, .ref x), (1, .int a), (2, .ref out)] := hl
  refine lv_aload_n hx hb dL_hot_0 rfl (lv_at hl 2 rfl) ?_
  refine lv_iconst (v := 0) hx hb dL_hot_1 (by decide) ?_
  refine lv_aload_n hx hb dL_hot_2 rfl (lv_at hl 0 rfl) ?_
  refine lv_iload_n hx hb dL_hot_3 rfl (lv_at hl 1 rfl) ?_
  have hF1 : FH ar κ (g_res (fun a9 => a9 < out) G) x q := FH_mono hF (fun a9 c9 h1 h2 => g_res_i (show a9 < out by omega) h2)
  refine gs_xcalli (g_res (fun a9 => ¬ a9 < out) G) w (fun _ _ => g_res_s) (fun _ _ => g_res_2) (gx_runV (As := [.int a]) (rest := [.int 0, .ref out]) S hE (g_sub w (fun _ _ => g_res_s)) hl (h_hot l D ar κ (g_res (fun a9 => a9 < out) G) sz x a q hF1 hlt) (k_RL_51 S.2.2.2.2 ⟨Nat.le_of_ble_eq_true rfl, Nat.le_of_ble_eq_true rfl⟩) hF1.2.1 rfl rfl rfl rfl (Nat.le_of_ble_eq_true rfl) dL_hot_4 ⟨Nat.le_of_ble_eq_true rfl, Nat.le_of_ble_eq_true rfl⟩) (fun E ce q9 u H locs hp hnz w hce hv hcl => ?_) (fun r u H locs hp hnz w => ?_)
  · obtain ⟨rfl, h9⟩ := hp
    refine vx_catch S.2.2.2.1 [] ⟨0, 9, 12, 15⟩ [] (ht.trans rfl) (by intro z hz; cases hz) rfl (by decide) (S.2.2.2.2 _ m_3_58) (va_Nw.use rfl (hE.2.1.1 _ (ckN_1 _ (List.mem_of_getElem? (i := 6) rfl)))) hce hv hcl ?_
    refine lv_astore_n (lv' := [(3, .ref q9), (0, .ref x), (1, .int a), (2, .ref out)]) hx hb dL_hot_12 rfl hl (by decide) rfl (fun ls hl => ?_)
    refine lv_iconst (v := 1) hx hb dL_hot_13 (by decide) ?_
    exact g_iret hx hb hr hlk w (Nat.le_of_ble_eq_true rfl) (Nat.le_of_ble_eq_true rfl) dL_hot_14 ⟨h9.symm, fun h => absurd h (by decide)⟩
  · obtain ⟨hk9, rfl⟩ := hp
    refine lv_i2l hx hb dL_hot_7 rfl ?_
    rw [show ((0 : Int32)).toInt64 = 0 by decide +kernel]
    refine g_last hx hb hE.1 w 1 (g_ov_l (g_res_i (show ¬ out < out by omega) ho)) rfl (vp_in_nI (n := 0) (by decide) (by decide)) dL_hot_8 (fun H locs w => ?_)
    refine lv_goto (tgt := 15) hx hb dL_hot_9 (by decide) ?_
    refine lv_iconst (v := 0) hx hb dL_hot_15 (by decide) ?_
    exact g_iret hx hb hr hlk w (Nat.le_of_ble_eq_true rfl) (Nat.le_of_ble_eq_true rfl) dL_hot_16 ⟨hk9.symm, fun _ => ⟨_, g_up_s, rfl⟩⟩
set_option maxHeartbeats 4000000 in
set_option maxRecDepth 100000 in
theorem w_number (l : Launch) (D : va_G) (ar : Nat → ClassId) (κ : Nat → Nat) (G : gW) (sz : Nat) (x : Nat) (g : Int32) (i : Int32) (out : Nat) (q : Nat) (gg0 : Nat → Int64) (hF : FH ar κ G x q) (ho : G out = some (.inl (ar 1, 1, .inr (.inl gg0)))) (hqo : q + 136 < out) (hlt : l.stackTraces = false) : Met l yL_number (lwCW yL_number cL_number 5 (some .int) [(0, 10, 13, 13)]) (rD 9 1 6) (g_Pc D vwCl (gT ar) (EX1 κ) G sz [.ref x, .int g, .int i, .ref out]) (g_Qi D vwCl (g_A G sz) (fun r u => r = K_gl g ∧ (r = 0 → ∃ g1 : Nat → Int64, u.1 out = some (.inl (ar 1, 1, .inr (.inl g1))) ∧ g1 0 = 0))) 1 6 (g_A G sz) := by
  refine gH_ofW (by decide +kernel) (Nat.le_of_ble_eq_true rfl) ?_
  intro p e s m below meth c ls S hr hlk ht hE w hl
  have hx := S.1
  have hb := S.2.1
  have hl : lv_has ls 5 [(0, .ref x), (1, .int g), (2, .int i), (3, .ref out)] := hl
  refine lv_aload_n hx hb dL_number_0 rfl (lv_at hl 3 rfl) ?_
  refine lv_iconst (v := 0) hx hb dL_number_1 (by decide) ?_
  refine lv_aload_n hx hb dL_number_2 rfl (lv_at hl 0 rfl) ?_
  refine lv_iload_n hx hb dL_number_3 rfl (lv_at hl 1 rfl) ?_
  refine lv_iload_n hx hb dL_number_4 rfl (lv_at hl 2 rfl) ?_
  have hF1 : FH ar κ (g_res (fun a9 => a9 < out) G) x q := FH_mono hF (fun a9 c9 h1 h2 => g_res_i (show a9 < out by omega) h2)
  refine gs_xcalli (g_res (fun a9 => ¬ a9 < out) G) w (fun _ _ => g_res_s) (fun _ _ => g_res_2) (gx_runV (As := [.int g, .int i]) (rest := [.int 0, .ref out]) S hE (g_sub w (fun _ _ => g_res_s)) hl (h_number l D ar κ (g_res (fun a9 => a9 < out) G) sz x g i q hF1 hlt) (k_RL_54 S.2.2.2.2 ⟨Nat.le_of_ble_eq_true rfl, Nat.le_of_ble_eq_true rfl⟩) hF1.2.1 rfl rfl rfl rfl (Nat.le_of_ble_eq_true rfl) dL_number_5 ⟨Nat.le_of_ble_eq_true rfl, Nat.le_of_ble_eq_true rfl⟩) (fun E ce q9 u H locs hp hnz w hce hv hcl => ?_) (fun r u H locs hp hnz w => ?_)
  · obtain ⟨rfl, h9⟩ := hp
    refine vx_catch S.2.2.2.1 [] ⟨0, 10, 13, 13⟩ [] (ht.trans rfl) (by intro z hz; cases hz) rfl (by decide) (S.2.2.2.2 _ m_2_218) (va_Nw.use rfl (hE.2.1.1 _ (ckN_1 _ (List.mem_of_getElem? (i := 5) rfl)))) hce hv hcl ?_
    refine lv_astore (lv' := [(4, .ref q9), (0, .ref x), (1, .int g), (2, .int i), (3, .ref out)]) hx hb dL_number_13 hl (by decide) rfl (fun ls hl => ?_)
    refine lv_iconst (v := 1) hx hb dL_number_15 (by decide) ?_
    exact g_iret hx hb hr hlk w (Nat.le_of_ble_eq_true rfl) (Nat.le_of_ble_eq_true rfl) dL_number_16 ⟨h9.symm, fun h => absurd h (by decide)⟩
  · obtain ⟨hk9, rfl⟩ := hp
    refine lv_i2l hx hb dL_number_8 rfl ?_
    rw [show ((0 : Int32)).toInt64 = 0 by decide +kernel]
    refine g_last hx hb hE.1 w 1 (g_ov_l (g_res_i (show ¬ out < out by omega) ho)) rfl (vp_in_nI (n := 0) (by decide) (by decide)) dL_number_9 (fun H locs w => ?_)
    refine lv_goto (tgt := 17) hx hb dL_number_10 (by decide) ?_
    refine lv_iconst (v := 0) hx hb dL_number_17 (by decide) ?_
    exact g_iret hx hb hr hlk w (Nat.le_of_ble_eq_true rfl) (Nat.le_of_ble_eq_true rfl) dL_number_18 ⟨hk9.symm, fun _ => ⟨_, g_up_s, rfl⟩⟩
set_option maxHeartbeats 4000000 in
set_option maxRecDepth 100000 in
theorem w_nothing (l : Launch) (D : va_G) (ar : Nat → ClassId) (κ : Nat → Nat) (G : gW) (sz : Nat) (x : Nat) (g : Int32) (out : Nat) (q : Nat) (gg0 : Nat → Int64) (hF : FH ar κ G x q) (ho : G out = some (.inl (ar 1, 1, .inr (.inl gg0)))) (hqo : q + 136 < out) (hlt : l.stackTraces = false) : Met l yL_nothing (lwCW yL_nothing cL_nothing 4 (some .int) [(0, 9, 12, 13)]) (rD 9 1 6) (g_Pc D vwCl (gT ar) (EX1 κ) G sz [.ref x, .int g, .ref out]) (g_Qi D vwCl (g_A G sz) (fun r u => r = K_gl g ∧ (r = 0 → ∃ g1 : Nat → Int64, u.1 out = some (.inl (ar 1, 1, .inr (.inl g1))) ∧ g1 0 = 0))) 1 6 (g_A G sz) := by
  refine gH_ofW (by decide +kernel) (Nat.le_of_ble_eq_true rfl) ?_
  intro p e s m below meth c ls S hr hlk ht hE w hl
  have hx := S.1
  have hb := S.2.1
  have hl : lv_has ls 4 [(0, .ref x), (1, .int g), (2, .ref out)] := hl
  refine lv_aload_n hx hb dL_nothing_0 rfl (lv_at hl 2 rfl) ?_
  refine lv_iconst (v := 0) hx hb dL_nothing_1 (by decide) ?_
  refine lv_aload_n hx hb dL_nothing_2 rfl (lv_at hl 0 rfl) ?_
  refine lv_iload_n hx hb dL_nothing_3 rfl (lv_at hl 1 rfl) ?_
  have hF1 : FH ar κ (g_res (fun a9 => a9 < out) G) x q := FH_mono hF (fun a9 c9 h1 h2 => g_res_i (show a9 < out by omega) h2)
  refine gs_xcalli (g_res (fun a9 => ¬ a9 < out) G) w (fun _ _ => g_res_s) (fun _ _ => g_res_2) (gx_runV (As := [.int g]) (rest := [.int 0, .ref out]) S hE (g_sub w (fun _ _ => g_res_s)) hl (h_nothing l D ar κ (g_res (fun a9 => a9 < out) G) sz x g q hF1 hlt) (k_RL_57 S.2.2.2.2 ⟨Nat.le_of_ble_eq_true rfl, Nat.le_of_ble_eq_true rfl⟩) hF1.2.1 rfl rfl rfl rfl (Nat.le_of_ble_eq_true rfl) dL_nothing_4 ⟨Nat.le_of_ble_eq_true rfl, Nat.le_of_ble_eq_true rfl⟩) (fun E ce q9 u H locs hp hnz w hce hv hcl => ?_) (fun r u H locs hp hnz w => ?_)
  · obtain ⟨rfl, h9⟩ := hp
    refine vx_catch S.2.2.2.1 [] ⟨0, 9, 12, 13⟩ [] (ht.trans rfl) (by intro z hz; cases hz) rfl (by decide) (S.2.2.2.2 _ m_2_218) (va_Nw.use rfl (hE.2.1.1 _ (ckN_1 _ (List.mem_of_getElem? (i := 5) rfl)))) hce hv hcl ?_
    refine lv_astore_n (lv' := [(3, .ref q9), (0, .ref x), (1, .int g), (2, .ref out)]) hx hb dL_nothing_12 rfl hl (by decide) rfl (fun ls hl => ?_)
    refine lv_iconst (v := 1) hx hb dL_nothing_13 (by decide) ?_
    exact g_iret hx hb hr hlk w (Nat.le_of_ble_eq_true rfl) (Nat.le_of_ble_eq_true rfl) dL_nothing_14 ⟨h9.symm, fun h => absurd h (by decide)⟩
  · obtain ⟨hk9, rfl⟩ := hp
    refine lv_i2l hx hb dL_nothing_7 rfl ?_
    rw [show ((0 : Int32)).toInt64 = 0 by decide +kernel]
    refine g_last hx hb hE.1 w 1 (g_ov_l (g_res_i (show ¬ out < out by omega) ho)) rfl (vp_in_nI (n := 0) (by decide) (by decide)) dL_nothing_8 (fun H locs w => ?_)
    refine lv_goto (tgt := 15) hx hb dL_nothing_9 (by decide) ?_
    refine lv_iconst (v := 0) hx hb dL_nothing_15 (by decide) ?_
    exact g_iret hx hb hr hlk w (Nat.le_of_ble_eq_true rfl) (Nat.le_of_ble_eq_true rfl) dL_nothing_16 ⟨hk9.symm, fun _ => ⟨_, g_up_s, rfl⟩⟩
set_option maxHeartbeats 4000000 in
set_option maxRecDepth 100000 in
theorem w_make (l : Launch) (D : va_G) (ar : Nat → ClassId) (κ : Nat → Nat) (G : gW) (sz : Nat) (x : Nat) (g : Int32) (cl : Int32) (out : Nat) (q : Nat) (gg0 : Nat → Int64) (hF : FH ar κ G x q) (ho : G out = some (.inl (ar 1, 1, .inr (.inl gg0)))) (hqo : q + 136 < out) (hlt : l.stackTraces = false) : Met l yL_make (lwCW yL_make cL_make 5 (some .int) [(0, 10, 13, 13), (0, 10, 17, 15), (0, 10, 21, 17)]) (rD 9 1 6) (g_Pc D vwCl (gT ar) (EX1 κ) G sz [.ref x, .int g, .int cl, .ref out]) (g_Qi D vwCl (g_A G sz) (fun r u => r = K_make g cl ∧ (r = 0 → ∃ g1 : Nat → Int64, u.1 out = some (.inl (ar 1, 1, .inr (.inl g1))) ∧ g1 0 = 0))) 1 6 (g_A G sz) := by
  refine gH_ofW (by decide +kernel) (Nat.le_of_ble_eq_true rfl) ?_
  intro p e s m below meth c ls S hr hlk ht hE w hl
  have hx := S.1
  have hb := S.2.1
  have hl : lv_has ls 5 [(0, .ref x), (1, .int g), (2, .int cl), (3, .ref out)] := hl
  refine lv_aload_n hx hb dL_make_0 rfl (lv_at hl 3 rfl) ?_
  refine lv_iconst (v := 0) hx hb dL_make_1 (by decide) ?_
  refine lv_aload_n hx hb dL_make_2 rfl (lv_at hl 0 rfl) ?_
  refine lv_iload_n hx hb dL_make_3 rfl (lv_at hl 1 rfl) ?_
  refine lv_iload_n hx hb dL_make_4 rfl (lv_at hl 2 rfl) ?_
  have hF1 : FH ar κ (g_res (fun a9 => a9 < out) G) x q := FH_mono hF (fun a9 c9 h1 h2 => g_res_i (show a9 < out by omega) h2)
  refine gs_xcalli (g_res (fun a9 => ¬ a9 < out) G) w (fun _ _ => g_res_s) (fun _ _ => g_res_2) (gx_runV (As := [.int g, .int cl]) (rest := [.int 0, .ref out]) S hE (g_sub w (fun _ _ => g_res_s)) hl (h_make l D ar κ (g_res (fun a9 => a9 < out) G) sz x g cl q hF1 hlt) (k_RL_60 S.2.2.2.2 ⟨Nat.le_of_ble_eq_true rfl, Nat.le_of_ble_eq_true rfl⟩) hF1.2.1 rfl rfl rfl rfl (Nat.le_of_ble_eq_true rfl) dL_make_5 ⟨Nat.le_of_ble_eq_true rfl, Nat.le_of_ble_eq_true rfl⟩) (fun E ce q9 u H locs hp hnz w hce hv hcl => ?_) (fun r u H locs hp hnz w => ?_)
  · rcases hp with ⟨rfl, h9⟩ | ⟨rfl, h9⟩ | ⟨rfl, h9⟩
    · refine vx_catch S.2.2.2.1 [] ⟨0, 10, 13, 13⟩ [⟨0, 10, 17, 15⟩, ⟨0, 10, 21, 17⟩] (ht.trans rfl) (by intro z hz; cases hz) rfl (by decide) (S.2.2.2.2 _ m_2_218) (va_Nw.use rfl (hE.2.1.1 _ (ckN_1 _ (List.mem_of_getElem? (i := 5) rfl)))) hce hv hcl ?_
      refine lv_astore (lv' := [(4, .ref q9), (0, .ref x), (1, .int g), (2, .int cl), (3, .ref out)]) hx hb dL_make_13 hl (by decide) rfl (fun ls hl => ?_)
      refine lv_iconst (v := 1) hx hb dL_make_15 (by decide) ?_
      exact g_iret hx hb hr hlk w (Nat.le_of_ble_eq_true rfl) (Nat.le_of_ble_eq_true rfl) dL_make_16 ⟨h9.symm, fun h => absurd h (by decide)⟩
    · refine vx_catch S.2.2.2.1 [⟨0, 10, 13, 13⟩] ⟨0, 10, 17, 15⟩ [⟨0, 10, 21, 17⟩] (ht.trans rfl) (by intro z hz; simp only [List.mem_cons, List.not_mem_nil, or_false] at hz; subst hz; exact Or.inr ⟨by decide, "java/lang/IndexOutOfBoundsException", S.2.2.2.2 _ m_2_218, hE.2.1.2.2 ("java/lang/IllegalArgumentException", "java/lang/IndexOutOfBoundsException") (List.mem_of_getElem? (i := 0) rfl)⟩) rfl (by decide) (S.2.2.2.2 _ m_3_58) (va_Nw.use rfl (hE.2.1.1 _ (ckN_1 _ (List.mem_of_getElem? (i := 6) rfl)))) hce hv hcl ?_
      refine lv_astore (lv' := [(4, .ref q9), (0, .ref x), (1, .int g), (2, .int cl), (3, .ref out)]) hx hb dL_make_17 hl (by decide) rfl (fun ls hl => ?_)
      refine lv_iconst (v := 2) hx hb dL_make_19 (by decide) ?_
      exact g_iret hx hb hr hlk w (Nat.le_of_ble_eq_true rfl) (Nat.le_of_ble_eq_true rfl) dL_make_20 ⟨h9.symm, fun h => absurd h (by decide)⟩
    · refine vx_catch S.2.2.2.1 [⟨0, 10, 13, 13⟩, ⟨0, 10, 17, 15⟩] ⟨0, 10, 21, 17⟩ [] (ht.trans rfl) (by intro z hz; simp only [List.mem_cons, List.not_mem_nil, or_false] at hz; rcases hz with rfl | rfl; exact Or.inr ⟨by decide, "java/lang/IndexOutOfBoundsException", S.2.2.2.2 _ m_2_218, hE.2.1.2.2 ("java/lang/IllegalStateException", "java/lang/IndexOutOfBoundsException") (List.mem_of_getElem? (i := 1) rfl)⟩; exact Or.inr ⟨by decide, "java/lang/IllegalArgumentException", S.2.2.2.2 _ m_3_58, hE.2.1.2.2 ("java/lang/IllegalStateException", "java/lang/IllegalArgumentException") (List.mem_of_getElem? (i := 7) rfl)⟩) rfl (by decide) (S.2.2.2.2 _ m_3_59) (va_Nw.use rfl (hE.2.1.1 _ (ckN_1 _ (List.mem_of_getElem? (i := 7) rfl)))) hce hv hcl ?_
      refine lv_astore (lv' := [(4, .ref q9), (0, .ref x), (1, .int g), (2, .int cl), (3, .ref out)]) hx hb dL_make_21 hl (by decide) rfl (fun ls hl => ?_)
      refine lv_iconst (v := 3) hx hb dL_make_23 (by decide) ?_
      exact g_iret hx hb hr hlk w (Nat.le_of_ble_eq_true rfl) (Nat.le_of_ble_eq_true rfl) dL_make_24 ⟨h9.symm, fun h => absurd h (by decide)⟩
  · obtain ⟨hk9, rfl⟩ := hp
    refine lv_i2l hx hb dL_make_8 rfl ?_
    rw [show ((0 : Int32)).toInt64 = 0 by decide +kernel]
    refine g_last hx hb hE.1 w 1 (g_ov_l (g_res_i (show ¬ out < out by omega) ho)) rfl (vp_in_nI (n := 0) (by decide) (by decide)) dL_make_9 (fun H locs w => ?_)
    refine lv_goto (tgt := 25) hx hb dL_make_10 (by decide) ?_
    refine lv_iconst (v := 0) hx hb dL_make_25 (by decide) ?_
    exact g_iret hx hb hr hlk w (Nat.le_of_ble_eq_true rfl) (Nat.le_of_ble_eq_true rfl) dL_make_26 ⟨hk9.symm, fun _ => ⟨_, g_up_s, rfl⟩⟩
set_option maxHeartbeats 4000000 in
set_option maxRecDepth 100000 in
theorem w_kind (l : Launch) (D : va_G) (ar : Nat → ClassId) (κ : Nat → Nat) (G : gW) (sz : Nat) (x : Nat) (g : Int32) (out : Nat) (q : Nat) (gg0 : Nat → Int64) (hF : FH ar κ G x q) (ho : G out = some (.inl (ar 1, 1, .inr (.inl gg0)))) (hqo : q + 136 < out) (hlt : l.stackTraces = false) : Met l yL_kind (lwCW yL_kind cL_kind 4 (some .int) [(0, 9, 12, 13)]) (rD 9 1 6) (g_Pc D vwCl (gT ar) (EX1 κ) G sz [.ref x, .int g, .ref out]) (g_Qi D vwCl (g_A G sz) (fun r u => r = K_gl g ∧ (r = 0 → ∃ g1 : Nat → Int64, u.1 out = some (.inl (ar 1, 1, .inr (.inl g1))) ∧ g1 0 = 117))) 1 6 (g_A G sz) := by
  refine gH_ofW (by decide +kernel) (Nat.le_of_ble_eq_true rfl) ?_
  intro p e s m below meth c ls S hr hlk ht hE w hl
  have hx := S.1
  have hb := S.2.1
  have hl : lv_has ls 4 [(0, .ref x), (1, .int g), (2, .ref out)] := hl
  refine lv_aload_n hx hb dL_kind_0 rfl (lv_at hl 2 rfl) ?_
  refine lv_iconst (v := 0) hx hb dL_kind_1 (by decide) ?_
  refine lv_aload_n hx hb dL_kind_2 rfl (lv_at hl 0 rfl) ?_
  refine lv_iload_n hx hb dL_kind_3 rfl (lv_at hl 1 rfl) ?_
  have hF1 : FH ar κ (g_res (fun a9 => a9 < out) G) x q := FH_mono hF (fun a9 c9 h1 h2 => g_res_i (show a9 < out by omega) h2)
  refine gs_xcalli (g_res (fun a9 => ¬ a9 < out) G) w (fun _ _ => g_res_s) (fun _ _ => g_res_2) (gx_runV (As := [.int g]) (rest := [.int 0, .ref out]) S hE (g_sub w (fun _ _ => g_res_s)) hl (h_kind l D ar κ (g_res (fun a9 => a9 < out) G) sz x g q hF1 hlt) (k_RL_63 S.2.2.2.2 ⟨Nat.le_of_ble_eq_true rfl, Nat.le_of_ble_eq_true rfl⟩) hF1.2.1 rfl rfl rfl rfl (Nat.le_of_ble_eq_true rfl) dL_kind_4 ⟨Nat.le_of_ble_eq_true rfl, Nat.le_of_ble_eq_true rfl⟩) (fun E ce q9 u H locs hp hnz w hce hv hcl => ?_) (fun r u H locs hp hnz w => ?_)
  · obtain ⟨rfl, h9⟩ := hp
    refine vx_catch S.2.2.2.1 [] ⟨0, 9, 12, 13⟩ [] (ht.trans rfl) (by intro z hz; cases hz) rfl (by decide) (S.2.2.2.2 _ m_2_218) (va_Nw.use rfl (hE.2.1.1 _ (ckN_1 _ (List.mem_of_getElem? (i := 5) rfl)))) hce hv hcl ?_
    refine lv_astore_n (lv' := [(3, .ref q9), (0, .ref x), (1, .int g), (2, .ref out)]) hx hb dL_kind_12 rfl hl (by decide) rfl (fun ls hl => ?_)
    refine lv_iconst (v := 1) hx hb dL_kind_13 (by decide) ?_
    exact g_iret hx hb hr hlk w (Nat.le_of_ble_eq_true rfl) (Nat.le_of_ble_eq_true rfl) dL_kind_14 ⟨h9.symm, fun h => absurd h (by decide)⟩
  · obtain ⟨hk9, rfl⟩ := hp
    refine lv_i2l hx hb dL_kind_7 rfl ?_
    rw [show ((117 : Int32)).toInt64 = 117 by decide +kernel]
    refine g_last hx hb hE.1 w 1 (g_ov_l (g_res_i (show ¬ out < out by omega) ho)) rfl (vp_in_nI (n := 0) (by decide) (by decide)) dL_kind_8 (fun H locs w => ?_)
    refine lv_goto (tgt := 15) hx hb dL_kind_9 (by decide) ?_
    refine lv_iconst (v := 0) hx hb dL_kind_15 (by decide) ?_
    exact g_iret hx hb hr hlk w (Nat.le_of_ble_eq_true rfl) (Nat.le_of_ble_eq_true rfl) dL_kind_16 ⟨hk9.symm, fun _ => ⟨_, g_up_s, rfl⟩⟩
set_option maxHeartbeats 4000000 in
set_option maxRecDepth 100000 in
theorem w_value (l : Launch) (D : va_G) (ar : Nat → ClassId) (κ : Nat → Nat) (G : gW) (sz : Nat) (x : Nat) (g : Int32) (out : Nat) (q : Nat) (gg0 : Nat → Int64) (hF : FH ar κ G x q) (ho : G out = some (.inl (ar 1, 1, .inr (.inl gg0)))) (hqo : q + 136 < out) (hlt : l.stackTraces = false) : Met l yL_value (lwCW yL_value cL_value 4 (some .int) [(0, 9, 12, 13)]) (rD 9 1 6) (g_Pc D vwCl (gT ar) (EX1 κ) G sz [.ref x, .int g, .ref out]) (g_Qi D vwCl (g_A G sz) (fun r u => r = K_gl g ∧ (r = 0 → ∃ g1 : Nat → Int64, u.1 out = some (.inl (ar 1, 1, .inr (.inl g1))) ∧ g1 0 = 0))) 1 6 (g_A G sz) := by
  refine gH_ofW (by decide +kernel) (Nat.le_of_ble_eq_true rfl) ?_
  intro p e s m below meth c ls S hr hlk ht hE w hl
  have hx := S.1
  have hb := S.2.1
  have hl : lv_has ls 4 [(0, .ref x), (1, .int g), (2, .ref out)] := hl
  refine lv_aload_n hx hb dL_value_0 rfl (lv_at hl 2 rfl) ?_
  refine lv_iconst (v := 0) hx hb dL_value_1 (by decide) ?_
  refine lv_aload_n hx hb dL_value_2 rfl (lv_at hl 0 rfl) ?_
  refine lv_iload_n hx hb dL_value_3 rfl (lv_at hl 1 rfl) ?_
  have hF1 : FH ar κ (g_res (fun a9 => a9 < out) G) x q := FH_mono hF (fun a9 c9 h1 h2 => g_res_i (show a9 < out by omega) h2)
  refine gs_xcalli (g_res (fun a9 => ¬ a9 < out) G) w (fun _ _ => g_res_s) (fun _ _ => g_res_2) (gx_runV (As := [.int g]) (rest := [.int 0, .ref out]) S hE (g_sub w (fun _ _ => g_res_s)) hl (h_value l D ar κ (g_res (fun a9 => a9 < out) G) sz x g q hF1 hlt) (k_RL_67 S.2.2.2.2 ⟨Nat.le_of_ble_eq_true rfl, Nat.le_of_ble_eq_true rfl⟩) hF1.2.1 rfl rfl rfl rfl (Nat.le_of_ble_eq_true rfl) dL_value_4 ⟨Nat.le_of_ble_eq_true rfl, Nat.le_of_ble_eq_true rfl⟩) (fun E ce q9 u H locs hp hnz w hce hv hcl => ?_) (fun r u H locs hp hnz w => ?_)
  · obtain ⟨rfl, h9⟩ := hp
    refine vx_catch S.2.2.2.1 [] ⟨0, 9, 12, 13⟩ [] (ht.trans rfl) (by intro z hz; cases hz) rfl (by decide) (S.2.2.2.2 _ m_2_218) (va_Nw.use rfl (hE.2.1.1 _ (ckN_1 _ (List.mem_of_getElem? (i := 5) rfl)))) hce hv hcl ?_
    refine lv_astore_n (lv' := [(3, .ref q9), (0, .ref x), (1, .int g), (2, .ref out)]) hx hb dL_value_12 rfl hl (by decide) rfl (fun ls hl => ?_)
    refine lv_iconst (v := 1) hx hb dL_value_13 (by decide) ?_
    exact g_iret hx hb hr hlk w (Nat.le_of_ble_eq_true rfl) (Nat.le_of_ble_eq_true rfl) dL_value_14 ⟨h9.symm, fun h => absurd h (by decide)⟩
  · obtain ⟨hk9, rfl⟩ := hp
    refine lv_i2l hx hb dL_value_7 rfl ?_
    rw [show ((0 : Int32)).toInt64 = 0 by decide +kernel]
    refine g_last hx hb hE.1 w 1 (g_ov_l (g_res_i (show ¬ out < out by omega) ho)) rfl (vp_in_nI (n := 0) (by decide) (by decide)) dL_value_8 (fun H locs w => ?_)
    refine lv_goto (tgt := 15) hx hb dL_value_9 (by decide) ?_
    refine lv_iconst (v := 0) hx hb dL_value_15 (by decide) ?_
    exact g_iret hx hb hr hlk w (Nat.le_of_ble_eq_true rfl) (Nat.le_of_ble_eq_true rfl) dL_value_16 ⟨hk9.symm, fun _ => ⟨_, g_up_s, rfl⟩⟩
set_option maxHeartbeats 4000000 in
set_option maxRecDepth 100000 in
theorem w_classOf (l : Launch) (D : va_G) (ar : Nat → ClassId) (κ : Nat → Nat) (G : gW) (sz : Nat) (x : Nat) (n : Int32) (out : Nat) (q : Nat) (gg0 : Nat → Int64) (hF : FH ar κ G x q) (ho : G out = some (.inl (ar 1, 1, .inr (.inl gg0)))) (hqo : q + 136 < out) (hlt : l.stackTraces = false) : Met l yL_classOf (lwCW yL_classOf cL_classOf 4 (some .int) [(0, 9, 12, 13)]) (rD 8 1 6) (g_Pc D vwCl (gT ar) (EX1 κ) G sz [.ref x, .int n, .ref out]) (g_Qi D vwCl (g_A G sz) (fun r u => r = 1)) 1 6 (g_A G sz) := by
  refine gH_ofW (by decide +kernel) (Nat.le_of_ble_eq_true rfl) ?_
  intro p e s m below meth c ls S hr hlk ht hE w hl
  have hx := S.1
  have hb := S.2.1
  have hl : lv_has ls 4 [(0, .ref x), (1, .int n), (2, .ref out)] := hl
  refine lv_aload_n hx hb dL_classOf_0 rfl (lv_at hl 2 rfl) ?_
  refine lv_iconst (v := 0) hx hb dL_classOf_1 (by decide) ?_
  refine lv_aload_n hx hb dL_classOf_2 rfl (lv_at hl 0 rfl) ?_
  refine lv_iload_n hx hb dL_classOf_3 rfl (lv_at hl 1 rfl) ?_
  have hF1 : FH ar κ (g_res (fun a9 => a9 < out) G) x q := FH_mono hF (fun a9 c9 h1 h2 => g_res_i (show a9 < out by omega) h2)
  refine gs_xcalli (g_res (fun a9 => ¬ a9 < out) G) w (fun _ _ => g_res_s) (fun _ _ => g_res_2) (gx_runV (As := [.int n]) (rest := [.int 0, .ref out]) S hE (g_sub w (fun _ _ => g_res_s)) hl (h_classOf l D ar κ (g_res (fun a9 => a9 < out) G) sz x n q hF1 hlt) (k_RL_70 S.2.2.2.2 ⟨Nat.le_of_ble_eq_true rfl, Nat.le_of_ble_eq_true rfl⟩) hF1.2.1 rfl rfl rfl rfl (Nat.le_of_ble_eq_true rfl) dL_classOf_4 ⟨Nat.le_of_ble_eq_true rfl, Nat.le_of_ble_eq_true rfl⟩) (fun E ce q9 u H locs hp hnz w hce hv hcl => ?_) (fun r u H locs hp hnz w => ?_)
  · obtain ⟨rfl, h9⟩ := hp
    refine vx_catch S.2.2.2.1 [] ⟨0, 9, 12, 13⟩ [] (ht.trans rfl) (by intro z hz; cases hz) rfl (by decide) (S.2.2.2.2 _ m_2_218) (va_Nw.use rfl (hE.2.1.1 _ (ckN_1 _ (List.mem_of_getElem? (i := 5) rfl)))) hce hv hcl ?_
    refine lv_astore_n (lv' := [(3, .ref q9), (0, .ref x), (1, .int n), (2, .ref out)]) hx hb dL_classOf_12 rfl hl (by decide) rfl (fun ls hl => ?_)
    refine lv_iconst (v := 1) hx hb dL_classOf_13 (by decide) ?_
    exact g_iret hx hb hr hlk w (Nat.le_of_ble_eq_true rfl) (Nat.le_of_ble_eq_true rfl) dL_classOf_14 rfl
  · exact hp.elim
set_option maxHeartbeats 4000000 in
set_option maxRecDepth 100000 in
theorem w_fieldKind (l : Launch) (D : va_G) (ar : Nat → ClassId) (κ : Nat → Nat) (G : gW) (sz : Nat) (x : Nat) (n : Int32) (k : Int32) (out : Nat) (q : Nat) (gg0 : Nat → Int64) (hF : FH ar κ G x q) (ho : G out = some (.inl (ar 1, 1, .inr (.inl gg0)))) (hqo : q + 136 < out) (hlt : l.stackTraces = false) : Met l yL_fieldKind (lwCW yL_fieldKind cL_fieldKind 5 (some .int) [(0, 10, 13, 13)]) (rD 9 1 6) (g_Pc D vwCl (gT ar) (EX1 κ) G sz [.ref x, .int n, .int k, .ref out]) (g_Qi D vwCl (g_A G sz) (fun r u => r = 1)) 1 6 (g_A G sz) := by
  refine gH_ofW (by decide +kernel) (Nat.le_of_ble_eq_true rfl) ?_
  intro p e s m below meth c ls S hr hlk ht hE w hl
  have hx := S.1
  have hb := S.2.1
  have hl : lv_has ls 5 [(0, .ref x), (1, .int n), (2, .int k), (3, .ref out)] := hl
  refine lv_aload_n hx hb dL_fieldKind_0 rfl (lv_at hl 3 rfl) ?_
  refine lv_iconst (v := 0) hx hb dL_fieldKind_1 (by decide) ?_
  refine lv_aload_n hx hb dL_fieldKind_2 rfl (lv_at hl 0 rfl) ?_
  refine lv_iload_n hx hb dL_fieldKind_3 rfl (lv_at hl 1 rfl) ?_
  refine lv_iload_n hx hb dL_fieldKind_4 rfl (lv_at hl 2 rfl) ?_
  have hF1 : FH ar κ (g_res (fun a9 => a9 < out) G) x q := FH_mono hF (fun a9 c9 h1 h2 => g_res_i (show a9 < out by omega) h2)
  refine gs_xcalli (g_res (fun a9 => ¬ a9 < out) G) w (fun _ _ => g_res_s) (fun _ _ => g_res_2) (gx_runV (As := [.int n, .int k]) (rest := [.int 0, .ref out]) S hE (g_sub w (fun _ _ => g_res_s)) hl (h_fieldKind l D ar κ (g_res (fun a9 => a9 < out) G) sz x n k q hF1 hlt) (k_RL_73 S.2.2.2.2 ⟨Nat.le_of_ble_eq_true rfl, Nat.le_of_ble_eq_true rfl⟩) hF1.2.1 rfl rfl rfl rfl (Nat.le_of_ble_eq_true rfl) dL_fieldKind_5 ⟨Nat.le_of_ble_eq_true rfl, Nat.le_of_ble_eq_true rfl⟩) (fun E ce q9 u H locs hp hnz w hce hv hcl => ?_) (fun r u H locs hp hnz w => ?_)
  · obtain ⟨rfl, h9⟩ := hp
    refine vx_catch S.2.2.2.1 [] ⟨0, 10, 13, 13⟩ [] (ht.trans rfl) (by intro z hz; cases hz) rfl (by decide) (S.2.2.2.2 _ m_2_218) (va_Nw.use rfl (hE.2.1.1 _ (ckN_1 _ (List.mem_of_getElem? (i := 5) rfl)))) hce hv hcl ?_
    refine lv_astore (lv' := [(4, .ref q9), (0, .ref x), (1, .int n), (2, .int k), (3, .ref out)]) hx hb dL_fieldKind_13 hl (by decide) rfl (fun ls hl => ?_)
    refine lv_iconst (v := 1) hx hb dL_fieldKind_15 (by decide) ?_
    exact g_iret hx hb hr hlk w (Nat.le_of_ble_eq_true rfl) (Nat.le_of_ble_eq_true rfl) dL_fieldKind_16 rfl
  · exact hp.elim
set_option maxHeartbeats 4000000 in
set_option maxRecDepth 100000 in
theorem w_fieldValue (l : Launch) (D : va_G) (ar : Nat → ClassId) (κ : Nat → Nat) (G : gW) (sz : Nat) (x : Nat) (n : Int32) (k : Int32) (out : Nat) (q : Nat) (gg0 : Nat → Int64) (hF : FH ar κ G x q) (ho : G out = some (.inl (ar 1, 1, .inr (.inl gg0)))) (hqo : q + 136 < out) (hlt : l.stackTraces = false) : Met l yL_fieldValue (lwCW yL_fieldValue cL_fieldValue 5 (some .int) [(0, 10, 13, 13)]) (rD 9 1 6) (g_Pc D vwCl (gT ar) (EX1 κ) G sz [.ref x, .int n, .int k, .ref out]) (g_Qi D vwCl (g_A G sz) (fun r u => r = 1)) 1 6 (g_A G sz) := by
  refine gH_ofW (by decide +kernel) (Nat.le_of_ble_eq_true rfl) ?_
  intro p e s m below meth c ls S hr hlk ht hE w hl
  have hx := S.1
  have hb := S.2.1
  have hl : lv_has ls 5 [(0, .ref x), (1, .int n), (2, .int k), (3, .ref out)] := hl
  refine lv_aload_n hx hb dL_fieldValue_0 rfl (lv_at hl 3 rfl) ?_
  refine lv_iconst (v := 0) hx hb dL_fieldValue_1 (by decide) ?_
  refine lv_aload_n hx hb dL_fieldValue_2 rfl (lv_at hl 0 rfl) ?_
  refine lv_iload_n hx hb dL_fieldValue_3 rfl (lv_at hl 1 rfl) ?_
  refine lv_iload_n hx hb dL_fieldValue_4 rfl (lv_at hl 2 rfl) ?_
  have hF1 : FH ar κ (g_res (fun a9 => a9 < out) G) x q := FH_mono hF (fun a9 c9 h1 h2 => g_res_i (show a9 < out by omega) h2)
  refine gs_xcalli (g_res (fun a9 => ¬ a9 < out) G) w (fun _ _ => g_res_s) (fun _ _ => g_res_2) (gx_runV (As := [.int n, .int k]) (rest := [.int 0, .ref out]) S hE (g_sub w (fun _ _ => g_res_s)) hl (h_fieldValue l D ar κ (g_res (fun a9 => a9 < out) G) sz x n k q hF1 hlt) (k_RL_77 S.2.2.2.2 ⟨Nat.le_of_ble_eq_true rfl, Nat.le_of_ble_eq_true rfl⟩) hF1.2.1 rfl rfl rfl rfl (Nat.le_of_ble_eq_true rfl) dL_fieldValue_5 ⟨Nat.le_of_ble_eq_true rfl, Nat.le_of_ble_eq_true rfl⟩) (fun E ce q9 u H locs hp hnz w hce hv hcl => ?_) (fun r u H locs hp hnz w => ?_)
  · obtain ⟨rfl, h9⟩ := hp
    refine vx_catch S.2.2.2.1 [] ⟨0, 10, 13, 13⟩ [] (ht.trans rfl) (by intro z hz; cases hz) rfl (by decide) (S.2.2.2.2 _ m_2_218) (va_Nw.use rfl (hE.2.1.1 _ (ckN_1 _ (List.mem_of_getElem? (i := 5) rfl)))) hce hv hcl ?_
    refine lv_astore (lv' := [(4, .ref q9), (0, .ref x), (1, .int n), (2, .int k), (3, .ref out)]) hx hb dL_fieldValue_13 hl (by decide) rfl (fun ls hl => ?_)
    refine lv_iconst (v := 1) hx hb dL_fieldValue_15 (by decide) ?_
    exact g_iret hx hb hr hlk w (Nat.le_of_ble_eq_true rfl) (Nat.le_of_ble_eq_true rfl) dL_fieldValue_16 rfl
  · exact hp.elim
set_option maxHeartbeats 4000000 in
set_option maxRecDepth 100000 in
theorem w_begin (l : Launch) (D : va_G) (ar : Nat → ClassId) (κ : Nat → Nat) (G : gW) (sz : Nat) (x : Nat) (g : Int32) (se : Int32) (a : Int32) (x1 : Int32) (y1 : Int32) (out : Nat) (q : Nat) (gg0 : Nat → Int64) (hF : FH ar κ G x q) (ho : G out = some (.inl (ar 1, 1, .inr (.inl gg0)))) (hqo : q + 136 < out) (hlt : l.stackTraces = false) : Met l yL_begin (lwCW yL_begin cL_begin 8 (some .int) [(0, 16, 19, 13), (0, 16, 23, 15), (0, 16, 27, 17), (0, 16, 31, 31)]) (rD 9 1 6) (g_Pc D vwCl (gT ar) (EX1 κ) G sz [.ref x, .int g, .int se, .int a, .int x1, .int y1, .ref out]) (g_Qi D vwCl (g_A G sz) (fun r u => r = K_begin g se a)) 1 6 (g_A G sz) := by
  refine gH_ofW (by decide +kernel) (Nat.le_of_ble_eq_true rfl) ?_
  intro p e s m below meth c ls S hr hlk ht hE w hl
  have hx := S.1
  have hb := S.2.1
  have hl : lv_has ls 8 [(0, .ref x), (1, .int g), (2, .int se), (3, .int a), (4, .int x1), (5, .int y1), (6, .ref out)] := hl
  refine lv_aload hx hb dL_begin_0 (lv_at hl 6 rfl) ?_
  refine lv_iconst (v := 0) hx hb dL_begin_2 (by decide) ?_
  refine lv_aload_n hx hb dL_begin_3 rfl (lv_at hl 0 rfl) ?_
  refine lv_iload_n hx hb dL_begin_4 rfl (lv_at hl 1 rfl) ?_
  refine lv_iload_n hx hb dL_begin_5 rfl (lv_at hl 2 rfl) ?_
  refine lv_iload_n hx hb dL_begin_6 rfl (lv_at hl 3 rfl) ?_
  refine lv_iload hx hb dL_begin_7 (lv_at hl 4 rfl) ?_
  refine lv_iload hx hb dL_begin_9 (lv_at hl 5 rfl) ?_
  have hF1 : FH ar κ (g_res (fun a9 => a9 < out) G) x q := FH_mono hF (fun a9 c9 h1 h2 => g_res_i (show a9 < out by omega) h2)
  refine gs_xcalli (g_res (fun a9 => ¬ a9 < out) G) w (fun _ _ => g_res_s) (fun _ _ => g_res_2) (gx_runV (As := [.int g, .int se, .int a, .int x1, .int y1]) (rest := [.int 0, .ref out]) S hE (g_sub w (fun _ _ => g_res_s)) hl (h_begin l D ar κ (g_res (fun a9 => a9 < out) G) sz x g se a x1 y1 q hF1 hlt) (k_RL_80 S.2.2.2.2 ⟨Nat.le_of_ble_eq_true rfl, Nat.le_of_ble_eq_true rfl⟩) hF1.2.1 rfl rfl rfl rfl (Nat.le_of_ble_eq_true rfl) dL_begin_11 ⟨Nat.le_of_ble_eq_true rfl, Nat.le_of_ble_eq_true rfl⟩) (fun E ce q9 u H locs hp hnz w hce hv hcl => ?_) (fun r u H locs hp hnz w => ?_)
  · rcases hp with ⟨rfl, h9⟩ | ⟨rfl, h9⟩ | ⟨rfl, h9⟩ | ⟨rfl, h9⟩
    · refine vx_catch S.2.2.2.1 [] ⟨0, 16, 19, 13⟩ [⟨0, 16, 23, 15⟩, ⟨0, 16, 27, 17⟩, ⟨0, 16, 31, 31⟩] (ht.trans rfl) (by intro z hz; cases hz) rfl (by decide) (S.2.2.2.2 _ m_2_218) (va_Nw.use rfl (hE.2.1.1 _ (ckN_1 _ (List.mem_of_getElem? (i := 5) rfl)))) hce hv hcl ?_
      refine lv_astore (lv' := [(7, .ref q9), (0, .ref x), (1, .int g), (2, .int se), (3, .int a), (4, .int x1), (5, .int y1), (6, .ref out)]) hx hb dL_begin_19 hl (by decide) rfl (fun ls hl => ?_)
      refine lv_iconst (v := 1) hx hb dL_begin_21 (by decide) ?_
      exact g_iret hx hb hr hlk w (Nat.le_of_ble_eq_true rfl) (Nat.le_of_ble_eq_true rfl) dL_begin_22 h9.symm
    · refine vx_catch S.2.2.2.1 [⟨0, 16, 19, 13⟩] ⟨0, 16, 23, 15⟩ [⟨0, 16, 27, 17⟩, ⟨0, 16, 31, 31⟩] (ht.trans rfl) (by intro z hz; simp only [List.mem_cons, List.not_mem_nil, or_false] at hz; subst hz; exact Or.inr ⟨by decide, "java/lang/IndexOutOfBoundsException", S.2.2.2.2 _ m_2_218, hE.2.1.2.2 ("java/lang/IllegalArgumentException", "java/lang/IndexOutOfBoundsException") (List.mem_of_getElem? (i := 0) rfl)⟩) rfl (by decide) (S.2.2.2.2 _ m_3_58) (va_Nw.use rfl (hE.2.1.1 _ (ckN_1 _ (List.mem_of_getElem? (i := 6) rfl)))) hce hv hcl ?_
      refine lv_astore (lv' := [(7, .ref q9), (0, .ref x), (1, .int g), (2, .int se), (3, .int a), (4, .int x1), (5, .int y1), (6, .ref out)]) hx hb dL_begin_23 hl (by decide) rfl (fun ls hl => ?_)
      refine lv_iconst (v := 2) hx hb dL_begin_25 (by decide) ?_
      exact g_iret hx hb hr hlk w (Nat.le_of_ble_eq_true rfl) (Nat.le_of_ble_eq_true rfl) dL_begin_26 h9.symm
    · refine vx_catch S.2.2.2.1 [⟨0, 16, 19, 13⟩, ⟨0, 16, 23, 15⟩] ⟨0, 16, 27, 17⟩ [⟨0, 16, 31, 31⟩] (ht.trans rfl) (by intro z hz; simp only [List.mem_cons, List.not_mem_nil, or_false] at hz; rcases hz with rfl | rfl; exact Or.inr ⟨by decide, "java/lang/IndexOutOfBoundsException", S.2.2.2.2 _ m_2_218, hE.2.1.2.2 ("java/lang/IllegalStateException", "java/lang/IndexOutOfBoundsException") (List.mem_of_getElem? (i := 1) rfl)⟩; exact Or.inr ⟨by decide, "java/lang/IllegalArgumentException", S.2.2.2.2 _ m_3_58, hE.2.1.2.2 ("java/lang/IllegalStateException", "java/lang/IllegalArgumentException") (List.mem_of_getElem? (i := 7) rfl)⟩) rfl (by decide) (S.2.2.2.2 _ m_3_59) (va_Nw.use rfl (hE.2.1.1 _ (ckN_1 _ (List.mem_of_getElem? (i := 7) rfl)))) hce hv hcl ?_
      refine lv_astore (lv' := [(7, .ref q9), (0, .ref x), (1, .int g), (2, .int se), (3, .int a), (4, .int x1), (5, .int y1), (6, .ref out)]) hx hb dL_begin_27 hl (by decide) rfl (fun ls hl => ?_)
      refine lv_iconst (v := 3) hx hb dL_begin_29 (by decide) ?_
      exact g_iret hx hb hr hlk w (Nat.le_of_ble_eq_true rfl) (Nat.le_of_ble_eq_true rfl) dL_begin_30 h9.symm
    · refine vx_catch S.2.2.2.1 [⟨0, 16, 19, 13⟩, ⟨0, 16, 23, 15⟩, ⟨0, 16, 27, 17⟩] ⟨0, 16, 31, 31⟩ [] (ht.trans rfl) (by intro z hz; simp only [List.mem_cons, List.not_mem_nil, or_false] at hz; rcases hz with rfl | rfl | rfl; exact Or.inr ⟨by decide, "java/lang/IndexOutOfBoundsException", S.2.2.2.2 _ m_2_218, hE.2.1.2.2 ("java/lang/UnsupportedOperationException", "java/lang/IndexOutOfBoundsException") (List.mem_of_getElem? (i := 2) rfl)⟩; exact Or.inr ⟨by decide, "java/lang/IllegalArgumentException", S.2.2.2.2 _ m_3_58, hE.2.1.2.2 ("java/lang/UnsupportedOperationException", "java/lang/IllegalArgumentException") (List.mem_of_getElem? (i := 8) rfl)⟩; exact Or.inr ⟨by decide, "java/lang/IllegalStateException", S.2.2.2.2 _ m_3_59, hE.2.1.2.2 ("java/lang/UnsupportedOperationException", "java/lang/IllegalStateException") (List.mem_of_getElem? (i := 14) rfl)⟩) rfl (by decide) (S.2.2.2.2 _ m_3_152) (va_Nw.use rfl (hE.2.1.1 _ (ckN_1 _ (List.mem_of_getElem? (i := 20) rfl)))) hce hv hcl ?_
      refine lv_astore (lv' := [(7, .ref q9), (0, .ref x), (1, .int g), (2, .int se), (3, .int a), (4, .int x1), (5, .int y1), (6, .ref out)]) hx hb dL_begin_31 hl (by decide) rfl (fun ls hl => ?_)
      refine lv_iconst (v := 4) hx hb dL_begin_33 (by decide) ?_
      exact g_iret hx hb hr hlk w (Nat.le_of_ble_eq_true rfl) (Nat.le_of_ble_eq_true rfl) dL_begin_34 h9.symm
  · exact hp.elim
set_option maxHeartbeats 4000000 in
set_option maxRecDepth 100000 in
theorem w_go (l : Launch) (D : va_G) (ar : Nat → ClassId) (κ : Nat → Nat) (G : gW) (sz : Nat) (x : Nat) (n : Int32) (out : Nat) (q : Nat) (gg0 : Nat → Int64) (hF : FH ar κ G x q) (ho : G out = some (.inl (ar 1, 1, .inr (.inl gg0)))) (hqo : q + 136 < out) (hlt : l.stackTraces = false) : Met l yL_go (lwCW yL_go cL_go 4 (some .int) [(0, 9, 12, 15), (0, 9, 15, 17)]) (rD 9 1 6) (g_Pc D vwCl (gT ar) (EX1 κ) G sz [.ref x, .int n, .ref out]) (g_Qi D vwCl (g_A G sz) (fun r u => r = K_go n)) 1 6 (g_A G sz) := by
  refine gH_ofW (by decide +kernel) (Nat.le_of_ble_eq_true rfl) ?_
  intro p e s m below meth c ls S hr hlk ht hE w hl
  have hx := S.1
  have hb := S.2.1
  have hl : lv_has ls 4 [(0, .ref x), (1, .int n), (2, .ref out)] := hl
  refine lv_aload_n hx hb dL_go_0 rfl (lv_at hl 2 rfl) ?_
  refine lv_iconst (v := 0) hx hb dL_go_1 (by decide) ?_
  refine lv_aload_n hx hb dL_go_2 rfl (lv_at hl 0 rfl) ?_
  refine lv_iload_n hx hb dL_go_3 rfl (lv_at hl 1 rfl) ?_
  have hF1 : FH ar κ (g_res (fun a9 => a9 < out) G) x q := FH_mono hF (fun a9 c9 h1 h2 => g_res_i (show a9 < out by omega) h2)
  refine gs_xcalli (g_res (fun a9 => ¬ a9 < out) G) w (fun _ _ => g_res_s) (fun _ _ => g_res_2) (gx_runV (As := [.int n]) (rest := [.int 0, .ref out]) S hE (g_sub w (fun _ _ => g_res_s)) hl (h_go l D ar κ (g_res (fun a9 => a9 < out) G) sz x n q hF1 hlt) (k_RL_84 S.2.2.2.2 ⟨Nat.le_of_ble_eq_true rfl, Nat.le_of_ble_eq_true rfl⟩) hF1.2.1 rfl rfl rfl rfl (Nat.le_of_ble_eq_true rfl) dL_go_4 ⟨Nat.le_of_ble_eq_true rfl, Nat.le_of_ble_eq_true rfl⟩) (fun E ce q9 u H locs hp hnz w hce hv hcl => ?_) (fun r u H locs hp hnz w => ?_)
  · rcases hp with ⟨rfl, h9⟩ | ⟨rfl, h9⟩
    · refine vx_catch S.2.2.2.1 [] ⟨0, 9, 12, 15⟩ [⟨0, 9, 15, 17⟩] (ht.trans rfl) (by intro z hz; cases hz) rfl (by decide) (S.2.2.2.2 _ m_3_58) (va_Nw.use rfl (hE.2.1.1 _ (ckN_1 _ (List.mem_of_getElem? (i := 6) rfl)))) hce hv hcl ?_
      refine lv_astore_n (lv' := [(3, .ref q9), (0, .ref x), (1, .int n), (2, .ref out)]) hx hb dL_go_12 rfl hl (by decide) rfl (fun ls hl => ?_)
      refine lv_iconst (v := 1) hx hb dL_go_13 (by decide) ?_
      exact g_iret hx hb hr hlk w (Nat.le_of_ble_eq_true rfl) (Nat.le_of_ble_eq_true rfl) dL_go_14 h9.symm
    · refine vx_catch S.2.2.2.1 [⟨0, 9, 12, 15⟩] ⟨0, 9, 15, 17⟩ [] (ht.trans rfl) (by intro z hz; simp only [List.mem_cons, List.not_mem_nil, or_false] at hz; subst hz; exact Or.inr ⟨by decide, "java/lang/IllegalArgumentException", S.2.2.2.2 _ m_3_58, hE.2.1.2.2 ("java/lang/IllegalStateException", "java/lang/IllegalArgumentException") (List.mem_of_getElem? (i := 7) rfl)⟩) rfl (by decide) (S.2.2.2.2 _ m_3_59) (va_Nw.use rfl (hE.2.1.1 _ (ckN_1 _ (List.mem_of_getElem? (i := 7) rfl)))) hce hv hcl ?_
      refine lv_astore_n (lv' := [(3, .ref q9), (0, .ref x), (1, .int n), (2, .ref out)]) hx hb dL_go_15 rfl hl (by decide) rfl (fun ls hl => ?_)
      refine lv_iconst (v := 2) hx hb dL_go_16 (by decide) ?_
      exact g_iret hx hb hr hlk w (Nat.le_of_ble_eq_true rfl) (Nat.le_of_ble_eq_true rfl) dL_go_17 h9.symm
  · exact hp.elim
set_option maxHeartbeats 4000000 in
set_option maxRecDepth 100000 in
theorem w_end (l : Launch) (D : va_G) (ar : Nat → ClassId) (κ : Nat → Nat) (G : gW) (sz : Nat) (x : Nat) (out : Nat) (q : Nat) (gg0 : Nat → Int64) (hF : FH ar κ G x q) (ho : G out = some (.inl (ar 1, 1, .inr (.inl gg0)))) (hqo : q + 136 < out) (hlt : l.stackTraces = false) : Met l yL_end (lwCW yL_end cL_end 3 (some .int) [(0, 8, 11, 17)]) (rD 9 1 6) (g_Pc D vwCl (gT ar) (EX1 κ) G sz [.ref x, .ref out]) (g_Qi D vwCl (g_A G sz) (fun r u => r = 1)) 1 6 (g_A G sz) := by
  refine gH_ofW (by decide +kernel) (Nat.le_of_ble_eq_true rfl) ?_
  intro p e s m below meth c ls S hr hlk ht hE w hl
  have hx := S.1
  have hb := S.2.1
  have hl : lv_has ls 3 [(0, .ref x), (1, .ref out)] := hl
  refine lv_aload_n hx hb dL_end_0 rfl (lv_at hl 1 rfl) ?_
  refine lv_iconst (v := 0) hx hb dL_end_1 (by decide) ?_
  refine lv_aload_n hx hb dL_end_2 rfl (lv_at hl 0 rfl) ?_
  have hF1 : FH ar κ (g_res (fun a9 => a9 < out) G) x q := FH_mono hF (fun a9 c9 h1 h2 => g_res_i (show a9 < out by omega) h2)
  refine gs_xcalli (g_res (fun a9 => ¬ a9 < out) G) w (fun _ _ => g_res_s) (fun _ _ => g_res_2) (gx_runV (As := []) (rest := [.int 0, .ref out]) S hE (g_sub w (fun _ _ => g_res_s)) hl (h_end l D ar κ (g_res (fun a9 => a9 < out) G) sz x q hF1 hlt) (k_RL_87 S.2.2.2.2 ⟨Nat.le_of_ble_eq_true rfl, Nat.le_of_ble_eq_true rfl⟩) hF1.2.1 rfl rfl rfl rfl (Nat.le_of_ble_eq_true rfl) dL_end_3 ⟨Nat.le_of_ble_eq_true rfl, Nat.le_of_ble_eq_true rfl⟩) (fun E ce q9 u H locs hp hnz w hce hv hcl => ?_) (fun r u H locs hp hnz w => ?_)
  · obtain ⟨rfl, h9⟩ := hp
    refine vx_catch S.2.2.2.1 [] ⟨0, 8, 11, 17⟩ [] (ht.trans rfl) (by intro z hz; cases hz) rfl (by decide) (S.2.2.2.2 _ m_3_59) (va_Nw.use rfl (hE.2.1.1 _ (ckN_1 _ (List.mem_of_getElem? (i := 7) rfl)))) hce hv hcl ?_
    refine lv_astore_n (lv' := [(2, .ref q9), (0, .ref x), (1, .ref out)]) hx hb dL_end_11 rfl hl (by decide) rfl (fun ls hl => ?_)
    refine lv_iconst (v := 1) hx hb dL_end_12 (by decide) ?_
    exact g_iret hx hb hr hlk w (Nat.le_of_ble_eq_true rfl) (Nat.le_of_ble_eq_true rfl) dL_end_13 rfl
  · exact hp.elim
set_option maxHeartbeats 4000000 in
set_option maxRecDepth 100000 in
theorem w_reason (l : Launch) (D : va_G) (ar : Nat → ClassId) (κ : Nat → Nat) (G : gW) (sz : Nat) (x : Nat) (out : Nat) (q : Nat) (gg0 : Nat → Int64) (hF : FH ar κ G x q) (ho : G out = some (.inl (ar 1, 1, .inr (.inl gg0)))) (hqo : q + 136 < out) (hlt : l.stackTraces = false) : Met l yL_reason (lwCW yL_reason cL_reason 3 (some .int) [(0, 8, 11, 36)]) (rD 9 1 6) (g_Pc D vwCl (gT ar) (EX1 κ) G sz [.ref x, .ref out]) (g_Qi D vwCl (g_A G sz) (fun r u => r = 1)) 1 6 (g_A G sz) := by
  refine gH_ofW (by decide +kernel) (Nat.le_of_ble_eq_true rfl) ?_
  intro p e s m below meth c ls S hr hlk ht hE w hl
  have hx := S.1
  have hb := S.2.1
  have hl : lv_has ls 3 [(0, .ref x), (1, .ref out)] := hl
  refine lv_aload_n hx hb dL_reason_0 rfl (lv_at hl 1 rfl) ?_
  refine lv_iconst (v := 0) hx hb dL_reason_1 (by decide) ?_
  refine lv_aload_n hx hb dL_reason_2 rfl (lv_at hl 0 rfl) ?_
  have hF1 : FH ar κ (g_res (fun a9 => a9 < out) G) x q := FH_mono hF (fun a9 c9 h1 h2 => g_res_i (show a9 < out by omega) h2)
  refine gs_xcalli (g_res (fun a9 => ¬ a9 < out) G) w (fun _ _ => g_res_s) (fun _ _ => g_res_2) (gx_runV (As := []) (rest := [.int 0, .ref out]) S hE (g_sub w (fun _ _ => g_res_s)) hl (h_reason l D ar κ (g_res (fun a9 => a9 < out) G) sz x q hF1 hlt) (k_RL_91 S.2.2.2.2 ⟨Nat.le_of_ble_eq_true rfl, Nat.le_of_ble_eq_true rfl⟩) hF1.2.1 rfl rfl rfl rfl (Nat.le_of_ble_eq_true rfl) dL_reason_3 ⟨Nat.le_of_ble_eq_true rfl, Nat.le_of_ble_eq_true rfl⟩) (fun E ce q9 u H locs hp hnz w hce hv hcl => ?_) (fun r u H locs hp hnz w => ?_)
  · obtain ⟨rfl, h9⟩ := hp
    refine vx_catch S.2.2.2.1 [] ⟨0, 8, 11, 36⟩ [] (ht.trans rfl) (by intro z hz; cases hz) rfl (by decide) (S.2.2.2.2 _ m_4_36) (va_Nw.use rfl (hE.2.1.1 _ (ckN_1 _ (List.mem_of_getElem? (i := 21) rfl)))) hce hv hcl ?_
    refine lv_astore_n (lv' := [(2, .ref q9), (0, .ref x), (1, .ref out)]) hx hb dL_reason_11 rfl hl (by decide) rfl (fun ls hl => ?_)
    refine lv_iconst (v := 1) hx hb dL_reason_12 (by decide) ?_
    exact g_iret hx hb hr hlk w (Nat.le_of_ble_eq_true rfl) (Nat.le_of_ble_eq_true rfl) dL_reason_13 rfl
  · exact hp.elim
set_option maxHeartbeats 4000000 in
set_option maxRecDepth 100000 in
theorem w_answerKind (l : Launch) (D : va_G) (ar : Nat → ClassId) (κ : Nat → Nat) (G : gW) (sz : Nat) (x : Nat) (out : Nat) (q : Nat) (gg0 : Nat → Int64) (hF : FH ar κ G x q) (ho : G out = some (.inl (ar 1, 1, .inr (.inl gg0)))) (hqo : q + 136 < out) (hlt : l.stackTraces = false) : Met l yL_answerKind (lwCW yL_answerKind cL_answerKind 3 (some .int) [(0, 8, 11, 36)]) (rD 9 1 6) (g_Pc D vwCl (gT ar) (EX1 κ) G sz [.ref x, .ref out]) (g_Qi D vwCl (g_A G sz) (fun r u => r = 1)) 1 6 (g_A G sz) := by
  refine gH_ofW (by decide +kernel) (Nat.le_of_ble_eq_true rfl) ?_
  intro p e s m below meth c ls S hr hlk ht hE w hl
  have hx := S.1
  have hb := S.2.1
  have hl : lv_has ls 3 [(0, .ref x), (1, .ref out)] := hl
  refine lv_aload_n hx hb dL_answerKind_0 rfl (lv_at hl 1 rfl) ?_
  refine lv_iconst (v := 0) hx hb dL_answerKind_1 (by decide) ?_
  refine lv_aload_n hx hb dL_answerKind_2 rfl (lv_at hl 0 rfl) ?_
  have hF1 : FH ar κ (g_res (fun a9 => a9 < out) G) x q := FH_mono hF (fun a9 c9 h1 h2 => g_res_i (show a9 < out by omega) h2)
  refine gs_xcalli (g_res (fun a9 => ¬ a9 < out) G) w (fun _ _ => g_res_s) (fun _ _ => g_res_2) (gx_runV (As := []) (rest := [.int 0, .ref out]) S hE (g_sub w (fun _ _ => g_res_s)) hl (h_answerKind l D ar κ (g_res (fun a9 => a9 < out) G) sz x q hF1 hlt) (k_RL_95 S.2.2.2.2 ⟨Nat.le_of_ble_eq_true rfl, Nat.le_of_ble_eq_true rfl⟩) hF1.2.1 rfl rfl rfl rfl (Nat.le_of_ble_eq_true rfl) dL_answerKind_3 ⟨Nat.le_of_ble_eq_true rfl, Nat.le_of_ble_eq_true rfl⟩) (fun E ce q9 u H locs hp hnz w hce hv hcl => ?_) (fun r u H locs hp hnz w => ?_)
  · obtain ⟨rfl, h9⟩ := hp
    refine vx_catch S.2.2.2.1 [] ⟨0, 8, 11, 36⟩ [] (ht.trans rfl) (by intro z hz; cases hz) rfl (by decide) (S.2.2.2.2 _ m_4_36) (va_Nw.use rfl (hE.2.1.1 _ (ckN_1 _ (List.mem_of_getElem? (i := 21) rfl)))) hce hv hcl ?_
    refine lv_astore_n (lv' := [(2, .ref q9), (0, .ref x), (1, .ref out)]) hx hb dL_answerKind_11 rfl hl (by decide) rfl (fun ls hl => ?_)
    refine lv_iconst (v := 1) hx hb dL_answerKind_12 (by decide) ?_
    exact g_iret hx hb hr hlk w (Nat.le_of_ble_eq_true rfl) (Nat.le_of_ble_eq_true rfl) dL_answerKind_13 rfl
  · exact hp.elim
set_option maxHeartbeats 4000000 in
set_option maxRecDepth 100000 in
theorem w_answer (l : Launch) (D : va_G) (ar : Nat → ClassId) (κ : Nat → Nat) (G : gW) (sz : Nat) (x : Nat) (out : Nat) (q : Nat) (gg0 : Nat → Int64) (hF : FH ar κ G x q) (ho : G out = some (.inl (ar 1, 1, .inr (.inl gg0)))) (hqo : q + 136 < out) (hlt : l.stackTraces = false) : Met l yL_answer (lwCW yL_answer cL_answer 3 (some .int) [(0, 8, 11, 36)]) (rD 9 1 6) (g_Pc D vwCl (gT ar) (EX1 κ) G sz [.ref x, .ref out]) (g_Qi D vwCl (g_A G sz) (fun r u => r = 1)) 1 6 (g_A G sz) := by
  refine gH_ofW (by decide +kernel) (Nat.le_of_ble_eq_true rfl) ?_
  intro p e s m below meth c ls S hr hlk ht hE w hl
  have hx := S.1
  have hb := S.2.1
  have hl : lv_has ls 3 [(0, .ref x), (1, .ref out)] := hl
  refine lv_aload_n hx hb dL_answer_0 rfl (lv_at hl 1 rfl) ?_
  refine lv_iconst (v := 0) hx hb dL_answer_1 (by decide) ?_
  refine lv_aload_n hx hb dL_answer_2 rfl (lv_at hl 0 rfl) ?_
  have hF1 : FH ar κ (g_res (fun a9 => a9 < out) G) x q := FH_mono hF (fun a9 c9 h1 h2 => g_res_i (show a9 < out by omega) h2)
  refine gs_xcalli (g_res (fun a9 => ¬ a9 < out) G) w (fun _ _ => g_res_s) (fun _ _ => g_res_2) (gx_runV (As := []) (rest := [.int 0, .ref out]) S hE (g_sub w (fun _ _ => g_res_s)) hl (h_answer l D ar κ (g_res (fun a9 => a9 < out) G) sz x q hF1 hlt) (k_RL_98 S.2.2.2.2 ⟨Nat.le_of_ble_eq_true rfl, Nat.le_of_ble_eq_true rfl⟩) hF1.2.1 rfl rfl rfl rfl (Nat.le_of_ble_eq_true rfl) dL_answer_3 ⟨Nat.le_of_ble_eq_true rfl, Nat.le_of_ble_eq_true rfl⟩) (fun E ce q9 u H locs hp hnz w hce hv hcl => ?_) (fun r u H locs hp hnz w => ?_)
  · obtain ⟨rfl, h9⟩ := hp
    refine vx_catch S.2.2.2.1 [] ⟨0, 8, 11, 36⟩ [] (ht.trans rfl) (by intro z hz; cases hz) rfl (by decide) (S.2.2.2.2 _ m_4_36) (va_Nw.use rfl (hE.2.1.1 _ (ckN_1 _ (List.mem_of_getElem? (i := 21) rfl)))) hce hv hcl ?_
    refine lv_astore_n (lv' := [(2, .ref q9), (0, .ref x), (1, .ref out)]) hx hb dL_answer_11 rfl hl (by decide) rfl (fun ls hl => ?_)
    refine lv_iconst (v := 1) hx hb dL_answer_12 (by decide) ?_
    exact g_iret hx hb hr hlk w (Nat.le_of_ble_eq_true rfl) (Nat.le_of_ble_eq_true rfl) dL_answer_13 rfl
  · exact hp.elim
set_option maxHeartbeats 4000000 in
set_option maxRecDepth 100000 in
theorem w_frame (l : Launch) (D : va_G) (ar : Nat → ClassId) (κ : Nat → Nat) (G : gW) (sz : Nat) (x : Nat) (n : Int32) (wh : Int32) (out : Nat) (q : Nat) (gg0 : Nat → Int64) (hF : FH ar κ G x q) (ho : G out = some (.inl (ar 1, 1, .inr (.inl gg0)))) (hqo : q + 136 < out) (hlt : l.stackTraces = false) : Met l yL_frame (lwCW yL_frame cL_frame 5 (some .int) [(0, 10, 13, 13), (0, 10, 17, 15)]) (rD 9 1 6) (g_Pc D vwCl (gT ar) (EX1 κ) G sz [.ref x, .int n, .int wh, .ref out]) (g_Qi D vwCl (g_A G sz) (fun r u => r = 1)) 1 6 (g_A G sz) := by
  refine gH_ofW (by decide +kernel) (Nat.le_of_ble_eq_true rfl) ?_
  intro p e s m below meth c ls S hr hlk ht hE w hl
  have hx := S.1
  have hb := S.2.1
  have hl : lv_has ls 5 [(0, .ref x), (1, .int n), (2, .int wh), (3, .ref out)] := hl
  refine lv_aload_n hx hb dL_frame_0 rfl (lv_at hl 3 rfl) ?_
  refine lv_iconst (v := 0) hx hb dL_frame_1 (by decide) ?_
  refine lv_aload_n hx hb dL_frame_2 rfl (lv_at hl 0 rfl) ?_
  refine lv_iload_n hx hb dL_frame_3 rfl (lv_at hl 1 rfl) ?_
  refine lv_iload_n hx hb dL_frame_4 rfl (lv_at hl 2 rfl) ?_
  have hF1 : FH ar κ (g_res (fun a9 => a9 < out) G) x q := FH_mono hF (fun a9 c9 h1 h2 => g_res_i (show a9 < out by omega) h2)
  refine gs_xcalli (g_res (fun a9 => ¬ a9 < out) G) w (fun _ _ => g_res_s) (fun _ _ => g_res_2) (gx_runV (As := [.int n, .int wh]) (rest := [.int 0, .ref out]) S hE (g_sub w (fun _ _ => g_res_s)) hl (h_frame l D ar κ (g_res (fun a9 => a9 < out) G) sz x n wh q hF1 hlt) (k_RL_101 S.2.2.2.2 ⟨Nat.le_of_ble_eq_true rfl, Nat.le_of_ble_eq_true rfl⟩) hF1.2.1 rfl rfl rfl rfl (Nat.le_of_ble_eq_true rfl) dL_frame_5 ⟨Nat.le_of_ble_eq_true rfl, Nat.le_of_ble_eq_true rfl⟩) (fun E ce q9 u H locs hp hnz w hce hv hcl => ?_) (fun r u H locs hp hnz w => ?_)
  · obtain ⟨rfl, h9⟩ := hp
    refine vx_catch S.2.2.2.1 [] ⟨0, 10, 13, 13⟩ [⟨0, 10, 17, 15⟩] (ht.trans rfl) (by intro z hz; cases hz) rfl (by decide) (S.2.2.2.2 _ m_2_218) (va_Nw.use rfl (hE.2.1.1 _ (ckN_1 _ (List.mem_of_getElem? (i := 5) rfl)))) hce hv hcl ?_
    refine lv_astore (lv' := [(4, .ref q9), (0, .ref x), (1, .int n), (2, .int wh), (3, .ref out)]) hx hb dL_frame_13 hl (by decide) rfl (fun ls hl => ?_)
    refine lv_iconst (v := 1) hx hb dL_frame_15 (by decide) ?_
    exact g_iret hx hb hr hlk w (Nat.le_of_ble_eq_true rfl) (Nat.le_of_ble_eq_true rfl) dL_frame_16 rfl
  · exact hp.elim
set_option maxHeartbeats 4000000 in
set_option maxRecDepth 100000 in
theorem w_slotKind (l : Launch) (D : va_G) (ar : Nat → ClassId) (κ : Nat → Nat) (G : gW) (sz : Nat) (x : Nat) (n : Int32) (wh : Int32) (k : Int32) (out : Nat) (q : Nat) (gg0 : Nat → Int64) (hF : FH ar κ G x q) (ho : G out = some (.inl (ar 1, 1, .inr (.inl gg0)))) (hqo : q + 136 < out) (hlt : l.stackTraces = false) : Met l yL_slotKind (lwCW yL_slotKind cL_slotKind 6 (some .int) [(0, 12, 15, 13), (0, 12, 19, 15), (0, 12, 23, 36)]) (rD 10 1 6) (g_Pc D vwCl (gT ar) (EX1 κ) G sz [.ref x, .int n, .int wh, .int k, .ref out]) (g_Qi D vwCl (g_A G sz) (fun r u => r = 1)) 1 6 (g_A G sz) := by
  refine gH_ofW (by decide +kernel) (Nat.le_of_ble_eq_true rfl) ?_
  intro p e s m below meth c ls S hr hlk ht hE w hl
  have hx := S.1
  have hb := S.2.1
  have hl : lv_has ls 6 [(0, .ref x), (1, .int n), (2, .int wh), (3, .int k), (4, .ref out)] := hl
  refine lv_aload hx hb dL_slotKind_0 (lv_at hl 4 rfl) ?_
  refine lv_iconst (v := 0) hx hb dL_slotKind_2 (by decide) ?_
  refine lv_aload_n hx hb dL_slotKind_3 rfl (lv_at hl 0 rfl) ?_
  refine lv_iload_n hx hb dL_slotKind_4 rfl (lv_at hl 1 rfl) ?_
  refine lv_iload_n hx hb dL_slotKind_5 rfl (lv_at hl 2 rfl) ?_
  refine lv_iload_n hx hb dL_slotKind_6 rfl (lv_at hl 3 rfl) ?_
  have hF1 : FH ar κ (g_res (fun a9 => a9 < out) G) x q := FH_mono hF (fun a9 c9 h1 h2 => g_res_i (show a9 < out by omega) h2)
  refine gs_xcalli (g_res (fun a9 => ¬ a9 < out) G) w (fun _ _ => g_res_s) (fun _ _ => g_res_2) (gx_runV (As := [.int n, .int wh, .int k]) (rest := [.int 0, .ref out]) S hE (g_sub w (fun _ _ => g_res_s)) hl (h_slotKind l D ar κ (g_res (fun a9 => a9 < out) G) sz x n wh k q hF1 hlt) (k_RL_105 S.2.2.2.2 ⟨Nat.le_of_ble_eq_true rfl, Nat.le_of_ble_eq_true rfl⟩) hF1.2.1 rfl rfl rfl rfl (Nat.le_of_ble_eq_true rfl) dL_slotKind_7 ⟨Nat.le_of_ble_eq_true rfl, Nat.le_of_ble_eq_true rfl⟩) (fun E ce q9 u H locs hp hnz w hce hv hcl => ?_) (fun r u H locs hp hnz w => ?_)
  · obtain ⟨rfl, h9⟩ := hp
    refine vx_catch S.2.2.2.1 [] ⟨0, 12, 15, 13⟩ [⟨0, 12, 19, 15⟩, ⟨0, 12, 23, 36⟩] (ht.trans rfl) (by intro z hz; cases hz) rfl (by decide) (S.2.2.2.2 _ m_2_218) (va_Nw.use rfl (hE.2.1.1 _ (ckN_1 _ (List.mem_of_getElem? (i := 5) rfl)))) hce hv hcl ?_
    refine lv_astore (lv' := [(5, .ref q9), (0, .ref x), (1, .int n), (2, .int wh), (3, .int k), (4, .ref out)]) hx hb dL_slotKind_15 hl (by decide) rfl (fun ls hl => ?_)
    refine lv_iconst (v := 1) hx hb dL_slotKind_17 (by decide) ?_
    exact g_iret hx hb hr hlk w (Nat.le_of_ble_eq_true rfl) (Nat.le_of_ble_eq_true rfl) dL_slotKind_18 rfl
  · exact hp.elim
set_option maxHeartbeats 4000000 in
set_option maxRecDepth 100000 in
theorem w_slot (l : Launch) (D : va_G) (ar : Nat → ClassId) (κ : Nat → Nat) (G : gW) (sz : Nat) (x : Nat) (n : Int32) (wh : Int32) (k : Int32) (out : Nat) (q : Nat) (gg0 : Nat → Int64) (hF : FH ar κ G x q) (ho : G out = some (.inl (ar 1, 1, .inr (.inl gg0)))) (hqo : q + 136 < out) (hlt : l.stackTraces = false) : Met l yL_slot (lwCW yL_slot cL_slot 6 (some .int) [(0, 12, 15, 13), (0, 12, 19, 15), (0, 12, 23, 36)]) (rD 10 1 6) (g_Pc D vwCl (gT ar) (EX1 κ) G sz [.ref x, .int n, .int wh, .int k, .ref out]) (g_Qi D vwCl (g_A G sz) (fun r u => r = 1)) 1 6 (g_A G sz) := by
  refine gH_ofW (by decide +kernel) (Nat.le_of_ble_eq_true rfl) ?_
  intro p e s m below meth c ls S hr hlk ht hE w hl
  have hx := S.1
  have hb := S.2.1
  have hl : lv_has ls 6 [(0, .ref x), (1, .int n), (2, .int wh), (3, .int k), (4, .ref out)] := hl
  refine lv_aload hx hb dL_slot_0 (lv_at hl 4 rfl) ?_
  refine lv_iconst (v := 0) hx hb dL_slot_2 (by decide) ?_
  refine lv_aload_n hx hb dL_slot_3 rfl (lv_at hl 0 rfl) ?_
  refine lv_iload_n hx hb dL_slot_4 rfl (lv_at hl 1 rfl) ?_
  refine lv_iload_n hx hb dL_slot_5 rfl (lv_at hl 2 rfl) ?_
  refine lv_iload_n hx hb dL_slot_6 rfl (lv_at hl 3 rfl) ?_
  have hF1 : FH ar κ (g_res (fun a9 => a9 < out) G) x q := FH_mono hF (fun a9 c9 h1 h2 => g_res_i (show a9 < out by omega) h2)
  refine gs_xcalli (g_res (fun a9 => ¬ a9 < out) G) w (fun _ _ => g_res_s) (fun _ _ => g_res_2) (gx_runV (As := [.int n, .int wh, .int k]) (rest := [.int 0, .ref out]) S hE (g_sub w (fun _ _ => g_res_s)) hl (h_slot l D ar κ (g_res (fun a9 => a9 < out) G) sz x n wh k q hF1 hlt) (k_RL_109 S.2.2.2.2 ⟨Nat.le_of_ble_eq_true rfl, Nat.le_of_ble_eq_true rfl⟩) hF1.2.1 rfl rfl rfl rfl (Nat.le_of_ble_eq_true rfl) dL_slot_7 ⟨Nat.le_of_ble_eq_true rfl, Nat.le_of_ble_eq_true rfl⟩) (fun E ce q9 u H locs hp hnz w hce hv hcl => ?_) (fun r u H locs hp hnz w => ?_)
  · obtain ⟨rfl, h9⟩ := hp
    refine vx_catch S.2.2.2.1 [] ⟨0, 12, 15, 13⟩ [⟨0, 12, 19, 15⟩, ⟨0, 12, 23, 36⟩] (ht.trans rfl) (by intro z hz; cases hz) rfl (by decide) (S.2.2.2.2 _ m_2_218) (va_Nw.use rfl (hE.2.1.1 _ (ckN_1 _ (List.mem_of_getElem? (i := 5) rfl)))) hce hv hcl ?_
    refine lv_astore (lv' := [(5, .ref q9), (0, .ref x), (1, .int n), (2, .int wh), (3, .int k), (4, .ref out)]) hx hb dL_slot_15 hl (by decide) rfl (fun ls hl => ?_)
    refine lv_iconst (v := 1) hx hb dL_slot_17 (by decide) ?_
    exact g_iret hx hb hr hlk w (Nat.le_of_ble_eq_true rfl) (Nat.le_of_ble_eq_true rfl) dL_slot_18 rfl
  · exact hp.elim
set_option maxHeartbeats 4000000 in
set_option maxRecDepth 100000 in
theorem w_writtenKind (l : Launch) (D : va_G) (ar : Nat → ClassId) (κ : Nat → Nat) (G : gW) (sz : Nat) (x : Nat) (n : Int32) (out : Nat) (q : Nat) (gg0 : Nat → Int64) (hF : FH ar κ G x q) (ho : G out = some (.inl (ar 1, 1, .inr (.inl gg0)))) (hqo : q + 136 < out) (hlt : l.stackTraces = false) : Met l yL_writtenKind (lwCW yL_writtenKind cL_writtenKind 4 (some .int) [(0, 9, 12, 36)]) (rD 9 1 6) (g_Pc D vwCl (gT ar) (EX1 κ) G sz [.ref x, .int n, .ref out]) (g_Qi D vwCl (g_A G sz) (fun r u => r = 1)) 1 6 (g_A G sz) := by
  refine gH_ofW (by decide +kernel) (Nat.le_of_ble_eq_true rfl) ?_
  intro p e s m below meth c ls S hr hlk ht hE w hl
  have hx := S.1
  have hb := S.2.1
  have hl : lv_has ls 4 [(0, .ref x), (1, .int n), (2, .ref out)] := hl
  refine lv_aload_n hx hb dL_writtenKind_0 rfl (lv_at hl 2 rfl) ?_
  refine lv_iconst (v := 0) hx hb dL_writtenKind_1 (by decide) ?_
  refine lv_aload_n hx hb dL_writtenKind_2 rfl (lv_at hl 0 rfl) ?_
  refine lv_iload_n hx hb dL_writtenKind_3 rfl (lv_at hl 1 rfl) ?_
  have hF1 : FH ar κ (g_res (fun a9 => a9 < out) G) x q := FH_mono hF (fun a9 c9 h1 h2 => g_res_i (show a9 < out by omega) h2)
  refine gs_xcalli (g_res (fun a9 => ¬ a9 < out) G) w (fun _ _ => g_res_s) (fun _ _ => g_res_2) (gx_runV (As := [.int n]) (rest := [.int 0, .ref out]) S hE (g_sub w (fun _ _ => g_res_s)) hl (h_writtenKind l D ar κ (g_res (fun a9 => a9 < out) G) sz x n q hF1 hlt) (k_RL_113 S.2.2.2.2 ⟨Nat.le_of_ble_eq_true rfl, Nat.le_of_ble_eq_true rfl⟩) hF1.2.1 rfl rfl rfl rfl (Nat.le_of_ble_eq_true rfl) dL_writtenKind_4 ⟨Nat.le_of_ble_eq_true rfl, Nat.le_of_ble_eq_true rfl⟩) (fun E ce q9 u H locs hp hnz w hce hv hcl => ?_) (fun r u H locs hp hnz w => ?_)
  · obtain ⟨rfl, h9⟩ := hp
    refine vx_catch S.2.2.2.1 [] ⟨0, 9, 12, 36⟩ [] (ht.trans rfl) (by intro z hz; cases hz) rfl (by decide) (S.2.2.2.2 _ m_4_36) (va_Nw.use rfl (hE.2.1.1 _ (ckN_1 _ (List.mem_of_getElem? (i := 21) rfl)))) hce hv hcl ?_
    refine lv_astore_n (lv' := [(3, .ref q9), (0, .ref x), (1, .int n), (2, .ref out)]) hx hb dL_writtenKind_12 rfl hl (by decide) rfl (fun ls hl => ?_)
    refine lv_iconst (v := 1) hx hb dL_writtenKind_13 (by decide) ?_
    exact g_iret hx hb hr hlk w (Nat.le_of_ble_eq_true rfl) (Nat.le_of_ble_eq_true rfl) dL_writtenKind_14 rfl
  · exact hp.elim
set_option maxHeartbeats 4000000 in
set_option maxRecDepth 100000 in
theorem w_writtenValue (l : Launch) (D : va_G) (ar : Nat → ClassId) (κ : Nat → Nat) (G : gW) (sz : Nat) (x : Nat) (n : Int32) (out : Nat) (q : Nat) (gg0 : Nat → Int64) (hF : FH ar κ G x q) (ho : G out = some (.inl (ar 1, 1, .inr (.inl gg0)))) (hqo : q + 136 < out) (hlt : l.stackTraces = false) : Met l yL_writtenValue (lwCW yL_writtenValue cL_writtenValue 4 (some .int) [(0, 9, 12, 36)]) (rD 9 1 6) (g_Pc D vwCl (gT ar) (EX1 κ) G sz [.ref x, .int n, .ref out]) (g_Qi D vwCl (g_A G sz) (fun r u => r = 1)) 1 6 (g_A G sz) := by
  refine gH_ofW (by decide +kernel) (Nat.le_of_ble_eq_true rfl) ?_
  intro p e s m below meth c ls S hr hlk ht hE w hl
  have hx := S.1
  have hb := S.2.1
  have hl : lv_has ls 4 [(0, .ref x), (1, .int n), (2, .ref out)] := hl
  refine lv_aload_n hx hb dL_writtenValue_0 rfl (lv_at hl 2 rfl) ?_
  refine lv_iconst (v := 0) hx hb dL_writtenValue_1 (by decide) ?_
  refine lv_aload_n hx hb dL_writtenValue_2 rfl (lv_at hl 0 rfl) ?_
  refine lv_iload_n hx hb dL_writtenValue_3 rfl (lv_at hl 1 rfl) ?_
  have hF1 : FH ar κ (g_res (fun a9 => a9 < out) G) x q := FH_mono hF (fun a9 c9 h1 h2 => g_res_i (show a9 < out by omega) h2)
  refine gs_xcalli (g_res (fun a9 => ¬ a9 < out) G) w (fun _ _ => g_res_s) (fun _ _ => g_res_2) (gx_runV (As := [.int n]) (rest := [.int 0, .ref out]) S hE (g_sub w (fun _ _ => g_res_s)) hl (h_writtenValue l D ar κ (g_res (fun a9 => a9 < out) G) sz x n q hF1 hlt) (k_RL_116 S.2.2.2.2 ⟨Nat.le_of_ble_eq_true rfl, Nat.le_of_ble_eq_true rfl⟩) hF1.2.1 rfl rfl rfl rfl (Nat.le_of_ble_eq_true rfl) dL_writtenValue_4 ⟨Nat.le_of_ble_eq_true rfl, Nat.le_of_ble_eq_true rfl⟩) (fun E ce q9 u H locs hp hnz w hce hv hcl => ?_) (fun r u H locs hp hnz w => ?_)
  · obtain ⟨rfl, h9⟩ := hp
    refine vx_catch S.2.2.2.1 [] ⟨0, 9, 12, 36⟩ [] (ht.trans rfl) (by intro z hz; cases hz) rfl (by decide) (S.2.2.2.2 _ m_4_36) (va_Nw.use rfl (hE.2.1.1 _ (ckN_1 _ (List.mem_of_getElem? (i := 21) rfl)))) hce hv hcl ?_
    refine lv_astore_n (lv' := [(3, .ref q9), (0, .ref x), (1, .int n), (2, .ref out)]) hx hb dL_writtenValue_12 rfl hl (by decide) rfl (fun ls hl => ?_)
    refine lv_iconst (v := 1) hx hb dL_writtenValue_13 (by decide) ?_
    exact g_iret hx hb hr hlk w (Nat.le_of_ble_eq_true rfl) (Nat.le_of_ble_eq_true rfl) dL_writtenValue_14 rfl
  · exact hp.elim
set_option maxHeartbeats 4000000 in
set_option maxRecDepth 100000 in
theorem w_compiledShare (l : Launch) (D : va_G) (ar : Nat → ClassId) (κ : Nat → Nat) (G : gW) (sz : Nat) (x : Nat) (out : Nat) (q : Nat) (gg0 : Nat → UInt64) (hF : FH ar κ G x q) (ho : G out = some (.inl (ar 5, 1, .inr (.inr (.inr (.inl gg0)))))) (hqo : q + 136 < out) (hlt : l.stackTraces = false) : Met l yL_compiledShare (lwCW yL_compiledShare cL_compiledShare 3 (some .int) [(0, 8, 11, 123)]) (rD 9 1 6) (g_Pc D vwCl (gT ar) (EX1 κ) G sz [.ref x, .ref out]) (g_Qi D vwCl (g_A G sz) (fun r u => r = 1)) 1 6 (g_A G sz) := by
  refine gH_ofW (by decide +kernel) (Nat.le_of_ble_eq_true rfl) ?_
  intro p e s m below meth c ls S hr hlk ht hE w hl
  have hx := S.1
  have hb := S.2.1
  have hl : lv_has ls 3 [(0, .ref x), (1, .ref out)] := hl
  refine lv_aload_n hx hb dL_compiledShare_0 rfl (lv_at hl 1 rfl) ?_
  refine lv_iconst (v := 0) hx hb dL_compiledShare_1 (by decide) ?_
  refine lv_aload_n hx hb dL_compiledShare_2 rfl (lv_at hl 0 rfl) ?_
  have hF1 : FH ar κ (g_res (fun a9 => a9 < out) G) x q := FH_mono hF (fun a9 c9 h1 h2 => g_res_i (show a9 < out by omega) h2)
  refine gs_xcallq (g_res (fun a9 => ¬ a9 < out) G) w (fun _ _ => g_res_s) (fun _ _ => g_res_2) (gx_runV (As := []) (rest := [.int 0, .ref out]) S hE (g_sub w (fun _ _ => g_res_s)) hl (h_compiledShare l D ar κ (g_res (fun a9 => a9 < out) G) sz x q hF1 hlt) (k_RL_119 S.2.2.2.2 ⟨Nat.le_of_ble_eq_true rfl, Nat.le_of_ble_eq_true rfl⟩) hF1.2.1 rfl rfl rfl rfl (Nat.le_of_ble_eq_true rfl) dL_compiledShare_3 ⟨Nat.le_of_ble_eq_true rfl, Nat.le_of_ble_eq_true rfl⟩) (fun E ce q9 u H locs hp hnz w hce hv hcl => ?_) (fun r u H locs hp hnz w => ?_)
  · obtain ⟨rfl, h9⟩ := hp
    refine vx_catch S.2.2.2.1 [] ⟨0, 8, 11, 123⟩ [] (ht.trans rfl) (by intro z hz; cases hz) rfl (by decide) (S.2.2.2.2 _ m_6_67) (va_Nw.use rfl (hE.2.1.1 _ (ckN_1 _ (List.mem_of_getElem? (i := 32) rfl)))) hce hv hcl ?_
    refine lv_astore_n (lv' := [(2, .ref q9), (0, .ref x), (1, .ref out)]) hx hb dL_compiledShare_11 rfl hl (by decide) rfl (fun ls hl => ?_)
    refine lv_iconst (v := 1) hx hb dL_compiledShare_12 (by decide) ?_
    exact g_iret hx hb hr hlk w (Nat.le_of_ble_eq_true rfl) (Nat.le_of_ble_eq_true rfl) dL_compiledShare_13 rfl
  · exact hp.elim
set_option maxHeartbeats 4000000 in
set_option maxRecDepth 100000 in
theorem w_meanCalls (l : Launch) (D : va_G) (ar : Nat → ClassId) (κ : Nat → Nat) (G : gW) (sz : Nat) (x : Nat) (out : Nat) (q : Nat) (gg0 : Nat → UInt64) (hF : FH ar κ G x q) (ho : G out = some (.inl (ar 5, 1, .inr (.inr (.inr (.inl gg0)))))) (hqo : q + 136 < out) (hlt : l.stackTraces = false) : Met l yL_meanCalls (lwCW yL_meanCalls cL_meanCalls 3 (some .int) [(0, 7, 10, 123)]) (rD 9 1 6) (g_Pc D vwCl (gT ar) (EX1 κ) G sz [.ref x, .ref out]) (g_Qi D vwCl (g_A G sz) (fun r u => r = 1)) 1 6 (g_A G sz) := by
  refine gH_ofW (by decide +kernel) (Nat.le_of_ble_eq_true rfl) ?_
  intro p e s m below meth c ls S hr hlk ht hE w hl
  have hx := S.1
  have hb := S.2.1
  have hl : lv_has ls 3 [(0, .ref x), (1, .ref out)] := hl
  refine lv_aload_n hx hb dL_meanCalls_0 rfl (lv_at hl 1 rfl) ?_
  refine lv_iconst (v := 0) hx hb dL_meanCalls_1 (by decide) ?_
  refine lv_aload_n hx hb dL_meanCalls_2 rfl (lv_at hl 0 rfl) ?_
  have hF1 : FH ar κ (g_res (fun a9 => a9 < out) G) x q := FH_mono hF (fun a9 c9 h1 h2 => g_res_i (show a9 < out by omega) h2)
  refine gs_xcallq (g_res (fun a9 => ¬ a9 < out) G) w (fun _ _ => g_res_s) (fun _ _ => g_res_2) (gx_runV (As := []) (rest := [.int 0, .ref out]) S hE (g_sub w (fun _ _ => g_res_s)) hl (h_meanCalls l D ar κ (g_res (fun a9 => a9 < out) G) sz x q hF1 hlt) (k_RL_125 S.2.2.2.2 ⟨Nat.le_of_ble_eq_true rfl, Nat.le_of_ble_eq_true rfl⟩) hF1.2.1 rfl rfl rfl rfl (Nat.le_of_ble_eq_true rfl) dL_meanCalls_3 ⟨Nat.le_of_ble_eq_true rfl, Nat.le_of_ble_eq_true rfl⟩) (fun E ce q9 u H locs hp hnz w hce hv hcl => ?_) (fun r u H locs hp hnz w => ?_)
  · obtain ⟨rfl, h9⟩ := hp
    refine vx_catch S.2.2.2.1 [] ⟨0, 7, 10, 123⟩ [] (ht.trans rfl) (by intro z hz; cases hz) rfl (by decide) (S.2.2.2.2 _ m_6_67) (va_Nw.use rfl (hE.2.1.1 _ (ckN_1 _ (List.mem_of_getElem? (i := 32) rfl)))) hce hv hcl ?_
    refine lv_astore_n (lv' := [(2, .ref q9), (0, .ref x), (1, .ref out)]) hx hb dL_meanCalls_10 rfl hl (by decide) rfl (fun ls hl => ?_)
    refine lv_iconst (v := 1) hx hb dL_meanCalls_11 (by decide) ?_
    exact g_iret hx hb hr hlk w (Nat.le_of_ble_eq_true rfl) (Nat.le_of_ble_eq_true rfl) dL_meanCalls_12 rfl
  · exact hp.elim
