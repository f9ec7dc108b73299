theorem dL_kind_0 : decode cL_kind 0 = .ok (.aload_n 0, 1) := by decide +kernel
theorem dL_kind_1 : decode cL_kind 1 = .ok (.iload_n 1, 1) := by decide +kernel
theorem dL_kind_2 : decode cL_kind 2 = .ok (.invokevirtual 72, 3) := by decide +kernel
theorem dL_kind_5 : decode cL_kind 5 = .ok (.i2l, 1) := by decide +kernel
theorem dL_kind_6 : decode cL_kind 6 = .ok (.lreturn, 1) := by decide +kernel
theorem dL_kind_7 : decode cL_kind 7 = .ok (.astore_n 2, 1) := by decide +kernel
theorem dL_kind_8 : decode cL_kind 8 = .ok (.ldc2_w 21, 3) := by decide +kernel
theorem dL_kind_11 : decode cL_kind 11 = .ok (.lreturn, 1) := by decide +kernel
theorem dL_value_0 : decode cL_value 0 = .ok (.aload_n 0, 1) := by decide +kernel
theorem dL_value_1 : decode cL_value 1 = .ok (.iload_n 1, 1) := by decide +kernel
theorem dL_value_2 : decode cL_value 2 = .ok (.invokevirtual 76, 3) := by decide +kernel
theorem dL_value_5 : decode cL_value 5 = .ok (.i2l, 1) := by decide +kernel
theorem dL_value_6 : decode cL_value 6 = .ok (.lreturn, 1) := by decide +kernel
theorem dL_value_7 : decode cL_value 7 = .ok (.astore_n 2, 1) := by decide +kernel
theorem dL_value_8 : decode cL_value 8 = .ok (.ldc2_w 21, 3) := by decide +kernel
theorem dL_value_11 : decode cL_value 11 = .ok (.lreturn, 1) := by decide +kernel
theorem dL_fieldKind_0 : decode cL_fieldKind 0 = .ok (.aload_n 0, 1) := by decide +kernel
theorem dL_fieldKind_1 : decode cL_fieldKind 1 = .ok (.iload_n 1, 1) := by decide +kernel
theorem dL_fieldKind_2 : decode cL_fieldKind 2 = .ok (.iload_n 2, 1) := by decide +kernel
theorem dL_fieldKind_3 : decode cL_fieldKind 3 = .ok (.invokevirtual 79, 3) := by decide +kernel
theorem dL_fieldKind_6 : decode cL_fieldKind 6 = .ok (.i2l, 1) := by decide +kernel
theorem dL_fieldKind_7 : decode cL_fieldKind 7 = .ok (.lreturn, 1) := by decide +kernel
theorem dL_fieldKind_8 : decode cL_fieldKind 8 = .ok (.astore_n 3, 1) := by decide +kernel
theorem dL_fieldKind_9 : decode cL_fieldKind 9 = .ok (.ldc2_w 21, 3) := by decide +kernel
theorem dL_fieldKind_12 : decode cL_fieldKind 12 = .ok (.lreturn, 1) := by decide +kernel
theorem dL_fieldValue_0 : decode cL_fieldValue 0 = .ok (.aload_n 0, 1) := by decide +kernel
theorem dL_fieldValue_1 : decode cL_fieldValue 1 = .ok (.iload_n 1, 1) := by decide +kernel
theorem dL_fieldValue_2 : decode cL_fieldValue 2 = .ok (.iload_n 2, 1) := by decide +kernel
theorem dL_fieldValue_3 : decode cL_fieldValue 3 = .ok (.invokevirtual 83, 3) := by decide +kernel
theorem dL_fieldValue_6 : decode cL_fieldValue 6 = .ok (.i2l, 1) := by decide +kernel
theorem dL_fieldValue_7 : decode cL_fieldValue 7 = .ok (.lreturn, 1) := by decide +kernel
theorem dL_fieldValue_8 : decode cL_fieldValue 8 = .ok (.astore_n 3, 1) := by decide +kernel
theorem dL_fieldValue_9 : decode cL_fieldValue 9 = .ok (.ldc2_w 21, 3) := by decide +kernel
theorem dL_fieldValue_12 : decode cL_fieldValue 12 = .ok (.lreturn, 1) := by decide +kernel
theorem dL_answerKind_0 : decode cL_answerKind 0 = .ok (.aload_n 0, 1) := by decide +kernel
theorem dL_answerKind_1 : decode cL_answerKind 1 = .ok (.invokevirtual 111, 3) := by decide +kernel
theorem dL_answerKind_4 : decode cL_answerKind 4 = .ok (.i2l, 1) := by decide +kernel
theorem dL_answerKind_5 : decode cL_answerKind 5 = .ok (.lreturn, 1) := by decide +kernel
theorem dL_answerKind_6 : decode cL_answerKind 6 = .ok (.astore_n 1, 1) := by decide +kernel
theorem dL_answerKind_7 : decode cL_answerKind 7 = .ok (.ldc2_w 21, 3) := by decide +kernel
theorem dL_answerKind_10 : decode cL_answerKind 10 = .ok (.lreturn, 1) := by decide +kernel
theorem dL_answer_0 : decode cL_answer 0 = .ok (.aload_n 0, 1) := by decide +kernel
theorem dL_answer_1 : decode cL_answer 1 = .ok (.invokevirtual 114, 3) := by decide +kernel
theorem dL_answer_4 : decode cL_answer 4 = .ok (.i2l, 1) := by decide +kernel
theorem dL_answer_5 : decode cL_answer 5 = .ok (.lreturn, 1) := by decide +kernel
theorem dL_answer_6 : decode cL_answer 6 = .ok (.astore_n 1, 1) := by decide +kernel
theorem dL_answer_7 : decode cL_answer 7 = .ok (.ldc2_w 21, 3) := by decide +kernel
theorem dL_answer_10 : decode cL_answer 10 = .ok (.lreturn, 1) := by decide +kernel
theorem dL_reason_0 : decode cL_reason 0 = .ok (.aload_n 0, 1) := by decide +kernel
theorem dL_reason_1 : decode cL_reason 1 = .ok (.invokevirtual 108, 3) := by decide +kernel
theorem dL_reason_4 : decode cL_reason 4 = .ok (.i2l, 1) := by decide +kernel
theorem dL_reason_5 : decode cL_reason 5 = .ok (.lreturn, 1) := by decide +kernel
theorem dL_reason_6 : decode cL_reason 6 = .ok (.astore_n 1, 1) := by decide +kernel
theorem dL_reason_7 : decode cL_reason 7 = .ok (.ldc2_w 21, 3) := by decide +kernel
theorem dL_reason_10 : decode cL_reason 10 = .ok (.lreturn, 1) := by decide +kernel
theorem dL_slotKind_0 : decode cL_slotKind 0 = .ok (.aload_n 0, 1) := by decide +kernel
theorem dL_slotKind_1 : decode cL_slotKind 1 = .ok (.iload_n 1, 1) := by decide +kernel
theorem dL_slotKind_2 : decode cL_slotKind 2 = .ok (.iload_n 2, 1) := by decide +kernel
theorem dL_slotKind_3 : decode cL_slotKind 3 = .ok (.iload_n 3, 1) := by decide +kernel
theorem dL_slotKind_4 : decode cL_slotKind 4 = .ok (.invokevirtual 127, 3) := by decide +kernel
theorem dL_slotKind_7 : decode cL_slotKind 7 = .ok (.i2l, 1) := by decide +kernel
theorem dL_slotKind_8 : decode cL_slotKind 8 = .ok (.lreturn, 1) := by decide +kernel
theorem dL_slotKind_9 : decode cL_slotKind 9 = .ok (.astore 4, 2) := by decide +kernel
theorem dL_slotKind_11 : decode cL_slotKind 11 = .ok (.ldc2_w 21, 3) := by decide +kernel
theorem dL_slotKind_14 : decode cL_slotKind 14 = .ok (.lreturn, 1) := by decide +kernel
theorem dL_slotKind_15 : decode cL_slotKind 15 = .ok (.astore 4, 2) := by decide +kernel
theorem dL_slotKind_17 : decode cL_slotKind 17 = .ok (.ldc2_w 25, 3) := by decide +kernel
theorem dL_slotKind_20 : decode cL_slotKind 20 = .ok (.lreturn, 1) := by decide +kernel
theorem dL_slotKind_21 : decode cL_slotKind 21 = .ok (.astore 4, 2) := by decide +kernel
theorem dL_slotKind_23 : decode cL_slotKind 23 = .ok (.ldc2_w 29, 3) := by decide +kernel
theorem dL_slotKind_26 : decode cL_slotKind 26 = .ok (.lreturn, 1) := by decide +kernel
theorem dL_slot_0 : decode cL_slot 0 = .ok (.aload_n 0, 1) := by decide +kernel
theorem dL_slot_1 : decode cL_slot 1 = .ok (.iload_n 1, 1) := by decide +kernel
theorem dL_slot_2 : decode cL_slot 2 = .ok (.iload_n 2, 1) := by decide +kernel
theorem dL_slot_3 : decode cL_slot 3 = .ok (.iload_n 3, 1) := by decide +kernel
theorem dL_slot_4 : decode cL_slot 4 = .ok (.invokevirtual 131, 3) := by decide +kernel
theorem dL_slot_7 : decode cL_slot 7 = .ok (.i2l, 1) := by decide +kernel
theorem dL_slot_8 : decode cL_slot 8 = .ok (.lreturn, 1) := by decide +kernel
theorem dL_slot_9 : decode cL_slot 9 = .ok (.astore 4, 2) := by decide +kernel
theorem dL_slot_11 : decode cL_slot 11 = .ok (.ldc2_w 21, 3) := by decide +kernel
theorem dL_slot_14 : decode cL_slot 14 = .ok (.lreturn, 1) := by decide +kernel
theorem dL_slot_15 : decode cL_slot 15 = .ok (.astore 4, 2) := by decide +kernel
theorem dL_slot_17 : decode cL_slot 17 = .ok (.ldc2_w 25, 3) := by decide +kernel
theorem dL_slot_20 : decode cL_slot 20 = .ok (.lreturn, 1) := by decide +kernel
theorem dL_slot_21 : decode cL_slot 21 = .ok (.astore 4, 2) := by decide +kernel
theorem dL_slot_23 : decode cL_slot 23 = .ok (.ldc2_w 29, 3) := by decide +kernel
theorem dL_slot_26 : decode cL_slot 26 = .ok (.lreturn, 1) := by decide +kernel
theorem dL_add_0 : decode cL_add 0 = .ok (.aload_n 0, 1) := by decide +kernel
theorem dL_add_1 : decode cL_add 1 = .ok (.iload_n 1, 1) := by decide +kernel
theorem dL_add_2 : decode cL_add 2 = .ok (.iload_n 2, 1) := by decide +kernel
theorem dL_add_3 : decode cL_add 3 = .ok (.invokevirtual 11, 3) := by decide +kernel
theorem dL_add_6 : decode cL_add 6 = .ok (.i2l, 1) := by decide +kernel
theorem dL_add_7 : decode cL_add 7 = .ok (.lreturn, 1) := by decide +kernel
theorem dL_add_8 : decode cL_add 8 = .ok (.astore_n 3, 1) := by decide +kernel
theorem dL_add_9 : decode cL_add 9 = .ok (.ldc2_w 21, 3) := by decide +kernel
theorem dL_add_12 : decode cL_add 12 = .ok (.lreturn, 1) := by decide +kernel
theorem dL_add_13 : decode cL_add 13 = .ok (.astore_n 3, 1) := by decide +kernel
theorem dL_add_14 : decode cL_add 14 = .ok (.ldc2_w 25, 3) := by decide +kernel
theorem dL_add_17 : decode cL_add 17 = .ok (.lreturn, 1) := by decide +kernel
theorem dL_add_18 : decode cL_add 18 = .ok (.astore_n 3, 1) := by decide +kernel
theorem dL_add_19 : decode cL_add 19 = .ok (.ldc2_w 29, 3) := by decide +kernel
theorem dL_add_22 : decode cL_add 22 = .ok (.lreturn, 1) := by decide +kernel
theorem dL_row_0 : decode cL_row 0 = .ok (.aload_n 0, 1) := by decide +kernel
theorem dL_row_1 : decode cL_row 1 = .ok (.iload_n 1, 1) := by decide +kernel
theorem dL_row_2 : decode cL_row 2 = .ok (.iload_n 2, 1) := by decide +kernel
theorem dL_row_3 : decode cL_row 3 = .ok (.iload_n 3, 1) := by decide +kernel
theorem dL_row_4 : decode cL_row 4 = .ok (.invokevirtual 35, 3) := by decide +kernel
theorem dL_row_7 : decode cL_row 7 = .ok (.i2l, 1) := by decide +kernel
theorem dL_row_8 : decode cL_row 8 = .ok (.lreturn, 1) := by decide +kernel
theorem dL_row_9 : decode cL_row 9 = .ok (.astore 4, 2) := by decide +kernel
theorem dL_row_11 : decode cL_row 11 = .ok (.ldc2_w 21, 3) := by decide +kernel
theorem dL_row_14 : decode cL_row 14 = .ok (.lreturn, 1) := by decide +kernel
theorem dL_row_15 : decode cL_row 15 = .ok (.astore 4, 2) := by decide +kernel
theorem dL_row_17 : decode cL_row 17 = .ok (.ldc2_w 25, 3) := by decide +kernel
theorem dL_row_20 : decode cL_row 20 = .ok (.lreturn, 1) := by decide +kernel
theorem dL_remove_0 : decode cL_remove 0 = .ok (.aload_n 0, 1) := by decide +kernel
theorem dL_remove_1 : decode cL_remove 1 = .ok (.iload_n 1, 1) := by decide +kernel
theorem dL_remove_2 : decode cL_remove 2 = .ok (.iload_n 2, 1) := by decide +kernel
theorem dL_remove_3 : decode cL_remove 3 = .ok (.invokevirtual 49, 3) := by decide +kernel
theorem dL_remove_6 : decode cL_remove 6 = .ok (.i2l, 1) := by decide +kernel
theorem dL_remove_7 : decode cL_remove 7 = .ok (.lreturn, 1) := by decide +kernel
theorem dL_remove_8 : decode cL_remove 8 = .ok (.astore_n 3, 1) := by decide +kernel
theorem dL_remove_9 : decode cL_remove 9 = .ok (.ldc2_w 21, 3) := by decide +kernel
theorem dL_remove_12 : decode cL_remove 12 = .ok (.lreturn, 1) := by decide +kernel
theorem dL_remove_13 : decode cL_remove 13 = .ok (.astore_n 3, 1) := by decide +kernel
theorem dL_remove_14 : decode cL_remove 14 = .ok (.ldc2_w 25, 3) := by decide +kernel
theorem dL_remove_17 : decode cL_remove 17 = .ok (.lreturn, 1) := by decide +kernel
theorem dL_number_0 : decode cL_number 0 = .ok (.aload_n 0, 1) := by decide +kernel
theorem dL_number_1 : decode cL_number 1 = .ok (.iload_n 1, 1) := by decide +kernel
theorem dL_number_2 : decode cL_number 2 = .ok (.iload_n 2, 1) := by decide +kernel
theorem dL_number_3 : decode cL_number 3 = .ok (.invokevirtual 63, 3) := by decide +kernel
theorem dL_number_6 : decode cL_number 6 = .ok (.i2l, 1) := by decide +kernel
theorem dL_number_7 : decode cL_number 7 = .ok (.lreturn, 1) := by decide +kernel
theorem dL_number_8 : decode cL_number 8 = .ok (.astore_n 3, 1) := by decide +kernel
theorem dL_number_9 : decode cL_number 9 = .ok (.ldc2_w 21, 3) := by decide +kernel
theorem dL_number_12 : decode cL_number 12 = .ok (.lreturn, 1) := by decide +kernel
theorem dL_nothing_0 : decode cL_nothing 0 = .ok (.aload_n 0, 1) := by decide +kernel
theorem dL_nothing_1 : decode cL_nothing 1 = .ok (.iload_n 1, 1) := by decide +kernel
theorem dL_nothing_2 : decode cL_nothing 2 = .ok (.invokevirtual 66, 3) := by decide +kernel
theorem dL_nothing_5 : decode cL_nothing 5 = .ok (.i2l, 1) := by decide +kernel
theorem dL_nothing_6 : decode cL_nothing 6 = .ok (.lreturn, 1) := by decide +kernel
theorem dL_nothing_7 : decode cL_nothing 7 = .ok (.astore_n 2, 1) := by decide +kernel
theorem dL_nothing_8 : decode cL_nothing 8 = .ok (.ldc2_w 21, 3) := by decide +kernel
theorem dL_nothing_11 : decode cL_nothing 11 = .ok (.lreturn, 1) := by decide +kernel
theorem dL_make_0 : decode cL_make 0 = .ok (.aload_n 0, 1) := by decide +kernel
theorem dL_make_1 : decode cL_make 1 = .ok (.iload_n 1, 1) := by decide +kernel
theorem dL_make_2 : decode cL_make 2 = .ok (.iload_n 2, 1) := by decide +kernel
theorem dL_make_3 : decode cL_make 3 = .ok (.invokevirtual 69, 3) := by decide +kernel
theorem dL_make_6 : decode cL_make 6 = .ok (.i2l, 1) := by decide +kernel
theorem dL_make_7 : decode cL_make 7 = .ok (.lreturn, 1) := by decide +kernel
theorem dL_make_8 : decode cL_make 8 = .ok (.astore_n 3, 1) := by decide +kernel
theorem dL_make_9 : decode cL_make 9 = .ok (.ldc2_w 21, 3) := by decide +kernel
theorem dL_make_12 : decode cL_make 12 = .ok (.lreturn, 1) := by decide +kernel
theorem dL_make_13 : decode cL_make 13 = .ok (.astore_n 3, 1) := by decide +kernel
theorem dL_make_14 : decode cL_make 14 = .ok (.ldc2_w 25, 3) := by decide +kernel
theorem dL_make_17 : decode cL_make 17 = .ok (.lreturn, 1) := by decide +kernel
theorem dL_make_18 : decode cL_make 18 = .ok (.astore_n 3, 1) := by decide +kernel
theorem dL_make_19 : decode cL_make 19 = .ok (.ldc2_w 29, 3) := by decide +kernel
theorem dL_make_22 : decode cL_make 22 = .ok (.lreturn, 1) := by decide +kernel
theorem dL_begin_0 : decode cL_begin 0 = .ok (.aload_n 0, 1) := by decide +kernel
theorem dL_begin_1 : decode cL_begin 1 = .ok (.iload_n 1, 1) := by decide +kernel
theorem dL_begin_2 : decode cL_begin 2 = .ok (.iload_n 2, 1) := by decide +kernel
theorem dL_begin_3 : decode cL_begin 3 = .ok (.iload_n 3, 1) := by decide +kernel
theorem dL_begin_4 : decode cL_begin 4 = .ok (.iload 4, 2) := by decide +kernel
theorem dL_begin_6 : decode cL_begin 6 = .ok (.iload 5, 2) := by decide +kernel
theorem dL_begin_8 : decode cL_begin 8 = .ok (.invokevirtual 92, 3) := by decide +kernel
theorem dL_begin_11 : decode cL_begin 11 = .ok (.i2l, 1) := by decide +kernel
theorem dL_begin_12 : decode cL_begin 12 = .ok (.lreturn, 1) := by decide +kernel
theorem dL_begin_13 : decode cL_begin 13 = .ok (.astore 6, 2) := by decide +kernel
theorem dL_begin_15 : decode cL_begin 15 = .ok (.ldc2_w 21, 3) := by decide +kernel
theorem dL_begin_18 : decode cL_begin 18 = .ok (.lreturn, 1) := by decide +kernel
theorem dL_begin_19 : decode cL_begin 19 = .ok (.astore 6, 2) := by decide +kernel
theorem dL_begin_21 : decode cL_begin 21 = .ok (.ldc2_w 25, 3) := by decide +kernel
theorem dL_begin_24 : decode cL_begin 24 = .ok (.lreturn, 1) := by decide +kernel
theorem dL_begin_25 : decode cL_begin 25 = .ok (.astore 6, 2) := by decide +kernel
theorem dL_begin_27 : decode cL_begin 27 = .ok (.ldc2_w 29, 3) := by decide +kernel
theorem dL_begin_30 : decode cL_begin 30 = .ok (.lreturn, 1) := by decide +kernel
theorem dL_begin_31 : decode cL_begin 31 = .ok (.astore 6, 2) := by decide +kernel
theorem dL_begin_33 : decode cL_begin 33 = .ok (.ldc2_w 96, 3) := by decide +kernel
theorem dL_begin_36 : decode cL_begin 36 = .ok (.lreturn, 1) := by decide +kernel
theorem dL_go_0 : decode cL_go 0 = .ok (.aload_n 0, 1) := by decide +kernel
theorem dL_go_1 : decode cL_go 1 = .ok (.iload_n 1, 1) := by decide +kernel
theorem dL_go_2 : decode cL_go 2 = .ok (.invokevirtual 98, 3) := by decide +kernel
theorem dL_go_5 : decode cL_go 5 = .ok (.i2l, 1) := by decide +kernel
theorem dL_go_6 : decode cL_go 6 = .ok (.lreturn, 1) := by decide +kernel
theorem dL_go_7 : decode cL_go 7 = .ok (.astore_n 2, 1) := by decide +kernel
theorem dL_go_8 : decode cL_go 8 = .ok (.ldc2_w 21, 3) := by decide +kernel
theorem dL_go_11 : decode cL_go 11 = .ok (.lreturn, 1) := by decide +kernel
theorem dL_go_12 : decode cL_go 12 = .ok (.astore_n 2, 1) := by decide +kernel
theorem dL_go_13 : decode cL_go 13 = .ok (.ldc2_w 25, 3) := by decide +kernel
theorem dL_go_16 : decode cL_go 16 = .ok (.lreturn, 1) := by decide +kernel
theorem dL_end_0 : decode cL_end 0 = .ok (.aload_n 0, 1) := by decide +kernel
theorem dL_end_1 : decode cL_end 1 = .ok (.invokevirtual 101, 3) := by decide +kernel
theorem dL_end_4 : decode cL_end 4 = .ok (.i2l, 1) := by decide +kernel
theorem dL_end_5 : decode cL_end 5 = .ok (.lreturn, 1) := by decide +kernel
theorem dL_end_6 : decode cL_end 6 = .ok (.astore_n 1, 1) := by decide +kernel
theorem dL_end_7 : decode cL_end 7 = .ok (.ldc2_w 21, 3) := by decide +kernel
theorem dL_end_10 : decode cL_end 10 = .ok (.lreturn, 1) := by decide +kernel
theorem dL_method_0 : decode cL_method 0 = .ok (.aload_n 0, 1) := by decide +kernel
theorem dL_method_1 : decode cL_method 1 = .ok (.iload_n 1, 1) := by decide +kernel
theorem dL_method_2 : decode cL_method 2 = .ok (.iload_n 2, 1) := by decide +kernel
theorem dL_method_3 : decode cL_method 3 = .ok (.iload_n 3, 1) := by decide +kernel
theorem dL_method_4 : decode cL_method 4 = .ok (.iload 4, 2) := by decide +kernel
theorem dL_method_6 : decode cL_method 6 = .ok (.invokevirtual 43, 3) := by decide +kernel
theorem dL_method_9 : decode cL_method 9 = .ok (.i2l, 1) := by decide +kernel
theorem dL_method_10 : decode cL_method 10 = .ok (.lreturn, 1) := by decide +kernel
theorem dL_method_11 : decode cL_method 11 = .ok (.astore 5, 2) := by decide +kernel
theorem dL_method_13 : decode cL_method 13 = .ok (.ldc2_w 21, 3) := by decide +kernel
theorem dL_method_16 : decode cL_method 16 = .ok (.lreturn, 1) := by decide +kernel
theorem dL_method_17 : decode cL_method 17 = .ok (.astore 5, 2) := by decide +kernel
theorem dL_method_19 : decode cL_method 19 = .ok (.ldc2_w 25, 3) := by decide +kernel
theorem dL_method_22 : decode cL_method 22 = .ok (.lreturn, 1) := by decide +kernel
theorem dL_method_23 : decode cL_method 23 = .ok (.astore 5, 2) := by decide +kernel
theorem dL_method_25 : decode cL_method 25 = .ok (.ldc2_w 29, 3) := by decide +kernel
theorem dL_method_28 : decode cL_method 28 = .ok (.lreturn, 1) := by decide +kernel
theorem dL_compile_0 : decode cL_compile 0 = .ok (.aload_n 0, 1) := by decide +kernel
theorem dL_compile_1 : decode cL_compile 1 = .ok (.iload_n 1, 1) := by decide +kernel
theorem dL_compile_2 : decode cL_compile 2 = .ok (.iload_n 2, 1) := by decide +kernel
theorem dL_compile_3 : decode cL_compile 3 = .ok (.invokevirtual 57, 3) := by decide +kernel
theorem dL_compile_6 : decode cL_compile 6 = .ok (.i2l, 1) := by decide +kernel
theorem dL_compile_7 : decode cL_compile 7 = .ok (.lreturn, 1) := by decide +kernel
theorem dL_compile_8 : decode cL_compile 8 = .ok (.astore_n 3, 1) := by decide +kernel
theorem dL_compile_9 : decode cL_compile 9 = .ok (.ldc2_w 21, 3) := by decide +kernel
theorem dL_compile_12 : decode cL_compile 12 = .ok (.lreturn, 1) := by decide +kernel
theorem dL_compile_13 : decode cL_compile 13 = .ok (.astore_n 3, 1) := by decide +kernel
theorem dL_compile_14 : decode cL_compile 14 = .ok (.ldc2_w 25, 3) := by decide +kernel
theorem dL_compile_17 : decode cL_compile 17 = .ok (.lreturn, 1) := by decide +kernel
theorem dL_hot_0 : decode cL_hot 0 = .ok (.aload_n 0, 1) := by decide +kernel
theorem dL_hot_1 : decode cL_hot 1 = .ok (.iload_n 1, 1) := by decide +kernel
theorem dL_hot_2 : decode cL_hot 2 = .ok (.invokevirtual 60, 3) := by decide +kernel
theorem dL_hot_5 : decode cL_hot 5 = .ok (.i2l, 1) := by decide +kernel
theorem dL_hot_6 : decode cL_hot 6 = .ok (.lreturn, 1) := by decide +kernel
theorem dL_hot_7 : decode cL_hot 7 = .ok (.astore_n 2, 1) := by decide +kernel
theorem dL_hot_8 : decode cL_hot 8 = .ok (.ldc2_w 21, 3) := by decide +kernel
theorem dL_hot_11 : decode cL_hot 11 = .ok (.lreturn, 1) := by decide +kernel
section SITES
variable {p : Program} {l : Launch} {e : Env} {R : Room} {s : State} {m : MethodId} {args : Array Value} {below : List Frame} {meth : Method} {c : Code} {H : Heap} {locs : List Loc} {cells slots : Nat} {Q : State → Prop}
variable {pc : Nat} {ls : Array Slot} {rest : List Value} {D : va_G} {ar : Nat → ClassId} {κ : Nat → Nat} {A : Nat → Prop} {a : Nat} {H0 : Heap} {G : gW} {nz nL : Nat} {cc : ByteArray}
theorem m_7_158 : (Cond.code yX8_kind cX8_kind 2 (some .char)) ∈ lwA := lwA_mk (ck_7 _ (List.mem_of_getElem? (i := 158) rfl)) rfl
theorem m_7_155 : (Cond.methodLink RL 72 yX8_kind) ∈ lwA := lwA_mk (ck_7 _ (List.mem_of_getElem? (i := 155) rfl)) rfl
theorem m_7_156 : (Cond.instanceMethod yX8_kind) ∈ lwA := lwA_mk (ck_7 _ (List.mem_of_getElem? (i := 156) rfl)) rfl
theorem m_7_157 : (Cond.selects RX8 yX8_kind yX8_kind) ∈ lwA := lwA_mk (ck_7 _ (List.mem_of_getElem? (i := 157) rfl)) rfl
theorem k_RL_72 {args : Array Value} {s : State} {R rm : Room} (hts : ∀ w ∈ lwA, w.before args s = true) (hR : rm.frames + 1 ≤ R.frames ∧ 8 + (2 + 11) + rm.locals ≤ R.locals) : CallW R s args RL RX8 72 yX8_kind cX8_kind 2 (some .char) (lwC yX8_kind cX8_kind 2 (some .char)) rm rm.cells rm.slots 1 := cwV 1 hts (gdV m_7_155 m_7_156 m_7_157 m_1_1 m_7_158) rfl rfl rfl (by decide +kernel) hR
theorem m_2_58 : (Cond.classLink RL 17 "java/lang/IndexOutOfBoundsException") ∈ lwA := lwA_mk (ck_2 _ (List.mem_of_getElem? (i := 58) rfl)) rfl
theorem m_2_196 : (Cond.constantLong RL 21 (-4000000000000000001)) ∈ lwA := lwA_mk (ck_2 _ (List.mem_of_getElem? (i := 196) rfl)) rfl
theorem m_7_166 : (Cond.code yX8_value cX8_value 2 (some .int)) ∈ lwA := lwA_mk (ck_7 _ (List.mem_of_getElem? (i := 166) rfl)) rfl
theorem m_7_163 : (Cond.methodLink RL 76 yX8_value) ∈ lwA := lwA_mk (ck_7 _ (List.mem_of_getElem? (i := 163) rfl)) rfl
theorem m_7_164 : (Cond.instanceMethod yX8_value) ∈ lwA := lwA_mk (ck_7 _ (List.mem_of_getElem? (i := 164) rfl)) rfl
theorem m_7_165 : (Cond.selects RX8 yX8_value yX8_value) ∈ lwA := lwA_mk (ck_7 _ (List.mem_of_getElem? (i := 165) rfl)) rfl
theorem k_RL_76 {args : Array Value} {s : State} {R rm : Room} (hts : ∀ w ∈ lwA, w.before args s = true) (hR : rm.frames + 1 ≤ R.frames ∧ 8 + (2 + 11) + rm.locals ≤ R.locals) : CallW R s args RL RX8 76 yX8_value cX8_value 2 (some .int) (lwC yX8_value cX8_value 2 (some .int)) rm rm.cells rm.slots 1 := cwV 1 hts (gdV m_7_163 m_7_164 m_7_165 m_1_1 m_7_166) rfl rfl rfl (by decide +kernel) hR
theorem m_7_225 : (Cond.code yX8_fieldKind cX8_fieldKind 3 (some .char)) ∈ lwA := lwA_mk (ck_7 _ (List.mem_of_getElem? (i := 225) rfl)) rfl
theorem m_7_222 : (Cond.methodLink RL 79 yX8_fieldKind) ∈ lwA := lwA_mk (ck_7 _ (List.mem_of_getElem? (i := 222) rfl)) rfl
theorem m_7_223 : (Cond.instanceMethod yX8_fieldKind) ∈ lwA := lwA_mk (ck_7 _ (List.mem_of_getElem? (i := 223) rfl)) rfl
theorem m_7_224 : (Cond.selects RX8 yX8_fieldKind yX8_fieldKind) ∈ lwA := lwA_mk (ck_7 _ (List.mem_of_getElem? (i := 224) rfl)) rfl
theorem k_RL_79 {args : Array Value} {s : State} {R rm : Room} (hts : ∀ w ∈ lwA, w.before args s = true) (hR : rm.frames + 1 ≤ R.frames ∧ 8 + (3 + 11) + rm.locals ≤ R.locals) : CallW R s args RL RX8 79 yX8_fieldKind cX8_fieldKind 3 (some .char) (lwC yX8_fieldKind cX8_fieldKind 3 (some .char)) rm rm.cells rm.slots 2 := cwV 2 hts (gdV m_7_222 m_7_223 m_7_224 m_1_1 m_7_225) rfl rfl rfl (by decide +kernel) hR
theorem m_7_238 : (Cond.code yX8_fieldValue cX8_fieldValue 3 (some .int)) ∈ lwA := lwA_mk (ck_7 _ (List.mem_of_getElem? (i := 238) rfl)) rfl
theorem m_7_235 : (Cond.methodLink RL 83 yX8_fieldValue) ∈ lwA := lwA_mk (ck_7 _ (List.mem_of_getElem? (i := 235) rfl)) rfl
theorem m_7_236 : (Cond.instanceMethod yX8_fieldValue) ∈ lwA := lwA_mk (ck_7 _ (List.mem_of_getElem? (i := 236) rfl)) rfl
theorem m_7_237 : (Cond.selects RX8 yX8_fieldValue yX8_fieldValue) ∈ lwA := lwA_mk (ck_7 _ (List.mem_of_getElem? (i := 237) rfl)) rfl
theorem k_RL_83 {args : Array Value} {s : State} {R rm : Room} (hts : ∀ w ∈ lwA, w.before args s = true) (hR : rm.frames + 1 ≤ R.frames ∧ 8 + (3 + 11) + rm.locals ≤ R.locals) : CallW R s args RL RX8 83 yX8_fieldValue cX8_fieldValue 3 (some .int) (lwC yX8_fieldValue cX8_fieldValue 3 (some .int)) rm rm.cells rm.slots 2 := cwV 2 hts (gdV m_7_235 m_7_236 m_7_237 m_1_1 m_7_238) rfl rfl rfl (by decide +kernel) hR
theorem m_7_173 : (Cond.code yX8_answerKind cX8_answerKind 1 (some .char)) ∈ lwA := lwA_mk (ck_7 _ (List.mem_of_getElem? (i := 173) rfl)) rfl
theorem m_7_170 : (Cond.methodLink RL 111 yX8_answerKind) ∈ lwA := lwA_mk (ck_7 _ (List.mem_of_getElem? (i := 170) rfl)) rfl
theorem m_7_171 : (Cond.instanceMethod yX8_answerKind) ∈ lwA := lwA_mk (ck_7 _ (List.mem_of_getElem? (i := 171) rfl)) rfl
theorem m_7_172 : (Cond.selects RX8 yX8_answerKind yX8_answerKind) ∈ lwA := lwA_mk (ck_7 _ (List.mem_of_getElem? (i := 172) rfl)) rfl
theorem k_RL_111 {args : Array Value} {s : State} {R rm : Room} (hts : ∀ w ∈ lwA, w.before args s = true) (hR : rm.frames + 1 ≤ R.frames ∧ 8 + (1 + 11) + rm.locals ≤ R.locals) : CallW R s args RL RX8 111 yX8_answerKind cX8_answerKind 1 (some .char) (lwC yX8_answerKind cX8_answerKind 1 (some .char)) rm rm.cells rm.slots 0 := cwV 0 hts (gdV m_7_170 m_7_171 m_7_172 m_1_1 m_7_173) rfl rfl rfl (by decide +kernel) hR
theorem m_2_138 : (Cond.classLink RL 52 "java/util/NoSuchElementException") ∈ lwA := lwA_mk (ck_2 _ (List.mem_of_getElem? (i := 138) rfl)) rfl
theorem m_7_185 : (Cond.code yX8_answer cX8_answer 1 (some .int)) ∈ lwA := lwA_mk (ck_7 _ (List.mem_of_getElem? (i := 185) rfl)) rfl
theorem m_7_182 : (Cond.methodLink RL 114 yX8_answer) ∈ lwA := lwA_mk (ck_7 _ (List.mem_of_getElem? (i := 182) rfl)) rfl
theorem m_7_183 : (Cond.instanceMethod yX8_answer) ∈ lwA := lwA_mk (ck_7 _ (List.mem_of_getElem? (i := 183) rfl)) rfl
theorem m_7_184 : (Cond.selects RX8 yX8_answer yX8_answer) ∈ lwA := lwA_mk (ck_7 _ (List.mem_of_getElem? (i := 184) rfl)) rfl
theorem k_RL_114 {args : Array Value} {s : State} {R rm : Room} (hts : ∀ w ∈ lwA, w.before args s = true) (hR : rm.frames + 1 ≤ R.frames ∧ 8 + (1 + 11) + rm.locals ≤ R.locals) : CallW R s args RL RX8 114 yX8_answer cX8_answer 1 (some .int) (lwC yX8_answer cX8_answer 1 (some .int)) rm rm.cells rm.slots 0 := cwV 0 hts (gdV m_7_182 m_7_183 m_7_184 m_1_1 m_7_185) rfl rfl rfl (by decide +kernel) hR
theorem m_8_39 : (Cond.code yX8_reason cX8_reason 1 (some .char)) ∈ lwA := lwA_mk (ck_8 _ (List.mem_of_getElem? (i := 39) rfl)) rfl
theorem m_8_36 : (Cond.methodLink RL 108 yX8_reason) ∈ lwA := lwA_mk (ck_8 _ (List.mem_of_getElem? (i := 36) rfl)) rfl
theorem m_8_37 : (Cond.instanceMethod yX8_reason) ∈ lwA := lwA_mk (ck_8 _ (List.mem_of_getElem? (i := 37) rfl)) rfl
theorem m_8_38 : (Cond.selects RX8 yX8_reason yX8_reason) ∈ lwA := lwA_mk (ck_8 _ (List.mem_of_getElem? (i := 38) rfl)) rfl
theorem k_RL_108 {args : Array Value} {s : State} {R rm : Room} (hts : ∀ w ∈ lwA, w.before args s = true) (hR : rm.frames + 1 ≤ R.frames ∧ 8 + (1 + 11) + rm.locals ≤ R.locals) : CallW R s args RL RX8 108 yX8_reason cX8_reason 1 (some .char) (lwC yX8_reason cX8_reason 1 (some .char)) rm rm.cells rm.slots 0 := cwV 0 hts (gdV m_8_36 m_8_37 m_8_38 m_1_1 m_8_39) rfl rfl rfl (by decide +kernel) hR
theorem m_7_199 : (Cond.code yX8_slotKind cX8_slotKind 4 (some .char)) ∈ lwA := lwA_mk (ck_7 _ (List.mem_of_getElem? (i := 199) rfl)) rfl
theorem m_7_196 : (Cond.methodLink RL 127 yX8_slotKind) ∈ lwA := lwA_mk (ck_7 _ (List.mem_of_getElem? (i := 196) rfl)) rfl
theorem m_7_197 : (Cond.instanceMethod yX8_slotKind) ∈ lwA := lwA_mk (ck_7 _ (List.mem_of_getElem? (i := 197) rfl)) rfl
theorem m_7_198 : (Cond.selects RX8 yX8_slotKind yX8_slotKind) ∈ lwA := lwA_mk (ck_7 _ (List.mem_of_getElem? (i := 198) rfl)) rfl
theorem k_RL_127 {args : Array Value} {s : State} {R rm : Room} (hts : ∀ w ∈ lwA, w.before args s = true) (hR : rm.frames + 1 ≤ R.frames ∧ 8 + (4 + 11) + rm.locals ≤ R.locals) : CallW R s args RL RX8 127 yX8_slotKind cX8_slotKind 4 (some .char) (lwC yX8_slotKind cX8_slotKind 4 (some .char)) rm rm.cells rm.slots 3 := cwV 3 hts (gdV m_7_196 m_7_197 m_7_198 m_1_1 m_7_199) rfl rfl rfl (by decide +kernel) hR
theorem m_3_34 : (Cond.classLink RL 23 "java/lang/IllegalArgumentException") ∈ lwA := lwA_mk (ck_3 _ (List.mem_of_getElem? (i := 34) rfl)) rfl
theorem m_2_197 : (Cond.constantLong RL 25 (-4000000000000000002)) ∈ lwA := lwA_mk (ck_2 _ (List.mem_of_getElem? (i := 197) rfl)) rfl
theorem m_3_127 : (Cond.constantLong RL 29 (-4000000000000000003)) ∈ lwA := lwA_mk (ck_3 _ (List.mem_of_getElem? (i := 127) rfl)) rfl
theorem m_7_218 : (Cond.code yX8_slot cX8_slot 4 (some .int)) ∈ lwA := lwA_mk (ck_7 _ (List.mem_of_getElem? (i := 218) rfl)) rfl
theorem m_7_215 : (Cond.methodLink RL 131 yX8_slot) ∈ lwA := lwA_mk (ck_7 _ (List.mem_of_getElem? (i := 215) rfl)) rfl
theorem m_7_216 : (Cond.instanceMethod yX8_slot) ∈ lwA := lwA_mk (ck_7 _ (List.mem_of_getElem? (i := 216) rfl)) rfl
theorem m_7_217 : (Cond.selects RX8 yX8_slot yX8_slot) ∈ lwA := lwA_mk (ck_7 _ (List.mem_of_getElem? (i := 217) rfl)) rfl
theorem k_RL_131 {args : Array Value} {s : State} {R rm : Room} (hts : ∀ w ∈ lwA, w.before args s = true) (hR : rm.frames + 1 ≤ R.frames ∧ 8 + (4 + 11) + rm.locals ≤ R.locals) : CallW R s args RL RX8 131 yX8_slot cX8_slot 4 (some .int) (lwC yX8_slot cX8_slot 4 (some .int)) rm rm.cells rm.slots 3 := cwV 3 hts (gdV m_7_215 m_7_216 m_7_217 m_1_1 m_7_218) rfl rfl rfl (by decide +kernel) hR
theorem m_7_86 : (Cond.code yX8_add cX8_add 3 (some .int)) ∈ lwA := lwA_mk (ck_7 _ (List.mem_of_getElem? (i := 86) rfl)) rfl
theorem m_7_83 : (Cond.methodLink RL 11 yX8_add) ∈ lwA := lwA_mk (ck_7 _ (List.mem_of_getElem? (i := 83) rfl)) rfl
theorem m_7_84 : (Cond.instanceMethod yX8_add) ∈ lwA := lwA_mk (ck_7 _ (List.mem_of_getElem? (i := 84) rfl)) rfl
theorem m_7_85 : (Cond.selects RX8 yX8_add yX8_add) ∈ lwA := lwA_mk (ck_7 _ (List.mem_of_getElem? (i := 85) rfl)) rfl
theorem k_RL_11 {args : Array Value} {s : State} {R rm : Room} (hts : ∀ w ∈ lwA, w.before args s = true) (hR : rm.frames + 1 ≤ R.frames ∧ 8 + (3 + 11) + rm.locals ≤ R.locals) : CallW R s args RL RX8 11 yX8_add cX8_add 3 (some .int) (lwC yX8_add cX8_add 3 (some .int)) rm rm.cells rm.slots 2 := cwV 2 hts (gdV m_7_83 m_7_84 m_7_85 m_1_1 m_7_86) rfl rfl rfl (by decide +kernel) hR
theorem m_3_35 : (Cond.classLink RL 27 "java/lang/IllegalStateException") ∈ lwA := lwA_mk (ck_3 _ (List.mem_of_getElem? (i := 35) rfl)) rfl
theorem m_6_190 : (Cond.code yX8_row cX8_row 4 (some .int)) ∈ lwA := lwA_mk (ck_6 _ (List.mem_of_getElem? (i := 190) rfl)) rfl
theorem m_6_187 : (Cond.methodLink RL 35 yX8_row) ∈ lwA := lwA_mk (ck_6 _ (List.mem_of_getElem? (i := 187) rfl)) rfl
theorem m_6_188 : (Cond.instanceMethod yX8_row) ∈ lwA := lwA_mk (ck_6 _ (List.mem_of_getElem? (i := 188) rfl)) rfl
theorem m_6_189 : (Cond.selects RX8 yX8_row yX8_row) ∈ lwA := lwA_mk (ck_6 _ (List.mem_of_getElem? (i := 189) rfl)) rfl
theorem k_RL_35 {args : Array Value} {s : State} {R rm : Room} (hts : ∀ w ∈ lwA, w.before args s = true) (hR : rm.frames + 1 ≤ R.frames ∧ 8 + (4 + 11) + rm.locals ≤ R.locals) : CallW R s args RL RX8 35 yX8_row cX8_row 4 (some .int) (lwC yX8_row cX8_row 4 (some .int)) rm rm.cells rm.slots 3 := cwV 3 hts (gdV m_6_187 m_6_188 m_6_189 m_1_1 m_6_190) rfl rfl rfl (by decide +kernel) hR
theorem m_2_142 : (Cond.code yX8_remove cX8_remove 4 (some .int)) ∈ lwA := lwA_mk (ck_2 _ (List.mem_of_getElem? (i := 142) rfl)) rfl
theorem m_2_139 : (Cond.methodLink RL 49 yX8_remove) ∈ lwA := lwA_mk (ck_2 _ (List.mem_of_getElem? (i := 139) rfl)) rfl
theorem m_2_140 : (Cond.instanceMethod yX8_remove) ∈ lwA := lwA_mk (ck_2 _ (List.mem_of_getElem? (i := 140) rfl)) rfl
theorem m_2_141 : (Cond.selects RX8 yX8_remove yX8_remove) ∈ lwA := lwA_mk (ck_2 _ (List.mem_of_getElem? (i := 141) rfl)) rfl
theorem k_RL_49 {args : Array Value} {s : State} {R rm : Room} (hts : ∀ w ∈ lwA, w.before args s = true) (hR : rm.frames + 1 ≤ R.frames ∧ 8 + (4 + 11) + rm.locals ≤ R.locals) : CallW R s args RL RX8 49 yX8_remove cX8_remove 4 (some .int) (lwC yX8_remove cX8_remove 4 (some .int)) rm rm.cells rm.slots 2 := cwV 2 hts (gdV m_2_139 m_2_140 m_2_141 m_1_1 m_2_142) rfl rfl rfl (by decide +kernel) hR
theorem m_7_105 : (Cond.code yX8_number cX8_number 3 (some .int)) ∈ lwA := lwA_mk (ck_7 _ (List.mem_of_getElem? (i := 105) rfl)) rfl
theorem m_7_102 : (Cond.methodLink RL 63 yX8_number) ∈ lwA := lwA_mk (ck_7 _ (List.mem_of_getElem? (i := 102) rfl)) rfl
theorem m_7_103 : (Cond.instanceMethod yX8_number) ∈ lwA := lwA_mk (ck_7 _ (List.mem_of_getElem? (i := 103) rfl)) rfl
theorem m_7_104 : (Cond.selects RX8 yX8_number yX8_number) ∈ lwA := lwA_mk (ck_7 _ (List.mem_of_getElem? (i := 104) rfl)) rfl
theorem k_RL_63 {args : Array Value} {s : State} {R rm : Room} (hts : ∀ w ∈ lwA, w.before args s = true) (hR : rm.frames + 1 ≤ R.frames ∧ 8 + (3 + 11) + rm.locals ≤ R.locals) : CallW R s args RL RX8 63 yX8_number cX8_number 3 (some .int) (lwC yX8_number cX8_number 3 (some .int)) rm rm.cells rm.slots 2 := cwV 2 hts (gdV m_7_102 m_7_103 m_7_104 m_1_1 m_7_105) rfl rfl rfl (by decide +kernel) hR
theorem m_7_117 : (Cond.code yX8_nothing cX8_nothing 2 (some .int)) ∈ lwA := lwA_mk (ck_7 _ (List.mem_of_getElem? (i := 117) rfl)) rfl
theorem m_7_114 : (Cond.methodLink RL 66 yX8_nothing) ∈ lwA := lwA_mk (ck_7 _ (List.mem_of_getElem? (i := 114) rfl)) rfl
theorem m_7_115 : (Cond.instanceMethod yX8_nothing) ∈ lwA := lwA_mk (ck_7 _ (List.mem_of_getElem? (i := 115) rfl)) rfl
theorem m_7_116 : (Cond.selects RX8 yX8_nothing yX8_nothing) ∈ lwA := lwA_mk (ck_7 _ (List.mem_of_getElem? (i := 116) rfl)) rfl
theorem k_RL_66 {args : Array Value} {s : State} {R rm : Room} (hts : ∀ w ∈ lwA, w.before args s = true) (hR : rm.frames + 1 ≤ R.frames ∧ 8 + (2 + 11) + rm.locals ≤ R.locals) : CallW R s args RL RX8 66 yX8_nothing cX8_nothing 2 (some .int) (lwC yX8_nothing cX8_nothing 2 (some .int)) rm rm.cells rm.slots 1 := cwV 1 hts (gdV m_7_114 m_7_115 m_7_116 m_1_1 m_7_117) rfl rfl rfl (by decide +kernel) hR
theorem m_7_124 : (Cond.code yX8_make cX8_make 4 (some .int)) ∈ lwA := lwA_mk (ck_7 _ (List.mem_of_getElem? (i := 124) rfl)) rfl
theorem m_7_121 : (Cond.methodLink RL 69 yX8_make) ∈ lwA := lwA_mk (ck_7 _ (List.mem_of_getElem? (i := 121) rfl)) rfl
theorem m_7_122 : (Cond.instanceMethod yX8_make) ∈ lwA := lwA_mk (ck_7 _ (List.mem_of_getElem? (i := 122) rfl)) rfl
theorem m_7_123 : (Cond.selects RX8 yX8_make yX8_make) ∈ lwA := lwA_mk (ck_7 _ (List.mem_of_getElem? (i := 123) rfl)) rfl
theorem k_RL_69 {args : Array Value} {s : State} {R rm : Room} (hts : ∀ w ∈ lwA, w.before args s = true) (hR : rm.frames + 1 ≤ R.frames ∧ 8 + (4 + 11) + rm.locals ≤ R.locals) : CallW R s args RL RX8 69 yX8_make cX8_make 4 (some .int) (lwC yX8_make cX8_make 4 (some .int)) rm rm.cells rm.slots 2 := cwV 2 hts (gdV m_7_121 m_7_122 m_7_123 m_1_1 m_7_124) rfl rfl rfl (by decide +kernel) hR
theorem m_3_40 : (Cond.code yX8_begin cX8_begin 10 (some .int)) ∈ lwA := lwA_mk (ck_3 _ (List.mem_of_getElem? (i := 40) rfl)) rfl
theorem m_3_37 : (Cond.methodLink RL 92 yX8_begin) ∈ lwA := lwA_mk (ck_3 _ (List.mem_of_getElem? (i := 37) rfl)) rfl
theorem m_3_38 : (Cond.instanceMethod yX8_begin) ∈ lwA := lwA_mk (ck_3 _ (List.mem_of_getElem? (i := 38) rfl)) rfl
theorem m_3_39 : (Cond.selects RX8 yX8_begin yX8_begin) ∈ lwA := lwA_mk (ck_3 _ (List.mem_of_getElem? (i := 39) rfl)) rfl
theorem k_RL_92 {args : Array Value} {s : State} {R rm : Room} (hts : ∀ w ∈ lwA, w.before args s = true) (hR : rm.frames + 1 ≤ R.frames ∧ 8 + (10 + 11) + rm.locals ≤ R.locals) : CallW R s args RL RX8 92 yX8_begin cX8_begin 10 (some .int) (lwC yX8_begin cX8_begin 10 (some .int)) rm rm.cells rm.slots 5 := cwV 5 hts (gdV m_3_37 m_3_38 m_3_39 m_1_1 m_3_40) rfl rfl rfl (by decide +kernel) hR
theorem m_3_36 : (Cond.classLink RL 47 "java/lang/UnsupportedOperationException") ∈ lwA := lwA_mk (ck_3 _ (List.mem_of_getElem? (i := 36) rfl)) rfl
theorem m_3_128 : (Cond.constantLong RL 96 (-4000000000000000004)) ∈ lwA := lwA_mk (ck_3 _ (List.mem_of_getElem? (i := 128) rfl)) rfl
theorem m_3_135 : (Cond.code yX8_go cX8_go 5 (some .int)) ∈ lwA := lwA_mk (ck_3 _ (List.mem_of_getElem? (i := 135) rfl)) rfl
theorem m_3_132 : (Cond.methodLink RL 98 yX8_go) ∈ lwA := lwA_mk (ck_3 _ (List.mem_of_getElem? (i := 132) rfl)) rfl
theorem m_3_133 : (Cond.instanceMethod yX8_go) ∈ lwA := lwA_mk (ck_3 _ (List.mem_of_getElem? (i := 133) rfl)) rfl
theorem m_3_134 : (Cond.selects RX8 yX8_go yX8_go) ∈ lwA := lwA_mk (ck_3 _ (List.mem_of_getElem? (i := 134) rfl)) rfl
theorem k_RL_98 {args : Array Value} {s : State} {R rm : Room} (hts : ∀ w ∈ lwA, w.before args s = true) (hR : rm.frames + 1 ≤ R.frames ∧ 8 + (5 + 11) + rm.locals ≤ R.locals) : CallW R s args RL RX8 98 yX8_go cX8_go 5 (some .int) (lwC yX8_go cX8_go 5 (some .int)) rm rm.cells rm.slots 1 := cwV 1 hts (gdV m_3_132 m_3_133 m_3_134 m_1_1 m_3_135) rfl rfl rfl (by decide +kernel) hR
theorem m_4_145 : (Cond.code yX8_end cX8_end 2 (some .int)) ∈ lwA := lwA_mk (ck_4 _ (List.mem_of_getElem? (i := 145) rfl)) rfl
theorem m_4_142 : (Cond.methodLink RL 101 yX8_end) ∈ lwA := lwA_mk (ck_4 _ (List.mem_of_getElem? (i := 142) rfl)) rfl
theorem m_4_143 : (Cond.instanceMethod yX8_end) ∈ lwA := lwA_mk (ck_4 _ (List.mem_of_getElem? (i := 143) rfl)) rfl
theorem m_4_144 : (Cond.selects RX8 yX8_end yX8_end) ∈ lwA := lwA_mk (ck_4 _ (List.mem_of_getElem? (i := 144) rfl)) rfl
theorem k_RL_101 {args : Array Value} {s : State} {R rm : Room} (hts : ∀ w ∈ lwA, w.before args s = true) (hR : rm.frames + 1 ≤ R.frames ∧ 8 + (2 + 11) + rm.locals ≤ R.locals) : CallW R s args RL RX8 101 yX8_end cX8_end 2 (some .int) (lwC yX8_end cX8_end 2 (some .int)) rm rm.cells rm.slots 0 := cwV 0 hts (gdV m_4_142 m_4_143 m_4_144 m_1_1 m_4_145) rfl rfl rfl (by decide +kernel) hR
theorem m_6_206 : (Cond.code yX8_method cX8_method 6 (some .int)) ∈ lwA := lwA_mk (ck_6 _ (List.mem_of_getElem? (i := 206) rfl)) rfl
theorem m_6_203 : (Cond.methodLink RL 43 yX8_method) ∈ lwA := lwA_mk (ck_6 _ (List.mem_of_getElem? (i := 203) rfl)) rfl
theorem m_6_204 : (Cond.instanceMethod yX8_method) ∈ lwA := lwA_mk (ck_6 _ (List.mem_of_getElem? (i := 204) rfl)) rfl
theorem m_6_205 : (Cond.selects RX8 yX8_method yX8_method) ∈ lwA := lwA_mk (ck_6 _ (List.mem_of_getElem? (i := 205) rfl)) rfl
theorem k_RL_43 {args : Array Value} {s : State} {R rm : Room} (hts : ∀ w ∈ lwA, w.before args s = true) (hR : rm.frames + 1 ≤ R.frames ∧ 8 + (6 + 11) + rm.locals ≤ R.locals) : CallW R s args RL RX8 43 yX8_method cX8_method 6 (some .int) (lwC yX8_method cX8_method 6 (some .int)) rm rm.cells rm.slots 4 := cwV 4 hts (gdV m_6_203 m_6_204 m_6_205 m_1_1 m_6_206) rfl rfl rfl (by decide +kernel) hR
theorem m_7_144 : (Cond.code yX8_compile cX8_compile 3 (some .int)) ∈ lwA := lwA_mk (ck_7 _ (List.mem_of_getElem? (i := 144) rfl)) rfl
theorem m_7_141 : (Cond.methodLink RL 57 yX8_compile) ∈ lwA := lwA_mk (ck_7 _ (List.mem_of_getElem? (i := 141) rfl)) rfl
theorem m_7_142 : (Cond.instanceMethod yX8_compile) ∈ lwA := lwA_mk (ck_7 _ (List.mem_of_getElem? (i := 142) rfl)) rfl
theorem m_7_143 : (Cond.selects RX8 yX8_compile yX8_compile) ∈ lwA := lwA_mk (ck_7 _ (List.mem_of_getElem? (i := 143) rfl)) rfl
theorem k_RL_57 {args : Array Value} {s : State} {R rm : Room} (hts : ∀ w ∈ lwA, w.before args s = true) (hR : rm.frames + 1 ≤ R.frames ∧ 8 + (3 + 11) + rm.locals ≤ R.locals) : CallW R s args RL RX8 57 yX8_compile cX8_compile 3 (some .int) (lwC yX8_compile cX8_compile 3 (some .int)) rm rm.cells rm.slots 2 := cwV 2 hts (gdV m_7_141 m_7_142 m_7_143 m_1_1 m_7_144) rfl rfl rfl (by decide +kernel) hR
theorem m_7_137 : (Cond.code yX8_hot cX8_hot 3 (some .int)) ∈ lwA := lwA_mk (ck_7 _ (List.mem_of_getElem? (i := 137) rfl)) rfl
theorem m_7_134 : (Cond.methodLink RL 60 yX8_hot) ∈ lwA := lwA_mk (ck_7 _ (List.mem_of_getElem? (i := 134) rfl)) rfl
theorem m_7_135 : (Cond.instanceMethod yX8_hot) ∈ lwA := lwA_mk (ck_7 _ (List.mem_of_getElem? (i := 135) rfl)) rfl
theorem m_7_136 : (Cond.selects RX8 yX8_hot yX8_hot) ∈ lwA := lwA_mk (ck_7 _ (List.mem_of_getElem? (i := 136) rfl)) rfl
theorem k_RL_60 {args : Array Value} {s : State} {R rm : Room} (hts : ∀ w ∈ lwA, w.before args s = true) (hR : rm.frames + 1 ≤ R.frames ∧ 8 + (3 + 11) + rm.locals ≤ R.locals) : CallW R s args RL RX8 60 yX8_hot cX8_hot 3 (some .int) (lwC yX8_hot cX8_hot 3 (some .int)) rm rm.cells rm.slots 1 := cwV 1 hts (gdV m_7_134 m_7_135 m_7_136 m_1_1 m_7_137) rfl rfl rfl (by decide +kernel) hR
end SITES
section LWB
variable {p : Program} {l : Launch} {e : Env} {R : Room} {s : State} {m : MethodId} {args : Array Value} {below : List Frame} {meth : Method} {c : Code} {H : Heap} {locs : List Loc} {cells slots : Nat}
variable {D : va_G} {ar : Nat → ClassId} {κ : Nat → Nat} {A : Nat → Prop} {G : gW} {nz : Nat} {cl : List vw_C}
/-- a body with a table of its own that always returns -/
theorem gH_ofW {cc : ByteArray} {tys : List (ClassId × FieldType)} {EX : (Nat → Prop) → State → Heap → Prop} {y : MethodName} {ws : List Cond} {rm : Room} {sz mc ms : Nat} {av : List Value} {Qc : Array Value → State → Outcome → State → Prop} {free : Addr → Prop} {maxL : Nat} {ret : Option FieldType} {hh : List (Nat × Nat × Nat × Nat)}
    (hy : plainName y.cls = true) (hnL : (lg_sl av).length ≤ maxL)
    (body : ∀ (p : Program) (e : Env) (s : State) (m : MethodId) (below : List Frame) (meth : Method) (c : Code) (ls : Array Slot),
      CallFix p m c cc maxL s av.toArray ws y.cls → meth.sig.returnType = ret → meth.locks = false → c.exceptionTable.toList = tableOf hh → g_E D cl tys EX (g_A G sz) s s.heap → g_S D cl (g_A G sz) s.heap G s.heap [] sz → lv_has ls maxL (lv_args 0 av) →
      W p l e rm s m av.toArray below meth c s.heap [] 0 0 (MQ below Qc av.toArray s mc ms free) (F0 m 0 ls [])) :
    Met l y (.codeWith y cc maxL ret hh :: ws) rm (g_Pc D cl tys EX G sz av) Qc mc ms free := by
  refine MetFree.of_bodyS (code := cc) (maxLocals := maxL) (ret := ret) hy ?_ ?_
  · intro args s m h hn
    obtain ⟨m9, meth, c, hn9, h1, h2, h3, h4, -, h5, h6, -⟩ := Cond.codeWith_spec (atoms_spec (ws := .codeWith y cc maxL ret hh :: ws) h _ List.mem_cons_self)
    cases hn.symm.trans hn9
    exact ⟨meth, c, h1, h2, h3, h4, h5, h6⟩
  · intro p e s m args below meth c s₁ B hml hP _
    have hh0 : s₁.heap = s.heap := by rw [B.state]; rfl
    have hts := atoms_spec (ws := .codeWith y cc maxL ret hh :: ws) B.pre
    obtain ⟨rfl, hsz, hP9, hK⟩ := hP
    have hl := lv_entry av (n := maxL) hnL
    subst hsz
    have K : W p l e rm s m av.toArray below meth c s.heap [] 0 0 (MQ below Qc av.toArray s mc ms free) (entryFrame m av.toArray maxL) := by
      rw [lg_entry_eq]
      exact body p e s m below meth c _ ⟨B.exec, B.bytes, hml, findClass_of_methodNamed B.named, fun w h => hts w (List.mem_cons_of_mem _ h)⟩ B.returns B.notSynchronized (vx_table (x := y) B (hts _ List.mem_cons_self)) hK ⟨hP9, g_self hP9, va_S.rf, fun q h => Or.inr h, rfl⟩ hl
    obtain ⟨t, a1, o, b1, b2, b3⟩ := K s₁ hh0 (Stand.of_body B)
    exact ⟨t, o, a1, b1, b2, b3⟩
theorem g_runSW {R : Room} {args : Array Value} {A : Nat → Prop} {cells slots mc ms n index pc nL maxL : Nat} {yy : MethodName} {bytes cc : ByteArray} {ret : Option FieldType} {hh : List (Nat × Nat × Nat × Nat)} {ws : List Cond} {rm : Room} {Qc : Array Value → State → Outcome → State → Prop} {free : Addr → Prop} {own : String} {As rest st0 : List Value} {lv : List (Nat × Value)} {ls : Array Slot} (S : CallFix p m c cc nL s args lwA own) (hE : g_E D vwCl (gT ar) (EX1 κ) A s s.heap) (w : g_S D vwCl A s.heap G H locs nz) (hl : lv_has ls nL lv) (hM : Met l yy ws rm (g_Pc D vwCl (gT ar) (EX1 κ) G nz As) Qc mc ms free) (cw : vx_CSW R s args own index yy bytes maxL ret hh ws rm mc ms n)
    (hn : As.length = n) (hst : st0 = As.reverse ++ rest) (hW : (rest.map fun v => v.category).sum ≤ 8) (hdg : decode cc pc = .ok (.invokestatic index, 3)) (hf : cells + mc ≤ R.cells ∧ slots + ms ≤ R.slots) :
    va_Run p l e R s m args below meth c H locs cells slots mc ms (F0 m pc ls st0) rest (Qc As.toArray) free :=
  vx_runSW S hM cw (g_preS (EX1_cl κ) w hE) rfl hn hl.1 hst (lv_room hW) hdg hf
end LWB
/-- what a call answers the law: its answer, or a number for what it threw -/
def xvE : List (String × Int64) → String → Int64
  | [], _ => 0
  | q :: L, E => if E = q.1 then q.2 else xvE L E
theorem xvE_0 {E : String} {c : Int64} {L : List (String × Int64)} : xvE ((E, c) :: L) E = c := if_pos rfl
theorem xvE_s {E F : String} {c : Int64} {L : List (String × Int64)} (h : ¬ E = F) : xvE ((F, c) :: L) E = xvE L E := if_neg h
def xv (L : List (String × Int64)) (e : Rs Int32) : Int64 := match e with
  | .inl q => q.1.toInt64
  | .inr q => xvE L q.1
def wr (L : List (String × Int64)) (e : Rs Int32) : Int64 × Ho := (xv L e, rsS e)
theorem xv_v {L : List (String × Int64)} {e : Rs Int32} {r : Int32} {T : Ho} (h : e = .inl (r, T)) : xv L e = r.toInt64 := by rw [h]; rfl
theorem xv_x {L : List (String × Int64)} {e : Rs Int32} {E : String} {T : Ho} {v : Int64} (h : e = .inr (E, T)) (hv : xvE L E = v) : xv L e = v := by rw [h]; exact hv
theorem wr_v {L : List (String × Int64)} {e : Rs Int32} {r : Int32} {T : Ho} (h : e = .inl (r, T)) : wr L e = (r.toInt64, T) := by rw [h]; rfl
theorem wr_x {L : List (String × Int64)} {e : Rs Int32} {E : String} {T : Ho} {v : Int64} (h : e = .inr (E, T)) (hv : xvE L E = v) : wr L e = (v, T) := by rw [h, ← hv]; rfl
/-- what may be thrown -/
def XI (P : String → Prop) {α : Type} (e : Rs α) : Prop := match e with
  | .inl _ => True
  | .inr q => P q.1
theorem XI.ite {P : String → Prop} {α : Type} {c : Prop} [Decidable c] {a b : Rs α} (h1 : XI P a) (h2 : XI P b) : XI P (if c then a else b) := by
  by_cases h : c
  · rw [if_pos h]; exact h1
  · rw [if_neg h]; exact h2
theorem XI.rc {P : String → Prop} {α β : Type} {e : Rs α} {f : α → Ho → Rs β} (h1 : XI P e) (h2 : ∀ r S, XI P (f r S)) : XI P (rc e f (fun E9 T9 => .inr (E9, T9))) := by
  cases e with
  | inl q => exact h2 q.1 q.2
  | inr q => exact h1
theorem XI.oc {P : String → Prop} {α β : Type} {e : Option α} {a : Rs β} {f : α → Rs β} (h1 : XI P a) (h2 : ∀ k, XI P (f k)) : XI P (oc e a f) := by
  cases e with
  | none => exact h1
  | some k => exact h2 k
theorem XI.pc {P : String → Prop} {α β : Type} {e : α × Ho} {f : α → Ho → Rs β} (h : ∀ r S, XI P (f r S)) : XI P (pc e f) := h _ _
theorem XI.vc {P : String → Prop} {α β : Type} {e : α} {f : α → Rs β} (h : ∀ S, XI P (f S)) : XI P (vc e f) := h _
theorem XI.get {P : String → Prop} {α : Type} {e : Rs α} {E : String} {T : Ho} (h : XI P e) (q : e = .inr (E, T)) : P E := by
  rw [q] at h; exact h
theorem rsS_ite {α : Type} {c : Prop} [Decidable c] {a b : Rs α} {Z : Ho} (h1 : rsS a = Z) (h2 : rsS b = Z) : rsS (if c then a else b) = Z := by
  by_cases h : c
  · rw [if_pos h]; exact h1
  · rw [if_neg h]; exact h2
theorem rsS_oc {α β : Type} {e : Option α} {a : Rs β} {f : α → Rs β} {Z : Ho} (h1 : rsS a = Z) (h2 : ∀ k, rsS (f k) = Z) : rsS (oc e a f) = Z := by
  cases e with
  | none => exact h1
  | some k => exact h2 k
theorem rsS_rc {α β : Type} {e : Rs α} {f : α → Ho → Rs β} {Z : Ho} (h1 : rsS e = Z) (h2 : ∀ r, rsS (f r Z) = Z) : rsS (rc e f (fun E9 T9 => .inr (E9, T9))) = Z := by
  cases e with
  | inl q => have h1' : q.2 = Z := h1; show rsS (f q.1 q.2) = Z; rw [h1']; exact h2 q.1
  | inr q => exact h1
theorem fx_hot {x : Xo} {Z T : Ho} {i : Int32} {E : String} (h : sX8_hot x Z i = .inr (E, T)) : T = Z := by
  unfold sX8_hot at h
  split at h
  · cases h; rfl
  · cases h
theorem fc_hot {x : Xo} {Z T : Ho} {i r : Int32} (h : sX8_hot x Z i = .inl (r, T)) : T = Z := by
  unfold sX8_hot at h
  split at h
  · cases h
  · cases h; rfl
theorem cm_S {Z : Ho} {i j : Int32} : rsS (sX8_checkedMethod Z i j) = Z := by
  unfold sX8_checkedMethod sX8_checkPlaceOfMethod
  repeat' (first | rfl | (refine rsS_ite ?_ ?_) | (refine rsS_oc ?_ (fun _ => ?_)) | (refine rsS_rc ?_ (fun _ => ?_)))
theorem compile_S {x : Xo} {Z : Ho} {i j : Int32} : rsS (sX8_compile x Z i j) = Z := by
  unfold sX8_compile
  refine rsS_rc cm_S (fun r => ?_)
  exact toS_id
theorem fx_compile {x : Xo} {Z T : Ho} {i j : Int32} {E : String} (h : sX8_compile x Z i j = .inr (E, T)) : T = Z := (congrArg rsS h).symm.trans compile_S
theorem fc_compile {x : Xo} {Z T : Ho} {i j r : Int32} (h : sX8_compile x Z i j = .inl (r, T)) : T = Z := (congrArg rsS h).symm.trans compile_S
theorem xi_kind {Z : Ho} {g0 : Int32} : XI (fun E => E = "java/lang/IndexOutOfBoundsException") (sX8_kind Z g0) := by
  unfold sX8_kind sX8_checkGlobal
  repeat' (first | exact trivial | exact rfl | (refine XI.ite ?_ ?_) | (refine XI.rc ?_ (fun _ _ => ?_)) | (refine XI.oc ?_ (fun _ => ?_)) | (refine XI.pc (fun _ _ => ?_)) | (refine XI.vc (fun _ => ?_)))
def vL_kind (Z : Ho) (g0 : Int32) : Int64 := xv [("java/lang/IndexOutOfBoundsException", (-4000000000000000001))] (sX8_kind Z g0)
theorem vS_kind (Z : Ho) (g0 : Int32) : rsS (sX8_kind Z g0) = Z := by
  unfold sX8_kind sX8_checkGlobal
  repeat' (first | rfl | (refine rsS_ite ?_ ?_) | (refine rsS_oc ?_ (fun _ => ?_)) | (refine rsS_rc ?_ (fun _ => ?_)))
set_option maxHeartbeats 4000000 in
set_option maxRecDepth 100000 in
theorem hL_kind (l : Launch) (D : va_G) (ar : Nat → ClassId) (κ : Nat → Nat) (G : gW) (x : Xo) (Z : Ho) (sz : Nat) (g0 : Int32) (hk : OK x Z) (hlt : l.stackTraces = false) : Met l yL_kind (lwCW yL_kind cL_kind 3 (some .long) [(0, 6, 7, 17)]) (rD 11 1 6) (g_Pc D vwCl (gT ar) (EX1 κ) (ov κ ar x Z G) sz [.ref (x.f .ho), .int g0]) (g_Ql D vwCl (g_A (ov κ ar x Z G) sz) (fun r u => r = vL_kind Z g0 ∧ u.1 = ov κ ar x Z G)) 1 6 (g_A (ov κ ar x Z G) sz) := by
  refine gH_ofW (by decide +kernel) (Nat.le_of_ble_eq_true rfl) ?_
  intro p e s m below meth c ls S hr hlk ht hE w hl
  have hx := S.1
  have hb := S.2.1
  have hl : lv_has ls 3 [(0, .ref (x.f .ho)), (1, .int g0)] := hl
  refine lv_aload_n hx hb dL_kind_0 rfl (lv_at hl 0 rfl) ?_
  refine lv_iload_n hx hb dL_kind_1 rfl (lv_at hl 1 rfl) ?_
  refine gx_calli w (gx_runV (As := [.int g0]) (rest := []) S hE w hl (hX8_kind l D ar κ G x Z sz g0 hk hlt) (k_RL_72 S.2.2.2.2 ⟨Nat.le_of_ble_eq_true rfl, Nat.le_of_ble_eq_true rfl⟩) (ov_r (t := .ho) (hk.e .ho rfl)) rfl rfl rfl rfl (Nat.le_of_ble_eq_true rfl) dL_kind_2 ⟨Nat.le_of_ble_eq_true rfl, Nat.le_of_ble_eq_true rfl⟩) (fun E ce q9 u H locs hp hnz w hce hv hcl => ?_) (fun r u H locs hp hnz w => ?_)
  · obtain ⟨T9, e9, hu9, hk9, sq9⟩ := hp
    have hE9 := XI.get xi_kind e9
    have hE9 : E = _ := hE9
    subst hE9
    refine vx_catch S.2.2.2.1 [] ⟨0, 6, 7, 17⟩ [] (ht.trans rfl) (by intro z hz; cases hz) rfl (by decide) (S.2.2.2.2 _ m_2_58) (va_Nw.use rfl (hE.2.1.1 _ (ckN_0 _ (List.mem_of_getElem? (i := 37) rfl)))) hce hv hcl ?_
    refine lv_astore_n (lv' := [(2, .ref q9), (0, .ref (x.f .ho)), (1, .int g0)]) hx hb dL_kind_7 rfl hl (by decide) rfl (fun ls hl => ?_)
    refine lv_ldc2 hx hb S.2.2.2.1 (S.2.2.2.2 _ m_2_196) dL_kind_8 ?_
    exact g_lret hx hb hr hlk w (Nat.le_of_ble_eq_true rfl) (Nat.le_of_ble_eq_true rfl) dL_kind_11 ⟨(xv_x e9 xvE_0).symm, hu9.trans (congrArg (fun q9 => ov κ ar x q9 G) (show T9 = Z from (congrArg rsS e9).symm.trans (vS_kind Z g0)))⟩
  · obtain ⟨T9, e9, hu9, hk9, sq9⟩ := hp
    refine lv_i2l hx hb dL_kind_5 rfl ?_
    exact g_lret hx hb hr hlk w (Nat.le_of_ble_eq_true rfl) (Nat.le_of_ble_eq_true rfl) dL_kind_6 ⟨(xv_v e9).symm, (congrArg Prod.fst hu9).trans (congrArg (fun q9 => ov κ ar x q9 G) (show T9 = Z from (congrArg rsS e9).symm.trans (vS_kind Z g0)))⟩
theorem xi_value {Z : Ho} {g0 : Int32} : XI (fun E => E = "java/lang/IndexOutOfBoundsException") (sX8_value Z g0) := by
  unfold sX8_value sX8_checkGlobal
  repeat' (first | exact trivial | exact rfl | (refine XI.ite ?_ ?_) | (refine XI.rc ?_ (fun _ _ => ?_)) | (refine XI.oc ?_ (fun _ => ?_)) | (refine XI.pc (fun _ _ => ?_)) | (refine XI.vc (fun _ => ?_)))
def vL_value (Z : Ho) (g0 : Int32) : Int64 := xv [("java/lang/IndexOutOfBoundsException", (-4000000000000000001))] (sX8_value Z g0)
theorem vS_value (Z : Ho) (g0 : Int32) : rsS (sX8_value Z g0) = Z := by
  unfold sX8_value sX8_checkGlobal
  repeat' (first | rfl | (refine rsS_ite ?_ ?_) | (refine rsS_oc ?_ (fun _ => ?_)) | (refine rsS_rc ?_ (fun _ => ?_)))
set_option maxHeartbeats 4000000 in
set_option maxRecDepth 100000 in
theorem hL_value (l : Launch) (D : va_G) (ar : Nat → ClassId) (κ : Nat → Nat) (G : gW) (x : Xo) (Z : Ho) (sz : Nat) (g0 : Int32) (hk : OK x Z) (hlt : l.stackTraces = false) : Met l yL_value (lwCW yL_value cL_value 3 (some .long) [(0, 6, 7, 17)]) (rD 11 1 6) (g_Pc D vwCl (gT ar) (EX1 κ) (ov κ ar x Z G) sz [.ref (x.f .ho), .int g0]) (g_Ql D vwCl (g_A (ov κ ar x Z G) sz) (fun r u => r = vL_value Z g0 ∧ u.1 = ov κ ar x Z G)) 1 6 (g_A (ov κ ar x Z G) sz) := by
  refine gH_ofW (by decide +kernel) (Nat.le_of_ble_eq_true rfl) ?_
  intro p e s m below meth c ls S hr hlk ht hE w hl
  have hx := S.1
  have hb := S.2.1
  have hl : lv_has ls 3 [(0, .ref (x.f .ho)), (1, .int g0)] := hl
  refine lv_aload_n hx hb dL_value_0 rfl (lv_at hl 0 rfl) ?_
  refine lv_iload_n hx hb dL_value_1 rfl (lv_at hl 1 rfl) ?_
  refine gx_calli w (gx_runV (As := [.int g0]) (rest := []) S hE w hl (hX8_value l D ar κ G x Z sz g0 hk hlt) (k_RL_76 S.2.2.2.2 ⟨Nat.le_of_ble_eq_true rfl, Nat.le_of_ble_eq_true rfl⟩) (ov_r (t := .ho) (hk.e .ho rfl)) rfl rfl rfl rfl (Nat.le_of_ble_eq_true rfl) dL_value_2 ⟨Nat.le_of_ble_eq_true rfl, Nat.le_of_ble_eq_true rfl⟩) (fun E ce q9 u H locs hp hnz w hce hv hcl => ?_) (fun r u H locs hp hnz w => ?_)
  · obtain ⟨T9, e9, hu9, hk9, sq9⟩ := hp
    have hE9 := XI.get xi_value e9
    have hE9 : E = _ := hE9
    subst hE9
    refine vx_catch S.2.2.2.1 [] ⟨0, 6, 7, 17⟩ [] (ht.trans rfl) (by intro z hz; cases hz) rfl (by decide) (S.2.2.2.2 _ m_2_58) (va_Nw.use rfl (hE.2.1.1 _ (ckN_0 _ (List.mem_of_getElem? (i := 37) rfl)))) hce hv hcl ?_
    refine lv_astore_n (lv' := [(2, .ref q9), (0, .ref (x.f .ho)), (1, .int g0)]) hx hb dL_value_7 rfl hl (by decide) rfl (fun ls hl => ?_)
    refine lv_ldc2 hx hb S.2.2.2.1 (S.2.2.2.2 _ m_2_196) dL_value_8 ?_
    exact g_lret hx hb hr hlk w (Nat.le_of_ble_eq_true rfl) (Nat.le_of_ble_eq_true rfl) dL_value_11 ⟨(xv_x e9 xvE_0).symm, hu9.trans (congrArg (fun q9 => ov κ ar x q9 G) (show T9 = Z from (congrArg rsS e9).symm.trans (vS_value Z g0)))⟩
  · obtain ⟨T9, e9, hu9, hk9, sq9⟩ := hp
    refine lv_i2l hx hb dL_value_5 rfl ?_
    exact g_lret hx hb hr hlk w (Nat.le_of_ble_eq_true rfl) (Nat.le_of_ble_eq_true rfl) dL_value_6 ⟨(xv_v e9).symm, (congrArg Prod.fst hu9).trans (congrArg (fun q9 => ov κ ar x q9 G) (show T9 = Z from (congrArg rsS e9).symm.trans (vS_value Z g0)))⟩
theorem xi_fieldKind {Z : Ho} {t0 j0 : Int32} : XI (fun E => E = "java/lang/IndexOutOfBoundsException") (sX8_fieldKind Z t0 j0) := by
  unfold sX8_fieldKind sX8_checkedField
  repeat' (first | exact trivial | exact rfl | (refine XI.ite ?_ ?_) | (refine XI.rc ?_ (fun _ _ => ?_)) | (refine XI.oc ?_ (fun _ => ?_)) | (refine XI.pc (fun _ _ => ?_)) | (refine XI.vc (fun _ => ?_)))
def vL_fieldKind (Z : Ho) (t0 : Int32) (j0 : Int32) : Int64 := xv [("java/lang/IndexOutOfBoundsException", (-4000000000000000001))] (sX8_fieldKind Z t0 j0)
theorem vS_fieldKind (Z : Ho) (t0 : Int32) (j0 : Int32) : rsS (sX8_fieldKind Z t0 j0) = Z := by
  unfold sX8_fieldKind sX8_checkedField
  repeat' (first | rfl | (refine rsS_ite ?_ ?_) | (refine rsS_oc ?_ (fun _ => ?_)) | (refine rsS_rc ?_ (fun _ => ?_)))
set_option maxHeartbeats 4000000 in
set_option maxRecDepth 100000 in
theorem hL_fieldKind (l : Launch) (D : va_G) (ar : Nat → ClassId) (κ : Nat → Nat) (G : gW) (x : Xo) (Z : Ho) (sz : Nat) (t0 : Int32) (j0 : Int32) (hk : OK x Z) (hlt : l.stackTraces = false) : Met l yL_fieldKind (lwCW yL_fieldKind cL_fieldKind 4 (some .long) [(0, 7, 8, 17)]) (rD 13 1 6) (g_Pc D vwCl (gT ar) (EX1 κ) (ov κ ar x Z G) sz [.ref (x.f .ho), .int t0, .int j0]) (g_Ql D vwCl (g_A (ov κ ar x Z G) sz) (fun r u => r = vL_fieldKind Z t0 j0 ∧ u.1 = ov κ ar x Z G)) 1 6 (g_A (ov κ ar x Z G) sz) := by
  refine gH_ofW (by decide +kernel) (Nat.le_of_ble_eq_true rfl) ?_
  intro p e s m below meth c ls S hr hlk ht hE w hl
  have hx := S.1
  have hb := S.2.1
  have hl : lv_has ls 4 [(0, .ref (x.f .ho)), (1, .int t0), (2, .int j0)] := hl
  refine lv_aload_n hx hb dL_fieldKind_0 rfl (lv_at hl 0 rfl) ?_
  refine lv_iload_n hx hb dL_fieldKind_1 rfl (lv_at hl 1 rfl) ?_
  refine lv_iload_n hx hb dL_fieldKind_2 rfl (lv_at hl 2 rfl) ?_
  refine gx_calli w (gx_runV (As := [.int t0, .int j0]) (rest := []) S hE w hl (hX8_fieldKind l D ar κ G x Z sz t0 j0 hk hlt) (k_RL_79 S.2.2.2.2 ⟨Nat.le_of_ble_eq_true rfl, Nat.le_of_ble_eq_true rfl⟩) (ov_r (t := .ho) (hk.e .ho rfl)) rfl rfl rfl rfl (Nat.le_of_ble_eq_true rfl) dL_fieldKind_3 ⟨Nat.le_of_ble_eq_true rfl, Nat.le_of_ble_eq_true rfl⟩) (fun E ce q9 u H locs hp hnz w hce hv hcl => ?_) (fun r u H locs hp hnz w => ?_)
  · obtain ⟨T9, e9, hu9, hk9, sq9⟩ := hp
    have hE9 := XI.get xi_fieldKind e9
    have hE9 : E = _ := hE9
    subst hE9
    refine vx_catch S.2.2.2.1 [] ⟨0, 7, 8, 17⟩ [] (ht.trans rfl) (by intro z hz; cases hz) rfl (by decide) (S.2.2.2.2 _ m_2_58) (va_Nw.use rfl (hE.2.1.1 _ (ckN_0 _ (List.mem_of_getElem? (i := 37) rfl)))) hce hv hcl ?_
    refine lv_astore_n (lv' := [(3, .ref q9), (0, .ref (x.f .ho)), (1, .int t0), (2, .int j0)]) hx hb dL_fieldKind_8 rfl hl (by decide) rfl (fun ls hl => ?_)
    refine lv_ldc2 hx hb S.2.2.2.1 (S.2.2.2.2 _ m_2_196) dL_fieldKind_9 ?_
    exact g_lret hx hb hr hlk w (Nat.le_of_ble_eq_true rfl) (Nat.le_of_ble_eq_true rfl) dL_fieldKind_12 ⟨(xv_x e9 xvE_0).symm, hu9.trans (congrArg (fun q9 => ov κ ar x q9 G) (show T9 = Z from (congrArg rsS e9).symm.trans (vS_fieldKind Z t0 j0)))⟩
  · obtain ⟨T9, e9, hu9, hk9, sq9⟩ := hp
    refine lv_i2l hx hb dL_fieldKind_6 rfl ?_
    exact g_lret hx hb hr hlk w (Nat.le_of_ble_eq_true rfl) (Nat.le_of_ble_eq_true rfl) dL_fieldKind_7 ⟨(xv_v e9).symm, (congrArg Prod.fst hu9).trans (congrArg (fun q9 => ov κ ar x q9 G) (show T9 = Z from (congrArg rsS e9).symm.trans (vS_fieldKind Z t0 j0)))⟩
theorem xi_fieldValue {Z : Ho} {t0 j0 : Int32} : XI (fun E => E = "java/lang/IndexOutOfBoundsException") (sX8_fieldValue Z t0 j0) := by
  unfold sX8_fieldValue sX8_checkedField
  repeat' (first | exact trivial | exact rfl | (refine XI.ite ?_ ?_) | (refine XI.rc ?_ (fun _ _ => ?_)) | (refine XI.oc ?_ (fun _ => ?_)) | (refine XI.pc (fun _ _ => ?_)) | (refine XI.vc (fun _ => ?_)))
def vL_fieldValue (Z : Ho) (t0 : Int32) (j0 : Int32) : Int64 := xv [("java/lang/IndexOutOfBoundsException", (-4000000000000000001))] (sX8_fieldValue Z t0 j0)
theorem vS_fieldValue (Z : Ho) (t0 : Int32) (j0 : Int32) : rsS (sX8_fieldValue Z t0 j0) = Z := by
  unfold sX8_fieldValue sX8_checkedField
  repeat' (first | rfl | (refine rsS_ite ?_ ?_) | (refine rsS_oc ?_ (fun _ => ?_)) | (refine rsS_rc ?_ (fun _ => ?_)))
set_option maxHeartbeats 4000000 in
set_option maxRecDepth 100000 in
theorem hL_fieldValue (l : Launch) (D : va_G) (ar : Nat → ClassId) (κ : Nat → Nat) (G : gW) (x : Xo) (Z : Ho) (sz : Nat) (t0 : Int32) (j0 : Int32) (hk : OK x Z) (hlt : l.stackTraces = false) : Met l yL_fieldValue (lwCW yL_fieldValue cL_fieldValue 4 (some .long) [(0, 7, 8, 17)]) (rD 13 1 6) (g_Pc D vwCl (gT ar) (EX1 κ) (ov κ ar x Z G) sz [.ref (x.f .ho), .int t0, .int j0]) (g_Ql D vwCl (g_A (ov κ ar x Z G) sz) (fun r u => r = vL_fieldValue Z t0 j0 ∧ u.1 = ov κ ar x Z G)) 1 6 (g_A (ov κ ar x Z G) sz) := by
  refine gH_ofW (by decide +kernel) (Nat.le_of_ble_eq_true rfl) ?_
  intro p e s m below meth c ls S hr hlk ht hE w hl
  have hx := S.1
  have hb := S.2.1
  have hl : lv_has ls 4 [(0, .ref (x.f .ho)), (1, .int t0), (2, .int j0)] := hl
  refine lv_aload_n hx hb dL_fieldValue_0 rfl (lv_at hl 0 rfl) ?_
  refine lv_iload_n hx hb dL_fieldValue_1 rfl (lv_at hl 1 rfl) ?_
  refine lv_iload_n hx hb dL_fieldValue_2 rfl (lv_at hl 2 rfl) ?_
  refine gx_calli w (gx_runV (As := [.int t0, .int j0]) (rest := []) S hE w hl (hX8_fieldValue l D ar κ G x Z sz t0 j0 hk hlt) (k_RL_83 S.2.2.2.2 ⟨Nat.le_of_ble_eq_true rfl, Nat.le_of_ble_eq_true rfl⟩) (ov_r (t := .ho) (hk.e .ho rfl)) rfl rfl rfl rfl (Nat.le_of_ble_eq_true rfl) dL_fieldValue_3 ⟨Nat.le_of_ble_eq_true rfl, Nat.le_of_ble_eq_true rfl⟩) (fun E ce q9 u H locs hp hnz w hce hv hcl => ?_) (fun r u H locs hp hnz w => ?_)
  · obtain ⟨T9, e9, hu9, hk9, sq9⟩ := hp
    have hE9 := XI.get xi_fieldValue e9
    have hE9 : E = _ := hE9
    subst hE9
    refine vx_catch S.2.2.2.1 [] ⟨0, 7, 8, 17⟩ [] (ht.trans rfl) (by intro z hz; cases hz) rfl (by decide) (S.2.2.2.2 _ m_2_58) (va_Nw.use rfl (hE.2.1.1 _ (ckN_0 _ (List.mem_of_getElem? (i := 37) rfl)))) hce hv hcl ?_
    refine lv_astore_n (lv' := [(3, .ref q9), (0, .ref (x.f .ho)), (1, .int t0), (2, .int j0)]) hx hb dL_fieldValue_8 rfl hl (by decide) rfl (fun ls hl => ?_)
    refine lv_ldc2 hx hb S.2.2.2.1 (S.2.2.2.2 _ m_2_196) dL_fieldValue_9 ?_
    exact g_lret hx hb hr hlk w (Nat.le_of_ble_eq_true rfl) (Nat.le_of_ble_eq_true rfl) dL_fieldValue_12 ⟨(xv_x e9 xvE_0).symm, hu9.trans (congrArg (fun q9 => ov κ ar x q9 G) (show T9 = Z from (congrArg rsS e9).symm.trans (vS_fieldValue Z t0 j0)))⟩
  · obtain ⟨T9, e9, hu9, hk9, sq9⟩ := hp
    refine lv_i2l hx hb dL_fieldValue_6 rfl ?_
    exact g_lret hx hb hr hlk w (Nat.le_of_ble_eq_true rfl) (Nat.le_of_ble_eq_true rfl) dL_fieldValue_7 ⟨(xv_v e9).symm, (congrArg Prod.fst hu9).trans (congrArg (fun q9 => ov κ ar x q9 G) (show T9 = Z from (congrArg rsS e9).symm.trans (vS_fieldValue Z t0 j0)))⟩
theorem xi_answerKind {Z : Ho} : XI (fun E => E = "java/util/NoSuchElementException") (sX8_answerKind Z) := by
  unfold sX8_answerKind sX8_checkedAnswer
  repeat' (first | exact trivial | exact rfl | (refine XI.ite ?_ ?_) | (refine XI.rc ?_ (fun _ _ => ?_)) | (refine XI.oc ?_ (fun _ => ?_)) | (refine XI.pc (fun _ _ => ?_)) | (refine XI.vc (fun _ => ?_)))
def vL_answerKind (Z : Ho) : Int64 := xv [("java/util/NoSuchElementException", (-4000000000000000001))] (sX8_answerKind Z)
theorem vS_answerKind (Z : Ho) : rsS (sX8_answerKind Z) = Z := by
  unfold sX8_answerKind sX8_checkedAnswer
  repeat' (first | rfl | (refine rsS_ite ?_ ?_) | (refine rsS_oc ?_ (fun _ => ?_)) | (refine rsS_rc ?_ (fun _ => ?_)))
set_option maxHeartbeats 4000000 in
set_option maxRecDepth 100000 in
theorem hL_answerKind (l : Launch) (D : va_G) (ar : Nat → ClassId) (κ : Nat → Nat) (G : gW) (x : Xo) (Z : Ho) (sz : Nat) (hk : OK x Z) (hlt : l.stackTraces = false) : Met l yL_answerKind (lwCW yL_answerKind cL_answerKind 2 (some .long) [(0, 5, 6, 52)]) (rD 10 1 6) (g_Pc D vwCl (gT ar) (EX1 κ) (ov κ ar x Z G) sz [.ref (x.f .ho)]) (g_Ql D vwCl (g_A (ov κ ar x Z G) sz) (fun r u => r = vL_answerKind Z ∧ u.1 = ov κ ar x Z G)) 1 6 (g_A (ov κ ar x Z G) sz) := by
  refine gH_ofW (by decide +kernel) (Nat.le_of_ble_eq_true rfl) ?_
  intro p e s m below meth c ls S hr hlk ht hE w hl
  have hx := S.1
  have hb := S.2.1
  have hl : lv_has ls 2 [(0, .ref (x.f .ho))] := hl
  refine lv_aload_n hx hb dL_answerKind_0 rfl (lv_at hl 0 rfl) ?_
  refine gx_calli w (gx_runV (As := []) (rest := []) S hE w hl (hX8_answerKind l D ar κ G x Z sz hk hlt) (k_RL_111 S.2.2.2.2 ⟨Nat.le_of_ble_eq_true rfl, Nat.le_of_ble_eq_true rfl⟩) (ov_r (t := .ho) (hk.e .ho rfl)) rfl rfl rfl rfl (Nat.le_of_ble_eq_true rfl) dL_answerKind_1 ⟨Nat.le_of_ble_eq_true rfl, Nat.le_of_ble_eq_true rfl⟩) (fun E ce q9 u H locs hp hnz w hce hv hcl => ?_) (fun r u H locs hp hnz w => ?_)
  · obtain ⟨T9, e9, hu9, hk9, sq9⟩ := hp
    have hE9 := XI.get xi_answerKind e9
    have hE9 : E = _ := hE9
    subst hE9
    refine vx_catch S.2.2.2.1 [] ⟨0, 5, 6, 52⟩ [] (ht.trans rfl) (by intro z hz; cases hz) rfl (by decide) (S.2.2.2.2 _ m_2_138) (va_Nw.use rfl (hE.2.1.1 _ (ckN_0 _ (List.mem_of_getElem? (i := 38) rfl)))) hce hv hcl ?_
    refine lv_astore_n (lv' := [(1, .ref q9), (0, .ref (x.f .ho))]) hx hb dL_answerKind_6 rfl hl (by decide) rfl (fun ls hl => ?_)
    refine lv_ldc2 hx hb S.2.2.2.1 (S.2.2.2.2 _ m_2_196) dL_answerKind_7 ?_
    exact g_lret hx hb hr hlk w (Nat.le_of_ble_eq_true rfl) (Nat.le_of_ble_eq_true rfl) dL_answerKind_10 ⟨(xv_x e9 xvE_0).symm, hu9.trans (congrArg (fun q9 => ov κ ar x q9 G) (show T9 = Z from (congrArg rsS e9).symm.trans (vS_answerKind Z)))⟩
  · obtain ⟨T9, e9, hu9, hk9, sq9⟩ := hp
    refine lv_i2l hx hb dL_answerKind_4 rfl ?_
    exact g_lret hx hb hr hlk w (Nat.le_of_ble_eq_true rfl) (Nat.le_of_ble_eq_true rfl) dL_answerKind_5 ⟨(xv_v e9).symm, (congrArg Prod.fst hu9).trans (congrArg (fun q9 => ov κ ar x q9 G) (show T9 = Z from (congrArg rsS e9).symm.trans (vS_answerKind Z)))⟩
theorem xi_answer {Z : Ho} : XI (fun E => E = "java/util/NoSuchElementException") (sX8_answer Z) := by
  unfold sX8_answer sX8_checkedAnswer
  repeat' (first | exact trivial | exact rfl | (refine XI.ite ?_ ?_) | (refine XI.rc ?_ (fun _ _ => ?_)) | (refine XI.oc ?_ (fun _ => ?_)) | (refine XI.pc (fun _ _ => ?_)) | (refine XI.vc (fun _ => ?_)))
def vL_answer (Z : Ho) : Int64 := xv [("java/util/NoSuchElementException", (-4000000000000000001))] (sX8_answer Z)
theorem vS_answer (Z : Ho) : rsS (sX8_answer Z) = Z := by
  unfold sX8_answer sX8_checkedAnswer
  repeat' (first | rfl | (refine rsS_ite ?_ ?_) | (refine rsS_oc ?_ (fun _ => ?_)) | (refine rsS_rc ?_ (fun _ => ?_)))
set_option maxHeartbeats 4000000 in
set_option maxRecDepth 100000 in
theorem hL_answer (l : Launch) (D : va_G) (ar : Nat → ClassId) (κ : Nat → Nat) (G : gW) (x : Xo) (Z : Ho) (sz : Nat) (hk : OK x Z) (hlt : l.stackTraces = false) : Met l yL_answer (lwCW yL_answer cL_answer 2 (some .long) [(0, 5, 6, 52)]) (rD 10 1 6) (g_Pc D vwCl (gT ar) (EX1 κ) (ov κ ar x Z G) sz [.ref (x.f .ho)]) (g_Ql D vwCl (g_A (ov κ ar x Z G) sz) (fun r u => r = vL_answer Z ∧ u.1 = ov κ ar x Z G)) 1 6 (g_A (ov κ ar x Z G) sz) := by
  refine gH_ofW (by decide +kernel) (Nat.le_of_ble_eq_true rfl) ?_
  intro p e s m below meth c ls S hr hlk ht hE w hl
  have hx := S.1
  have hb := S.2.1
  have hl : lv_has ls 2 [(0, .ref (x.f .ho))] := hl
  refine lv_aload_n hx hb dL_answer_0 rfl (lv_at hl 0 rfl) ?_
  refine gx_calli w (gx_runV (As := []) (rest := []) S hE w hl (hX8_answer l D ar κ G x Z sz hk hlt) (k_RL_114 S.2.2.2.2 ⟨Nat.le_of_ble_eq_true rfl, Nat.le_of_ble_eq_true rfl⟩) (ov_r (t := .ho) (hk.e .ho rfl)) rfl rfl rfl rfl (Nat.le_of_ble_eq_true rfl) dL_answer_1 ⟨Nat.le_of_ble_eq_true rfl, Nat.le_of_ble_eq_true rfl⟩) (fun E ce q9 u H locs hp hnz w hce hv hcl => ?_) (fun r u H locs hp hnz w => ?_)
  · obtain ⟨T9, e9, hu9, hk9, sq9⟩ := hp
    have hE9 := XI.get xi_answer e9
    have hE9 : E = _ := hE9
    subst hE9
    refine vx_catch S.2.2.2.1 [] ⟨0, 5, 6, 52⟩ [] (ht.trans rfl) (by intro z hz; cases hz) rfl (by decide) (S.2.2.2.2 _ m_2_138) (va_Nw.use rfl (hE.2.1.1 _ (ckN_0 _ (List.mem_of_getElem? (i := 38) rfl)))) hce hv hcl ?_
    refine lv_astore_n (lv' := [(1, .ref q9), (0, .ref (x.f .ho))]) hx hb dL_answer_6 rfl hl (by decide) rfl (fun ls hl => ?_)
    refine lv_ldc2 hx hb S.2.2.2.1 (S.2.2.2.2 _ m_2_196) dL_answer_7 ?_
    exact g_lret hx hb hr hlk w (Nat.le_of_ble_eq_true rfl) (Nat.le_of_ble_eq_true rfl) dL_answer_10 ⟨(xv_x e9 xvE_0).symm, hu9.trans (congrArg (fun q9 => ov κ ar x q9 G) (show T9 = Z from (congrArg rsS e9).symm.trans (vS_answer Z)))⟩
  · obtain ⟨T9, e9, hu9, hk9, sq9⟩ := hp
    refine lv_i2l hx hb dL_answer_4 rfl ?_
    exact g_lret hx hb hr hlk w (Nat.le_of_ble_eq_true rfl) (Nat.le_of_ble_eq_true rfl) dL_answer_5 ⟨(xv_v e9).symm, (congrArg Prod.fst hu9).trans (congrArg (fun q9 => ov κ ar x q9 G) (show T9 = Z from (congrArg rsS e9).symm.trans (vS_answer Z)))⟩
theorem xi_reason {Z : Ho} : XI (fun E => E = "java/util/NoSuchElementException") (sX8_reason Z) := by
  unfold sX8_reason
  repeat' (first | exact trivial | exact rfl | (refine XI.ite ?_ ?_) | (refine XI.rc ?_ (fun _ _ => ?_)) | (refine XI.oc ?_ (fun _ => ?_)) | (refine XI.pc (fun _ _ => ?_)) | (refine XI.vc (fun _ => ?_)))
def vL_reason (Z : Ho) : Int64 := xv [("java/util/NoSuchElementException", (-4000000000000000001))] (sX8_reason Z)
theorem vS_reason (Z : Ho) : rsS (sX8_reason Z) = Z := by
  unfold sX8_reason
  repeat' (first | rfl | (refine rsS_ite ?_ ?_) | (refine rsS_oc ?_ (fun _ => ?_)) | (refine rsS_rc ?_ (fun _ => ?_)))
set_option maxHeartbeats 4000000 in
set_option maxRecDepth 100000 in
theorem hL_reason (l : Launch) (D : va_G) (ar : Nat → ClassId) (κ : Nat → Nat) (G : gW) (x : Xo) (Z : Ho) (sz : Nat) (hk : OK x Z) (hlt : l.stackTraces = false) : Met l yL_reason (lwCW yL_reason cL_reason 2 (some .long) [(0, 5, 6, 52)]) (rD 9 1 6) (g_Pc D vwCl (gT ar) (EX1 κ) (ov κ ar x Z G) sz [.ref (x.f .ho)]) (g_Ql D vwCl (g_A (ov κ ar x Z G) sz) (fun r u => r = vL_reason Z ∧ u.1 = ov κ ar x Z G)) 1 6 (g_A (ov κ ar x Z G) sz) := by
  refine gH_ofW (by decide +kernel) (Nat.le_of_ble_eq_true rfl) ?_
  intro p e s m below meth c ls S hr hlk ht hE w hl
  have hx := S.1
  have hb := S.2.1
  have hl : lv_has ls 2 [(0, .ref (x.f .ho))] := hl
  refine lv_aload_n hx hb dL_reason_0 rfl (lv_at hl 0 rfl) ?_
  refine gx_calli w (gx_runV (As := []) (rest := []) S hE w hl (hX8_reason l D ar κ G x Z sz hk hlt) (k_RL_108 S.2.2.2.2 ⟨Nat.le_of_ble_eq_true rfl, Nat.le_of_ble_eq_true rfl⟩) (ov_r (t := .ho) (hk.e .ho rfl)) rfl rfl rfl rfl (Nat.le_of_ble_eq_true rfl) dL_reason_1 ⟨Nat.le_of_ble_eq_true rfl, Nat.le_of_ble_eq_true rfl⟩) (fun E ce q9 u H locs hp hnz w hce hv hcl => ?_) (fun r u H locs hp hnz w => ?_)
  · obtain ⟨T9, e9, hu9, hk9, sq9⟩ := hp
    have hE9 := XI.get xi_reason e9
    have hE9 : E = _ := hE9
    subst hE9
    refine vx_catch S.2.2.2.1 [] ⟨0, 5, 6, 52⟩ [] (ht.trans rfl) (by intro z hz; cases hz) rfl (by decide) (S.2.2.2.2 _ m_2_138) (va_Nw.use rfl (hE.2.1.1 _ (ckN_0 _ (List.mem_of_getElem? (i := 38) rfl)))) hce hv hcl ?_
    refine lv_astore_n (lv' := [(1, .ref q9), (0, .ref (x.f .ho))]) hx hb dL_reason_6 rfl hl (by decide) rfl (fun ls hl => ?_)
    refine lv_ldc2 hx hb S.2.2.2.1 (S.2.2.2.2 _ m_2_196) dL_reason_7 ?_
    exact g_lret hx hb hr hlk w (Nat.le_of_ble_eq_true rfl) (Nat.le_of_ble_eq_true rfl) dL_reason_10 ⟨(xv_x e9 xvE_0).symm, hu9.trans (congrArg (fun q9 => ov κ ar x q9 G) (show T9 = Z from (congrArg rsS e9).symm.trans (vS_reason Z)))⟩
  · obtain ⟨T9, e9, hu9, hk9, sq9⟩ := hp
    refine lv_i2l hx hb dL_reason_4 rfl ?_
    exact g_lret hx hb hr hlk w (Nat.le_of_ble_eq_true rfl) (Nat.le_of_ble_eq_true rfl) dL_reason_5 ⟨(xv_v e9).symm, (congrArg Prod.fst hu9).trans (congrArg (fun q9 => ov κ ar x q9 G) (show T9 = Z from (congrArg rsS e9).symm.trans (vS_reason Z)))⟩
theorem xi_slotKind {Z : Ho} {j0 c0 n0 : Int32} : XI (fun E => E = "java/lang/IndexOutOfBoundsException" ∨ E = "java/lang/IllegalArgumentException" ∨ E = "java/util/NoSuchElementException") (sX8_slotKind Z j0 c0 n0) := by
  unfold sX8_slotKind sX8_checkedSlot sX8_checkedFrame
  repeat' (first | exact trivial | exact rfl | exact (Or.inl rfl) | exact Or.inr (Or.inl rfl) | exact Or.inr (Or.inr (rfl)) | (refine XI.ite ?_ ?_) | (refine XI.rc ?_ (fun _ _ => ?_)) | (refine XI.oc ?_ (fun _ => ?_)) | (refine XI.pc (fun _ _ => ?_)) | (refine XI.vc (fun _ => ?_)))
def vL_slotKind (Z : Ho) (j0 : Int32) (c0 : Int32) (n0 : Int32) : Int64 := xv [("java/lang/IndexOutOfBoundsException", (-4000000000000000001)), ("java/lang/IllegalArgumentException", (-4000000000000000002)), ("java/util/NoSuchElementException", (-4000000000000000003))] (sX8_slotKind Z j0 c0 n0)
theorem vS_slotKind (Z : Ho) (j0 : Int32) (c0 : Int32) (n0 : Int32) : rsS (sX8_slotKind Z j0 c0 n0) = Z := by
  unfold sX8_slotKind sX8_checkedSlot sX8_checkedFrame
  repeat' (first | rfl | (refine rsS_ite ?_ ?_) | (refine rsS_oc ?_ (fun _ => ?_)) | (refine rsS_rc ?_ (fun _ => ?_)))
set_option maxHeartbeats 4000000 in
set_option maxRecDepth 100000 in
theorem hL_slotKind (l : Launch) (D : va_G) (ar : Nat → ClassId) (κ : Nat → Nat) (G : gW) (x : Xo) (Z : Ho) (sz : Nat) (j0 : Int32) (c0 : Int32) (n0 : Int32) (hk : OK x Z) (hlt : l.stackTraces = false) : Met l yL_slotKind (lwCW yL_slotKind cL_slotKind 5 (some .long) [(0, 8, 9, 17), (0, 8, 15, 23), (0, 8, 21, 52)]) (rD 14 2 12) (g_Pc D vwCl (gT ar) (EX1 κ) (ov κ ar x Z G) sz [.ref (x.f .ho), .int j0, .int c0, .int n0]) (g_Ql D vwCl (g_A (ov κ ar x Z G) sz) (fun r u => r = vL_slotKind Z j0 c0 n0 ∧ u.1 = ov κ ar x Z G)) 2 12 (g_A (ov κ ar x Z G) sz) := by
  refine gH_ofW (by decide +kernel) (Nat.le_of_ble_eq_true rfl) ?_
  intro p e s m below meth c ls S hr hlk ht hE w hl
  have hx := S.1
  have hb := S.2.1
  have hl : lv_has ls 5 [(0, .ref (x.f .ho)), (1, .int j0), (2, .int c0), (3, .int n0)] := hl
  refine lv_aload_n hx hb dL_slotKind_0 rfl (lv_at hl 0 rfl) ?_
  refine lv_iload_n hx hb dL_slotKind_1 rfl (lv_at hl 1 rfl) ?_
  refine lv_iload_n hx hb dL_slotKind_2 rfl (lv_at hl 2 rfl) ?_
  refine lv_iload_n hx hb dL_slotKind_3 rfl (lv_at hl 3 rfl) ?_
  refine gx_calli w (gx_runV (As := [.int j0, .int c0, .int n0]) (rest := []) S hE w hl (hX8_slotKind l D ar κ G x Z sz j0 c0 n0 hk hlt) (k_RL_127 S.2.2.2.2 ⟨Nat.le_of_ble_eq_true rfl, Nat.le_of_ble_eq_true rfl⟩) (ov_r (t := .ho) (hk.e .ho rfl)) rfl rfl rfl rfl (Nat.le_of_ble_eq_true rfl) dL_slotKind_4 ⟨Nat.le_of_ble_eq_true rfl, Nat.le_of_ble_eq_true rfl⟩) (fun E ce q9 u H locs hp hnz w hce hv hcl => ?_) (fun r u H locs hp hnz w => ?_)
  · obtain ⟨T9, e9, hu9, hk9, sq9⟩ := hp
    have hE9 := XI.get xi_slotKind e9
    rcases hE9 with rfl | rfl | rfl
    · refine vx_catch S.2.2.2.1 [] ⟨0, 8, 9, 17⟩ [⟨0, 8, 15, 23⟩, ⟨0, 8, 21, 52⟩] (ht.trans rfl) (by intro z hz; cases hz) rfl (by decide) (S.2.2.2.2 _ m_2_58) (va_Nw.use rfl (hE.2.1.1 _ (ckN_0 _ (List.mem_of_getElem? (i := 37) rfl)))) hce hv hcl ?_
      refine lv_astore (lv' := [(4, .ref q9), (0, .ref (x.f .ho)), (1, .int j0), (2, .int c0), (3, .int n0)]) hx hb dL_slotKind_9 hl (by decide) rfl (fun ls hl => ?_)
      refine lv_ldc2 hx hb S.2.2.2.1 (S.2.2.2.2 _ m_2_196) dL_slotKind_11 ?_
      exact g_lret hx hb hr hlk w (Nat.le_of_ble_eq_true rfl) (Nat.le_of_ble_eq_true rfl) dL_slotKind_14 ⟨(xv_x e9 xvE_0).symm, hu9.trans (congrArg (fun q9 => ov κ ar x q9 G) (show T9 = Z from (congrArg rsS e9).symm.trans (vS_slotKind Z j0 c0 n0)))⟩
    · refine vx_catch S.2.2.2.1 [⟨0, 8, 9, 17⟩] ⟨0, 8, 15, 23⟩ [⟨0, 8, 21, 52⟩] (ht.trans rfl) (by intro z hz; simp only [List.mem_cons, List.not_mem_nil, or_false] at hz; subst hz; exact Or.inr ⟨by decide, "java/lang/IndexOutOfBoundsException", S.2.2.2.2 _ m_2_58, hE.2.1.2.2 ("java/lang/IllegalArgumentException", "java/lang/IndexOutOfBoundsException") (List.mem_of_getElem? (i := 0) rfl)⟩) rfl (by decide) (S.2.2.2.2 _ m_3_34) (va_Nw.use rfl (hE.2.1.1 _ (ckN_1 _ (List.mem_of_getElem? (i := 4) rfl)))) hce hv hcl ?_
      refine lv_astore (lv' := [(4, .ref q9), (0, .ref (x.f .ho)), (1, .int j0), (2, .int c0), (3, .int n0)]) hx hb dL_slotKind_15 hl (by decide) rfl (fun ls hl => ?_)
      refine lv_ldc2 hx hb S.2.2.2.1 (S.2.2.2.2 _ m_2_197) dL_slotKind_17 ?_
      exact g_lret hx hb hr hlk w (Nat.le_of_ble_eq_true rfl) (Nat.le_of_ble_eq_true rfl) dL_slotKind_20 ⟨(xv_x e9 ((xvE_s (by decide +kernel)).trans xvE_0)).symm, hu9.trans (congrArg (fun q9 => ov κ ar x q9 G) (show T9 = Z from (congrArg rsS e9).symm.trans (vS_slotKind Z j0 c0 n0)))⟩
    · refine vx_catch S.2.2.2.1 [⟨0, 8, 9, 17⟩, ⟨0, 8, 15, 23⟩] ⟨0, 8, 21, 52⟩ [] (ht.trans rfl) (by intro z hz; simp only [List.mem_cons, List.not_mem_nil, or_false] at hz; rcases hz with rfl | rfl; exact Or.inr ⟨by decide, "java/lang/IndexOutOfBoundsException", S.2.2.2.2 _ m_2_58, hE.2.1.2.2 ("java/util/NoSuchElementException", "java/lang/IndexOutOfBoundsException") (List.mem_of_getElem? (i := 4) rfl)⟩; exact Or.inr ⟨by decide, "java/lang/IllegalArgumentException", S.2.2.2.2 _ m_3_34, hE.2.1.2.2 ("java/util/NoSuchElementException", "java/lang/IllegalArgumentException") (List.mem_of_getElem? (i := 15) rfl)⟩) rfl (by decide) (S.2.2.2.2 _ m_2_138) (va_Nw.use rfl (hE.2.1.1 _ (ckN_0 _ (List.mem_of_getElem? (i := 38) rfl)))) hce hv hcl ?_
      refine lv_astore (lv' := [(4, .ref q9), (0, .ref (x.f .ho)), (1, .int j0), (2, .int c0), (3, .int n0)]) hx hb dL_slotKind_21 hl (by decide) rfl (fun ls hl => ?_)
      refine lv_ldc2 hx hb S.2.2.2.1 (S.2.2.2.2 _ m_3_127) dL_slotKind_23 ?_
      exact g_lret hx hb hr hlk w (Nat.le_of_ble_eq_true rfl) (Nat.le_of_ble_eq_true rfl) dL_slotKind_26 ⟨(xv_x e9 ((xvE_s (by decide +kernel)).trans ((xvE_s (by decide +kernel)).trans xvE_0))).symm, hu9.trans (congrArg (fun q9 => ov κ ar x q9 G) (show T9 = Z from (congrArg rsS e9).symm.trans (vS_slotKind Z j0 c0 n0)))⟩
  · obtain ⟨T9, e9, hu9, hk9, sq9⟩ := hp
    refine lv_i2l hx hb dL_slotKind_7 rfl ?_
    exact g_lret hx hb hr hlk w (Nat.le_of_ble_eq_true rfl) (Nat.le_of_ble_eq_true rfl) dL_slotKind_8 ⟨(xv_v e9).symm, (congrArg Prod.fst hu9).trans (congrArg (fun q9 => ov κ ar x q9 G) (show T9 = Z from (congrArg rsS e9).symm.trans (vS_slotKind Z j0 c0 n0)))⟩
theorem xi_slot {Z : Ho} {j0 c0 n0 : Int32} : XI (fun E => E = "java/lang/IndexOutOfBoundsException" ∨ E = "java/lang/IllegalArgumentException" ∨ E = "java/util/NoSuchElementException") (sX8_slot Z j0 c0 n0) := by
  unfold sX8_slot sX8_checkedSlot sX8_checkedFrame
  repeat' (first | exact trivial | exact rfl | exact (Or.inl rfl) | exact Or.inr (Or.inl rfl) | exact Or.inr (Or.inr (rfl)) | (refine XI.ite ?_ ?_) | (refine XI.rc ?_ (fun _ _ => ?_)) | (refine XI.oc ?_ (fun _ => ?_)) | (refine XI.pc (fun _ _ => ?_)) | (refine XI.vc (fun _ => ?_)))
def vL_slot (Z : Ho) (j0 : Int32) (c0 : Int32) (n0 : Int32) : Int64 := xv [("java/lang/IndexOutOfBoundsException", (-4000000000000000001)), ("java/lang/IllegalArgumentException", (-4000000000000000002)), ("java/util/NoSuchElementException", (-4000000000000000003))] (sX8_slot Z j0 c0 n0)
theorem vS_slot (Z : Ho) (j0 : Int32) (c0 : Int32) (n0 : Int32) : rsS (sX8_slot Z j0 c0 n0) = Z := by
  unfold sX8_slot sX8_checkedSlot sX8_checkedFrame
  repeat' (first | rfl | (refine rsS_ite ?_ ?_) | (refine rsS_oc ?_ (fun _ => ?_)) | (refine rsS_rc ?_ (fun _ => ?_)))
set_option maxHeartbeats 4000000 in
set_option maxRecDepth 100000 in
theorem hL_slot (l : Launch) (D : va_G) (ar : Nat → ClassId) (κ : Nat → Nat) (G : gW) (x : Xo) (Z : Ho) (sz : Nat) (j0 : Int32) (c0 : Int32) (n0 : Int32) (hk : OK x Z) (hlt : l.stackTraces = false) : Met l yL_slot (lwCW yL_slot cL_slot 5 (some .long) [(0, 8, 9, 17), (0, 8, 15, 23), (0, 8, 21, 52)]) (rD 14 2 12) (g_Pc D vwCl (gT ar) (EX1 κ) (ov κ ar x Z G) sz [.ref (x.f .ho), .int j0, .int c0, .int n0]) (g_Ql D vwCl (g_A (ov κ ar x Z G) sz) (fun r u => r = vL_slot Z j0 c0 n0 ∧ u.1 = ov κ ar x Z G)) 2 12 (g_A (ov κ ar x Z G) sz) := by
  refine gH_ofW (by decide +kernel) (Nat.le_of_ble_eq_true rfl) ?_
  intro p e s m below meth c ls S hr hlk ht hE w hl
  have hx := S.1
  have hb := S.2.1
  have hl : lv_has ls 5 [(0, .ref (x.f .ho)), (1, .int j0), (2, .int c0), (3, .int n0)] := hl
  refine lv_aload_n hx hb dL_slot_0 rfl (lv_at hl 0 rfl) ?_
  refine lv_iload_n hx hb dL_slot_1 rfl (lv_at hl 1 rfl) ?_
  refine lv_iload_n hx hb dL_slot_2 rfl (lv_at hl 2 rfl) ?_
  refine lv_iload_n hx hb dL_slot_3 rfl (lv_at hl 3 rfl) ?_
  refine gx_calli w (gx_runV (As := [.int j0, .int c0, .int n0]) (rest := []) S hE w hl (hX8_slot l D ar κ G x Z sz j0 c0 n0 hk hlt) (k_RL_131 S.2.2.2.2 ⟨Nat.le_of_ble_eq_true rfl, Nat.le_of_ble_eq_true rfl⟩) (ov_r (t := .ho) (hk.e .ho rfl)) rfl rfl rfl rfl (Nat.le_of_ble_eq_true rfl) dL_slot_4 ⟨Nat.le_of_ble_eq_true rfl, Nat.le_of_ble_eq_true rfl⟩) (fun E ce q9 u H locs hp hnz w hce hv hcl => ?_) (fun r u H locs hp hnz w => ?_)
  · obtain ⟨T9, e9, hu9, hk9, sq9⟩ := hp
    have hE9 := XI.get xi_slot e9
    rcases hE9 with rfl | rfl | rfl
    · refine vx_catch S.2.2.2.1 [] ⟨0, 8, 9, 17⟩ [⟨0, 8, 15, 23⟩, ⟨0, 8, 21, 52⟩] (ht.trans rfl) (by intro z hz; cases hz) rfl (by decide) (S.2.2.2.2 _ m_2_58) (va_Nw.use rfl (hE.2.1.1 _ (ckN_0 _ (List.mem_of_getElem? (i := 37) rfl)))) hce hv hcl ?_
      refine lv_astore (lv' := [(4, .ref q9), (0, .ref (x.f .ho)), (1, .int j0), (2, .int c0), (3, .int n0)]) hx hb dL_slot_9 hl (by decide) rfl (fun ls hl => ?_)
      refine lv_ldc2 hx hb S.2.2.2.1 (S.2.2.2.2 _ m_2_196) dL_slot_11 ?_
      exact g_lret hx hb hr hlk w (Nat.le_of_ble_eq_true rfl) (Nat.le_of_ble_eq_true rfl) dL_slot_14 ⟨(xv_x e9 xvE_0).symm, hu9.trans (congrArg (fun q9 => ov κ ar x q9 G) (show T9 = Z from (congrArg rsS e9).symm.trans (vS_slot Z j0 c0 n0)))⟩
    · refine vx_catch S.2.2.2.1 [⟨0, 8, 9, 17⟩] ⟨0, 8, 15, 23⟩ [⟨0, 8, 21, 52⟩] (ht.trans rfl) (by intro z hz; simp only [List.mem_cons, List.not_mem_nil, or_false] at hz; subst hz; exact Or.inr ⟨by decide, "java/lang/IndexOutOfBoundsException", S.2.2.2.2 _ m_2_58, hE.2.1.2.2 ("java/lang/IllegalArgumentException", "java/lang/IndexOutOfBoundsException") (List.mem_of_getElem? (i := 0) rfl)⟩) rfl (by decide) (S.2.2.2.2 _ m_3_34) (va_Nw.use rfl (hE.2.1.1 _ (ckN_1 _ (List.mem_of_getElem? (i := 4) rfl)))) hce hv hcl ?_
      refine lv_astore (lv' := [(4, .ref q9), (0, .ref (x.f .ho)), (1, .int j0), (2, .int c0), (3, .int n0)]) hx hb dL_slot_15 hl (by decide) rfl (fun ls hl => ?_)
      refine lv_ldc2 hx hb S.2.2.2.1 (S.2.2.2.2 _ m_2_197) dL_slot_17 ?_
      exact g_lret hx hb hr hlk w (Nat.le_of_ble_eq_true rfl) (Nat.le_of_ble_eq_true rfl) dL_slot_20 ⟨(xv_x e9 ((xvE_s (by decide +kernel)).trans xvE_0)).symm, hu9.trans (congrArg (fun q9 => ov κ ar x q9 G) (show T9 = Z from (congrArg rsS e9).symm.trans (vS_slot Z j0 c0 n0)))⟩
    · refine vx_catch S.2.2.2.1 [⟨0, 8, 9, 17⟩, ⟨0, 8, 15, 23⟩] ⟨0, 8, 21, 52⟩ [] (ht.trans rfl) (by intro z hz; simp only [List.mem_cons, List.not_mem_nil, or_false] at hz; rcases hz with rfl | rfl; exact Or.inr ⟨by decide, "java/lang/IndexOutOfBoundsException", S.2.2.2.2 _ m_2_58, hE.2.1.2.2 ("java/util/NoSuchElementException", "java/lang/IndexOutOfBoundsException") (List.mem_of_getElem? (i := 4) rfl)⟩; exact Or.inr ⟨by decide, "java/lang/IllegalArgumentException", S.2.2.2.2 _ m_3_34, hE.2.1.2.2 ("java/util/NoSuchElementException", "java/lang/IllegalArgumentException") (List.mem_of_getElem? (i := 15) rfl)⟩) rfl (by decide) (S.2.2.2.2 _ m_2_138) (va_Nw.use rfl (hE.2.1.1 _ (ckN_0 _ (List.mem_of_getElem? (i := 38) rfl)))) hce hv hcl ?_
      refine lv_astore (lv' := [(4, .ref q9), (0, .ref (x.f .ho)), (1, .int j0), (2, .int c0), (3, .int n0)]) hx hb dL_slot_21 hl (by decide) rfl (fun ls hl => ?_)
      refine lv_ldc2 hx hb S.2.2.2.1 (S.2.2.2.2 _ m_3_127) dL_slot_23 ?_
      exact g_lret hx hb hr hlk w (Nat.le_of_ble_eq_true rfl) (Nat.le_of_ble_eq_true rfl) dL_slot_26 ⟨(xv_x e9 ((xvE_s (by decide +kernel)).trans ((xvE_s (by decide +kernel)).trans xvE_0))).symm, hu9.trans (congrArg (fun q9 => ov κ ar x q9 G) (show T9 = Z from (congrArg rsS e9).symm.trans (vS_slot Z j0 c0 n0)))⟩
  · obtain ⟨T9, e9, hu9, hk9, sq9⟩ := hp
    refine lv_i2l hx hb dL_slot_7 rfl ?_
    exact g_lret hx hb hr hlk w (Nat.le_of_ble_eq_true rfl) (Nat.le_of_ble_eq_true rfl) dL_slot_8 ⟨(xv_v e9).symm, (congrArg Prod.fst hu9).trans (congrArg (fun q9 => ov κ ar x q9 G) (show T9 = Z from (congrArg rsS e9).symm.trans (vS_slot Z j0 c0 n0)))⟩
theorem xi_add {Z : Ho} {a0 n0 : Int32} : XI (fun E => E = "java/lang/IndexOutOfBoundsException" ∨ E = "java/lang/IllegalArgumentException" ∨ E = "java/lang/IllegalStateException") (sX8_add Z a0 n0) := by
  unfold sX8_add
  repeat' (first | exact trivial | exact rfl | exact (Or.inl rfl) | exact Or.inr (Or.inl rfl) | exact Or.inr (Or.inr (rfl)) | (refine XI.ite ?_ ?_) | (refine XI.rc ?_ (fun _ _ => ?_)) | (refine XI.oc ?_ (fun _ => ?_)) | (refine XI.pc (fun _ _ => ?_)) | (refine XI.vc (fun _ => ?_)))
def sL_add (Z : Ho) (a0 : Int32) (n0 : Int32) : Int64 × Ho := wr [("java/lang/IndexOutOfBoundsException", (-4000000000000000001)), ("java/lang/IllegalArgumentException", (-4000000000000000002)), ("java/lang/IllegalStateException", (-4000000000000000003))] (sX8_add Z a0 n0)
set_option maxHeartbeats 4000000 in
set_option maxRecDepth 100000 in
theorem hL_add (l : Launch) (D : va_G) (ar : Nat → ClassId) (κ : Nat → Nat) (G : gW) (x : Xo) (Z : Ho) (sz : Nat) (a0 : Int32) (n0 : Int32) (hk : OK x Z) (hlt : l.stackTraces = false) : Met l yL_add (lwCW yL_add cL_add 4 (some .long) [(0, 7, 8, 17), (0, 7, 13, 23), (0, 7, 18, 27)]) (rD 11 1 6) (g_Pc D vwCl (gT ar) (EX1 κ) (ov κ ar x Z G) sz [.ref (x.f .ho), .int a0, .int n0]) (g_Ql D vwCl (g_A (ov κ ar x Z G) sz) (fun r u => ∃ T9 : Ho, sL_add Z a0 n0 = (r, T9) ∧ u.1 = ov κ ar x T9 G ∧ OK x T9 ∧ SZ T9 Z)) 1 6 (g_A (ov κ ar x Z G) sz) := by
  refine gH_ofW (by decide +kernel) (Nat.le_of_ble_eq_true rfl) ?_
  intro p e s m below meth c ls S hr hlk ht hE w hl
  have hx := S.1
  have hb := S.2.1
  have hl : lv_has ls 4 [(0, .ref (x.f .ho)), (1, .int a0), (2, .int n0)] := hl
  refine lv_aload_n hx hb dL_add_0 rfl (lv_at hl 0 rfl) ?_
  refine lv_iload_n hx hb dL_add_1 rfl (lv_at hl 1 rfl) ?_
  refine lv_iload_n hx hb dL_add_2 rfl (lv_at hl 2 rfl) ?_
  refine gx_calli w (gx_runV (As := [.int a0, .int n0]) (rest := []) S hE w hl (hX8_add l D ar κ G x Z sz a0 n0 hk hlt) (k_RL_11 S.2.2.2.2 ⟨Nat.le_of_ble_eq_true rfl, Nat.le_of_ble_eq_true rfl⟩) (ov_r (t := .ho) (hk.e .ho rfl)) rfl rfl rfl rfl (Nat.le_of_ble_eq_true rfl) dL_add_3 ⟨Nat.le_of_ble_eq_true rfl, Nat.le_of_ble_eq_true rfl⟩) (fun E ce q9 u H locs hp hnz w hce hv hcl => ?_) (fun r u H locs hp hnz w => ?_)
  · obtain ⟨T9, e9, hu9, hk9, sq9⟩ := hp
    have hE9 := XI.get xi_add e9
    rcases hE9 with rfl | rfl | rfl
    · refine vx_catch S.2.2.2.1 [] ⟨0, 7, 8, 17⟩ [⟨0, 7, 13, 23⟩, ⟨0, 7, 18, 27⟩] (ht.trans rfl) (by intro z hz; cases hz) rfl (by decide) (S.2.2.2.2 _ m_2_58) (va_Nw.use rfl (hE.2.1.1 _ (ckN_0 _ (List.mem_of_getElem? (i := 37) rfl)))) hce hv hcl ?_
      refine lv_astore_n (lv' := [(3, .ref q9), (0, .ref (x.f .ho)), (1, .int a0), (2, .int n0)]) hx hb dL_add_8 rfl hl (by decide) rfl (fun ls hl => ?_)
      refine lv_ldc2 hx hb S.2.2.2.1 (S.2.2.2.2 _ m_2_196) dL_add_9 ?_
      exact g_lret hx hb hr hlk w (Nat.le_of_ble_eq_true rfl) (Nat.le_of_ble_eq_true rfl) dL_add_12 ⟨T9, wr_x e9 xvE_0, hu9, hk9, sq9⟩
    · refine vx_catch S.2.2.2.1 [⟨0, 7, 8, 17⟩] ⟨0, 7, 13, 23⟩ [⟨0, 7, 18, 27⟩] (ht.trans rfl) (by intro z hz; simp only [List.mem_cons, List.not_mem_nil, or_false] at hz; subst hz; exact Or.inr ⟨by decide, "java/lang/IndexOutOfBoundsException", S.2.2.2.2 _ m_2_58, hE.2.1.2.2 ("java/lang/IllegalArgumentException", "java/lang/IndexOutOfBoundsException") (List.mem_of_getElem? (i := 0) rfl)⟩) rfl (by decide) (S.2.2.2.2 _ m_3_34) (va_Nw.use rfl (hE.2.1.1 _ (ckN_1 _ (List.mem_of_getElem? (i := 4) rfl)))) hce hv hcl ?_
      refine lv_astore_n (lv' := [(3, .ref q9), (0, .ref (x.f .ho)), (1, .int a0), (2, .int n0)]) hx hb dL_add_13 rfl hl (by decide) rfl (fun ls hl => ?_)
      refine lv_ldc2 hx hb S.2.2.2.1 (S.2.2.2.2 _ m_2_197) dL_add_14 ?_
      exact g_lret hx hb hr hlk w (Nat.le_of_ble_eq_true rfl) (Nat.le_of_ble_eq_true rfl) dL_add_17 ⟨T9, wr_x e9 ((xvE_s (by decide +kernel)).trans xvE_0), hu9, hk9, sq9⟩
    · refine vx_catch S.2.2.2.1 [⟨0, 7, 8, 17⟩, ⟨0, 7, 13, 23⟩] ⟨0, 7, 18, 27⟩ [] (ht.trans rfl) (by intro z hz; simp only [List.mem_cons, List.not_mem_nil, or_false] at hz; rcases hz with rfl | rfl; exact Or.inr ⟨by decide, "java/lang/IndexOutOfBoundsException", S.2.2.2.2 _ m_2_58, hE.2.1.2.2 ("java/lang/IllegalStateException", "java/lang/IndexOutOfBoundsException") (List.mem_of_getElem? (i := 1) rfl)⟩; exact Or.inr ⟨by decide, "java/lang/IllegalArgumentException", S.2.2.2.2 _ m_3_34, hE.2.1.2.2 ("java/lang/IllegalStateException", "java/lang/IllegalArgumentException") (List.mem_of_getElem? (i := 13) rfl)⟩) rfl (by decide) (S.2.2.2.2 _ m_3_35) (va_Nw.use rfl (hE.2.1.1 _ (ckN_1 _ (List.mem_of_getElem? (i := 5) rfl)))) hce hv hcl ?_
      refine lv_astore_n (lv' := [(3, .ref q9), (0, .ref (x.f .ho)), (1, .int a0), (2, .int n0)]) hx hb dL_add_18 rfl hl (by decide) rfl (fun ls hl => ?_)
      refine lv_ldc2 hx hb S.2.2.2.1 (S.2.2.2.2 _ m_3_127) dL_add_19 ?_
      exact g_lret hx hb hr hlk w (Nat.le_of_ble_eq_true rfl) (Nat.le_of_ble_eq_true rfl) dL_add_22 ⟨T9, wr_x e9 ((xvE_s (by decide +kernel)).trans ((xvE_s (by decide +kernel)).trans xvE_0)), hu9, hk9, sq9⟩
  · obtain ⟨T9, e9, hu9, hk9, sq9⟩ := hp
    refine lv_i2l hx hb dL_add_6 rfl ?_
    exact g_lret hx hb hr hlk w (Nat.le_of_ble_eq_true rfl) (Nat.le_of_ble_eq_true rfl) dL_add_7 ⟨T9, wr_v e9, (congrArg Prod.fst hu9), hk9, sq9⟩
theorem xi_row {Z : Ho} {c0 u0 v0 : Int32} : XI (fun E => E = "java/lang/IllegalArgumentException" ∨ E = "java/lang/IllegalStateException") (sX8_row Z c0 u0 v0) := by
  unfold sX8_row
  repeat' (first | exact trivial | exact rfl | exact (Or.inl rfl) | exact Or.inr (rfl) | (refine XI.ite ?_ ?_) | (refine XI.rc ?_ (fun _ _ => ?_)) | (refine XI.oc ?_ (fun _ => ?_)) | (refine XI.pc (fun _ _ => ?_)) | (refine XI.vc (fun _ => ?_)))
def sL_row (Z : Ho) (c0 : Int32) (u0 : Int32) (v0 : Int32) : Int64 × Ho := wr [("java/lang/IllegalArgumentException", (-4000000000000000001)), ("java/lang/IllegalStateException", (-4000000000000000002))] (sX8_row Z c0 u0 v0)
set_option maxHeartbeats 4000000 in
set_option maxRecDepth 100000 in
theorem hL_row (l : Launch) (D : va_G) (ar : Nat → ClassId) (κ : Nat → Nat) (G : gW) (x : Xo) (Z : Ho) (sz : Nat) (c0 : Int32) (u0 : Int32) (v0 : Int32) (hk : OK x Z) (hlt : l.stackTraces = false) : Met l yL_row (lwCW yL_row cL_row 5 (some .long) [(0, 8, 9, 23), (0, 8, 15, 27)]) (rD 11 1 6) (g_Pc D vwCl (gT ar) (EX1 κ) (ov κ ar x Z G) sz [.ref (x.f .ho), .int c0, .int u0, .int v0]) (g_Ql D vwCl (g_A (ov κ ar x Z G) sz) (fun r u => ∃ T9 : Ho, sL_row Z c0 u0 v0 = (r, T9) ∧ u.1 = ov κ ar x T9 G ∧ OK x T9 ∧ SZ T9 Z)) 1 6 (g_A (ov κ ar x Z G) sz) := by
  refine gH_ofW (by decide +kernel) (Nat.le_of_ble_eq_true rfl) ?_
  intro p e s m below meth c ls S hr hlk ht hE w hl
  have hx := S.1
  have hb := S.2.1
  have hl : lv_has ls 5 [(0, .ref (x.f .ho)), (1, .int c0), (2, .int u0), (3, .int v0)] := hl
  refine lv_aload_n hx hb dL_row_0 rfl (lv_at hl 0 rfl) ?_
  refine lv_iload_n hx hb dL_row_1 rfl (lv_at hl 1 rfl) ?_
  refine lv_iload_n hx hb dL_row_2 rfl (lv_at hl 2 rfl) ?_
  refine lv_iload_n hx hb dL_row_3 rfl (lv_at hl 3 rfl) ?_
  refine gx_calli w (gx_runV (As := [.int c0, .int u0, .int v0]) (rest := []) S hE w hl (hX8_row l D ar κ G x Z sz c0 u0 v0 hk hlt) (k_RL_35 S.2.2.2.2 ⟨Nat.le_of_ble_eq_true rfl, Nat.le_of_ble_eq_true rfl⟩) (ov_r (t := .ho) (hk.e .ho rfl)) rfl rfl rfl rfl (Nat.le_of_ble_eq_true rfl) dL_row_4 ⟨Nat.le_of_ble_eq_true rfl, Nat.le_of_ble_eq_true rfl⟩) (fun E ce q9 u H locs hp hnz w hce hv hcl => ?_) (fun r u H locs hp hnz w => ?_)
  · obtain ⟨T9, e9, hu9, hk9, sq9⟩ := hp
    have hE9 := XI.get xi_row e9
    rcases hE9 with rfl | rfl
    · refine vx_catch S.2.2.2.1 [] ⟨0, 8, 9, 23⟩ [⟨0, 8, 15, 27⟩] (ht.trans rfl) (by intro z hz; cases hz) rfl (by decide) (S.2.2.2.2 _ m_3_34) (va_Nw.use rfl (hE.2.1.1 _ (ckN_1 _ (List.mem_of_getElem? (i := 4) rfl)))) hce hv hcl ?_
      refine lv_astore (lv' := [(4, .ref q9), (0, .ref (x.f .ho)), (1, .int c0), (2, .int u0), (3, .int v0)]) hx hb dL_row_9 hl (by decide) rfl (fun ls hl => ?_)
      refine lv_ldc2 hx hb S.2.2.2.1 (S.2.2.2.2 _ m_2_196) dL_row_11 ?_
      exact g_lret hx hb hr hlk w (Nat.le_of_ble_eq_true rfl) (Nat.le_of_ble_eq_true rfl) dL_row_14 ⟨T9, wr_x e9 xvE_0, hu9, hk9, sq9⟩
    · refine vx_catch S.2.2.2.1 [⟨0, 8, 9, 23⟩] ⟨0, 8, 15, 27⟩ [] (ht.trans rfl) (by intro z hz; simp only [List.mem_cons, List.not_mem_nil, or_false] at hz; subst hz; exact Or.inr ⟨by decide, "java/lang/IllegalArgumentException", S.2.2.2.2 _ m_3_34, hE.2.1.2.2 ("java/lang/IllegalStateException", "java/lang/IllegalArgumentException") (List.mem_of_getElem? (i := 13) rfl)⟩) rfl (by decide) (S.2.2.2.2 _ m_3_35) (va_Nw.use rfl (hE.2.1.1 _ (ckN_1 _ (List.mem_of_getElem? (i := 5) rfl)))) hce hv hcl ?_
      refine lv_astore (lv' := [(4, .ref q9), (0, .ref (x.f .ho)), (1, .int c0), (2, .int u0), (3, .int v0)]) hx hb dL_row_15 hl (by decide) rfl (fun ls hl => ?_)
      refine lv_ldc2 hx hb S.2.2.2.1 (S.2.2.2.2 _ m_2_197) dL_row_17 ?_
      exact g_lret hx hb hr hlk w (Nat.le_of_ble_eq_true rfl) (Nat.le_of_ble_eq_true rfl) dL_row_20 ⟨T9, wr_x e9 ((xvE_s (by decide +kernel)).trans xvE_0), hu9, hk9, sq9⟩
  · obtain ⟨T9, e9, hu9, hk9, sq9⟩ := hp
    refine lv_i2l hx hb dL_row_7 rfl ?_
    exact g_lret hx hb hr hlk w (Nat.le_of_ble_eq_true rfl) (Nat.le_of_ble_eq_true rfl) dL_row_8 ⟨T9, wr_v e9, (congrArg Prod.fst hu9), hk9, sq9⟩
theorem xi_remove {Z : Ho} {i0 j0 : Int32} : XI (fun E => E = "java/lang/IndexOutOfBoundsException" ∨ E = "java/util/NoSuchElementException") (sX8_remove Z i0 j0) := by
  unfold sX8_remove sX8_checkedMethod sX8_checkPlaceOfMethod
  repeat' (first | exact trivial | exact rfl | exact (Or.inl rfl) | exact Or.inr (rfl) | (refine XI.ite ?_ ?_) | (refine XI.rc ?_ (fun _ _ => ?_)) | (refine XI.oc ?_ (fun _ => ?_)) | (refine XI.pc (fun _ _ => ?_)) | (refine XI.vc (fun _ => ?_)))
def sL_remove (Z : Ho) (i0 : Int32) (j0 : Int32) : Int64 × Ho := wr [("java/lang/IndexOutOfBoundsException", (-4000000000000000001)), ("java/util/NoSuchElementException", (-4000000000000000002))] (sX8_remove Z i0 j0)
set_option maxHeartbeats 4000000 in
set_option maxRecDepth 100000 in
theorem hL_remove (l : Launch) (D : va_G) (ar : Nat → ClassId) (κ : Nat → Nat) (G : gW) (x : Xo) (Z : Ho) (sz : Nat) (i0 : Int32) (j0 : Int32) (hk : OK x Z) (hlt : l.stackTraces = false) : Met l yL_remove (lwCW yL_remove cL_remove 4 (some .long) [(0, 7, 8, 17), (0, 7, 13, 52)]) (rD 12 2 12) (g_Pc D vwCl (gT ar) (EX1 κ) (ov κ ar x Z G) sz [.ref (x.f .ho), .int i0, .int j0]) (g_Ql D vwCl (g_A (ov κ ar x Z G) sz) (fun r u => ∃ T9 : Ho, sL_remove Z i0 j0 = (r, T9) ∧ u.1 = ov κ ar x T9 G ∧ OK x T9 ∧ SZ T9 Z)) 2 12 (g_A (ov κ ar x Z G) sz) := by
  refine gH_ofW (by decide +kernel) (Nat.le_of_ble_eq_true rfl) ?_
  intro p e s m below meth c ls S hr hlk ht hE w hl
  have hx := S.1
  have hb := S.2.1
  have hl : lv_has ls 4 [(0, .ref (x.f .ho)), (1, .int i0), (2, .int j0)] := hl
  refine lv_aload_n hx hb dL_remove_0 rfl (lv_at hl 0 rfl) ?_
  refine lv_iload_n hx hb dL_remove_1 rfl (lv_at hl 1 rfl) ?_
  refine lv_iload_n hx hb dL_remove_2 rfl (lv_at hl 2 rfl) ?_
  refine gx_calli w (gx_runV (As := [.int i0, .int j0]) (rest := []) S hE w hl (hX8_remove l D ar κ G x Z sz i0 j0 hk hlt) (k_RL_49 S.2.2.2.2 ⟨Nat.le_of_ble_eq_true rfl, Nat.le_of_ble_eq_true rfl⟩) (ov_r (t := .ho) (hk.e .ho rfl)) rfl rfl rfl rfl (Nat.le_of_ble_eq_true rfl) dL_remove_3 ⟨Nat.le_of_ble_eq_true rfl, Nat.le_of_ble_eq_true rfl⟩) (fun E ce q9 u H locs hp hnz w hce hv hcl => ?_) (fun r u H locs hp hnz w => ?_)
  · obtain ⟨T9, e9, hu9, hk9, sq9⟩ := hp
    have hE9 := XI.get xi_remove e9
    rcases hE9 with rfl | rfl
    · refine vx_catch S.2.2.2.1 [] ⟨0, 7, 8, 17⟩ [⟨0, 7, 13, 52⟩] (ht.trans rfl) (by intro z hz; cases hz) rfl (by decide) (S.2.2.2.2 _ m_2_58) (va_Nw.use rfl (hE.2.1.1 _ (ckN_0 _ (List.mem_of_getElem? (i := 37) rfl)))) hce hv hcl ?_
      refine lv_astore_n (lv' := [(3, .ref q9), (0, .ref (x.f .ho)), (1, .int i0), (2, .int j0)]) hx hb dL_remove_8 rfl hl (by decide) rfl (fun ls hl => ?_)
      refine lv_ldc2 hx hb S.2.2.2.1 (S.2.2.2.2 _ m_2_196) dL_remove_9 ?_
      exact g_lret hx hb hr hlk w (Nat.le_of_ble_eq_true rfl) (Nat.le_of_ble_eq_true rfl) dL_remove_12 ⟨T9, wr_x e9 xvE_0, hu9, hk9, sq9⟩
    · refine vx_catch S.2.2.2.1 [⟨0, 7, 8, 17⟩] ⟨0, 7, 13, 52⟩ [] (ht.trans rfl) (by intro z hz; simp only [List.mem_cons, List.not_mem_nil, or_false] at hz; subst hz; exact Or.inr ⟨by decide, "java/lang/IndexOutOfBoundsException", S.2.2.2.2 _ m_2_58, hE.2.1.2.2 ("java/util/NoSuchElementException", "java/lang/IndexOutOfBoundsException") (List.mem_of_getElem? (i := 4) rfl)⟩) rfl (by decide) (S.2.2.2.2 _ m_2_138) (va_Nw.use rfl (hE.2.1.1 _ (ckN_0 _ (List.mem_of_getElem? (i := 38) rfl)))) hce hv hcl ?_
      refine lv_astore_n (lv' := [(3, .ref q9), (0, .ref (x.f .ho)), (1, .int i0), (2, .int j0)]) hx hb dL_remove_13 rfl hl (by decide) rfl (fun ls hl => ?_)
      refine lv_ldc2 hx hb S.2.2.2.1 (S.2.2.2.2 _ m_2_197) dL_remove_14 ?_
      exact g_lret hx hb hr hlk w (Nat.le_of_ble_eq_true rfl) (Nat.le_of_ble_eq_true rfl) dL_remove_17 ⟨T9, wr_x e9 ((xvE_s (by decide +kernel)).trans xvE_0), hu9, hk9, sq9⟩
  · obtain ⟨T9, e9, hu9, hk9, sq9⟩ := hp
    refine lv_i2l hx hb dL_remove_6 rfl ?_
    exact g_lret hx hb hr hlk w (Nat.le_of_ble_eq_true rfl) (Nat.le_of_ble_eq_true rfl) dL_remove_7 ⟨T9, wr_v e9, (congrArg Prod.fst hu9), hk9, sq9⟩
theorem xi_number {Z : Ho} {g0 n0 : Int32} : XI (fun E => E = "java/lang/IndexOutOfBoundsException") (sX8_number Z g0 n0) := by
  unfold sX8_number sX8_checkGlobal
  repeat' (first | exact trivial | exact rfl | (refine XI.ite ?_ ?_) | (refine XI.rc ?_ (fun _ _ => ?_)) | (refine XI.oc ?_ (fun _ => ?_)) | (refine XI.pc (fun _ _ => ?_)) | (refine XI.vc (fun _ => ?_)))
def sL_number (Z : Ho) (g0 : Int32) (n0 : Int32) : Int64 × Ho := wr [("java/lang/IndexOutOfBoundsException", (-4000000000000000001))] (sX8_number Z g0 n0)
set_option maxHeartbeats 4000000 in
set_option maxRecDepth 100000 in
theorem hL_number (l : Launch) (D : va_G) (ar : Nat → ClassId) (κ : Nat → Nat) (G : gW) (x : Xo) (Z : Ho) (sz : Nat) (g0 : Int32) (n0 : Int32) (hk : OK x Z) (hlt : l.stackTraces = false) : Met l yL_number (lwCW yL_number cL_number 4 (some .long) [(0, 7, 8, 17)]) (rD 11 1 6) (g_Pc D vwCl (gT ar) (EX1 κ) (ov κ ar x Z G) sz [.ref (x.f .ho), .int g0, .int n0]) (g_Ql D vwCl (g_A (ov κ ar x Z G) sz) (fun r u => ∃ T9 : Ho, sL_number Z g0 n0 = (r, T9) ∧ u.1 = ov κ ar x T9 G ∧ OK x T9 ∧ SZ T9 Z)) 1 6 (g_A (ov κ ar x Z G) sz) := by
  refine gH_ofW (by decide +kernel) (Nat.le_of_ble_eq_true rfl) ?_
  intro p e s m below meth c ls S hr hlk ht hE w hl
  have hx := S.1
  have hb := S.2.1
  have hl : lv_has ls 4 [(0, .ref (x.f .ho)), (1, .int g0), (2, .int n0)] := hl
  refine lv_aload_n hx hb dL_number_0 rfl (lv_at hl 0 rfl) ?_
  refine lv_iload_n hx hb dL_number_1 rfl (lv_at hl 1 rfl) ?_
  refine lv_iload_n hx hb dL_number_2 rfl (lv_at hl 2 rfl) ?_
  refine gx_calli w (gx_runV (As := [.int g0, .int n0]) (rest := []) S hE w hl (hX8_number l D ar κ G x Z sz g0 n0 hk hlt) (k_RL_63 S.2.2.2.2 ⟨Nat.le_of_ble_eq_true rfl, Nat.le_of_ble_eq_true rfl⟩) (ov_r (t := .ho) (hk.e .ho rfl)) rfl rfl rfl rfl (Nat.le_of_ble_eq_true rfl) dL_number_3 ⟨Nat.le_of_ble_eq_true rfl, Nat.le_of_ble_eq_true rfl⟩) (fun E ce q9 u H locs hp hnz w hce hv hcl => ?_) (fun r u H locs hp hnz w => ?_)
  · obtain ⟨T9, e9, hu9, hk9, sq9⟩ := hp
    have hE9 := XI.get xi_number e9
    have hE9 : E = _ := hE9
    subst hE9
    refine vx_catch S.2.2.2.1 [] ⟨0, 7, 8, 17⟩ [] (ht.trans rfl) (by intro z hz; cases hz) rfl (by decide) (S.2.2.2.2 _ m_2_58) (va_Nw.use rfl (hE.2.1.1 _ (ckN_0 _ (List.mem_of_getElem? (i := 37) rfl)))) hce hv hcl ?_
    refine lv_astore_n (lv' := [(3, .ref q9), (0, .ref (x.f .ho)), (1, .int g0), (2, .int n0)]) hx hb dL_number_8 rfl hl (by decide) rfl (fun ls hl => ?_)
    refine lv_ldc2 hx hb S.2.2.2.1 (S.2.2.2.2 _ m_2_196) dL_number_9 ?_
    exact g_lret hx hb hr hlk w (Nat.le_of_ble_eq_true rfl) (Nat.le_of_ble_eq_true rfl) dL_number_12 ⟨T9, wr_x e9 xvE_0, hu9, hk9, sq9⟩
  · obtain ⟨T9, e9, hu9, hk9, sq9⟩ := hp
    refine lv_i2l hx hb dL_number_6 rfl ?_
    exact g_lret hx hb hr hlk w (Nat.le_of_ble_eq_true rfl) (Nat.le_of_ble_eq_true rfl) dL_number_7 ⟨T9, wr_v e9, (congrArg Prod.fst hu9), hk9, sq9⟩
theorem xi_nothing {Z : Ho} {g0 : Int32} : XI (fun E => E = "java/lang/IndexOutOfBoundsException") (sX8_nothing Z g0) := by
  unfold sX8_nothing sX8_checkGlobal
  repeat' (first | exact trivial | exact rfl | (refine XI.ite ?_ ?_) | (refine XI.rc ?_ (fun _ _ => ?_)) | (refine XI.oc ?_ (fun _ => ?_)) | (refine XI.pc (fun _ _ => ?_)) | (refine XI.vc (fun _ => ?_)))
def sL_nothing (Z : Ho) (g0 : Int32) : Int64 × Ho := wr [("java/lang/IndexOutOfBoundsException", (-4000000000000000001))] (sX8_nothing Z g0)
set_option maxHeartbeats 4000000 in
set_option maxRecDepth 100000 in
theorem hL_nothing (l : Launch) (D : va_G) (ar : Nat → ClassId) (κ : Nat → Nat) (G : gW) (x : Xo) (Z : Ho) (sz : Nat) (g0 : Int32) (hk : OK x Z) (hlt : l.stackTraces = false) : Met l yL_nothing (lwCW yL_nothing cL_nothing 3 (some .long) [(0, 6, 7, 17)]) (rD 11 1 6) (g_Pc D vwCl (gT ar) (EX1 κ) (ov κ ar x Z G) sz [.ref (x.f .ho), .int g0]) (g_Ql D vwCl (g_A (ov κ ar x Z G) sz) (fun r u => ∃ T9 : Ho, sL_nothing Z g0 = (r, T9) ∧ u.1 = ov κ ar x T9 G ∧ OK x T9 ∧ SZ T9 Z)) 1 6 (g_A (ov κ ar x Z G) sz) := by
  refine gH_ofW (by decide +kernel) (Nat.le_of_ble_eq_true rfl) ?_
  intro p e s m below meth c ls S hr hlk ht hE w hl
  have hx := S.1
  have hb := S.2.1
  have hl : lv_has ls 3 [(0, .ref (x.f .ho)), (1, .int g0)] := hl
  refine lv_aload_n hx hb dL_nothing_0 rfl (lv_at hl 0 rfl) ?_
  refine lv_iload_n hx hb dL_nothing_1 rfl (lv_at hl 1 rfl) ?_
  refine gx_calli w (gx_runV (As := [.int g0]) (rest := []) S hE w hl (hX8_nothing l D ar κ G x Z sz g0 hk hlt) (k_RL_66 S.2.2.2.2 ⟨Nat.le_of_ble_eq_true rfl, Nat.le_of_ble_eq_true rfl⟩) (ov_r (t := .ho) (hk.e .ho rfl)) rfl rfl rfl rfl (Nat.le_of_ble_eq_true rfl) dL_nothing_2 ⟨Nat.le_of_ble_eq_true rfl, Nat.le_of_ble_eq_true rfl⟩) (fun E ce q9 u H locs hp hnz w hce hv hcl => ?_) (fun r u H locs hp hnz w => ?_)
  · obtain ⟨T9, e9, hu9, hk9, sq9⟩ := hp
    have hE9 := XI.get xi_nothing e9
    have hE9 : E = _ := hE9
    subst hE9
    refine vx_catch S.2.2.2.1 [] ⟨0, 6, 7, 17⟩ [] (ht.trans rfl) (by intro z hz; cases hz) rfl (by decide) (S.2.2.2.2 _ m_2_58) (va_Nw.use rfl (hE.2.1.1 _ (ckN_0 _ (List.mem_of_getElem? (i := 37) rfl)))) hce hv hcl ?_
    refine lv_astore_n (lv' := [(2, .ref q9), (0, .ref (x.f .ho)), (1, .int g0)]) hx hb dL_nothing_7 rfl hl (by decide) rfl (fun ls hl => ?_)
    refine lv_ldc2 hx hb S.2.2.2.1 (S.2.2.2.2 _ m_2_196) dL_nothing_8 ?_
    exact g_lret hx hb hr hlk w (Nat.le_of_ble_eq_true rfl) (Nat.le_of_ble_eq_true rfl) dL_nothing_11 ⟨T9, wr_x e9 xvE_0, hu9, hk9, sq9⟩
  · obtain ⟨T9, e9, hu9, hk9, sq9⟩ := hp
    refine lv_i2l hx hb dL_nothing_5 rfl ?_
    exact g_lret hx hb hr hlk w (Nat.le_of_ble_eq_true rfl) (Nat.le_of_ble_eq_true rfl) dL_nothing_6 ⟨T9, wr_v e9, (congrArg Prod.fst hu9), hk9, sq9⟩
theorem xi_make {Z : Ho} {g0 n0 : Int32} : XI (fun E => E = "java/lang/IndexOutOfBoundsException" ∨ E = "java/lang/IllegalArgumentException" ∨ E = "java/lang/IllegalStateException") (sX8_make Z g0 n0) := by
  unfold sX8_make
  repeat' (first | exact trivial | exact rfl | exact (Or.inl rfl) | exact Or.inr (Or.inl rfl) | exact Or.inr (Or.inr (rfl)) | (refine XI.ite ?_ ?_) | (refine XI.rc ?_ (fun _ _ => ?_)) | (refine XI.oc ?_ (fun _ => ?_)) | (refine XI.pc (fun _ _ => ?_)) | (refine XI.vc (fun _ => ?_)))
def sL_make (Z : Ho) (g0 : Int32) (n0 : Int32) : Int64 × Ho := wr [("java/lang/IndexOutOfBoundsException", (-4000000000000000001)), ("java/lang/IllegalArgumentException", (-4000000000000000002)), ("java/lang/IllegalStateException", (-4000000000000000003))] (sX8_make Z g0 n0)
set_option maxHeartbeats 4000000 in
set_option maxRecDepth 100000 in
theorem hL_make (l : Launch) (D : va_G) (ar : Nat → ClassId) (κ : Nat → Nat) (G : gW) (x : Xo) (Z : Ho) (sz : Nat) (g0 : Int32) (n0 : Int32) (hk : OK x Z) (hlt : l.stackTraces = false) : Met l yL_make (lwCW yL_make cL_make 4 (some .long) [(0, 7, 8, 17), (0, 7, 13, 23), (0, 7, 18, 27)]) (rD 14 1 6) (g_Pc D vwCl (gT ar) (EX1 κ) (ov κ ar x Z G) sz [.ref (x.f .ho), .int g0, .int n0]) (g_Ql D vwCl (g_A (ov κ ar x Z G) sz) (fun r u => ∃ T9 : Ho, sL_make Z g0 n0 = (r, T9) ∧ u.1 = ov κ ar x T9 G ∧ OK x T9 ∧ SZ T9 Z)) 1 6 (g_A (ov κ ar x Z G) sz) := by
  refine gH_ofW (by decide +kernel) (Nat.le_of_ble_eq_true rfl) ?_
  intro p e s m below meth c ls S hr hlk ht hE w hl
  have hx := S.1
  have hb := S.2.1
  have hl : lv_has ls 4 [(0, .ref (x.f .ho)), (1, .int g0), (2, .int n0)] := hl
  refine lv_aload_n hx hb dL_make_0 rfl (lv_at hl 0 rfl) ?_
  refine lv_iload_n hx hb dL_make_1 rfl (lv_at hl 1 rfl) ?_
  refine lv_iload_n hx hb dL_make_2 rfl (lv_at hl 2 rfl) ?_
  refine gx_calli w (gx_runV (As := [.int g0, .int n0]) (rest := []) S hE w hl (hX8_make l D ar κ G x Z sz g0 n0 hk hlt) (k_RL_69 S.2.2.2.2 ⟨Nat.le_of_ble_eq_true rfl, Nat.le_of_ble_eq_true rfl⟩) (ov_r (t := .ho) (hk.e .ho rfl)) rfl rfl rfl rfl (Nat.le_of_ble_eq_true rfl) dL_make_3 ⟨Nat.le_of_ble_eq_true rfl, Nat.le_of_ble_eq_true rfl⟩) (fun E ce q9 u H locs hp hnz w hce hv hcl => ?_) (fun r u H locs hp hnz w => ?_)
  · obtain ⟨T9, e9, hu9, hk9, sq9⟩ := hp
    have hE9 := XI.get xi_make e9
    rcases hE9 with rfl | rfl | rfl
    · refine vx_catch S.2.2.2.1 [] ⟨0, 7, 8, 17⟩ [⟨0, 7, 13, 23⟩, ⟨0, 7, 18, 27⟩] (ht.trans rfl) (by intro z hz; cases hz) rfl (by decide) (S.2.2.2.2 _ m_2_58) (va_Nw.use rfl (hE.2.1.1 _ (ckN_0 _ (List.mem_of_getElem? (i := 37) rfl)))) hce hv hcl ?_
      refine lv_astore_n (lv' := [(3, .ref q9), (0, .ref (x.f .ho)), (1, .int g0), (2, .int n0)]) hx hb dL_make_8 rfl hl (by decide) rfl (fun ls hl => ?_)
      refine lv_ldc2 hx hb S.2.2.2.1 (S.2.2.2.2 _ m_2_196) dL_make_9 ?_
      exact g_lret hx hb hr hlk w (Nat.le_of_ble_eq_true rfl) (Nat.le_of_ble_eq_true rfl) dL_make_12 ⟨T9, wr_x e9 xvE_0, hu9, hk9, sq9⟩
    · refine vx_catch S.2.2.2.1 [⟨0, 7, 8, 17⟩] ⟨0, 7, 13, 23⟩ [⟨0, 7, 18, 27⟩] (ht.trans rfl) (by intro z hz; simp only [List.mem_cons, List.not_mem_nil, or_false] at hz; subst hz; exact Or.inr ⟨by decide, "java/lang/IndexOutOfBoundsException", S.2.2.2.2 _ m_2_58, hE.2.1.2.2 ("java/lang/IllegalArgumentException", "java/lang/IndexOutOfBoundsException") (List.mem_of_getElem? (i := 0) rfl)⟩) rfl (by decide) (S.2.2.2.2 _ m_3_34) (va_Nw.use rfl (hE.2.1.1 _ (ckN_1 _ (List.mem_of_getElem? (i := 4) rfl)))) hce hv hcl ?_
      refine lv_astore_n (lv' := [(3, .ref q9), (0, .ref (x.f .ho)), (1, .int g0), (2, .int n0)]) hx hb dL_make_13 rfl hl (by decide) rfl (fun ls hl => ?_)
      refine lv_ldc2 hx hb S.2.2.2.1 (S.2.2.2.2 _ m_2_197) dL_make_14 ?_
      exact g_lret hx hb hr hlk w (Nat.le_of_ble_eq_true rfl) (Nat.le_of_ble_eq_true rfl) dL_make_17 ⟨T9, wr_x e9 ((xvE_s (by decide +kernel)).trans xvE_0), hu9, hk9, sq9⟩
    · refine vx_catch S.2.2.2.1 [⟨0, 7, 8, 17⟩, ⟨0, 7, 13, 23⟩] ⟨0, 7, 18, 27⟩ [] (ht.trans rfl) (by intro z hz; simp only [List.mem_cons, List.not_mem_nil, or_false] at hz; rcases hz with rfl | rfl; exact Or.inr ⟨by decide, "java/lang/IndexOutOfBoundsException", S.2.2.2.2 _ m_2_58, hE.2.1.2.2 ("java/lang/IllegalStateException", "java/lang/IndexOutOfBoundsException") (List.mem_of_getElem? (i := 1) rfl)⟩; exact Or.inr ⟨by decide, "java/lang/IllegalArgumentException", S.2.2.2.2 _ m_3_34, hE.2.1.2.2 ("java/lang/IllegalStateException", "java/lang/IllegalArgumentException") (List.mem_of_getElem? (i := 13) rfl)⟩) rfl (by decide) (S.2.2.2.2 _ m_3_35) (va_Nw.use rfl (hE.2.1.1 _ (ckN_1 _ (List.mem_of_getElem? (i := 5) rfl)))) hce hv hcl ?_
      refine lv_astore_n (lv' := [(3, .ref q9), (0, .ref (x.f .ho)), (1, .int g0), (2, .int n0)]) hx hb dL_make_18 rfl hl (by decide) rfl (fun ls hl => ?_)
      refine lv_ldc2 hx hb S.2.2.2.1 (S.2.2.2.2 _ m_3_127) dL_make_19 ?_
      exact g_lret hx hb hr hlk w (Nat.le_of_ble_eq_true rfl) (Nat.le_of_ble_eq_true rfl) dL_make_22 ⟨T9, wr_x e9 ((xvE_s (by decide +kernel)).trans ((xvE_s (by decide +kernel)).trans xvE_0)), hu9, hk9, sq9⟩
  · obtain ⟨T9, e9, hu9, hk9, sq9⟩ := hp
    refine lv_i2l hx hb dL_make_6 rfl ?_
    exact g_lret hx hb hr hlk w (Nat.le_of_ble_eq_true rfl) (Nat.le_of_ble_eq_true rfl) dL_make_7 ⟨T9, wr_v e9, (congrArg Prod.fst hu9), hk9, sq9⟩
theorem xi_begin {Z : Ho} {g0 s0 n0 u0 v0 : Int32} : XI (fun E => E = "java/lang/IndexOutOfBoundsException" ∨ E = "java/lang/IllegalArgumentException" ∨ E = "java/lang/IllegalStateException" ∨ E = "java/lang/UnsupportedOperationException") (sX8_begin Z g0 s0 n0 u0 v0) := by
  unfold sX8_begin
  repeat' (first | exact trivial | exact rfl | exact (Or.inl rfl) | exact Or.inr (Or.inl rfl) | exact Or.inr (Or.inr (Or.inl rfl)) | exact Or.inr (Or.inr (Or.inr (rfl))) | (refine XI.ite ?_ ?_) | (refine XI.rc ?_ (fun _ _ => ?_)) | (refine XI.oc ?_ (fun _ => ?_)) | (refine XI.pc (fun _ _ => ?_)) | (refine XI.vc (fun _ => ?_)))
def sL_begin (Z : Ho) (g0 : Int32) (s0 : Int32) (n0 : Int32) (u0 : Int32) (v0 : Int32) : Int64 × Ho := wr [("java/lang/IndexOutOfBoundsException", (-4000000000000000001)), ("java/lang/IllegalArgumentException", (-4000000000000000002)), ("java/lang/IllegalStateException", (-4000000000000000003)), ("java/lang/UnsupportedOperationException", (-4000000000000000004))] (sX8_begin Z g0 s0 n0 u0 v0)
set_option maxHeartbeats 4000000 in
set_option maxRecDepth 100000 in
theorem hL_begin (l : Launch) (D : va_G) (ar : Nat → ClassId) (κ : Nat → Nat) (G : gW) (x : Xo) (Z : Ho) (sz : Nat) (g0 : Int32) (s0 : Int32) (n0 : Int32) (u0 : Int32) (v0 : Int32) (hk : OK x Z) (hlt : l.stackTraces = false) : Met l yL_begin (lwCW yL_begin cL_begin 7 (some .long) [(0, 12, 13, 17), (0, 12, 19, 23), (0, 12, 25, 27), (0, 12, 31, 47)]) (rD 15 1 6) (g_Pc D vwCl (gT ar) (EX1 κ) (ov κ ar x Z G) sz [.ref (x.f .ho), .int g0, .int s0, .int n0, .int u0, .int v0]) (g_Ql D vwCl (g_A (ov κ ar x Z G) sz) (fun r u => ∃ z9 : Zo, ∃ T9 : Ho, sL_begin Z g0 s0 n0 u0 v0 = (r, T9) ∧ u.1 = ov κ ar (x.pgs z9) T9 G ∧ OK (x.pgs z9) T9 ∧ BX x z9 sz ∧ SZ T9 Z)) 1 6 (g_A (ov κ ar x Z G) sz) := by
  refine gH_ofW (by decide +kernel) (Nat.le_of_ble_eq_true rfl) ?_
  intro p e s m below meth c ls S hr hlk ht hE w hl
  have hx := S.1
  have hb := S.2.1
  have hl : lv_has ls 7 [(0, .ref (x.f .ho)), (1, .int g0), (2, .int s0), (3, .int n0), (4, .int u0), (5, .int v0)] := hl
  refine lv_aload_n hx hb dL_begin_0 rfl (lv_at hl 0 rfl) ?_
  refine lv_iload_n hx hb dL_begin_1 rfl (lv_at hl 1 rfl) ?_
  refine lv_iload_n hx hb dL_begin_2 rfl (lv_at hl 2 rfl) ?_
  refine lv_iload_n hx hb dL_begin_3 rfl (lv_at hl 3 rfl) ?_
  refine lv_iload hx hb dL_begin_4 (lv_at hl 4 rfl) ?_
  refine lv_iload hx hb dL_begin_6 (lv_at hl 5 rfl) ?_
  refine gx_calli w (gx_runV (As := [.int g0, .int s0, .int n0, .int u0, .int v0]) (rest := []) S hE w hl (hX8_begin l D ar κ G x Z sz g0 s0 n0 u0 v0 hk hlt) (k_RL_92 S.2.2.2.2 ⟨Nat.le_of_ble_eq_true rfl, Nat.le_of_ble_eq_true rfl⟩) (ov_r (t := .ho) (hk.e .ho rfl)) rfl rfl rfl rfl (Nat.le_of_ble_eq_true rfl) dL_begin_8 ⟨Nat.le_of_ble_eq_true rfl, Nat.le_of_ble_eq_true rfl⟩) (fun E ce q9 u H locs hp hnz w hce hv hcl => ?_) (fun r u H locs hp hnz w => ?_)
  · obtain ⟨z9, T9, e9, hu9, hk9, bx9, sq9⟩ := hp
    have hE9 := XI.get xi_begin e9
    rcases hE9 with rfl | rfl | rfl | rfl
    · refine vx_catch S.2.2.2.1 [] ⟨0, 12, 13, 17⟩ [⟨0, 12, 19, 23⟩, ⟨0, 12, 25, 27⟩, ⟨0, 12, 31, 47⟩] (ht.trans rfl) (by intro z hz; cases hz) rfl (by decide) (S.2.2.2.2 _ m_2_58) (va_Nw.use rfl (hE.2.1.1 _ (ckN_0 _ (List.mem_of_getElem? (i := 37) rfl)))) hce hv hcl ?_
      refine lv_astore (lv' := [(6, .ref q9), (0, .ref (x.f .ho)), (1, .int g0), (2, .int s0), (3, .int n0), (4, .int u0), (5, .int v0)]) hx hb dL_begin_13 hl (by decide) rfl (fun ls hl => ?_)
      refine lv_ldc2 hx hb S.2.2.2.1 (S.2.2.2.2 _ m_2_196) dL_begin_15 ?_
      exact g_lret hx hb hr hlk w (Nat.le_of_ble_eq_true rfl) (Nat.le_of_ble_eq_true rfl) dL_begin_18 ⟨z9, T9, wr_x e9 xvE_0, hu9, hk9, bx9, sq9⟩
    · refine vx_catch S.2.2.2.1 [⟨0, 12, 13, 17⟩] ⟨0, 12, 19, 23⟩ [⟨0, 12, 25, 27⟩, ⟨0, 12, 31, 47⟩] (ht.trans rfl) (by intro z hz; simp only [List.mem_cons, List.not_mem_nil, or_false] at hz; subst hz; exact Or.inr ⟨by decide, "java/lang/IndexOutOfBoundsException", S.2.2.2.2 _ m_2_58, hE.2.1.2.2 ("java/lang/IllegalArgumentException", "java/lang/IndexOutOfBoundsException") (List.mem_of_getElem? (i := 0) rfl)⟩) rfl (by decide) (S.2.2.2.2 _ m_3_34) (va_Nw.use rfl (hE.2.1.1 _ (ckN_1 _ (List.mem_of_getElem? (i := 4) rfl)))) hce hv hcl ?_
      refine lv_astore (lv' := [(6, .ref q9), (0, .ref (x.f .ho)), (1, .int g0), (2, .int s0), (3, .int n0), (4, .int u0), (5, .int v0)]) hx hb dL_begin_19 hl (by decide) rfl (fun ls hl => ?_)
      refine lv_ldc2 hx hb S.2.2.2.1 (S.2.2.2.2 _ m_2_197) dL_begin_21 ?_
      exact g_lret hx hb hr hlk w (Nat.le_of_ble_eq_true rfl) (Nat.le_of_ble_eq_true rfl) dL_begin_24 ⟨z9, T9, wr_x e9 ((xvE_s (by decide +kernel)).trans xvE_0), hu9, hk9, bx9, sq9⟩
    · refine vx_catch S.2.2.2.1 [⟨0, 12, 13, 17⟩, ⟨0, 12, 19, 23⟩] ⟨0, 12, 25, 27⟩ [⟨0, 12, 31, 47⟩] (ht.trans rfl) (by intro z hz; simp only [List.mem_cons, List.not_mem_nil, or_false] at hz; rcases hz with rfl | rfl; exact Or.inr ⟨by decide, "java/lang/IndexOutOfBoundsException", S.2.2.2.2 _ m_2_58, hE.2.1.2.2 ("java/lang/IllegalStateException", "java/lang/IndexOutOfBoundsException") (List.mem_of_getElem? (i := 1) rfl)⟩; exact Or.inr ⟨by decide, "java/lang/IllegalArgumentException", S.2.2.2.2 _ m_3_34, hE.2.1.2.2 ("java/lang/IllegalStateException", "java/lang/IllegalArgumentException") (List.mem_of_getElem? (i := 13) rfl)⟩) rfl (by decide) (S.2.2.2.2 _ m_3_35) (va_Nw.use rfl (hE.2.1.1 _ (ckN_1 _ (List.mem_of_getElem? (i := 5) rfl)))) hce hv hcl ?_
      refine lv_astore (lv' := [(6, .ref q9), (0, .ref (x.f .ho)), (1, .int g0), (2, .int s0), (3, .int n0), (4, .int u0), (5, .int v0)]) hx hb dL_begin_25 hl (by decide) rfl (fun ls hl => ?_)
      refine lv_ldc2 hx hb S.2.2.2.1 (S.2.2.2.2 _ m_3_127) dL_begin_27 ?_
      exact g_lret hx hb hr hlk w (Nat.le_of_ble_eq_true rfl) (Nat.le_of_ble_eq_true rfl) dL_begin_30 ⟨z9, T9, wr_x e9 ((xvE_s (by decide +kernel)).trans ((xvE_s (by decide +kernel)).trans xvE_0)), hu9, hk9, bx9, sq9⟩
    · refine vx_catch S.2.2.2.1 [⟨0, 12, 13, 17⟩, ⟨0, 12, 19, 23⟩, ⟨0, 12, 25, 27⟩] ⟨0, 12, 31, 47⟩ [] (ht.trans rfl) (by intro z hz; simp only [List.mem_cons, List.not_mem_nil, or_false] at hz; rcases hz with rfl | rfl | rfl; exact Or.inr ⟨by decide, "java/lang/IndexOutOfBoundsException", S.2.2.2.2 _ m_2_58, hE.2.1.2.2 ("java/lang/UnsupportedOperationException", "java/lang/IndexOutOfBoundsException") (List.mem_of_getElem? (i := 3) rfl)⟩; exact Or.inr ⟨by decide, "java/lang/IllegalArgumentException", S.2.2.2.2 _ m_3_34, hE.2.1.2.2 ("java/lang/UnsupportedOperationException", "java/lang/IllegalArgumentException") (List.mem_of_getElem? (i := 14) rfl)⟩; exact Or.inr ⟨by decide, "java/lang/IllegalStateException", S.2.2.2.2 _ m_3_35, hE.2.1.2.2 ("java/lang/UnsupportedOperationException", "java/lang/IllegalStateException") (List.mem_of_getElem? (i := 20) rfl)⟩) rfl (by decide) (S.2.2.2.2 _ m_3_36) (va_Nw.use rfl (hE.2.1.1 _ (ckN_1 _ (List.mem_of_getElem? (i := 7) rfl)))) hce hv hcl ?_
      refine lv_astore (lv' := [(6, .ref q9), (0, .ref (x.f .ho)), (1, .int g0), (2, .int s0), (3, .int n0), (4, .int u0), (5, .int v0)]) hx hb dL_begin_31 hl (by decide) rfl (fun ls hl => ?_)
      refine lv_ldc2 hx hb S.2.2.2.1 (S.2.2.2.2 _ m_3_128) dL_begin_33 ?_
      exact g_lret hx hb hr hlk w (Nat.le_of_ble_eq_true rfl) (Nat.le_of_ble_eq_true rfl) dL_begin_36 ⟨z9, T9, wr_x e9 ((xvE_s (by decide +kernel)).trans ((xvE_s (by decide +kernel)).trans ((xvE_s (by decide +kernel)).trans xvE_0))), hu9, hk9, bx9, sq9⟩
  · obtain ⟨z9, T9, e9, hu9, hk9, bx9, sq9⟩ := hp
    refine lv_i2l hx hb dL_begin_11 rfl ?_
    exact g_lret hx hb hr hlk w (Nat.le_of_ble_eq_true rfl) (Nat.le_of_ble_eq_true rfl) dL_begin_12 ⟨z9, T9, wr_v e9, hu9, hk9, bx9, sq9⟩
noncomputable def sL_go (Z : Ho) (n0 : Int32) : Int64 × Ho := wr [("java/lang/IllegalArgumentException", (-4000000000000000001)), ("java/lang/IllegalStateException", (-4000000000000000002))] (sX8_go Z n0)
set_option maxHeartbeats 4000000 in
set_option maxRecDepth 100000 in
theorem hL_go (l : Launch) (D : va_G) (ar : Nat → ClassId) (κ : Nat → Nat) (G : gW) (x : Xo) (Z : Ho) (sz : Nat) (n0 : Int32) (hk : OK x Z) (I : Int32 → Ho → Prop) (hI0 : I 0 Z) (hIw : ∀ d S, I d S → Wk S) (hIr : ∀ d S k, S.st = 115 → sX8_frameAt S (S.fn - 1) = some k → sX8_isStep S k = 0 → I d S → I d (sX8_doRow S k)) (hIs : ∀ d S k, S.st = 115 → sX8_frameAt S (S.fn - 1) = some k → ¬ sX8_isStep S k = 0 → ¬ d = n0 → I d S → I (d + 1) (sX8_doRow S k)) (hXI : ∀ E T, sX8_go Z n0 = .inr (E, T) → E = "java/lang/IllegalArgumentException" ∨ E = "java/lang/IllegalStateException") (hlt : l.stackTraces = false) : Met l yL_go (lwCW yL_go cL_go 3 (some .long) [(0, 6, 7, 23), (0, 6, 12, 27)]) (rD 13 30 5230) (g_Pc D vwCl (gT ar) (EX1 κ) (ov κ ar x Z G) sz [.ref (x.f .ho), .int n0]) (g_Ql D vwCl (g_A (ov κ ar x Z G) sz) (fun r u => ∃ z9 : Zo, ∃ T9 : Ho, sL_go Z n0 = (r, T9) ∧ u.1 = ov κ ar (x.pgs z9) T9 G ∧ OK (x.pgs z9) T9 ∧ BX x z9 sz ∧ SZW T9 Z)) 30 5230 (g_A (ov κ ar x Z G) sz) := by
  refine gH_ofW (by decide +kernel) (Nat.le_of_ble_eq_true rfl) ?_
  intro p e s m below meth c ls S hr hlk ht hE w hl
  have hx := S.1
  have hb := S.2.1
  have hl : lv_has ls 3 [(0, .ref (x.f .ho)), (1, .int n0)] := hl
  refine lv_aload_n hx hb dL_go_0 rfl (lv_at hl 0 rfl) ?_
  refine lv_iload_n hx hb dL_go_1 rfl (lv_at hl 1 rfl) ?_
  refine gx_calli w (gx_runV (As := [.int n0]) (rest := []) S hE w hl (hX8_go l D ar κ G x Z sz n0 hk I hI0 hIw hIr hIs hlt) (k_RL_98 S.2.2.2.2 ⟨Nat.le_of_ble_eq_true rfl, Nat.le_of_ble_eq_true rfl⟩) (ov_r (t := .ho) (hk.e .ho rfl)) rfl rfl rfl rfl (Nat.le_of_ble_eq_true rfl) dL_go_2 ⟨Nat.le_of_ble_eq_true rfl, Nat.le_of_ble_eq_true rfl⟩) (fun E ce q9 u H locs hp hnz w hce hv hcl => ?_) (fun r u H locs hp hnz w => ?_)
  · obtain ⟨z9, T9, e9, hu9, hk9, bx9, sq9⟩ := hp
    have hE9 := hXI _ _ e9
    rcases hE9 with rfl | rfl
    · refine vx_catch S.2.2.2.1 [] ⟨0, 6, 7, 23⟩ [⟨0, 6, 12, 27⟩] (ht.trans rfl) (by intro z hz; cases hz) rfl (by decide) (S.2.2.2.2 _ m_3_34) (va_Nw.use rfl (hE.2.1.1 _ (ckN_1 _ (List.mem_of_getElem? (i := 4) rfl)))) hce hv hcl ?_
      refine lv_astore_n (lv' := [(2, .ref q9), (0, .ref (x.f .ho)), (1, .int n0)]) hx hb dL_go_7 rfl hl (by decide) rfl (fun ls hl => ?_)
      refine lv_ldc2 hx hb S.2.2.2.1 (S.2.2.2.2 _ m_2_196) dL_go_8 ?_
      exact g_lret hx hb hr hlk w (Nat.le_of_ble_eq_true rfl) (Nat.le_of_ble_eq_true rfl) dL_go_11 ⟨z9, T9, wr_x e9 xvE_0, hu9, hk9, bx9, sq9⟩
    · refine vx_catch S.2.2.2.1 [⟨0, 6, 7, 23⟩] ⟨0, 6, 12, 27⟩ [] (ht.trans rfl) (by intro z hz; simp only [List.mem_cons, List.not_mem_nil, or_false] at hz; subst hz; exact Or.inr ⟨by decide, "java/lang/IllegalArgumentException", S.2.2.2.2 _ m_3_34, hE.2.1.2.2 ("java/lang/IllegalStateException", "java/lang/IllegalArgumentException") (List.mem_of_getElem? (i := 13) rfl)⟩) rfl (by decide) (S.2.2.2.2 _ m_3_35) (va_Nw.use rfl (hE.2.1.1 _ (ckN_1 _ (List.mem_of_getElem? (i := 5) rfl)))) hce hv hcl ?_
      refine lv_astore_n (lv' := [(2, .ref q9), (0, .ref (x.f .ho)), (1, .int n0)]) hx hb dL_go_12 rfl hl (by decide) rfl (fun ls hl => ?_)
      refine lv_ldc2 hx hb S.2.2.2.1 (S.2.2.2.2 _ m_2_197) dL_go_13 ?_
      exact g_lret hx hb hr hlk w (Nat.le_of_ble_eq_true rfl) (Nat.le_of_ble_eq_true rfl) dL_go_16 ⟨z9, T9, wr_x e9 ((xvE_s (by decide +kernel)).trans xvE_0), hu9, hk9, bx9, sq9⟩
  · obtain ⟨z9, T9, e9, hu9, hk9, bx9, sq9⟩ := hp
    refine lv_i2l hx hb dL_go_5 rfl ?_
    exact g_lret hx hb hr hlk w (Nat.le_of_ble_eq_true rfl) (Nat.le_of_ble_eq_true rfl) dL_go_6 ⟨z9, T9, wr_v e9, hu9, hk9, bx9, sq9⟩
theorem xi_end {Z : Ho} : XI (fun E => E = "java/lang/IllegalStateException") (sX8_end Z) := by
  unfold sX8_end
  repeat' (first | exact trivial | exact rfl | (refine XI.ite ?_ ?_) | (refine XI.rc ?_ (fun _ _ => ?_)) | (refine XI.oc ?_ (fun _ => ?_)) | (refine XI.pc (fun _ _ => ?_)) | (refine XI.vc (fun _ => ?_)))
def sL_end (Z : Ho) : Int64 × Ho := wr [("java/lang/IllegalStateException", (-4000000000000000001))] (sX8_end Z)
set_option maxHeartbeats 4000000 in
set_option maxRecDepth 100000 in
theorem hL_end (l : Launch) (D : va_G) (ar : Nat → ClassId) (κ : Nat → Nat) (G : gW) (x : Xo) (Z : Ho) (sz : Nat) (hk : OK x Z) (hlt : l.stackTraces = false) : Met l yL_end (lwCW yL_end cL_end 2 (some .long) [(0, 5, 6, 27)]) (rD 9 1 6) (g_Pc D vwCl (gT ar) (EX1 κ) (ov κ ar x Z G) sz [.ref (x.f .ho)]) (g_Ql D vwCl (g_A (ov κ ar x Z G) sz) (fun r u => ∃ T9 : Ho, sL_end Z = (r, T9) ∧ u.1 = ov κ ar x T9 G ∧ OK x T9 ∧ SZ T9 Z)) 1 6 (g_A (ov κ ar x Z G) sz) := by
  refine gH_ofW (by decide +kernel) (Nat.le_of_ble_eq_true rfl) ?_
  intro p e s m below meth c ls S hr hlk ht hE w hl
  have hx := S.1
  have hb := S.2.1
  have hl : lv_has ls 2 [(0, .ref (x.f .ho))] := hl
  refine lv_aload_n hx hb dL_end_0 rfl (lv_at hl 0 rfl) ?_
  refine gx_calli w (gx_runV (As := []) (rest := []) S hE w hl (hX8_end l D ar κ G x Z sz hk hlt) (k_RL_101 S.2.2.2.2 ⟨Nat.le_of_ble_eq_true rfl, Nat.le_of_ble_eq_true rfl⟩) (ov_r (t := .ho) (hk.e .ho rfl)) rfl rfl rfl rfl (Nat.le_of_ble_eq_true rfl) dL_end_1 ⟨Nat.le_of_ble_eq_true rfl, Nat.le_of_ble_eq_true rfl⟩) (fun E ce q9 u H locs hp hnz w hce hv hcl => ?_) (fun r u H locs hp hnz w => ?_)
  · obtain ⟨T9, e9, hu9, hk9, sq9⟩ := hp
    have hE9 := XI.get xi_end e9
    have hE9 : E = _ := hE9
    subst hE9
    refine vx_catch S.2.2.2.1 [] ⟨0, 5, 6, 27⟩ [] (ht.trans rfl) (by intro z hz; cases hz) rfl (by decide) (S.2.2.2.2 _ m_3_35) (va_Nw.use rfl (hE.2.1.1 _ (ckN_1 _ (List.mem_of_getElem? (i := 5) rfl)))) hce hv hcl ?_
    refine lv_astore_n (lv' := [(1, .ref q9), (0, .ref (x.f .ho))]) hx hb dL_end_6 rfl hl (by decide) rfl (fun ls hl => ?_)
    refine lv_ldc2 hx hb S.2.2.2.1 (S.2.2.2.2 _ m_2_196) dL_end_7 ?_
    exact g_lret hx hb hr hlk w (Nat.le_of_ble_eq_true rfl) (Nat.le_of_ble_eq_true rfl) dL_end_10 ⟨T9, wr_x e9 xvE_0, hu9, hk9, sq9⟩
  · obtain ⟨T9, e9, hu9, hk9, sq9⟩ := hp
    refine lv_i2l hx hb dL_end_4 rfl ?_
    exact g_lret hx hb hr hlk w (Nat.le_of_ble_eq_true rfl) (Nat.le_of_ble_eq_true rfl) dL_end_5 ⟨T9, wr_v e9, (congrArg Prod.fst hu9), hk9, sq9⟩
theorem xi_method {Z : Ho} {i0 j0 n0 t0 : Int32} : XI (fun E => E = "java/lang/IndexOutOfBoundsException" ∨ E = "java/lang/IllegalArgumentException" ∨ E = "java/lang/UnsupportedOperationException") (sX8_method Z i0 j0 n0 t0) := by
  unfold sX8_method sX8_checkPlaceOfMethod
  repeat' (first | exact trivial | exact rfl | exact (Or.inl rfl) | exact Or.inr (Or.inl rfl) | exact Or.inr (Or.inr (rfl)) | (refine XI.ite ?_ ?_) | (refine XI.rc ?_ (fun _ _ => ?_)) | (refine XI.oc ?_ (fun _ => ?_)) | (refine XI.pc (fun _ _ => ?_)) | (refine XI.vc (fun _ => ?_)))
def sL_method (Z : Ho) (i0 : Int32) (j0 : Int32) (n0 : Int32) (t0 : Int32) : Int64 × Ho := wr [("java/lang/IndexOutOfBoundsException", (-4000000000000000001)), ("java/lang/IllegalArgumentException", (-4000000000000000002)), ("java/lang/UnsupportedOperationException", (-4000000000000000003))] (sX8_method Z i0 j0 n0 t0)
set_option maxHeartbeats 4000000 in
set_option maxRecDepth 100000 in
theorem hL_method (l : Launch) (D : va_G) (ar : Nat → ClassId) (κ : Nat → Nat) (G : gW) (x : Xo) (Z : Ho) (sz : Nat) (i0 : Int32) (j0 : Int32) (n0 : Int32) (t0 : Int32) (hk : OK x Z) (hlt : l.stackTraces = false) : Met l yL_method (lwCW yL_method cL_method 6 (some .long) [(0, 10, 11, 17), (0, 10, 17, 23), (0, 10, 23, 47)]) (rD 11 8 140) (g_Pc D vwCl (gT ar) (EX1 κ) (ov κ ar x Z G) sz [.ref (x.f .ho), .int i0, .int j0, .int n0, .int t0]) (g_Ql D vwCl (g_A (ov κ ar x Z G) sz) (fun r u => ∃ (y9 : Xo) (T9 : Ho), sL_method Z i0 j0 n0 t0 = (r, T9) ∧ u.1 = ov κ ar y9 T9 G ∧ OK y9 T9 ∧ BY x y9 sz)) 8 140 (g_A (ov κ ar x Z G) sz) := by
  refine gH_ofW (by decide +kernel) (Nat.le_of_ble_eq_true rfl) ?_
  intro p e s m below meth c ls S hr hlk ht hE w hl
  have hx := S.1
  have hb := S.2.1
  have hl : lv_has ls 6 [(0, .ref (x.f .ho)), (1, .int i0), (2, .int j0), (3, .int n0), (4, .int t0)] := hl
  refine lv_aload_n hx hb dL_method_0 rfl (lv_at hl 0 rfl) ?_
  refine lv_iload_n hx hb dL_method_1 rfl (lv_at hl 1 rfl) ?_
  refine lv_iload_n hx hb dL_method_2 rfl (lv_at hl 2 rfl) ?_
  refine lv_iload_n hx hb dL_method_3 rfl (lv_at hl 3 rfl) ?_
  refine lv_iload hx hb dL_method_4 (lv_at hl 4 rfl) ?_
  have w := g_eqw w (ov_pro (a := sz) hk).symm
  refine gx_calli w (gx_runV (As := [.int i0, .int j0, .int n0, .int t0]) (rest := []) S hE w hl (hX8_method l D ar κ G (pro x Z sz) Z sz i0 j0 n0 t0 hk.pro pro_1 pro_2 hlt) (k_RL_43 S.2.2.2.2 ⟨Nat.le_of_ble_eq_true rfl, Nat.le_of_ble_eq_true rfl⟩) (ov_r (t := .ho) (hk.pro.e .ho rfl)) rfl rfl rfl rfl (Nat.le_of_ble_eq_true rfl) dL_method_6 ⟨Nat.le_of_ble_eq_true rfl, Nat.le_of_ble_eq_true rfl⟩) (fun E ce q9 u H locs hp hnz w hce hv hcl => ?_) (fun r u H locs hp hnz w => ?_)
  · obtain ⟨z9, T9, e9, hu9, hk9, bx9⟩ := hp
    have hE9 := XI.get xi_method e9
    rcases hE9 with rfl | rfl | rfl
    · refine vx_catch S.2.2.2.1 [] ⟨0, 10, 11, 17⟩ [⟨0, 10, 17, 23⟩, ⟨0, 10, 23, 47⟩] (ht.trans rfl) (by intro z hz; cases hz) rfl (by decide) (S.2.2.2.2 _ m_2_58) (va_Nw.use rfl (hE.2.1.1 _ (ckN_0 _ (List.mem_of_getElem? (i := 37) rfl)))) hce hv hcl ?_
      refine lv_astore (lv' := [(5, .ref q9), (0, .ref (x.f .ho)), (1, .int i0), (2, .int j0), (3, .int n0), (4, .int t0)]) hx hb dL_method_11 hl (by decide) rfl (fun ls hl => ?_)
      refine lv_ldc2 hx hb S.2.2.2.1 (S.2.2.2.2 _ m_2_196) dL_method_13 ?_
      exact g_lret hx hb hr hlk w (Nat.le_of_ble_eq_true rfl) (Nat.le_of_ble_eq_true rfl) dL_method_16 ⟨(pro x Z sz).pgs z9, T9, wr_x e9 xvE_0, hu9, hk9, BY.pro (BX.y bx9)⟩
    · refine vx_catch S.2.2.2.1 [⟨0, 10, 11, 17⟩] ⟨0, 10, 17, 23⟩ [⟨0, 10, 23, 47⟩] (ht.trans rfl) (by intro z hz; simp only [List.mem_cons, List.not_mem_nil, or_false] at hz; subst hz; exact Or.inr ⟨by decide, "java/lang/IndexOutOfBoundsException", S.2.2.2.2 _ m_2_58, hE.2.1.2.2 ("java/lang/IllegalArgumentException", "java/lang/IndexOutOfBoundsException") (List.mem_of_getElem? (i := 0) rfl)⟩) rfl (by decide) (S.2.2.2.2 _ m_3_34) (va_Nw.use rfl (hE.2.1.1 _ (ckN_1 _ (List.mem_of_getElem? (i := 4) rfl)))) hce hv hcl ?_
      refine lv_astore (lv' := [(5, .ref q9), (0, .ref (x.f .ho)), (1, .int i0), (2, .int j0), (3, .int n0), (4, .int t0)]) hx hb dL_method_17 hl (by decide) rfl (fun ls hl => ?_)
      refine lv_ldc2 hx hb S.2.2.2.1 (S.2.2.2.2 _ m_2_197) dL_method_19 ?_
      exact g_lret hx hb hr hlk w (Nat.le_of_ble_eq_true rfl) (Nat.le_of_ble_eq_true rfl) dL_method_22 ⟨(pro x Z sz).pgs z9, T9, wr_x e9 ((xvE_s (by decide +kernel)).trans xvE_0), hu9, hk9, BY.pro (BX.y bx9)⟩
    · refine vx_catch S.2.2.2.1 [⟨0, 10, 11, 17⟩, ⟨0, 10, 17, 23⟩] ⟨0, 10, 23, 47⟩ [] (ht.trans rfl) (by intro z hz; simp only [List.mem_cons, List.not_mem_nil, or_false] at hz; rcases hz with rfl | rfl; exact Or.inr ⟨by decide, "java/lang/IndexOutOfBoundsException", S.2.2.2.2 _ m_2_58, hE.2.1.2.2 ("java/lang/UnsupportedOperationException", "java/lang/IndexOutOfBoundsException") (List.mem_of_getElem? (i := 3) rfl)⟩; exact Or.inr ⟨by decide, "java/lang/IllegalArgumentException", S.2.2.2.2 _ m_3_34, hE.2.1.2.2 ("java/lang/UnsupportedOperationException", "java/lang/IllegalArgumentException") (List.mem_of_getElem? (i := 14) rfl)⟩) rfl (by decide) (S.2.2.2.2 _ m_3_36) (va_Nw.use rfl (hE.2.1.1 _ (ckN_1 _ (List.mem_of_getElem? (i := 7) rfl)))) hce hv hcl ?_
      refine lv_astore (lv' := [(5, .ref q9), (0, .ref (x.f .ho)), (1, .int i0), (2, .int j0), (3, .int n0), (4, .int t0)]) hx hb dL_method_23 hl (by decide) rfl (fun ls hl => ?_)
      refine lv_ldc2 hx hb S.2.2.2.1 (S.2.2.2.2 _ m_3_127) dL_method_25 ?_
      exact g_lret hx hb hr hlk w (Nat.le_of_ble_eq_true rfl) (Nat.le_of_ble_eq_true rfl) dL_method_28 ⟨(pro x Z sz).pgs z9, T9, wr_x e9 ((xvE_s (by decide +kernel)).trans ((xvE_s (by decide +kernel)).trans xvE_0)), hu9, hk9, BY.pro (BX.y bx9)⟩
  · obtain ⟨z9, T9, e9, hu9, hk9, bx9⟩ := hp
    refine lv_i2l hx hb dL_method_9 rfl ?_
    exact g_lret hx hb hr hlk w (Nat.le_of_ble_eq_true rfl) (Nat.le_of_ble_eq_true rfl) dL_method_10 ⟨(pro x Z sz).pgs z9, T9, wr_v e9, hu9, hk9, BY.pro (BX.y bx9)⟩
theorem xi_compile {x : Xo} {Z : Ho} {i0 j0 : Int32} : XI (fun E => E = "java/lang/IndexOutOfBoundsException" ∨ E = "java/util/NoSuchElementException") (sX8_compile x Z i0 j0) := by
  unfold sX8_compile sX8_checkedMethod sX8_checkPlaceOfMethod
  repeat' (first | exact trivial | exact rfl | exact (Or.inl rfl) | exact Or.inr (rfl) | (refine XI.ite ?_ ?_) | (refine XI.rc ?_ (fun _ _ => ?_)) | (refine XI.oc ?_ (fun _ => ?_)) | (refine XI.pc (fun _ _ => ?_)) | (refine XI.vc (fun _ => ?_)))
set_option maxHeartbeats 4000000 in
set_option maxRecDepth 100000 in
theorem hL_compile (l : Launch) (D : va_G) (ar : Nat → ClassId) (κ : Nat → Nat) (G : gW) (x : Xo) (Z : Ho) (sz : Nat) (i0 : Int32) (j0 : Int32) (hk : OK x Z) (hlt : l.stackTraces = false) : Met l yL_compile (lwCW yL_compile cL_compile 4 (some .long) [(0, 7, 8, 17), (0, 7, 13, 52)]) (rD 12 2 12) (g_Pc D vwCl (gT ar) (EX1 κ) (ov κ ar x Z G) sz [.ref (x.f .ho), .int i0, .int j0]) (g_Ql D vwCl (g_A (ov κ ar x Z G) sz) (fun r u => ∃ (y9 : Xo), u.1 = ov κ ar y9 Z G ∧ OK y9 Z ∧ BY x y9 sz)) 2 12 (g_A (ov κ ar x Z G) sz) := by
  refine gH_ofW (by decide +kernel) (Nat.le_of_ble_eq_true rfl) ?_
  intro p e s m below meth c ls S hr hlk ht hE w hl
  have hx := S.1
  have hb := S.2.1
  have hl : lv_has ls 4 [(0, .ref (x.f .ho)), (1, .int i0), (2, .int j0)] := hl
  refine lv_aload_n hx hb dL_compile_0 rfl (lv_at hl 0 rfl) ?_
  refine lv_iload_n hx hb dL_compile_1 rfl (lv_at hl 1 rfl) ?_
  refine lv_iload_n hx hb dL_compile_2 rfl (lv_at hl 2 rfl) ?_
  refine gx_calli w (gx_runV (As := [.int i0, .int j0]) (rest := []) S hE w hl (hX8_compile l D ar κ G x Z sz i0 j0 hk hlt) (k_RL_57 S.2.2.2.2 ⟨Nat.le_of_ble_eq_true rfl, Nat.le_of_ble_eq_true rfl⟩) (ov_r (t := .ho) (hk.e .ho rfl)) rfl rfl rfl rfl (Nat.le_of_ble_eq_true rfl) dL_compile_3 ⟨Nat.le_of_ble_eq_true rfl, Nat.le_of_ble_eq_true rfl⟩) (fun E ce q9 u H locs hp hnz w hce hv hcl => ?_) (fun r u H locs hp hnz w => ?_)
  · obtain ⟨z9, T9, e9, hu9, hk9, bx9, sq9⟩ := hp
    have hE9 := XI.get xi_compile e9
    rcases hE9 with rfl | rfl
    · refine vx_catch S.2.2.2.1 [] ⟨0, 7, 8, 17⟩ [⟨0, 7, 13, 52⟩] (ht.trans rfl) (by intro z hz; cases hz) rfl (by decide) (S.2.2.2.2 _ m_2_58) (va_Nw.use rfl (hE.2.1.1 _ (ckN_0 _ (List.mem_of_getElem? (i := 37) rfl)))) hce hv hcl ?_
      refine lv_astore_n (lv' := [(3, .ref q9), (0, .ref (x.f .ho)), (1, .int i0), (2, .int j0)]) hx hb dL_compile_8 rfl hl (by decide) rfl (fun ls hl => ?_)
      refine lv_ldc2 hx hb S.2.2.2.1 (S.2.2.2.2 _ m_2_196) dL_compile_9 ?_
      exact g_lret hx hb hr hlk w (Nat.le_of_ble_eq_true rfl) (Nat.le_of_ble_eq_true rfl) dL_compile_12 ⟨x.pgs z9, hu9.trans (congrArg (fun q9 => ov κ ar (x.pgs z9) q9 G) (fx_compile e9)), (fx_compile e9) ▸ hk9, BX.y bx9⟩
    · refine vx_catch S.2.2.2.1 [⟨0, 7, 8, 17⟩] ⟨0, 7, 13, 52⟩ [] (ht.trans rfl) (by intro z hz; simp only [List.mem_cons, List.not_mem_nil, or_false] at hz; subst hz; exact Or.inr ⟨by decide, "java/lang/IndexOutOfBoundsException", S.2.2.2.2 _ m_2_58, hE.2.1.2.2 ("java/util/NoSuchElementException", "java/lang/IndexOutOfBoundsException") (List.mem_of_getElem? (i := 4) rfl)⟩) rfl (by decide) (S.2.2.2.2 _ m_2_138) (va_Nw.use rfl (hE.2.1.1 _ (ckN_0 _ (List.mem_of_getElem? (i := 38) rfl)))) hce hv hcl ?_
      refine lv_astore_n (lv' := [(3, .ref q9), (0, .ref (x.f .ho)), (1, .int i0), (2, .int j0)]) hx hb dL_compile_13 rfl hl (by decide) rfl (fun ls hl => ?_)
      refine lv_ldc2 hx hb S.2.2.2.1 (S.2.2.2.2 _ m_2_197) dL_compile_14 ?_
      exact g_lret hx hb hr hlk w (Nat.le_of_ble_eq_true rfl) (Nat.le_of_ble_eq_true rfl) dL_compile_17 ⟨x.pgs z9, hu9.trans (congrArg (fun q9 => ov κ ar (x.pgs z9) q9 G) (fx_compile e9)), (fx_compile e9) ▸ hk9, BX.y bx9⟩
  · obtain ⟨z9, T9, e9, hu9, hk9, bx9, sq9⟩ := hp
    refine lv_i2l hx hb dL_compile_6 rfl ?_
    exact g_lret hx hb hr hlk w (Nat.le_of_ble_eq_true rfl) (Nat.le_of_ble_eq_true rfl) dL_compile_7 ⟨x.pgs z9, hu9.trans (congrArg (fun q9 => ov κ ar (x.pgs z9) q9 G) (fc_compile e9)), (fc_compile e9) ▸ hk9, BX.y bx9⟩
theorem xi_hot {x : Xo} {Z : Ho} {i0 : Int32} : XI (fun E => E = "java/lang/IllegalArgumentException") (sX8_hot x Z i0) := by
  unfold sX8_hot
  repeat' (first | exact trivial | exact rfl | (refine XI.ite ?_ ?_) | (refine XI.rc ?_ (fun _ _ => ?_)) | (refine XI.oc ?_ (fun _ => ?_)) | (refine XI.pc (fun _ _ => ?_)) | (refine XI.vc (fun _ => ?_)))
set_option maxHeartbeats 4000000 in
set_option maxRecDepth 100000 in
theorem hL_hot (l : Launch) (D : va_G) (ar : Nat → ClassId) (κ : Nat → Nat) (G : gW) (x : Xo) (Z : Ho) (sz : Nat) (i0 : Int32) (hk : OK x Z) (hlt : l.stackTraces = false) : Met l yL_hot (lwCW yL_hot cL_hot 3 (some .long) [(0, 6, 7, 23)]) (rD 9 1 6) (g_Pc D vwCl (gT ar) (EX1 κ) (ov κ ar x Z G) sz [.ref (x.f .ho), .int i0]) (g_Ql D vwCl (g_A (ov κ ar x Z G) sz) (fun r u => ∃ (y9 : Xo), u.1 = ov κ ar y9 Z G ∧ OK y9 Z ∧ BY x y9 sz)) 1 6 (g_A (ov κ ar x Z G) sz) := by
  refine gH_ofW (by decide +kernel) (Nat.le_of_ble_eq_true rfl) ?_
  intro p e s m below meth c ls S hr hlk ht hE w hl
  have hx := S.1
  have hb := S.2.1
  have hl : lv_has ls 3 [(0, .ref (x.f .ho)), (1, .int i0)] := hl
  refine lv_aload_n hx hb dL_hot_0 rfl (lv_at hl 0 rfl) ?_
  refine lv_iload_n hx hb dL_hot_1 rfl (lv_at hl 1 rfl) ?_
  refine gx_calli w (gx_runV (As := [.int i0]) (rest := []) S hE w hl (hX8_hot l D ar κ G x Z sz i0 hk hlt) (k_RL_60 S.2.2.2.2 ⟨Nat.le_of_ble_eq_true rfl, Nat.le_of_ble_eq_true rfl⟩) (ov_r (t := .ho) (hk.e .ho rfl)) rfl rfl rfl rfl (Nat.le_of_ble_eq_true rfl) dL_hot_2 ⟨Nat.le_of_ble_eq_true rfl, Nat.le_of_ble_eq_true rfl⟩) (fun E ce q9 u H locs hp hnz w hce hv hcl => ?_) (fun r u H locs hp hnz w => ?_)
  · obtain ⟨T9, e9, hu9, hk9, sq9⟩ := hp
    have hE9 := XI.get xi_hot e9
    have hE9 : E = _ := hE9
    subst hE9
    refine vx_catch S.2.2.2.1 [] ⟨0, 6, 7, 23⟩ [] (ht.trans rfl) (by intro z hz; cases hz) rfl (by decide) (S.2.2.2.2 _ m_3_34) (va_Nw.use rfl (hE.2.1.1 _ (ckN_1 _ (List.mem_of_getElem? (i := 4) rfl)))) hce hv hcl ?_
    refine lv_astore_n (lv' := [(2, .ref q9), (0, .ref (x.f .ho)), (1, .int i0)]) hx hb dL_hot_7 rfl hl (by decide) rfl (fun ls hl => ?_)
    refine lv_ldc2 hx hb S.2.2.2.1 (S.2.2.2.2 _ m_2_196) dL_hot_8 ?_
    exact g_lret hx hb hr hlk w (Nat.le_of_ble_eq_true rfl) (Nat.le_of_ble_eq_true rfl) dL_hot_11 ⟨x, hu9.trans (congrArg (fun q9 => ov κ ar x q9 G) (fx_hot e9)), hk, BY.r⟩
  · obtain ⟨T9, e9, hu9, hk9, sq9⟩ := hp
    refine lv_i2l hx hb dL_hot_5 rfl ?_
    exact g_lret hx hb hr hlk w (Nat.le_of_ble_eq_true rfl) (Nat.le_of_ble_eq_true rfl) dL_hot_6 ⟨x.sht i0, (congrArg Prod.fst hu9).trans (congrArg (fun q9 => ov κ ar (x.sht i0) q9 G) (fc_hot e9)), hk.sht, BY.sht⟩
