theorem dX8_add_0 : decode cX8_add 0 = .ok (.aload_n 0, 1) := by decide +kernel
theorem dX8_add_1 : decode cX8_add 1 = .ok (.getfield 10, 3) := by decide +kernel
theorem dX8_add_4 : decode cX8_add 4 = .ok (.iload_n 1, 1) := by decide +kernel
theorem dX8_add_5 : decode cX8_add 5 = .ok (.invokevirtual 83, 3) := by decide +kernel
theorem dX8_add_8 : decode cX8_add 8 = .ok (.ifCond .ne 13, 3) := by decide +kernel
theorem dX8_add_11 : decode cX8_add 11 = .ok (.new 87, 3) := by decide +kernel
theorem dX8_add_14 : decode cX8_add 14 = .ok (.dup, 1) := by decide +kernel
theorem dX8_add_15 : decode cX8_add 15 = .ok (.ldc 89, 2) := by decide +kernel
theorem dX8_add_17 : decode cX8_add 17 = .ok (.invokespecial 91, 3) := by decide +kernel
theorem dX8_add_20 : decode cX8_add 20 = .ok (.athrow, 1) := by decide +kernel
theorem dX8_add_21 : decode cX8_add 21 = .ok (.iload_n 1, 1) := by decide +kernel
theorem dX8_add_22 : decode cX8_add 22 = .ok (.invokestatic 94, 3) := by decide +kernel
theorem dX8_add_25 : decode cX8_add 25 = .ok (.ifCond .ne 26, 3) := by decide +kernel
theorem dX8_add_28 : decode cX8_add 28 = .ok (.iload_n 2, 1) := by decide +kernel
theorem dX8_add_29 : decode cX8_add 29 = .ok (.iconst 5, 1) := by decide +kernel
theorem dX8_add_30 : decode cX8_add 30 = .ok (.invokestatic 97, 3) := by decide +kernel
theorem dX8_add_33 : decode cX8_add 33 = .ok (.ifCond .eq 18, 3) := by decide +kernel
theorem dX8_add_36 : decode cX8_add 36 = .ok (.aload_n 0, 1) := by decide +kernel
theorem dX8_add_37 : decode cX8_add 37 = .ok (.getfield 10, 3) := by decide +kernel
theorem dX8_add_40 : decode cX8_add 40 = .ok (.iload_n 1, 1) := by decide +kernel
theorem dX8_add_41 : decode cX8_add 41 = .ok (.invokevirtual 101, 3) := by decide +kernel
theorem dX8_add_44 : decode cX8_add 44 = .ok (.iload_n 2, 1) := by decide +kernel
theorem dX8_add_45 : decode cX8_add 45 = .ok (.iadd, 1) := by decide +kernel
theorem dX8_add_46 : decode cX8_add 46 = .ok (.bipush 8, 2) := by decide +kernel
theorem dX8_add_48 : decode cX8_add 48 = .ok (.if_icmp .le 13, 3) := by decide +kernel
theorem dX8_add_51 : decode cX8_add 51 = .ok (.new 105, 3) := by decide +kernel
theorem dX8_add_54 : decode cX8_add 54 = .ok (.dup, 1) := by decide +kernel
theorem dX8_add_55 : decode cX8_add 55 = .ok (.ldc 107, 2) := by decide +kernel
theorem dX8_add_57 : decode cX8_add 57 = .ok (.invokespecial 109, 3) := by decide +kernel
theorem dX8_add_60 : decode cX8_add 60 = .ok (.athrow, 1) := by decide +kernel
theorem dX8_add_61 : decode cX8_add 61 = .ok (.aload_n 0, 1) := by decide +kernel
theorem dX8_add_62 : decode cX8_add 62 = .ok (.getfield 10, 3) := by decide +kernel
theorem dX8_add_65 : decode cX8_add 65 = .ok (.getfield 110, 3) := by decide +kernel
theorem dX8_add_68 : decode cX8_add 68 = .ok (.bipush 12, 2) := by decide +kernel
theorem dX8_add_70 : decode cX8_add 70 = .ok (.if_icmp .lt 13, 3) := by decide +kernel
theorem dX8_add_73 : decode cX8_add 73 = .ok (.new 113, 3) := by decide +kernel
theorem dX8_add_76 : decode cX8_add 76 = .ok (.dup, 1) := by decide +kernel
theorem dX8_add_77 : decode cX8_add 77 = .ok (.ldc 115, 2) := by decide +kernel
theorem dX8_add_79 : decode cX8_add 79 = .ok (.invokespecial 117, 3) := by decide +kernel
theorem dX8_add_82 : decode cX8_add 82 = .ok (.athrow, 1) := by decide +kernel
theorem dX8_add_83 : decode cX8_add 83 = .ok (.aload_n 0, 1) := by decide +kernel
theorem dX8_add_84 : decode cX8_add 84 = .ok (.getfield 10, 3) := by decide +kernel
theorem dX8_add_87 : decode cX8_add 87 = .ok (.iload_n 1, 1) := by decide +kernel
theorem dX8_add_88 : decode cX8_add 88 = .ok (.iload_n 2, 1) := by decide +kernel
theorem dX8_add_89 : decode cX8_add 89 = .ok (.invokevirtual 118, 3) := by decide +kernel
theorem dX8_add_92 : decode cX8_add 92 = .ok (.ireturn, 1) := by decide +kernel
theorem dX8_classes_0 : decode cX8_classes 0 = .ok (.aload_n 0, 1) := by decide +kernel
theorem dX8_classes_1 : decode cX8_classes 1 = .ok (.getfield 10, 3) := by decide +kernel
theorem dX8_classes_4 : decode cX8_classes 4 = .ok (.getfield 110, 3) := by decide +kernel
theorem dX8_classes_7 : decode cX8_classes 7 = .ok (.ireturn, 1) := by decide +kernel
theorem dX8_fields_0 : decode cX8_fields 0 = .ok (.aload_n 0, 1) := by decide +kernel
theorem dX8_fields_1 : decode cX8_fields 1 = .ok (.getfield 10, 3) := by decide +kernel
theorem dX8_fields_4 : decode cX8_fields 4 = .ok (.iload_n 1, 1) := by decide +kernel
theorem dX8_fields_5 : decode cX8_fields 5 = .ok (.invokevirtual 83, 3) := by decide +kernel
theorem dX8_fields_8 : decode cX8_fields 8 = .ok (.ifCond .ne 13, 3) := by decide +kernel
theorem dX8_fields_11 : decode cX8_fields 11 = .ok (.new 87, 3) := by decide +kernel
theorem dX8_fields_14 : decode cX8_fields 14 = .ok (.dup, 1) := by decide +kernel
theorem dX8_fields_15 : decode cX8_fields 15 = .ok (.ldc 89, 2) := by decide +kernel
theorem dX8_fields_17 : decode cX8_fields 17 = .ok (.invokespecial 91, 3) := by decide +kernel
theorem dX8_fields_20 : decode cX8_fields 20 = .ok (.athrow, 1) := by decide +kernel
theorem dX8_fields_21 : decode cX8_fields 21 = .ok (.aload_n 0, 1) := by decide +kernel
theorem dX8_fields_22 : decode cX8_fields 22 = .ok (.getfield 10, 3) := by decide +kernel
theorem dX8_fields_25 : decode cX8_fields 25 = .ok (.iload_n 1, 1) := by decide +kernel
theorem dX8_fields_26 : decode cX8_fields 26 = .ok (.invokevirtual 101, 3) := by decide +kernel
theorem dX8_fields_29 : decode cX8_fields 29 = .ok (.ireturn, 1) := by decide +kernel
theorem dX8_checkPlaceOfMethod_0 : decode cX8_checkPlaceOfMethod 0 = .ok (.aload_n 0, 1) := by decide +kernel
theorem dX8_checkPlaceOfMethod_1 : decode cX8_checkPlaceOfMethod 1 = .ok (.getfield 10, 3) := by decide +kernel
theorem dX8_checkPlaceOfMethod_4 : decode cX8_checkPlaceOfMethod 4 = .ok (.iload_n 1, 1) := by decide +kernel
theorem dX8_checkPlaceOfMethod_5 : decode cX8_checkPlaceOfMethod 5 = .ok (.invokevirtual 83, 3) := by decide +kernel
theorem dX8_checkPlaceOfMethod_8 : decode cX8_checkPlaceOfMethod 8 = .ok (.ifCond .eq 12, 3) := by decide +kernel
theorem dX8_checkPlaceOfMethod_11 : decode cX8_checkPlaceOfMethod 11 = .ok (.iload_n 2, 1) := by decide +kernel
theorem dX8_checkPlaceOfMethod_12 : decode cX8_checkPlaceOfMethod 12 = .ok (.bipush 16, 2) := by decide +kernel
theorem dX8_checkPlaceOfMethod_14 : decode cX8_checkPlaceOfMethod 14 = .ok (.invokestatic 97, 3) := by decide +kernel
theorem dX8_checkPlaceOfMethod_17 : decode cX8_checkPlaceOfMethod 17 = .ok (.ifCond .ne 13, 3) := by decide +kernel
theorem dX8_checkPlaceOfMethod_20 : decode cX8_checkPlaceOfMethod 20 = .ok (.new 87, 3) := by decide +kernel
theorem dX8_checkPlaceOfMethod_23 : decode cX8_checkPlaceOfMethod 23 = .ok (.dup, 1) := by decide +kernel
theorem dX8_checkPlaceOfMethod_24 : decode cX8_checkPlaceOfMethod 24 = .ok (.ldc 177, 2) := by decide +kernel
theorem dX8_checkPlaceOfMethod_26 : decode cX8_checkPlaceOfMethod 26 = .ok (.invokespecial 91, 3) := by decide +kernel
theorem dX8_checkPlaceOfMethod_29 : decode cX8_checkPlaceOfMethod 29 = .ok (.athrow, 1) := by decide +kernel
theorem dX8_checkPlaceOfMethod_30 : decode cX8_checkPlaceOfMethod 30 = .ok (.return_, 1) := by decide +kernel
theorem dX8_methodAt_0 : decode cX8_methodAt 0 = .ok (.iload_n 1, 1) := by decide +kernel
theorem dX8_methodAt_1 : decode cX8_methodAt 1 = .ok (.bipush 12, 2) := by decide +kernel
theorem dX8_methodAt_3 : decode cX8_methodAt 3 = .ok (.invokestatic 97, 3) := by decide +kernel
theorem dX8_methodAt_6 : decode cX8_methodAt 6 = .ok (.ifCond .eq 12, 3) := by decide +kernel
theorem dX8_methodAt_9 : decode cX8_methodAt 9 = .ok (.iload_n 2, 1) := by decide +kernel
theorem dX8_methodAt_10 : decode cX8_methodAt 10 = .ok (.bipush 16, 2) := by decide +kernel
theorem dX8_methodAt_12 : decode cX8_methodAt 12 = .ok (.invokestatic 97, 3) := by decide +kernel
theorem dX8_methodAt_15 : decode cX8_methodAt 15 = .ok (.ifCond .ne 5, 3) := by decide +kernel
theorem dX8_methodAt_18 : decode cX8_methodAt 18 = .ok (.aconst_null, 1) := by decide +kernel
theorem dX8_methodAt_19 : decode cX8_methodAt 19 = .ok (.areturn, 1) := by decide +kernel
theorem dX8_methodAt_20 : decode cX8_methodAt 20 = .ok (.aload_n 0, 1) := by decide +kernel
theorem dX8_methodAt_21 : decode cX8_methodAt 21 = .ok (.getfield 18, 3) := by decide +kernel
theorem dX8_methodAt_24 : decode cX8_methodAt 24 = .ok (.iload_n 1, 1) := by decide +kernel
theorem dX8_methodAt_25 : decode cX8_methodAt 25 = .ok (.bipush 16, 2) := by decide +kernel
theorem dX8_methodAt_27 : decode cX8_methodAt 27 = .ok (.imul, 1) := by decide +kernel
theorem dX8_methodAt_28 : decode cX8_methodAt 28 = .ok (.iload_n 2, 1) := by decide +kernel
theorem dX8_methodAt_29 : decode cX8_methodAt 29 = .ok (.iadd, 1) := by decide +kernel
theorem dX8_methodAt_30 : decode cX8_methodAt 30 = .ok (.aaload, 1) := by decide +kernel
theorem dX8_methodAt_31 : decode cX8_methodAt 31 = .ok (.areturn, 1) := by decide +kernel
theorem dX8_checkedMethod_0 : decode cX8_checkedMethod 0 = .ok (.aload_n 0, 1) := by decide +kernel
theorem dX8_checkedMethod_1 : decode cX8_checkedMethod 1 = .ok (.iload_n 1, 1) := by decide +kernel
theorem dX8_checkedMethod_2 : decode cX8_checkedMethod 2 = .ok (.iload_n 2, 1) := by decide +kernel
theorem dX8_checkedMethod_3 : decode cX8_checkedMethod 3 = .ok (.invokevirtual 134, 3) := by decide +kernel
theorem dX8_checkedMethod_6 : decode cX8_checkedMethod 6 = .ok (.aload_n 0, 1) := by decide +kernel
theorem dX8_checkedMethod_7 : decode cX8_checkedMethod 7 = .ok (.iload_n 1, 1) := by decide +kernel
theorem dX8_checkedMethod_8 : decode cX8_checkedMethod 8 = .ok (.iload_n 2, 1) := by decide +kernel
theorem dX8_checkedMethod_9 : decode cX8_checkedMethod 9 = .ok (.invokevirtual 179, 3) := by decide +kernel
theorem dX8_checkedMethod_12 : decode cX8_checkedMethod 12 = .ok (.astore_n 3, 1) := by decide +kernel
theorem dX8_checkedMethod_13 : decode cX8_checkedMethod 13 = .ok (.aload_n 3, 1) := by decide +kernel
theorem dX8_checkedMethod_14 : decode cX8_checkedMethod 14 = .ok (.ifnonnull 13, 3) := by decide +kernel
theorem dX8_checkedMethod_17 : decode cX8_checkedMethod 17 = .ok (.new 169, 3) := by decide +kernel
theorem dX8_checkedMethod_20 : decode cX8_checkedMethod 20 = .ok (.dup, 1) := by decide +kernel
theorem dX8_checkedMethod_21 : decode cX8_checkedMethod 21 = .ok (.ldc 182, 2) := by decide +kernel
theorem dX8_checkedMethod_23 : decode cX8_checkedMethod 23 = .ok (.invokespecial 173, 3) := by decide +kernel
theorem dX8_checkedMethod_26 : decode cX8_checkedMethod 26 = .ok (.athrow, 1) := by decide +kernel
theorem dX8_checkedMethod_27 : decode cX8_checkedMethod 27 = .ok (.aload_n 3, 1) := by decide +kernel
theorem dX8_checkedMethod_28 : decode cX8_checkedMethod 28 = .ok (.areturn, 1) := by decide +kernel
theorem dX8_lookUp_0 : decode cX8_lookUp 0 = .ok (.iload_n 1, 1) := by decide +kernel
theorem dX8_lookUp_1 : decode cX8_lookUp 1 = .ok (.istore_n 3, 1) := by decide +kernel
theorem dX8_lookUp_2 : decode cX8_lookUp 2 = .ok (.iconst 0, 1) := by decide +kernel
theorem dX8_lookUp_3 : decode cX8_lookUp 3 = .ok (.istore 4, 2) := by decide +kernel
theorem dX8_lookUp_5 : decode cX8_lookUp 5 = .ok (.iload 4, 2) := by decide +kernel
theorem dX8_lookUp_7 : decode cX8_lookUp 7 = .ok (.bipush 12, 2) := by decide +kernel
theorem dX8_lookUp_9 : decode cX8_lookUp 9 = .ok (.if_icmp .ge 39, 3) := by decide +kernel
theorem dX8_lookUp_12 : decode cX8_lookUp 12 = .ok (.iload_n 3, 1) := by decide +kernel
theorem dX8_lookUp_13 : decode cX8_lookUp 13 = .ok (.iconst (-1), 1) := by decide +kernel
theorem dX8_lookUp_14 : decode cX8_lookUp 14 = .ok (.if_icmp .eq 34, 3) := by decide +kernel
theorem dX8_lookUp_17 : decode cX8_lookUp 17 = .ok (.aload_n 0, 1) := by decide +kernel
theorem dX8_lookUp_18 : decode cX8_lookUp 18 = .ok (.iload_n 3, 1) := by decide +kernel
theorem dX8_lookUp_19 : decode cX8_lookUp 19 = .ok (.iload_n 2, 1) := by decide +kernel
theorem dX8_lookUp_20 : decode cX8_lookUp 20 = .ok (.invokevirtual 179, 3) := by decide +kernel
theorem dX8_lookUp_23 : decode cX8_lookUp 23 = .ok (.astore 5, 2) := by decide +kernel
theorem dX8_lookUp_25 : decode cX8_lookUp 25 = .ok (.aload 5, 2) := by decide +kernel
theorem dX8_lookUp_27 : decode cX8_lookUp 27 = .ok (.ifnull 6, 3) := by decide +kernel
theorem dX8_lookUp_30 : decode cX8_lookUp 30 = .ok (.aload 5, 2) := by decide +kernel
theorem dX8_lookUp_32 : decode cX8_lookUp 32 = .ok (.areturn, 1) := by decide +kernel
theorem dX8_lookUp_33 : decode cX8_lookUp 33 = .ok (.aload_n 0, 1) := by decide +kernel
theorem dX8_lookUp_34 : decode cX8_lookUp 34 = .ok (.getfield 10, 3) := by decide +kernel
theorem dX8_lookUp_37 : decode cX8_lookUp 37 = .ok (.iload_n 3, 1) := by decide +kernel
theorem dX8_lookUp_38 : decode cX8_lookUp 38 = .ok (.invokevirtual 184, 3) := by decide +kernel
theorem dX8_lookUp_41 : decode cX8_lookUp 41 = .ok (.istore_n 3, 1) := by decide +kernel
theorem dX8_lookUp_42 : decode cX8_lookUp 42 = .ok (.iinc 4 1, 3) := by decide +kernel
theorem dX8_lookUp_45 : decode cX8_lookUp 45 = .ok (.goto (-40), 3) := by decide +kernel
theorem dX8_lookUp_48 : decode cX8_lookUp 48 = .ok (.aconst_null, 1) := by decide +kernel
theorem dX8_lookUp_49 : decode cX8_lookUp 49 = .ok (.areturn, 1) := by decide +kernel
theorem dX8_remove_0 : decode cX8_remove 0 = .ok (.aload_n 0, 1) := by decide +kernel
theorem dX8_remove_1 : decode cX8_remove 1 = .ok (.iload_n 1, 1) := by decide +kernel
theorem dX8_remove_2 : decode cX8_remove 2 = .ok (.iload_n 2, 1) := by decide +kernel
theorem dX8_remove_3 : decode cX8_remove 3 = .ok (.invokevirtual 159, 3) := by decide +kernel
theorem dX8_remove_6 : decode cX8_remove 6 = .ok (.astore_n 3, 1) := by decide +kernel
theorem dX8_remove_7 : decode cX8_remove 7 = .ok (.aload_n 0, 1) := by decide +kernel
theorem dX8_remove_8 : decode cX8_remove 8 = .ok (.iload_n 1, 1) := by decide +kernel
theorem dX8_remove_9 : decode cX8_remove 9 = .ok (.iload_n 2, 1) := by decide +kernel
theorem dX8_remove_10 : decode cX8_remove 10 = .ok (.aconst_null, 1) := by decide +kernel
theorem dX8_remove_11 : decode cX8_remove 11 = .ok (.invokevirtual 152, 3) := by decide +kernel
theorem dX8_remove_14 : decode cX8_remove 14 = .ok (.aload_n 3, 1) := by decide +kernel
theorem dX8_remove_15 : decode cX8_remove 15 = .ok (.getfield 163, 3) := by decide +kernel
theorem dX8_remove_18 : decode cX8_remove 18 = .ok (.ireturn, 1) := by decide +kernel
theorem dX8_calls_0 : decode cX8_calls 0 = .ok (.aload_n 0, 1) := by decide +kernel
theorem dX8_calls_1 : decode cX8_calls 1 = .ok (.iload_n 1, 1) := by decide +kernel
theorem dX8_calls_2 : decode cX8_calls 2 = .ok (.iload_n 2, 1) := by decide +kernel
theorem dX8_calls_3 : decode cX8_calls 3 = .ok (.invokevirtual 159, 3) := by decide +kernel
theorem dX8_calls_6 : decode cX8_calls 6 = .ok (.getfield 163, 3) := by decide +kernel
theorem dX8_calls_9 : decode cX8_calls 9 = .ok (.ireturn, 1) := by decide +kernel
theorem dX8_compile_0 : decode cX8_compile 0 = .ok (.aload_n 0, 1) := by decide +kernel
theorem dX8_compile_1 : decode cX8_compile 1 = .ok (.iload_n 1, 1) := by decide +kernel
theorem dX8_compile_2 : decode cX8_compile 2 = .ok (.iload_n 2, 1) := by decide +kernel
theorem dX8_compile_3 : decode cX8_compile 3 = .ok (.invokevirtual 159, 3) := by decide +kernel
theorem dX8_compile_6 : decode cX8_compile 6 = .ok (.iconst 1, 1) := by decide +kernel
theorem dX8_compile_7 : decode cX8_compile 7 = .ok (.putfield 187, 3) := by decide +kernel
theorem dX8_compile_10 : decode cX8_compile 10 = .ok (.aload_n 0, 1) := by decide +kernel
theorem dX8_compile_11 : decode cX8_compile 11 = .ok (.invokevirtual 191, 3) := by decide +kernel
theorem dX8_compile_14 : decode cX8_compile 14 = .ok (.ireturn, 1) := by decide +kernel
theorem dX8_isCompiled_0 : decode cX8_isCompiled 0 = .ok (.aload_n 0, 1) := by decide +kernel
theorem dX8_isCompiled_1 : decode cX8_isCompiled 1 = .ok (.iload_n 1, 1) := by decide +kernel
theorem dX8_isCompiled_2 : decode cX8_isCompiled 2 = .ok (.iload_n 2, 1) := by decide +kernel
theorem dX8_isCompiled_3 : decode cX8_isCompiled 3 = .ok (.invokevirtual 159, 3) := by decide +kernel
theorem dX8_isCompiled_6 : decode cX8_isCompiled 6 = .ok (.getfield 187, 3) := by decide +kernel
theorem dX8_isCompiled_9 : decode cX8_isCompiled 9 = .ok (.ireturn, 1) := by decide +kernel
theorem dX8_find_0 : decode cX8_find 0 = .ok (.aload_n 0, 1) := by decide +kernel
theorem dX8_find_1 : decode cX8_find 1 = .ok (.iload_n 1, 1) := by decide +kernel
theorem dX8_find_2 : decode cX8_find 2 = .ok (.iload_n 2, 1) := by decide +kernel
theorem dX8_find_3 : decode cX8_find 3 = .ok (.invokevirtual 134, 3) := by decide +kernel
theorem dX8_find_6 : decode cX8_find 6 = .ok (.aload_n 0, 1) := by decide +kernel
theorem dX8_find_7 : decode cX8_find 7 = .ok (.iload_n 1, 1) := by decide +kernel
theorem dX8_find_8 : decode cX8_find 8 = .ok (.iload_n 2, 1) := by decide +kernel
theorem dX8_find_9 : decode cX8_find 9 = .ok (.invokevirtual 166, 3) := by decide +kernel
theorem dX8_find_12 : decode cX8_find 12 = .ok (.astore_n 3, 1) := by decide +kernel
theorem dX8_find_13 : decode cX8_find 13 = .ok (.aload_n 3, 1) := by decide +kernel
theorem dX8_find_14 : decode cX8_find 14 = .ok (.ifnonnull 13, 3) := by decide +kernel
theorem dX8_find_17 : decode cX8_find 17 = .ok (.new 169, 3) := by decide +kernel
theorem dX8_find_20 : decode cX8_find 20 = .ok (.dup, 1) := by decide +kernel
theorem dX8_find_21 : decode cX8_find 21 = .ok (.ldc 171, 2) := by decide +kernel
theorem dX8_find_23 : decode cX8_find 23 = .ok (.invokespecial 173, 3) := by decide +kernel
theorem dX8_find_26 : decode cX8_find 26 = .ok (.athrow, 1) := by decide +kernel
theorem dX8_find_27 : decode cX8_find 27 = .ok (.aload_n 3, 1) := by decide +kernel
theorem dX8_find_28 : decode cX8_find 28 = .ok (.getfield 174, 3) := by decide +kernel
theorem dX8_find_31 : decode cX8_find 31 = .ok (.ireturn, 1) := by decide +kernel
theorem dX8_hot_0 : decode cX8_hot 0 = .ok (.iload_n 1, 1) := by decide +kernel
theorem dX8_hot_1 : decode cX8_hot 1 = .ok (.bipush 100, 2) := by decide +kernel
theorem dX8_hot_3 : decode cX8_hot 3 = .ok (.invokestatic 97, 3) := by decide +kernel
theorem dX8_hot_6 : decode cX8_hot 6 = .ok (.ifCond .ne 13, 3) := by decide +kernel
theorem dX8_hot_9 : decode cX8_hot 9 = .ok (.new 105, 3) := by decide +kernel
theorem dX8_hot_12 : decode cX8_hot 12 = .ok (.dup, 1) := by decide +kernel
theorem dX8_hot_13 : decode cX8_hot 13 = .ok (.ldc 138, 2) := by decide +kernel
theorem dX8_hot_15 : decode cX8_hot 15 = .ok (.invokespecial 109, 3) := by decide +kernel
theorem dX8_hot_18 : decode cX8_hot 18 = .ok (.athrow, 1) := by decide +kernel
theorem dX8_hot_19 : decode cX8_hot 19 = .ok (.aload_n 0, 1) := by decide +kernel
theorem dX8_hot_20 : decode cX8_hot 20 = .ok (.getfield 29, 3) := by decide +kernel
theorem dX8_hot_23 : decode cX8_hot 23 = .ok (.istore_n 2, 1) := by decide +kernel
theorem dX8_hot_24 : decode cX8_hot 24 = .ok (.aload_n 0, 1) := by decide +kernel
theorem dX8_hot_25 : decode cX8_hot 25 = .ok (.iload_n 1, 1) := by decide +kernel
theorem dX8_hot_26 : decode cX8_hot 26 = .ok (.putfield 29, 3) := by decide +kernel
theorem dX8_hot_29 : decode cX8_hot 29 = .ok (.iload_n 2, 1) := by decide +kernel
theorem dX8_hot_30 : decode cX8_hot 30 = .ok (.ireturn, 1) := by decide +kernel
theorem dX8_checkGlobal_0 : decode cX8_checkGlobal 0 = .ok (.iload_n 1, 1) := by decide +kernel
theorem dX8_checkGlobal_1 : decode cX8_checkGlobal 1 = .ok (.bipush 8, 2) := by decide +kernel
theorem dX8_checkGlobal_3 : decode cX8_checkGlobal 3 = .ok (.invokestatic 97, 3) := by decide +kernel
theorem dX8_checkGlobal_6 : decode cX8_checkGlobal 6 = .ok (.ifCond .ne 14, 3) := by decide +kernel
theorem dX8_checkGlobal_9 : decode cX8_checkGlobal 9 = .ok (.new 87, 3) := by decide +kernel
theorem dX8_checkGlobal_12 : decode cX8_checkGlobal 12 = .ok (.dup, 1) := by decide +kernel
theorem dX8_checkGlobal_13 : decode cX8_checkGlobal 13 = .ok (.ldc_w 265, 3) := by decide +kernel
theorem dX8_checkGlobal_16 : decode cX8_checkGlobal 16 = .ok (.invokespecial 91, 3) := by decide +kernel
theorem dX8_checkGlobal_19 : decode cX8_checkGlobal 19 = .ok (.athrow, 1) := by decide +kernel
theorem dX8_checkGlobal_20 : decode cX8_checkGlobal 20 = .ok (.return_, 1) := by decide +kernel
theorem dX8_ofNumber_0 : decode cX8_ofNumber 0 = .ok (.ldc2_w 505, 3) := by decide +kernel
theorem dX8_ofNumber_3 : decode cX8_ofNumber 3 = .ok (.iload_n 0, 1) := by decide +kernel
theorem dX8_ofNumber_4 : decode cX8_ofNumber 4 = .ok (.i2l, 1) := by decide +kernel
theorem dX8_ofNumber_5 : decode cX8_ofNumber 5 = .ok (.ldc2_w 507, 3) := by decide +kernel
theorem dX8_ofNumber_8 : decode cX8_ofNumber 8 = .ok (.land, 1) := by decide +kernel
theorem dX8_ofNumber_9 : decode cX8_ofNumber 9 = .ok (.lor, 1) := by decide +kernel
theorem dX8_ofNumber_10 : decode cX8_ofNumber 10 = .ok (.lreturn, 1) := by decide +kernel
theorem dX8_ofThing_0 : decode cX8_ofThing 0 = .ok (.ldc2_w 509, 3) := by decide +kernel
theorem dX8_ofThing_3 : decode cX8_ofThing 3 = .ok (.iload_n 0, 1) := by decide +kernel
theorem dX8_ofThing_4 : decode cX8_ofThing 4 = .ok (.i2l, 1) := by decide +kernel
theorem dX8_ofThing_5 : decode cX8_ofThing 5 = .ok (.ldc2_w 507, 3) := by decide +kernel
theorem dX8_ofThing_8 : decode cX8_ofThing 8 = .ok (.land, 1) := by decide +kernel
theorem dX8_ofThing_9 : decode cX8_ofThing 9 = .ok (.lor, 1) := by decide +kernel
theorem dX8_ofThing_10 : decode cX8_ofThing 10 = .ok (.lreturn, 1) := by decide +kernel
theorem dX8_number_0 : decode cX8_number 0 = .ok (.aload_n 0, 1) := by decide +kernel
theorem dX8_number_1 : decode cX8_number 1 = .ok (.iload_n 1, 1) := by decide +kernel
theorem dX8_number_2 : decode cX8_number 2 = .ok (.invokevirtual 195, 3) := by decide +kernel
theorem dX8_number_5 : decode cX8_number 5 = .ok (.aload_n 0, 1) := by decide +kernel
theorem dX8_number_6 : decode cX8_number 6 = .ok (.getfield 33, 3) := by decide +kernel
theorem dX8_number_9 : decode cX8_number 9 = .ok (.iload_n 1, 1) := by decide +kernel
theorem dX8_number_10 : decode cX8_number 10 = .ok (.iload_n 2, 1) := by decide +kernel
theorem dX8_number_11 : decode cX8_number 11 = .ok (.invokestatic 199, 3) := by decide +kernel
theorem dX8_number_14 : decode cX8_number 14 = .ok (.invokestatic 203, 3) := by decide +kernel
theorem dX8_number_17 : decode cX8_number 17 = .ok (.aload_n 0, 1) := by decide +kernel
theorem dX8_number_18 : decode cX8_number 18 = .ok (.getfield 40, 3) := by decide +kernel
theorem dX8_number_21 : decode cX8_number 21 = .ok (.getfield 207, 3) := by decide +kernel
theorem dX8_number_24 : decode cX8_number 24 = .ok (.ireturn, 1) := by decide +kernel
theorem dX8_nothing_0 : decode cX8_nothing 0 = .ok (.aload_n 0, 1) := by decide +kernel
theorem dX8_nothing_1 : decode cX8_nothing 1 = .ok (.iload_n 1, 1) := by decide +kernel
theorem dX8_nothing_2 : decode cX8_nothing 2 = .ok (.invokevirtual 195, 3) := by decide +kernel
theorem dX8_nothing_5 : decode cX8_nothing 5 = .ok (.aload_n 0, 1) := by decide +kernel
theorem dX8_nothing_6 : decode cX8_nothing 6 = .ok (.getfield 33, 3) := by decide +kernel
theorem dX8_nothing_9 : decode cX8_nothing 9 = .ok (.iload_n 1, 1) := by decide +kernel
theorem dX8_nothing_10 : decode cX8_nothing 10 = .ok (.ldc2_w 60, 3) := by decide +kernel
theorem dX8_nothing_13 : decode cX8_nothing 13 = .ok (.invokestatic 203, 3) := by decide +kernel
theorem dX8_nothing_16 : decode cX8_nothing 16 = .ok (.aload_n 0, 1) := by decide +kernel
theorem dX8_nothing_17 : decode cX8_nothing 17 = .ok (.getfield 40, 3) := by decide +kernel
theorem dX8_nothing_20 : decode cX8_nothing 20 = .ok (.getfield 207, 3) := by decide +kernel
theorem dX8_nothing_23 : decode cX8_nothing 23 = .ok (.ireturn, 1) := by decide +kernel
theorem dX8_kind_0 : decode cX8_kind 0 = .ok (.aload_n 0, 1) := by decide +kernel
theorem dX8_kind_1 : decode cX8_kind 1 = .ok (.iload_n 1, 1) := by decide +kernel
theorem dX8_kind_2 : decode cX8_kind 2 = .ok (.invokevirtual 195, 3) := by decide +kernel
theorem dX8_kind_5 : decode cX8_kind 5 = .ok (.aload_n 0, 1) := by decide +kernel
theorem dX8_kind_6 : decode cX8_kind 6 = .ok (.getfield 33, 3) := by decide +kernel
theorem dX8_kind_9 : decode cX8_kind 9 = .ok (.iload_n 1, 1) := by decide +kernel
theorem dX8_kind_10 : decode cX8_kind 10 = .ok (.invokestatic 222, 3) := by decide +kernel
theorem dX8_kind_13 : decode cX8_kind 13 = .ok (.invokestatic 226, 3) := by decide +kernel
theorem dX8_kind_16 : decode cX8_kind 16 = .ok (.ireturn, 1) := by decide +kernel
theorem dX8_value_0 : decode cX8_value 0 = .ok (.aload_n 0, 1) := by decide +kernel
theorem dX8_value_1 : decode cX8_value 1 = .ok (.iload_n 1, 1) := by decide +kernel
theorem dX8_value_2 : decode cX8_value 2 = .ok (.invokevirtual 195, 3) := by decide +kernel
theorem dX8_value_5 : decode cX8_value 5 = .ok (.aload_n 0, 1) := by decide +kernel
theorem dX8_value_6 : decode cX8_value 6 = .ok (.getfield 33, 3) := by decide +kernel
theorem dX8_value_9 : decode cX8_value 9 = .ok (.iload_n 1, 1) := by decide +kernel
theorem dX8_value_10 : decode cX8_value 10 = .ok (.invokestatic 222, 3) := by decide +kernel
theorem dX8_value_13 : decode cX8_value 13 = .ok (.invokestatic 230, 3) := by decide +kernel
theorem dX8_value_16 : decode cX8_value 16 = .ok (.ireturn, 1) := by decide +kernel
theorem dX5_isFull_0 : decode cX5_isFull 0 = .ok (.aload_n 0, 1) := by decide +kernel
theorem dX5_isFull_1 : decode cX5_isFull 1 = .ok (.getfield 20, 3) := by decide +kernel
theorem dX5_isFull_4 : decode cX5_isFull 4 = .ok (.bipush 60, 2) := by decide +kernel
theorem dX5_isFull_6 : decode cX5_isFull 6 = .ok (.if_icmp .lt 7, 3) := by decide +kernel
theorem dX5_isFull_9 : decode cX5_isFull 9 = .ok (.iconst 1, 1) := by decide +kernel
theorem dX5_isFull_10 : decode cX5_isFull 10 = .ok (.goto 4, 3) := by decide +kernel
theorem dX5_isFull_13 : decode cX5_isFull 13 = .ok (.iconst 0, 1) := by decide +kernel
theorem dX5_isFull_14 : decode cX5_isFull 14 = .ok (.ireturn, 1) := by decide +kernel
theorem dX5_withNumber_0 : decode cX5_withNumber 0 = .ok (.iconst 0, 1) := by decide +kernel
theorem dX5_withNumber_1 : decode cX5_withNumber 1 = .ok (.istore_n 2, 1) := by decide +kernel
theorem dX5_withNumber_2 : decode cX5_withNumber 2 = .ok (.aload_n 0, 1) := by decide +kernel
theorem dX5_withNumber_3 : decode cX5_withNumber 3 = .ok (.getfield 20, 3) := by decide +kernel
theorem dX5_withNumber_6 : decode cX5_withNumber 6 = .ok (.iconst 1, 1) := by decide +kernel
theorem dX5_withNumber_7 : decode cX5_withNumber 7 = .ok (.isub, 1) := by decide +kernel
theorem dX5_withNumber_8 : decode cX5_withNumber 8 = .ok (.istore_n 3, 1) := by decide +kernel
theorem dX5_withNumber_9 : decode cX5_withNumber 9 = .ok (.iconst 0, 1) := by decide +kernel
theorem dX5_withNumber_10 : decode cX5_withNumber 10 = .ok (.istore 4, 2) := by decide +kernel
theorem dX5_withNumber_12 : decode cX5_withNumber 12 = .ok (.iload 4, 2) := by decide +kernel
theorem dX5_withNumber_14 : decode cX5_withNumber 14 = .ok (.bipush 60, 2) := by decide +kernel
theorem dX5_withNumber_16 : decode cX5_withNumber 16 = .ok (.if_icmp .ge 86, 3) := by decide +kernel
theorem dX5_withNumber_19 : decode cX5_withNumber 19 = .ok (.iload_n 2, 1) := by decide +kernel
theorem dX5_withNumber_20 : decode cX5_withNumber 20 = .ok (.iload_n 3, 1) := by decide +kernel
theorem dX5_withNumber_21 : decode cX5_withNumber 21 = .ok (.if_icmp .gt 81, 3) := by decide +kernel
theorem dX5_withNumber_24 : decode cX5_withNumber 24 = .ok (.iload_n 2, 1) := by decide +kernel
theorem dX5_withNumber_25 : decode cX5_withNumber 25 = .ok (.iload_n 3, 1) := by decide +kernel
theorem dX5_withNumber_26 : decode cX5_withNumber 26 = .ok (.iadd, 1) := by decide +kernel
theorem dX5_withNumber_27 : decode cX5_withNumber 27 = .ok (.iconst 2, 1) := by decide +kernel
theorem dX5_withNumber_28 : decode cX5_withNumber 28 = .ok (.idiv, 1) := by decide +kernel
theorem dX5_withNumber_29 : decode cX5_withNumber 29 = .ok (.istore 5, 2) := by decide +kernel
theorem dX5_withNumber_31 : decode cX5_withNumber 31 = .ok (.iload 5, 2) := by decide +kernel
theorem dX5_withNumber_33 : decode cX5_withNumber 33 = .ok (.aload_n 0, 1) := by decide +kernel
theorem dX5_withNumber_34 : decode cX5_withNumber 34 = .ok (.getfield 11, 3) := by decide +kernel
theorem dX5_withNumber_37 : decode cX5_withNumber 37 = .ok (.arraylength, 1) := by decide +kernel
theorem dX5_withNumber_38 : decode cX5_withNumber 38 = .ok (.invokestatic 31, 3) := by decide +kernel
theorem dX5_withNumber_41 : decode cX5_withNumber 41 = .ok (.ifCond .eq 13, 3) := by decide +kernel
theorem dX5_withNumber_44 : decode cX5_withNumber 44 = .ok (.aload_n 0, 1) := by decide +kernel
theorem dX5_withNumber_45 : decode cX5_withNumber 45 = .ok (.getfield 11, 3) := by decide +kernel
theorem dX5_withNumber_48 : decode cX5_withNumber 48 = .ok (.iload 5, 2) := by decide +kernel
theorem dX5_withNumber_50 : decode cX5_withNumber 50 = .ok (.aaload, 1) := by decide +kernel
theorem dX5_withNumber_51 : decode cX5_withNumber 51 = .ok (.goto 4, 3) := by decide +kernel
theorem dX5_withNumber_54 : decode cX5_withNumber 54 = .ok (.aconst_null, 1) := by decide +kernel
theorem dX5_withNumber_55 : decode cX5_withNumber 55 = .ok (.astore 6, 2) := by decide +kernel
theorem dX5_withNumber_57 : decode cX5_withNumber 57 = .ok (.aload 6, 2) := by decide +kernel
theorem dX5_withNumber_59 : decode cX5_withNumber 59 = .ok (.ifnull 12, 3) := by decide +kernel
theorem dX5_withNumber_62 : decode cX5_withNumber 62 = .ok (.aload 6, 2) := by decide +kernel
theorem dX5_withNumber_64 : decode cX5_withNumber 64 = .ok (.getfield 39, 3) := by decide +kernel
theorem dX5_withNumber_67 : decode cX5_withNumber 67 = .ok (.iload_n 1, 1) := by decide +kernel
theorem dX5_withNumber_68 : decode cX5_withNumber 68 = .ok (.if_icmp .ne 6, 3) := by decide +kernel
theorem dX5_withNumber_71 : decode cX5_withNumber 71 = .ok (.aload 6, 2) := by decide +kernel
theorem dX5_withNumber_73 : decode cX5_withNumber 73 = .ok (.areturn, 1) := by decide +kernel
theorem dX5_withNumber_74 : decode cX5_withNumber 74 = .ok (.aload 6, 2) := by decide +kernel
theorem dX5_withNumber_76 : decode cX5_withNumber 76 = .ok (.getfield 39, 3) := by decide +kernel
theorem dX5_withNumber_79 : decode cX5_withNumber 79 = .ok (.iload_n 1, 1) := by decide +kernel
theorem dX5_withNumber_80 : decode cX5_withNumber 80 = .ok (.if_icmp .ge 11, 3) := by decide +kernel
theorem dX5_withNumber_83 : decode cX5_withNumber 83 = .ok (.iload 5, 2) := by decide +kernel
theorem dX5_withNumber_85 : decode cX5_withNumber 85 = .ok (.iconst 1, 1) := by decide +kernel
theorem dX5_withNumber_86 : decode cX5_withNumber 86 = .ok (.iadd, 1) := by decide +kernel
theorem dX5_withNumber_87 : decode cX5_withNumber 87 = .ok (.istore_n 2, 1) := by decide +kernel
theorem dX5_withNumber_88 : decode cX5_withNumber 88 = .ok (.goto 8, 3) := by decide +kernel
theorem dX5_withNumber_91 : decode cX5_withNumber 91 = .ok (.iload 5, 2) := by decide +kernel
theorem dX5_withNumber_93 : decode cX5_withNumber 93 = .ok (.iconst 1, 1) := by decide +kernel
theorem dX5_withNumber_94 : decode cX5_withNumber 94 = .ok (.isub, 1) := by decide +kernel
theorem dX5_withNumber_95 : decode cX5_withNumber 95 = .ok (.istore_n 3, 1) := by decide +kernel
theorem dX5_withNumber_96 : decode cX5_withNumber 96 = .ok (.iinc 4 1, 3) := by decide +kernel
theorem dX5_withNumber_99 : decode cX5_withNumber 99 = .ok (.goto (-87), 3) := by decide +kernel
theorem dX5_withNumber_102 : decode cX5_withNumber 102 = .ok (.aconst_null, 1) := by decide +kernel
theorem dX5_withNumber_103 : decode cX5_withNumber 103 = .ok (.areturn, 1) := by decide +kernel
theorem dX5_ofValue_0 : decode cX5_ofValue 0 = .ok (.lload_n 1, 1) := by decide +kernel
theorem dX5_ofValue_1 : decode cX5_ofValue 1 = .ok (.invokestatic 42, 3) := by decide +kernel
theorem dX5_ofValue_4 : decode cX5_ofValue 4 = .ok (.ifCond .eq 14, 3) := by decide +kernel
theorem dX5_ofValue_7 : decode cX5_ofValue 7 = .ok (.aload_n 0, 1) := by decide +kernel
theorem dX5_ofValue_8 : decode cX5_ofValue 8 = .ok (.lload_n 1, 1) := by decide +kernel
theorem dX5_ofValue_9 : decode cX5_ofValue 9 = .ok (.invokestatic 46, 3) := by decide +kernel
theorem dX5_ofValue_12 : decode cX5_ofValue 12 = .ok (.invokevirtual 50, 3) := by decide +kernel
theorem dX5_ofValue_15 : decode cX5_ofValue 15 = .ok (.goto 4, 3) := by decide +kernel
theorem dX5_ofValue_18 : decode cX5_ofValue 18 = .ok (.aconst_null, 1) := by decide +kernel
theorem dX5_ofValue_19 : decode cX5_ofValue 19 = .ok (.areturn, 1) := by decide +kernel
theorem dX5_has_0 : decode cX5_has 0 = .ok (.lload_n 1, 1) := by decide +kernel
theorem dX5_has_1 : decode cX5_has 1 = .ok (.invokestatic 42, 3) := by decide +kernel
theorem dX5_has_4 : decode cX5_has 4 = .ok (.ifCond .eq 11, 3) := by decide +kernel
theorem dX5_has_7 : decode cX5_has 7 = .ok (.aload_n 0, 1) := by decide +kernel
theorem dX5_has_8 : decode cX5_has 8 = .ok (.lload_n 1, 1) := by decide +kernel
theorem dX5_has_9 : decode cX5_has 9 = .ok (.invokevirtual 57, 3) := by decide +kernel
theorem dX5_has_12 : decode cX5_has 12 = .ok (.ifnull 7, 3) := by decide +kernel
theorem dX5_has_15 : decode cX5_has 15 = .ok (.iconst 1, 1) := by decide +kernel
theorem dX5_has_16 : decode cX5_has 16 = .ok (.goto 4, 3) := by decide +kernel
theorem dX5_has_19 : decode cX5_has 19 = .ok (.iconst 0, 1) := by decide +kernel
theorem dX5_has_20 : decode cX5_has 20 = .ok (.ireturn, 1) := by decide +kernel
theorem dX5_reach_0 : decode cX5_reach 0 = .ok (.aload_n 0, 1) := by decide +kernel
theorem dX5_reach_1 : decode cX5_reach 1 = .ok (.lload_n 1, 1) := by decide +kernel
theorem dX5_reach_2 : decode cX5_reach 2 = .ok (.invokevirtual 57, 3) := by decide +kernel
theorem dX5_reach_5 : decode cX5_reach 5 = .ok (.astore_n 3, 1) := by decide +kernel
theorem dX5_reach_6 : decode cX5_reach 6 = .ok (.aload_n 3, 1) := by decide +kernel
theorem dX5_reach_7 : decode cX5_reach 7 = .ok (.ifnull 50, 3) := by decide +kernel
theorem dX5_reach_10 : decode cX5_reach 10 = .ok (.aload_n 3, 1) := by decide +kernel
theorem dX5_reach_11 : decode cX5_reach 11 = .ok (.getfield 85, 3) := by decide +kernel
theorem dX5_reach_14 : decode cX5_reach 14 = .ok (.ifCond .ne 43, 3) := by decide +kernel
theorem dX5_reach_17 : decode cX5_reach 17 = .ok (.aload_n 0, 1) := by decide +kernel
theorem dX5_reach_18 : decode cX5_reach 18 = .ok (.getfield 24, 3) := by decide +kernel
theorem dX5_reach_21 : decode cX5_reach 21 = .ok (.aload_n 0, 1) := by decide +kernel
theorem dX5_reach_22 : decode cX5_reach 22 = .ok (.getfield 17, 3) := by decide +kernel
theorem dX5_reach_25 : decode cX5_reach 25 = .ok (.arraylength, 1) := by decide +kernel
theorem dX5_reach_26 : decode cX5_reach 26 = .ok (.invokestatic 31, 3) := by decide +kernel
theorem dX5_reach_29 : decode cX5_reach 29 = .ok (.ifCond .eq 28, 3) := by decide +kernel
theorem dX5_reach_32 : decode cX5_reach 32 = .ok (.aload_n 3, 1) := by decide +kernel
theorem dX5_reach_33 : decode cX5_reach 33 = .ok (.iconst 1, 1) := by decide +kernel
theorem dX5_reach_34 : decode cX5_reach 34 = .ok (.putfield 85, 3) := by decide +kernel
theorem dX5_reach_37 : decode cX5_reach 37 = .ok (.aload_n 0, 1) := by decide +kernel
theorem dX5_reach_38 : decode cX5_reach 38 = .ok (.getfield 17, 3) := by decide +kernel
theorem dX5_reach_41 : decode cX5_reach 41 = .ok (.aload_n 0, 1) := by decide +kernel
theorem dX5_reach_42 : decode cX5_reach 42 = .ok (.getfield 24, 3) := by decide +kernel
theorem dX5_reach_45 : decode cX5_reach 45 = .ok (.aload_n 3, 1) := by decide +kernel
theorem dX5_reach_46 : decode cX5_reach 46 = .ok (.aastore, 1) := by decide +kernel
theorem dX5_reach_47 : decode cX5_reach 47 = .ok (.aload_n 0, 1) := by decide +kernel
theorem dX5_reach_48 : decode cX5_reach 48 = .ok (.dup, 1) := by decide +kernel
theorem dX5_reach_49 : decode cX5_reach 49 = .ok (.getfield 24, 3) := by decide +kernel
theorem dX5_reach_52 : decode cX5_reach 52 = .ok (.iconst 1, 1) := by decide +kernel
theorem dX5_reach_53 : decode cX5_reach 53 = .ok (.iadd, 1) := by decide +kernel
theorem dX5_reach_54 : decode cX5_reach 54 = .ok (.putfield 24, 3) := by decide +kernel
theorem dX5_reach_57 : decode cX5_reach 57 = .ok (.return_, 1) := by decide +kernel
section SITES
variable {p : Program} {l : Launch} {e : Env} {R : Room} {s : State} {m : MethodId} {args : Array Value} {below : List Frame} {meth : Method} {c : Code} {H : Heap} {locs : List Loc} {cells slots : Nat} {Q : State → Prop}
variable {pc : Nat} {ls : Array Slot} {rest : List Value} {D : va_G} {ar : Nat → ClassId} {κ : Nat → Nat} {A : Nat → Prop} {a : Nat} {H0 : Heap} {G : gW} {nz nL : Nat} {cc : ByteArray}
theorem gf_RX8_10_12 {A9 : Nat → Prop} {H9 : Heap} {fs : List Value} {v : Value} (S : CallFix p m c cc nL s args lwA RX8) (hE : g_E D vwCl (gT ar) (EX1 κ) A9 s H9) (w : g_S D vwCl A H0 G H locs nz) (ha : G a = some (.inr (12, fs))) (hv : fs[0]? = some v) (hdg : decode cc pc = .ok (.getfield 10, 3)) (kk : W p l e R s m args below meth c H locs cells slots Q (F0 m (pc + 3) ls (v :: rest))) : W p l e R s m args below meth c H locs cells slots Q (F0 m pc ls (.ref a :: rest)) :=
  va_get (ci := 12) (C := RX8) (T := TX8) (N := 13) S.1 S.2.1 S.2.2.2.2 inA_RX8 S.2.2.2.1 hE.1 (g_1 w.1 ha) 0 rfl rfl 0 (by decide) (S.2.2.2.2 _ m_2_6) (fun _ h => h) hv hdg kk
theorem m_3_67 : (Cond.code yX0_has cX0_has 2 (some .boolean)) ∈ lwA := lwA_mk (ck_3 _ (List.mem_of_getElem? (i := 67) rfl)) rfl
theorem m_3_64 : (Cond.methodLink RX8 83 yX0_has) ∈ lwA := lwA_mk (ck_3 _ (List.mem_of_getElem? (i := 64) rfl)) rfl
theorem m_3_65 : (Cond.instanceMethod yX0_has) ∈ lwA := lwA_mk (ck_3 _ (List.mem_of_getElem? (i := 65) rfl)) rfl
theorem m_3_66 : (Cond.selects RX0 yX0_has yX0_has) ∈ lwA := lwA_mk (ck_3 _ (List.mem_of_getElem? (i := 66) rfl)) rfl
theorem k_RX8_83 {args : Array Value} {s : State} {R rm : Room} (hts : ∀ w ∈ lwA, w.before args s = true) (hR : rm.frames + 1 ≤ R.frames ∧ 8 + (2 + 11) + rm.locals ≤ R.locals) : CallW R s args RX8 RX0 83 yX0_has cX0_has 2 (some .boolean) (lwC yX0_has cX0_has 2 (some .boolean)) rm rm.cells rm.slots 1 := cwV 1 hts (gdV m_3_64 m_3_65 m_3_66 m_1_2 m_3_67) rfl rfl rfl (by decide +kernel) hR
theorem m_3_84 : (Cond.code yX8_isOfPlainValues cX8_isOfPlainValues 1 (some .boolean)) ∈ lwA := lwA_mk (ck_3 _ (List.mem_of_getElem? (i := 84) rfl)) rfl
theorem m_3_82 : (Cond.methodLink RX8 94 yX8_isOfPlainValues) ∈ lwA := lwA_mk (ck_3 _ (List.mem_of_getElem? (i := 82) rfl)) rfl
theorem m_3_83 : (Cond.static yX8_isOfPlainValues) ∈ lwA := lwA_mk (ck_3 _ (List.mem_of_getElem? (i := 83) rfl)) rfl
theorem k_RX8_94 {args : Array Value} {s : State} {R rm : Room} (hts : ∀ w ∈ lwA, w.before args s = true) (hR : rm.frames + 1 ≤ R.frames ∧ 8 + (1 + 11) + rm.locals ≤ R.locals) : CallB R s args RX8 94 yX8_isOfPlainValues cX8_isOfPlainValues 1 (some .boolean) (lwC yX8_isOfPlainValues cX8_isOfPlainValues 1 (some .boolean)) rm rm.cells rm.slots 1 ∧ (Cond.static yX8_isOfPlainValues).before args s = true := cwS 1 hts (gdS m_3_82 m_3_83 m_1_1 m_3_84) rfl rfl rfl (by decide +kernel) hR
theorem m_3_89 : (Cond.classLink RX8 105 "java/lang/IllegalArgumentException") ∈ lwA := lwA_mk (ck_3 _ (List.mem_of_getElem? (i := 89) rfl)) rfl
theorem m_1_24 : (Cond.initialized "java/lang/IllegalArgumentException") ∈ lwA := lwA_mk (ck_1 _ (List.mem_of_getElem? (i := 24) rfl)) rfl
theorem th_RX8_105_109_1 : ∀ w ∈ (vx_atS RX8 109 "java/lang/IllegalArgumentException" ["java/lang/RuntimeException", "java/lang/Exception"]).filter goodWord, w ∈ lwA := gA_f (by decide +kernel)
theorem th_RX8_105_109_2 : ∀ w ∈ (vx_atS RX8 109 "java/lang/IllegalArgumentException" ["java/lang/RuntimeException", "java/lang/Exception"]).filter (fun w => !goodWord w), w ∈ lwN ∧ w.onTables = true := by decide +kernel
theorem th_RX8_105_109_3 : ∀ w ∈ Cond.classLink RX8 105 "java/lang/IllegalArgumentException" :: Cond.initialized "java/lang/IllegalArgumentException" :: vx_atS RX8 109 "java/lang/IllegalArgumentException" ["java/lang/RuntimeException", "java/lang/Exception"], vx_ot w = true := by decide +kernel
theorem m_3_85 : (Cond.methodLink RX8 101 yX0_fieldsOf) ∈ lwA := lwA_mk (ck_3 _ (List.mem_of_getElem? (i := 85) rfl)) rfl
theorem k_RX8_101 {args : Array Value} {s : State} {R rm : Room} (hts : ∀ w ∈ lwA, w.before args s = true) (hR : rm.frames + 1 ≤ R.frames ∧ 8 + (2 + 11) + rm.locals ≤ R.locals) : CallW R s args RX8 RX0 101 yX0_fieldsOf cX0_fieldsOf 2 (some .int) (lwC yX0_fieldsOf cX0_fieldsOf 2 (some .int)) rm rm.cells rm.slots 1 := cwV 1 hts (gdV m_3_85 m_3_86 m_3_87 m_1_2 m_3_88) rfl rfl rfl (by decide +kernel) hR
theorem gf_RX8_110_4 {A9 : Nat → Prop} {H9 : Heap} {fs : List Value} {v : Value} (S : CallFix p m c cc nL s args lwA RX8) (hE : g_E D vwCl (gT ar) (EX1 κ) A9 s H9) (w : g_S D vwCl A H0 G H locs nz) (ha : G a = some (.inr (4, fs))) (hv : fs[2]? = some v) (hdg : decode cc pc = .ok (.getfield 110, 3)) (kk : W p l e R s m args below meth c H locs cells slots Q (F0 m (pc + 3) ls (v :: rest))) : W p l e R s m args below meth c H locs cells slots Q (F0 m pc ls (.ref a :: rest)) :=
  va_getN (ci := 4) (C := RX0) (T := TX0) (N := 3) S.1 S.2.1 S.2.2.2.2 inA_RX0 S.2.2.2.1 hE.1 (g_1 w.1 ha) 0 rfl rfl 2 (by decide) (va_Nw.use rfl (hE.2.1.1 _ (ckN_0 _ (List.mem_of_getElem? (i := 0) rfl)))) (fun _ h => h) hv hdg kk
theorem m_3_124 : (Cond.code yX0_enlist cX0_enlist 3 (some .int)) ∈ lwA := lwA_mk (ck_3 _ (List.mem_of_getElem? (i := 124) rfl)) rfl
theorem m_3_121 : (Cond.methodLink RX8 118 yX0_enlist) ∈ lwA := lwA_mk (ck_3 _ (List.mem_of_getElem? (i := 121) rfl)) rfl
theorem m_3_122 : (Cond.instanceMethod yX0_enlist) ∈ lwA := lwA_mk (ck_3 _ (List.mem_of_getElem? (i := 122) rfl)) rfl
theorem m_3_123 : (Cond.selects RX0 yX0_enlist yX0_enlist) ∈ lwA := lwA_mk (ck_3 _ (List.mem_of_getElem? (i := 123) rfl)) rfl
theorem k_RX8_118 {args : Array Value} {s : State} {R rm : Room} (hts : ∀ w ∈ lwA, w.before args s = true) (hR : rm.frames + 1 ≤ R.frames ∧ 8 + (3 + 11) + rm.locals ≤ R.locals) : CallW R s args RX8 RX0 118 yX0_enlist cX0_enlist 3 (some .int) (lwC yX0_enlist cX0_enlist 3 (some .int)) rm rm.cells rm.slots 2 := cwV 2 hts (gdV m_3_121 m_3_122 m_3_123 m_1_2 m_3_124) rfl rfl rfl (by decide +kernel) hR
theorem m_3_69 : (Cond.classLink RX8 87 "java/lang/IndexOutOfBoundsException") ∈ lwA := lwA_mk (ck_3 _ (List.mem_of_getElem? (i := 69) rfl)) rfl
theorem m_1_21 : (Cond.initialized "java/lang/IndexOutOfBoundsException") ∈ lwA := lwA_mk (ck_1 _ (List.mem_of_getElem? (i := 21) rfl)) rfl
theorem th_RX8_87_91_1 : ∀ w ∈ (vx_atS RX8 91 "java/lang/IndexOutOfBoundsException" ["java/lang/RuntimeException", "java/lang/Exception"]).filter goodWord, w ∈ lwA := gA_f (by decide +kernel)
theorem th_RX8_87_91_2 : ∀ w ∈ (vx_atS RX8 91 "java/lang/IndexOutOfBoundsException" ["java/lang/RuntimeException", "java/lang/Exception"]).filter (fun w => !goodWord w), w ∈ lwN ∧ w.onTables = true := by decide +kernel
theorem th_RX8_87_91_3 : ∀ w ∈ Cond.classLink RX8 87 "java/lang/IndexOutOfBoundsException" :: Cond.initialized "java/lang/IndexOutOfBoundsException" :: vx_atS RX8 91 "java/lang/IndexOutOfBoundsException" ["java/lang/RuntimeException", "java/lang/Exception"], vx_ot w = true := by decide +kernel
theorem gf_RX8_18_12 {A9 : Nat → Prop} {H9 : Heap} {fs : List Value} {v : Value} (S : CallFix p m c cc nL s args lwA RX8) (hE : g_E D vwCl (gT ar) (EX1 κ) A9 s H9) (w : g_S D vwCl A H0 G H locs nz) (ha : G a = some (.inr (12, fs))) (hv : fs[1]? = some v) (hdg : decode cc pc = .ok (.getfield 18, 3)) (kk : W p l e R s m args below meth c H locs cells slots Q (F0 m (pc + 3) ls (v :: rest))) : W p l e R s m args below meth c H locs cells slots Q (F0 m pc ls (.ref a :: rest)) :=
  va_get (ci := 12) (C := RX8) (T := TX8) (N := 13) S.1 S.2.1 S.2.2.2.2 inA_RX8 S.2.2.2.1 hE.1 (g_1 w.1 ha) 0 rfl rfl 1 (by decide) (S.2.2.2.2 _ m_2_7) (fun _ h => h) hv hdg kk
theorem m_3_160 : (Cond.code yX8_checkPlaceOfMethod cX8_checkPlaceOfMethod 3 none) ∈ lwA := lwA_mk (ck_3 _ (List.mem_of_getElem? (i := 160) rfl)) rfl
theorem m_3_157 : (Cond.methodLink RX8 134 yX8_checkPlaceOfMethod) ∈ lwA := lwA_mk (ck_3 _ (List.mem_of_getElem? (i := 157) rfl)) rfl
theorem m_3_159 : (Cond.instanceMethod yX8_checkPlaceOfMethod) ∈ lwA := lwA_mk (ck_3 _ (List.mem_of_getElem? (i := 159) rfl)) rfl
theorem ms_8 : (Cond.selects RX8 yX8_checkPlaceOfMethod yX8_checkPlaceOfMethod) ∈ lwA := lwA_mk (List.mem_append_left _ (List.mem_of_getElem? (i := 8) rfl)) rfl
theorem k_RX8_134 {args : Array Value} {s : State} {R rm : Room} (hts : ∀ w ∈ lwA, w.before args s = true) (hR : rm.frames + 1 ≤ R.frames ∧ 8 + (3 + 11) + rm.locals ≤ R.locals) : CallW R s args RX8 RX8 134 yX8_checkPlaceOfMethod cX8_checkPlaceOfMethod 3 none (lwC yX8_checkPlaceOfMethod cX8_checkPlaceOfMethod 3 none) rm rm.cells rm.slots 2 := cwV 2 hts (gdV m_3_157 m_3_159 ms_8 m_1_1 m_3_160) rfl rfl rfl (by decide +kernel) hR
theorem ck_4 : ∀ w ∈ tables_1_4, w ∈ lw_tbl := fun _ h => List.mem_append_right _ (List.mem_append_right _ (List.mem_append_right _ (List.mem_append_right _ (List.mem_append_left _ h))))
theorem m_4_48 : (Cond.code yX8_methodAt cX8_methodAt 3 (some (.object "Sendhouse$Told"))) ∈ lwA := lwA_mk (ck_4 _ (List.mem_of_getElem? (i := 48) rfl)) rfl
theorem m_4_45 : (Cond.methodLink RX8 179 yX8_methodAt) ∈ lwA := lwA_mk (ck_4 _ (List.mem_of_getElem? (i := 45) rfl)) rfl
theorem m_4_47 : (Cond.instanceMethod yX8_methodAt) ∈ lwA := lwA_mk (ck_4 _ (List.mem_of_getElem? (i := 47) rfl)) rfl
theorem ms_12 : (Cond.selects RX8 yX8_methodAt yX8_methodAt) ∈ lwA := lwA_mk (List.mem_append_left _ (List.mem_of_getElem? (i := 12) rfl)) rfl
theorem k_RX8_179 {args : Array Value} {s : State} {R rm : Room} (hts : ∀ w ∈ lwA, w.before args s = true) (hR : rm.frames + 1 ≤ R.frames ∧ 8 + (3 + 11) + rm.locals ≤ R.locals) : CallW R s args RX8 RX8 179 yX8_methodAt cX8_methodAt 3 (some (.object "Sendhouse$Told")) (lwC yX8_methodAt cX8_methodAt 3 (some (.object "Sendhouse$Told"))) rm rm.cells rm.slots 2 := cwV 2 hts (gdV m_4_45 m_4_47 ms_12 m_1_1 m_4_48) rfl rfl rfl (by decide +kernel) hR
theorem m_4_49 : (Cond.classLink RX8 169 "java/util/NoSuchElementException") ∈ lwA := lwA_mk (ck_4 _ (List.mem_of_getElem? (i := 49) rfl)) rfl
theorem m_1_35 : (Cond.initialized "java/util/NoSuchElementException") ∈ lwA := lwA_mk (ck_1 _ (List.mem_of_getElem? (i := 35) rfl)) rfl
theorem m_4_79 : (Cond.code yX0_aboveOf cX0_aboveOf 2 (some .int)) ∈ lwA := lwA_mk (ck_4 _ (List.mem_of_getElem? (i := 79) rfl)) rfl
theorem m_4_76 : (Cond.methodLink RX8 184 yX0_aboveOf) ∈ lwA := lwA_mk (ck_4 _ (List.mem_of_getElem? (i := 76) rfl)) rfl
theorem m_4_77 : (Cond.instanceMethod yX0_aboveOf) ∈ lwA := lwA_mk (ck_4 _ (List.mem_of_getElem? (i := 77) rfl)) rfl
theorem m_4_78 : (Cond.selects RX0 yX0_aboveOf yX0_aboveOf) ∈ lwA := lwA_mk (ck_4 _ (List.mem_of_getElem? (i := 78) rfl)) rfl
theorem k_RX8_184 {args : Array Value} {s : State} {R rm : Room} (hts : ∀ w ∈ lwA, w.before args s = true) (hR : rm.frames + 1 ≤ R.frames ∧ 8 + (2 + 11) + rm.locals ≤ R.locals) : CallW R s args RX8 RX0 184 yX0_aboveOf cX0_aboveOf 2 (some .int) (lwC yX0_aboveOf cX0_aboveOf 2 (some .int)) rm rm.cells rm.slots 1 := cwV 1 hts (gdV m_4_76 m_4_77 m_4_78 m_1_2 m_4_79) rfl rfl rfl (by decide +kernel) hR
theorem m_4_44 : (Cond.code yX8_checkedMethod cX8_checkedMethod 4 (some (.object "Sendhouse$Told"))) ∈ lwA := lwA_mk (ck_4 _ (List.mem_of_getElem? (i := 44) rfl)) rfl
theorem m_4_41 : (Cond.methodLink RX8 159 yX8_checkedMethod) ∈ lwA := lwA_mk (ck_4 _ (List.mem_of_getElem? (i := 41) rfl)) rfl
theorem m_4_43 : (Cond.instanceMethod yX8_checkedMethod) ∈ lwA := lwA_mk (ck_4 _ (List.mem_of_getElem? (i := 43) rfl)) rfl
theorem ms_11 : (Cond.selects RX8 yX8_checkedMethod yX8_checkedMethod) ∈ lwA := lwA_mk (List.mem_append_left _ (List.mem_of_getElem? (i := 11) rfl)) rfl
theorem k_RX8_159 {args : Array Value} {s : State} {R rm : Room} (hts : ∀ w ∈ lwA, w.before args s = true) (hR : rm.frames + 1 ≤ R.frames ∧ 8 + (4 + 11) + rm.locals ≤ R.locals) : CallW R s args RX8 RX8 159 yX8_checkedMethod cX8_checkedMethod 4 (some (.object "Sendhouse$Told")) (lwC yX8_checkedMethod cX8_checkedMethod 4 (some (.object "Sendhouse$Told"))) rm rm.cells rm.slots 2 := cwV 2 hts (gdV m_4_41 m_4_43 ms_11 m_1_1 m_4_44) rfl rfl rfl (by decide +kernel) hR
theorem m_4_75 : (Cond.code yX8_lookUp cX8_lookUp 6 (some (.object "Sendhouse$Told"))) ∈ lwA := lwA_mk (ck_4 _ (List.mem_of_getElem? (i := 75) rfl)) rfl
theorem m_4_72 : (Cond.methodLink RX8 166 yX8_lookUp) ∈ lwA := lwA_mk (ck_4 _ (List.mem_of_getElem? (i := 72) rfl)) rfl
theorem m_4_74 : (Cond.instanceMethod yX8_lookUp) ∈ lwA := lwA_mk (ck_4 _ (List.mem_of_getElem? (i := 74) rfl)) rfl
theorem ms_13 : (Cond.selects RX8 yX8_lookUp yX8_lookUp) ∈ lwA := lwA_mk (List.mem_append_left _ (List.mem_of_getElem? (i := 13) rfl)) rfl
theorem k_RX8_166 {args : Array Value} {s : State} {R rm : Room} (hts : ∀ w ∈ lwA, w.before args s = true) (hR : rm.frames + 1 ≤ R.frames ∧ 8 + (6 + 11) + rm.locals ≤ R.locals) : CallW R s args RX8 RX8 166 yX8_lookUp cX8_lookUp 6 (some (.object "Sendhouse$Told")) (lwC yX8_lookUp cX8_lookUp 6 (some (.object "Sendhouse$Told"))) rm rm.cells rm.slots 2 := cwV 2 hts (gdV m_4_72 m_4_74 ms_13 m_1_1 m_4_75) rfl rfl rfl (by decide +kernel) hR
theorem gf_RX8_29_12 {A9 : Nat → Prop} {H9 : Heap} {fs : List Value} {v : Value} (S : CallFix p m c cc nL s args lwA RX8) (hE : g_E D vwCl (gT ar) (EX1 κ) A9 s H9) (w : g_S D vwCl A H0 G H locs nz) (ha : G a = some (.inr (12, fs))) (hv : fs[3]? = some v) (hdg : decode cc pc = .ok (.getfield 29, 3)) (kk : W p l e R s m args below meth c H locs cells slots Q (F0 m (pc + 3) ls (v :: rest))) : W p l e R s m args below meth c H locs cells slots Q (F0 m pc ls (.ref a :: rest)) :=
  va_get (ci := 12) (C := RX8) (T := TX8) (N := 13) S.1 S.2.1 S.2.2.2.2 inA_RX8 S.2.2.2.1 hE.1 (g_1 w.1 ha) 0 rfl rfl 3 (by decide) (S.2.2.2.2 _ m_2_9) (fun _ h => h) hv hdg kk
theorem m_4_128 : (Cond.constantLong RX8 505 (472446402560)) ∈ lwA := lwA_mk (ck_4 _ (List.mem_of_getElem? (i := 128) rfl)) rfl
theorem m_4_129 : (Cond.constantLong RX8 507 (4294967295)) ∈ lwA := lwA_mk (ck_4 _ (List.mem_of_getElem? (i := 129) rfl)) rfl
theorem m_4_167 : (Cond.constantLong RX8 509 (476741369856)) ∈ lwA := lwA_mk (ck_4 _ (List.mem_of_getElem? (i := 167) rfl)) rfl
theorem m_4_123 : (Cond.code yX8_checkGlobal cX8_checkGlobal 2 none) ∈ lwA := lwA_mk (ck_4 _ (List.mem_of_getElem? (i := 123) rfl)) rfl
theorem m_4_120 : (Cond.methodLink RX8 195 yX8_checkGlobal) ∈ lwA := lwA_mk (ck_4 _ (List.mem_of_getElem? (i := 120) rfl)) rfl
theorem m_4_122 : (Cond.instanceMethod yX8_checkGlobal) ∈ lwA := lwA_mk (ck_4 _ (List.mem_of_getElem? (i := 122) rfl)) rfl
theorem ms_15 : (Cond.selects RX8 yX8_checkGlobal yX8_checkGlobal) ∈ lwA := lwA_mk (List.mem_append_left _ (List.mem_of_getElem? (i := 15) rfl)) rfl
theorem k_RX8_195 {args : Array Value} {s : State} {R rm : Room} (hts : ∀ w ∈ lwA, w.before args s = true) (hR : rm.frames + 1 ≤ R.frames ∧ 8 + (2 + 11) + rm.locals ≤ R.locals) : CallW R s args RX8 RX8 195 yX8_checkGlobal cX8_checkGlobal 2 none (lwC yX8_checkGlobal cX8_checkGlobal 2 none) rm rm.cells rm.slots 1 := cwV 1 hts (gdV m_4_120 m_4_122 ms_15 m_1_1 m_4_123) rfl rfl rfl (by decide +kernel) hR
theorem m_4_127 : (Cond.code yX8_ofNumber cX8_ofNumber 1 (some .long)) ∈ lwA := lwA_mk (ck_4 _ (List.mem_of_getElem? (i := 127) rfl)) rfl
theorem m_4_125 : (Cond.methodLink RX8 199 yX8_ofNumber) ∈ lwA := lwA_mk (ck_4 _ (List.mem_of_getElem? (i := 125) rfl)) rfl
theorem m_4_126 : (Cond.static yX8_ofNumber) ∈ lwA := lwA_mk (ck_4 _ (List.mem_of_getElem? (i := 126) rfl)) rfl
theorem k_RX8_199 {args : Array Value} {s : State} {R rm : Room} (hts : ∀ w ∈ lwA, w.before args s = true) (hR : rm.frames + 1 ≤ R.frames ∧ 8 + (1 + 11) + rm.locals ≤ R.locals) : CallB R s args RX8 199 yX8_ofNumber cX8_ofNumber 1 (some .long) (lwC yX8_ofNumber cX8_ofNumber 1 (some .long)) rm rm.cells rm.slots 1 ∧ (Cond.static yX8_ofNumber).before args s = true := cwS 1 hts (gdS m_4_125 m_4_126 m_1_1 m_4_127) rfl rfl rfl (by decide +kernel) hR
theorem m_4_132 : (Cond.code yX8_putAt cX8_putAt 4 none) ∈ lwA := lwA_mk (ck_4 _ (List.mem_of_getElem? (i := 132) rfl)) rfl
theorem m_4_130 : (Cond.methodLink RX8 203 yX8_putAt) ∈ lwA := lwA_mk (ck_4 _ (List.mem_of_getElem? (i := 130) rfl)) rfl
theorem m_4_131 : (Cond.static yX8_putAt) ∈ lwA := lwA_mk (ck_4 _ (List.mem_of_getElem? (i := 131) rfl)) rfl
theorem k_RX8_203 {args : Array Value} {s : State} {R rm : Room} (hts : ∀ w ∈ lwA, w.before args s = true) (hR : rm.frames + 1 ≤ R.frames ∧ 8 + (4 + 11) + rm.locals ≤ R.locals) : CallB R s args RX8 203 yX8_putAt cX8_putAt 4 none (lwC yX8_putAt cX8_putAt 4 none) rm rm.cells rm.slots 3 ∧ (Cond.static yX8_putAt).before args s = true := cwS 3 hts (gdS m_4_130 m_4_131 m_1_1 m_4_132) rfl rfl rfl (by decide +kernel) hR
theorem gf_RX8_40_12 {A9 : Nat → Prop} {H9 : Heap} {fs : List Value} {v : Value} (S : CallFix p m c cc nL s args lwA RX8) (hE : g_E D vwCl (gT ar) (EX1 κ) A9 s H9) (w : g_S D vwCl A H0 G H locs nz) (ha : G a = some (.inr (12, fs))) (hv : fs[5]? = some v) (hdg : decode cc pc = .ok (.getfield 40, 3)) (kk : W p l e R s m args below meth c H locs cells slots Q (F0 m (pc + 3) ls (v :: rest))) : W p l e R s m args below meth c H locs cells slots Q (F0 m pc ls (.ref a :: rest)) :=
  va_get (ci := 12) (C := RX8) (T := TX8) (N := 13) S.1 S.2.1 S.2.2.2.2 inA_RX8 S.2.2.2.1 hE.1 (g_1 w.1 ha) 0 rfl rfl 5 (by decide) (S.2.2.2.2 _ m_2_11) (fun _ h => h) hv hdg kk
theorem gf_RX8_207_9 {A9 : Nat → Prop} {H9 : Heap} {fs : List Value} {v : Value} (S : CallFix p m c cc nL s args lwA RX8) (hE : g_E D vwCl (gT ar) (EX1 κ) A9 s H9) (w : g_S D vwCl A H0 G H locs nz) (ha : G a = some (.inr (9, fs))) (hv : fs[2]? = some v) (hdg : decode cc pc = .ok (.getfield 207, 3)) (kk : W p l e R s m args below meth c H locs cells slots Q (F0 m (pc + 3) ls (v :: rest))) : W p l e R s m args below meth c H locs cells slots Q (F0 m pc ls (.ref a :: rest)) :=
  va_getN (ci := 9) (C := RX5) (T := TX5) (N := 5) S.1 S.2.1 S.2.2.2.2 inA_RX5 S.2.2.2.1 hE.1 (g_1 w.1 ha) 0 rfl rfl 2 (by decide) (va_Nw.use rfl (hE.2.1.1 _ (ckN_0 _ (List.mem_of_getElem? (i := 16) rfl)))) (fun _ h => h) hv hdg kk
theorem m_2_113 : (Cond.code yX8_placeAt cX8_placeAt 2 (some .long)) ∈ lwA := lwA_mk (ck_2 _ (List.mem_of_getElem? (i := 113) rfl)) rfl
theorem m_2_160 : (Cond.methodLink RX8 222 yX8_placeAt) ∈ lwA := lwA_mk (ck_2 _ (List.mem_of_getElem? (i := 160) rfl)) rfl
theorem m_2_112 : (Cond.static yX8_placeAt) ∈ lwA := lwA_mk (ck_2 _ (List.mem_of_getElem? (i := 112) rfl)) rfl
theorem k_RX8_222 {args : Array Value} {s : State} {R rm : Room} (hts : ∀ w ∈ lwA, w.before args s = true) (hR : rm.frames + 1 ≤ R.frames ∧ 8 + (2 + 11) + rm.locals ≤ R.locals) : CallB R s args RX8 222 yX8_placeAt cX8_placeAt 2 (some .long) (lwC yX8_placeAt cX8_placeAt 2 (some .long)) rm rm.cells rm.slots 2 ∧ (Cond.static yX8_placeAt).before args s = true := cwS 2 hts (gdS m_2_160 m_2_112 m_1_1 m_2_113) rfl rfl rfl (by decide +kernel) hR
theorem m_2_78 : (Cond.code yX8_numberOf cX8_numberOf 2 (some .int)) ∈ lwA := lwA_mk (ck_2 _ (List.mem_of_getElem? (i := 78) rfl)) rfl
theorem m_2_152 : (Cond.methodLink RX8 230 yX8_numberOf) ∈ lwA := lwA_mk (ck_2 _ (List.mem_of_getElem? (i := 152) rfl)) rfl
theorem m_2_77 : (Cond.static yX8_numberOf) ∈ lwA := lwA_mk (ck_2 _ (List.mem_of_getElem? (i := 77) rfl)) rfl
theorem k_RX8_230 {args : Array Value} {s : State} {R rm : Room} (hts : ∀ w ∈ lwA, w.before args s = true) (hR : rm.frames + 1 ≤ R.frames ∧ 8 + (2 + 11) + rm.locals ≤ R.locals) : CallB R s args RX8 230 yX8_numberOf cX8_numberOf 2 (some .int) (lwC yX8_numberOf cX8_numberOf 2 (some .int)) rm rm.cells rm.slots 1 ∧ (Cond.static yX8_numberOf).before args s = true := cwS 1 hts (gdS m_2_152 m_2_77 m_1_1 m_2_78) rfl rfl rfl (by decide +kernel) hR
theorem gf_RX5_20_9 {A9 : Nat → Prop} {H9 : Heap} {fs : List Value} {v : Value} (S : CallFix p m c cc nL s args lwA RX5) (hE : g_E D vwCl (gT ar) (EX1 κ) A9 s H9) (w : g_S D vwCl A H0 G H locs nz) (ha : G a = some (.inr (9, fs))) (hv : fs[2]? = some v) (hdg : decode cc pc = .ok (.getfield 20, 3)) (kk : W p l e R s m args below meth c H locs cells slots Q (F0 m (pc + 3) ls (v :: rest))) : W p l e R s m args below meth c H locs cells slots Q (F0 m pc ls (.ref a :: rest)) :=
  va_get (ci := 9) (C := RX5) (T := TX5) (N := 5) S.1 S.2.1 S.2.2.2.2 inA_RX5 S.2.2.2.1 hE.1 (g_1 w.1 ha) 0 rfl rfl 2 (by decide) (S.2.2.2.2 _ m_1_141) (fun _ h => h) hv hdg kk
theorem m_2_72 : (Cond.code yX8_isThing cX8_isThing 2 (some .boolean)) ∈ lwA := lwA_mk (ck_2 _ (List.mem_of_getElem? (i := 72) rfl)) rfl
theorem m_2_71 : (Cond.static yX8_isThing) ∈ lwA := lwA_mk (ck_2 _ (List.mem_of_getElem? (i := 71) rfl)) rfl
theorem k_RX5_42 {args : Array Value} {s : State} {R rm : Room} (hts : ∀ w ∈ lwA, w.before args s = true) (hN : va_Nw (.methodLinkNest RX5 42 yX8_isThing "Sendhouse") s) (hR : rm.frames + 1 ≤ R.frames ∧ 8 + (2 + 11) + rm.locals ≤ R.locals) : va_CN R s args RX5 42 yX8_isThing "Sendhouse" cX8_isThing 2 (some .boolean) (lwC yX8_isThing cX8_isThing 2 (some .boolean)) rm rm.cells rm.slots 1 ∧ (Cond.static yX8_isThing).before args s = true ∧ True := ⟨va_cnB 1 hts (gd m_2_72) rfl rfl rfl hN (hts _ m_1_1) (by decide +kernel) hR, hts _ m_2_71, trivial⟩
theorem m_2_69 : (Cond.code yX5_ofValue cX5_ofValue 3 (some (.object "Sendhouse$Thing"))) ∈ lwA := lwA_mk (ck_2 _ (List.mem_of_getElem? (i := 69) rfl)) rfl
theorem m_2_66 : (Cond.methodLink RX5 57 yX5_ofValue) ∈ lwA := lwA_mk (ck_2 _ (List.mem_of_getElem? (i := 66) rfl)) rfl
theorem m_2_67 : (Cond.instanceMethod yX5_ofValue) ∈ lwA := lwA_mk (ck_2 _ (List.mem_of_getElem? (i := 67) rfl)) rfl
theorem m_2_68 : (Cond.selects RX5 yX5_ofValue yX5_ofValue) ∈ lwA := lwA_mk (ck_2 _ (List.mem_of_getElem? (i := 68) rfl)) rfl
theorem k_RX5_57 {args : Array Value} {s : State} {R rm : Room} (hts : ∀ w ∈ lwA, w.before args s = true) (hR : rm.frames + 1 ≤ R.frames ∧ 8 + (3 + 11) + rm.locals ≤ R.locals) : CallW R s args RX5 RX5 57 yX5_ofValue cX5_ofValue 3 (some (.object "Sendhouse$Thing")) (lwC yX5_ofValue cX5_ofValue 3 (some (.object "Sendhouse$Thing"))) rm rm.cells rm.slots 1 := cwV 1 hts (gdV m_2_66 m_2_67 m_2_68 m_1_4 m_2_69) rfl rfl rfl (by decide +kernel) hR
end SITES
theorem isB_z {i : Int32} : isB i 0 = 0 := by
  unfold isB
  by_cases h1 : i < 0
  · simp [h1]
  · rw [if_neg h1, if_pos (Int32.not_lt.mp h1)]
theorem aA_z {i : Int32} : aA (fun _ => 0) 0 i = 0 := by unfold aA; split <;> rfl
theorem i32_le_add {f : Int32} (h : ¬ isB f 5 = 0) : (0 : Int32) + f ≤ 8 := by
  obtain ⟨h1, h2⟩ := isB_n.mp h
  simp only [Int32.lt_iff_toInt_lt, Int32.le_iff_toInt_le, Int32.toInt_add] at h1 h2 ⊢
  have e0 : (0 : Int32).toInt = 0 := by decide
  have e5 : (5 : Int32).toInt = 5 := by decide
  have e8 : (8 : Int32).toInt = 8 := by decide
  rw [e0] at h1 ⊢
  rw [e5] at h2
  rw [e8, Int.zero_add]
  have : f.toInt.bmod (2 ^ 32) = f.toInt := Int.bmod_eq_of_le (by omega) (by omega)
  rw [this]
  omega
theorem dead_add {i f : Int32} (h : ¬ isB f 5 = 0) : aA (fun _ => 0) 0 i + f ≤ 8 := by
  rw [aA_z]
  exact i32_le_add h
theorem pA_nt {i : Int32} : pA (fillJ (fun _ => 0) 502511173632 8) 8 i = 502511173632 := by
  unfold pA
  by_cases h : isB i 8 = 0
  · rw [if_pos h]
  · rw [if_neg h]
    obtain ⟨h1, h2⟩ := isB_n.mp h
    unfold fillJ
    rw [if_pos]
    simp only [Int32.lt_iff_toInt_lt, Int32.le_iff_toInt_le] at h1 h2
    have e0 : (0 : Int32).toInt = 0 := by decide
    have e8 : (8 : Int32).toInt = 8 := by decide
    rw [e0] at h1
    rw [e8] at h2
    show i.toInt.toNat < 8
    omega
theorem in_ms {c s : Int32} (h1 : ¬ isB c 12 = 0) (h2 : ¬ isB s 16 = 0) : vp_in (c * 16 + s) 192 := by
  have a1 := vp_in_iff.mp (vinB (n := 12) rfl (by decide) h1)
  have a2 := vp_in_iff.mp (vinB (n := 16) rfl (by decide) h2)
  rw [vp_in_iff, Int32.toInt_add, Int32.toInt_mul]
  have e : (16 : Int32).toInt = 16 := by decide
  rw [e]
  have e1 : (c.toInt * 16).bmod (2 ^ 32) = c.toInt * 16 := Int.bmod_eq_of_le (by omega) (by omega)
  rw [e1]
  have e2 : (c.toInt * 16 + s.toInt).bmod (2 ^ 32) = c.toInt * 16 + s.toInt := Int.bmod_eq_of_le (by omega) (by omega)
  rw [e2]
  omega
theorem thF_z {t : Nat} : thF t 60 (Int32.toNatClampNeg 0) = some t := rfl
def K_add (a f : Int32) : Int32 := if isB a 3 = 0 then 1 else if ¬ isPl a = 0 then 2 else if isB f 5 = 0 then 2 else 0
def K_cls (a : Int32) : Int32 := if isB a 3 = 0 then 1 else 0
def K_meth (c s : Int32) : Int32 := if isB c 3 = 0 then 1 else if isB s 16 = 0 then 1 else 2
def K_hot (a : Int32) : Int32 := if isB a 100 = 0 then 1 else 0
def K_gl (a : Int32) : Int32 := if isB a 8 = 0 then 1 else 0

set_option maxHeartbeats 4000000 in
set_option maxRecDepth 100000 in
theorem h_add (l : Launch) (D : va_G) (ar : Nat → ClassId) (κ : Nat → Nat) (G : gW) (sz : Nat) (x : Nat) (a : Int32) (f : Int32) (q : Nat) (hF : FH ar κ G x q) (hlt : l.stackTraces = false) : vx_Met l yX8_add (lwC yX8_add cX8_add 3 (some .int)) (rD 6 1 6) (g_Pc D vwCl (gT ar) (EX1 κ) G sz [.ref x, .int a, .int f]) (g_Qi D vwCl (g_A G sz) (fun r u => K_add a f = 0 ∧ r = 3)) (gX D (g_A G sz) (fun E u => (E = "java/lang/IndexOutOfBoundsException" ∧ K_add a f = 1) ∨ (E = "java/lang/IllegalArgumentException" ∧ K_add a f = 2) ∨ (E = "java/lang/IllegalStateException" ∧ K_add a f = 3))) 1 6 (g_A G sz) := by
  refine gx_ofW (by decide +kernel) (Nat.le_of_ble_eq_true rfl) ?_
  intro p e s m below meth c ls S hr hlk ht hE w hl
  have hx := S.1
  have hb := S.2.1
  have hl : lv_has ls 3 [(0, .ref x), (1, .int a), (2, .int f)] := hl
  obtain ⟨hxq, f0, f1, f2, f3, f4, f5, f6, f7, f8, f9, f10, f11, f12, f13, f14, f15, f16, f17, f18, f19⟩ := id hF
  refine lv_aload_n hx hb dX8_add_0 rfl (lv_at hl 0 rfl) ?_
  refine gf_RX8_10_12 S hE w f0 rfl dX8_add_1 ?_
  refine lv_iload_n hx hb dX8_add_4 rfl (lv_at hl 1 rfl) ?_
  refine g_calli w (g_runV (As := [.int a]) (rest := []) S hE w hl (c_X0_has l D ar κ G sz q a (q + 1) (q + 2) 3 f1) (k_RX8_83 S.2.2.2.2 ⟨Nat.le_of_ble_eq_true rfl, Nat.le_of_ble_eq_true rfl⟩) f1 rfl rfl rfl rfl (Nat.le_of_ble_eq_true rfl) dX8_add_5 ⟨Nat.le_of_ble_eq_true rfl, Nat.le_of_ble_eq_true rfl⟩) (fun r u H locs hp hnz w => ?_)
  obtain ⟨rfl, rfl⟩ := hp
  dsimp only at w
  refine lv_if_ne (tgt := 21) hx hb dX8_add_8 (by decide) (fun c_8 => ?_) (fun c_8 => ?_)
  · refine lv_iload_n hx hb dX8_add_21 rfl (lv_at hl 1 rfl) ?_
    refine g_calli w (g_runS (As := [.int a]) (rest := []) S hE w hl (c_X8_isOfPlainValues l D ar κ G sz a) (k_RX8_94 S.2.2.2.2 ⟨Nat.le_of_ble_eq_true rfl, Nat.le_of_ble_eq_true rfl⟩) rfl rfl (Nat.le_of_ble_eq_true rfl) dX8_add_22 ⟨Nat.le_of_ble_eq_true rfl, Nat.le_of_ble_eq_true rfl⟩) (fun r u H locs hp hnz w => ?_)
    obtain ⟨rfl, rfl⟩ := hp
    dsimp only at w
    refine lv_if_ne (tgt := 51) hx hb dX8_add_25 (by decide) (fun c_25 => ?_) (fun c_25 => ?_)
    · exact g_throwS (names := ["java/lang/RuntimeException", "java/lang/Exception"]) hlt S hE w hl ht hlk (by decide +kernel) (by decide +kernel) m_3_89 m_1_24 (List.mem_of_getElem? (i := 1) rfl) th_RX8_105_109_1 th_RX8_105_109_2 th_RX8_105_109_3 dX8_add_51 dX8_add_54 dX8_add_55 dX8_add_57 dX8_add_60 (Nat.le_of_ble_eq_true rfl) (Nat.le_of_ble_eq_true rfl) (Nat.le_of_ble_eq_true rfl) (Nat.le_of_ble_eq_true rfl) (Nat.le_of_ble_eq_true rfl) (Nat.le_of_ble_eq_true rfl) (fun _ _ => Or.inr (Or.inl ⟨rfl, by simp [K_add, c_8, c_25]⟩))
    · refine lv_iload_n hx hb dX8_add_28 rfl (lv_at hl 2 rfl) ?_
      refine lv_iconst (v := 5) hx hb dX8_add_29 (by decide) ?_
      refine g_calli w (g_runS (As := [.int f, .int 5]) (rest := []) S hE w hl (c_X8_isBelow l D ar κ G sz f 5) (k_RX8_97 S.2.2.2.2 ⟨Nat.le_of_ble_eq_true rfl, Nat.le_of_ble_eq_true rfl⟩) rfl rfl (Nat.le_of_ble_eq_true rfl) dX8_add_30 ⟨Nat.le_of_ble_eq_true rfl, Nat.le_of_ble_eq_true rfl⟩) (fun r u H locs hp hnz w => ?_)
      obtain ⟨rfl, rfl⟩ := hp
      dsimp only at w
      refine lv_if_eq (tgt := 51) hx hb dX8_add_33 (by decide) (fun c_33 => ?_) (fun c_33 => ?_)
      · exact g_throwS (names := ["java/lang/RuntimeException", "java/lang/Exception"]) hlt S hE w hl ht hlk (by decide +kernel) (by decide +kernel) m_3_89 m_1_24 (List.mem_of_getElem? (i := 1) rfl) th_RX8_105_109_1 th_RX8_105_109_2 th_RX8_105_109_3 dX8_add_51 dX8_add_54 dX8_add_55 dX8_add_57 dX8_add_60 (Nat.le_of_ble_eq_true rfl) (Nat.le_of_ble_eq_true rfl) (Nat.le_of_ble_eq_true rfl) (Nat.le_of_ble_eq_true rfl) (Nat.le_of_ble_eq_true rfl) (Nat.le_of_ble_eq_true rfl) (fun _ _ => Or.inr (Or.inl ⟨rfl, by simp [K_add, c_8, c_25, c_33]⟩))
      · refine lv_aload_n hx hb dX8_add_36 rfl (lv_at hl 0 rfl) ?_
        refine gf_RX8_10_12 S hE w f0 rfl dX8_add_37 ?_
        refine lv_iload_n hx hb dX8_add_40 rfl (lv_at hl 1 rfl) ?_
        refine g_calli w (g_runV (As := [.int a]) (rest := []) S hE w hl (c_X0_fieldsOf l D ar κ G sz q a (q + 1) (q + 2) 3 (fun _ => 0) f1 f3) (k_RX8_101 S.2.2.2.2 ⟨Nat.le_of_ble_eq_true rfl, Nat.le_of_ble_eq_true rfl⟩) f1 rfl rfl rfl rfl (Nat.le_of_ble_eq_true rfl) dX8_add_41 ⟨Nat.le_of_ble_eq_true rfl, Nat.le_of_ble_eq_true rfl⟩) (fun r u H locs hp hnz w => ?_)
        obtain ⟨rfl, rfl⟩ := hp
        dsimp only at w
        refine lv_iload_n hx hb dX8_add_44 rfl (lv_at hl 2 rfl) ?_
        refine lv_iadd hx hb dX8_add_45 ?_
        refine lv_bipush (v := 8) hx hb dX8_add_46 (by decide) ?_
        refine lv_icmp_le (tgt := 61) hx hb dX8_add_48 (by decide) (fun c_48 => ?_) (fun c_48 => absurd (dead_add c_33) c_48)
        refine lv_aload_n hx hb dX8_add_61 rfl (lv_at hl 0 rfl) ?_
        refine gf_RX8_10_12 S hE w f0 rfl dX8_add_62 ?_
        refine gf_RX8_110_4 S hE w f1 rfl dX8_add_65 ?_
        refine lv_bipush (v := 12) hx hb dX8_add_68 (by decide) ?_
        refine lv_icmp_lt (tgt := 83) hx hb dX8_add_70 (by decide) (fun _ => ?_) (fun c => absurd (by decide) c)
        refine lv_aload_n hx hb dX8_add_83 rfl (lv_at hl 0 rfl) ?_
        refine gf_RX8_10_12 S hE w f0 rfl dX8_add_84 ?_
        refine lv_iload_n hx hb dX8_add_87 rfl (lv_at hl 1 rfl) ?_
        refine lv_iload_n hx hb dX8_add_88 rfl (lv_at hl 2 rfl) ?_
        refine g_calli w (g_runV (As := [.int a, .int f]) (rest := []) S hE w hl (c_X0_enlist l D ar κ G sz q a f (q + 1) (q + 2) 3 (upd (fun _ => 0) (Int32.toNatClampNeg 0) (-1)) (fun _ => 0) f1 f2 f3 (by omega) (by decide)) (k_RX8_118 S.2.2.2.2 ⟨Nat.le_of_ble_eq_true rfl, Nat.le_of_ble_eq_true rfl⟩) f1 rfl rfl rfl rfl (Nat.le_of_ble_eq_true rfl) dX8_add_89 ⟨Nat.le_of_ble_eq_true rfl, Nat.le_of_ble_eq_true rfl⟩) (fun r u H locs hp hnz w => ?_)
        obtain ⟨rfl, rfl⟩ := hp
        dsimp only at w
        rw [show ((3 + 1) : Int32) = 4 from by decide +kernel] at w
        exact vx_ret (g_iret hx hb hr hlk w (Nat.le_of_ble_eq_true rfl) (Nat.le_of_ble_eq_true rfl) dX8_add_92 (by first | (simp [K_add, c_8, c_25, c_33, c_48]; done) | (simp [K_add, c_8, c_25, c_33, c_48]; decide)))
  · exact g_throwS (names := ["java/lang/RuntimeException", "java/lang/Exception"]) hlt S hE w hl ht hlk (by decide +kernel) (by decide +kernel) m_3_69 m_1_21 (List.mem_of_getElem? (i := 0) rfl) th_RX8_87_91_1 th_RX8_87_91_2 th_RX8_87_91_3 dX8_add_11 dX8_add_14 dX8_add_15 dX8_add_17 dX8_add_20 (Nat.le_of_ble_eq_true rfl) (Nat.le_of_ble_eq_true rfl) (Nat.le_of_ble_eq_true rfl) (Nat.le_of_ble_eq_true rfl) (Nat.le_of_ble_eq_true rfl) (Nat.le_of_ble_eq_true rfl) (fun _ _ => Or.inl ⟨rfl, by simp [K_add, c_8]⟩)
set_option maxHeartbeats 4000000 in
set_option maxRecDepth 100000 in
theorem h_classes (l : Launch) (D : va_G) (ar : Nat → ClassId) (κ : Nat → Nat) (G : gW) (sz : Nat) (x : Nat) (q : Nat) (hF : FH ar κ G x q) : Met l yX8_classes (lwC yX8_classes cX8_classes 1 (some .int)) (rD 1 0 0) (g_Pc D vwCl (gT ar) (EX1 κ) G sz [.ref x]) (g_Qi D vwCl (g_A G sz) (fun r u => r = 3)) 0 0 (g_A G sz) := by
  refine g_ofW (by decide +kernel) (Nat.le_of_ble_eq_true rfl) ?_
  intro p e s m below meth c ls S hr hlk hin hE w hl
  have hx := S.1
  have hb := S.2.1
  have hl : lv_has ls 1 [(0, .ref x)] := hl
  obtain ⟨hxq, f0, f1, f2, f3, f4, f5, f6, f7, f8, f9, f10, f11, f12, f13, f14, f15, f16, f17, f18, f19⟩ := id hF
  refine lv_aload_n hx hb dX8_classes_0 rfl (lv_at hl 0 rfl) ?_
  refine gf_RX8_10_12 S hE w f0 rfl dX8_classes_1 ?_
  refine gf_RX8_110_4 S hE w f1 rfl dX8_classes_4 ?_
  exact g_iret hx hb hr hlk w (Nat.le_of_ble_eq_true rfl) (Nat.le_of_ble_eq_true rfl) dX8_classes_7 rfl
set_option maxHeartbeats 4000000 in
set_option maxRecDepth 100000 in
theorem h_fields (l : Launch) (D : va_G) (ar : Nat → ClassId) (κ : Nat → Nat) (G : gW) (sz : Nat) (x : Nat) (a : Int32) (q : Nat) (hF : FH ar κ G x q) (hlt : l.stackTraces = false) : vx_Met l yX8_fields (lwC yX8_fields cX8_fields 2 (some .int)) (rD 6 1 6) (g_Pc D vwCl (gT ar) (EX1 κ) G sz [.ref x, .int a]) (g_Qi D vwCl (g_A G sz) (fun r u => K_cls a = 0 ∧ r = 0)) (gX D (g_A G sz) (fun E u => (E = "java/lang/IndexOutOfBoundsException" ∧ K_cls a = 1))) 1 6 (g_A G sz) := by
  refine gx_ofW (by decide +kernel) (Nat.le_of_ble_eq_true rfl) ?_
  intro p e s m below meth c ls S hr hlk ht hE w hl
  have hx := S.1
  have hb := S.2.1
  have hl : lv_has ls 2 [(0, .ref x), (1, .int a)] := hl
  obtain ⟨hxq, f0, f1, f2, f3, f4, f5, f6, f7, f8, f9, f10, f11, f12, f13, f14, f15, f16, f17, f18, f19⟩ := id hF
  refine lv_aload_n hx hb dX8_fields_0 rfl (lv_at hl 0 rfl) ?_
  refine gf_RX8_10_12 S hE w f0 rfl dX8_fields_1 ?_
  refine lv_iload_n hx hb dX8_fields_4 rfl (lv_at hl 1 rfl) ?_
  refine g_calli w (g_runV (As := [.int a]) (rest := []) S hE w hl (c_X0_has l D ar κ G sz q a (q + 1) (q + 2) 3 f1) (k_RX8_83 S.2.2.2.2 ⟨Nat.le_of_ble_eq_true rfl, Nat.le_of_ble_eq_true rfl⟩) f1 rfl rfl rfl rfl (Nat.le_of_ble_eq_true rfl) dX8_fields_5 ⟨Nat.le_of_ble_eq_true rfl, Nat.le_of_ble_eq_true rfl⟩) (fun r u H locs hp hnz w => ?_)
  obtain ⟨rfl, rfl⟩ := hp
  dsimp only at w
  refine lv_if_ne (tgt := 21) hx hb dX8_fields_8 (by decide) (fun c_8 => ?_) (fun c_8 => ?_)
  · refine lv_aload_n hx hb dX8_fields_21 rfl (lv_at hl 0 rfl) ?_
    refine gf_RX8_10_12 S hE w f0 rfl dX8_fields_22 ?_
    refine lv_iload_n hx hb dX8_fields_25 rfl (lv_at hl 1 rfl) ?_
    refine g_calli w (g_runV (As := [.int a]) (rest := []) S hE w hl (c_X0_fieldsOf l D ar κ G sz q a (q + 1) (q + 2) 3 (fun _ => 0) f1 f3) (k_RX8_101 S.2.2.2.2 ⟨Nat.le_of_ble_eq_true rfl, Nat.le_of_ble_eq_true rfl⟩) f1 rfl rfl rfl rfl (Nat.le_of_ble_eq_true rfl) dX8_fields_26 ⟨Nat.le_of_ble_eq_true rfl, Nat.le_of_ble_eq_true rfl⟩) (fun r u H locs hp hnz w => ?_)
    obtain ⟨rfl, rfl⟩ := hp
    dsimp only at w
    exact vx_ret (g_iret hx hb hr hlk w (Nat.le_of_ble_eq_true rfl) (Nat.le_of_ble_eq_true rfl) dX8_fields_29 ⟨by simp [K_cls, c_8], aA_z⟩)
  · exact g_throwS (names := ["java/lang/RuntimeException", "java/lang/Exception"]) hlt S hE w hl ht hlk (by decide +kernel) (by decide +kernel) m_3_69 m_1_21 (List.mem_of_getElem? (i := 0) rfl) th_RX8_87_91_1 th_RX8_87_91_2 th_RX8_87_91_3 dX8_fields_11 dX8_fields_14 dX8_fields_15 dX8_fields_17 dX8_fields_20 (Nat.le_of_ble_eq_true rfl) (Nat.le_of_ble_eq_true rfl) (Nat.le_of_ble_eq_true rfl) (Nat.le_of_ble_eq_true rfl) (Nat.le_of_ble_eq_true rfl) (Nat.le_of_ble_eq_true rfl) (fun _ _ => ⟨rfl, by simp [K_cls, c_8]⟩)
set_option maxHeartbeats 4000000 in
set_option maxRecDepth 100000 in
theorem h_checkPlace (l : Launch) (D : va_G) (ar : Nat → ClassId) (κ : Nat → Nat) (G : gW) (sz : Nat) (x : Nat) (cl : Int32) (se : Int32) (q : Nat) (hF : FH ar κ G x q) (hlt : l.stackTraces = false) : vx_Met l yX8_checkPlaceOfMethod (lwC yX8_checkPlaceOfMethod cX8_checkPlaceOfMethod 3 none) (rD 6 1 6) (g_Pc D vwCl (gT ar) (EX1 κ) G sz [.ref x, .int cl, .int se]) (g_Qv D vwCl (g_A G sz) (fun u => (¬ isB cl 3 = 0 ∧ ¬ isB se 16 = 0) ∧ u = (G, sz))) (gX D (g_A G sz) (fun E u => (E = "java/lang/IndexOutOfBoundsException" ∧ (isB cl 3 = 0 ∨ isB se 16 = 0)))) 1 6 (g_A G sz) := by
  refine gx_ofW (by decide +kernel) (Nat.le_of_ble_eq_true rfl) ?_
  intro p e s m below meth c ls S hr hlk ht hE w hl
  have hx := S.1
  have hb := S.2.1
  have hl : lv_has ls 3 [(0, .ref x), (1, .int cl), (2, .int se)] := hl
  obtain ⟨hxq, f0, f1, f2, f3, f4, f5, f6, f7, f8, f9, f10, f11, f12, f13, f14, f15, f16, f17, f18, f19⟩ := id hF
  refine lv_aload_n hx hb dX8_checkPlaceOfMethod_0 rfl (lv_at hl 0 rfl) ?_
  refine gf_RX8_10_12 S hE w f0 rfl dX8_checkPlaceOfMethod_1 ?_
  refine lv_iload_n hx hb dX8_checkPlaceOfMethod_4 rfl (lv_at hl 1 rfl) ?_
  refine g_calli w (g_runV (As := [.int cl]) (rest := []) S hE w hl (c_X0_has l D ar κ G sz q cl (q + 1) (q + 2) 3 f1) (k_RX8_83 S.2.2.2.2 ⟨Nat.le_of_ble_eq_true rfl, Nat.le_of_ble_eq_true rfl⟩) f1 rfl rfl rfl rfl (Nat.le_of_ble_eq_true rfl) dX8_checkPlaceOfMethod_5 ⟨Nat.le_of_ble_eq_true rfl, Nat.le_of_ble_eq_true rfl⟩) (fun r u H locs hp hnz w => ?_)
  obtain ⟨rfl, rfl⟩ := hp
  dsimp only at w
  refine lv_if_eq (tgt := 20) hx hb dX8_checkPlaceOfMethod_8 (by decide) (fun c_8 => ?_) (fun c_8 => ?_)
  · exact g_throwS (names := ["java/lang/RuntimeException", "java/lang/Exception"]) hlt S hE w hl ht hlk (by decide +kernel) (by decide +kernel) m_3_69 m_1_21 (List.mem_of_getElem? (i := 5) rfl) th_RX8_87_91_1 th_RX8_87_91_2 th_RX8_87_91_3 dX8_checkPlaceOfMethod_20 dX8_checkPlaceOfMethod_23 dX8_checkPlaceOfMethod_24 dX8_checkPlaceOfMethod_26 dX8_checkPlaceOfMethod_29 (Nat.le_of_ble_eq_true rfl) (Nat.le_of_ble_eq_true rfl) (Nat.le_of_ble_eq_true rfl) (Nat.le_of_ble_eq_true rfl) (Nat.le_of_ble_eq_true rfl) (Nat.le_of_ble_eq_true rfl) (fun _ _ => ⟨rfl, by simp [c_8]⟩)
  · refine lv_iload_n hx hb dX8_checkPlaceOfMethod_11 rfl (lv_at hl 2 rfl) ?_
    refine lv_bipush (v := 16) hx hb dX8_checkPlaceOfMethod_12 (by decide) ?_
    refine g_calli w (g_runS (As := [.int se, .int 16]) (rest := []) S hE w hl (c_X8_isBelow l D ar κ G sz se 16) (k_RX8_97 S.2.2.2.2 ⟨Nat.le_of_ble_eq_true rfl, Nat.le_of_ble_eq_true rfl⟩) rfl rfl (Nat.le_of_ble_eq_true rfl) dX8_checkPlaceOfMethod_14 ⟨Nat.le_of_ble_eq_true rfl, Nat.le_of_ble_eq_true rfl⟩) (fun r u H locs hp hnz w => ?_)
    obtain ⟨rfl, rfl⟩ := hp
    dsimp only at w
    refine lv_if_ne (tgt := 30) hx hb dX8_checkPlaceOfMethod_17 (by decide) (fun c_17 => ?_) (fun c_17 => ?_)
    · exact vx_ret (g_vret hx hb hr hlk w (Nat.le_of_ble_eq_true rfl) (Nat.le_of_ble_eq_true rfl) dX8_checkPlaceOfMethod_30 ⟨⟨c_8, c_17⟩, rfl⟩)
    · exact g_throwS (names := ["java/lang/RuntimeException", "java/lang/Exception"]) hlt S hE w hl ht hlk (by decide +kernel) (by decide +kernel) m_3_69 m_1_21 (List.mem_of_getElem? (i := 5) rfl) th_RX8_87_91_1 th_RX8_87_91_2 th_RX8_87_91_3 dX8_checkPlaceOfMethod_20 dX8_checkPlaceOfMethod_23 dX8_checkPlaceOfMethod_24 dX8_checkPlaceOfMethod_26 dX8_checkPlaceOfMethod_29 (Nat.le_of_ble_eq_true rfl) (Nat.le_of_ble_eq_true rfl) (Nat.le_of_ble_eq_true rfl) (Nat.le_of_ble_eq_true rfl) (Nat.le_of_ble_eq_true rfl) (Nat.le_of_ble_eq_true rfl) (fun _ _ => ⟨rfl, by simp [c_8, c_17]⟩)
set_option maxHeartbeats 4000000 in
set_option maxRecDepth 100000 in
theorem h_methodAt (l : Launch) (D : va_G) (ar : Nat → ClassId) (κ : Nat → Nat) (G : gW) (sz : Nat) (x : Nat) (cl : Int32) (se : Int32) (q : Nat) (hF : FH ar κ G x q) : Met l yX8_methodAt (lwC yX8_methodAt cX8_methodAt 3 (some (.object "Sendhouse$Told"))) (rD 2 0 0) (g_Pc D vwCl (gT ar) (EX1 κ) G sz [.ref x, .int cl, .int se]) (g_Qq D vwCl (g_A G sz) (fun r u => r = none ∧ u = (G, sz))) 0 0 (g_A G sz) := by
  refine g_ofW (by decide +kernel) (Nat.le_of_ble_eq_true rfl) ?_
  intro p e s m below meth c ls S hr hlk hin hE w hl
  have hx := S.1
  have hb := S.2.1
  have hl : lv_has ls 3 [(0, .ref x), (1, .int cl), (2, .int se)] := hl
  obtain ⟨hxq, f0, f1, f2, f3, f4, f5, f6, f7, f8, f9, f10, f11, f12, f13, f14, f15, f16, f17, f18, f19⟩ := id hF
  refine lv_iload_n hx hb dX8_methodAt_0 rfl (lv_at hl 1 rfl) ?_
  refine lv_bipush (v := 12) hx hb dX8_methodAt_1 (by decide) ?_
  refine g_calli w (g_runS (As := [.int cl, .int 12]) (rest := []) S hE w hl (c_X8_isBelow l D ar κ G sz cl 12) (k_RX8_97 S.2.2.2.2 ⟨Nat.le_of_ble_eq_true rfl, Nat.le_of_ble_eq_true rfl⟩) rfl rfl (Nat.le_of_ble_eq_true rfl) dX8_methodAt_3 ⟨Nat.le_of_ble_eq_true rfl, Nat.le_of_ble_eq_true rfl⟩) (fun r u H locs hp hnz w => ?_)
  obtain ⟨rfl, rfl⟩ := hp
  dsimp only at w
  refine lv_if_eq (tgt := 18) hx hb dX8_methodAt_6 (by decide) (fun c_6 => ?_) (fun c_6 => ?_)
  · refine lv_null hx hb dX8_methodAt_18 ?_
    exact g_qret (r := none) hx hb hr (Or.inl ⟨_, rfl⟩) hlk w (Nat.le_of_ble_eq_true rfl) (Nat.le_of_ble_eq_true rfl) dX8_methodAt_19 ⟨rfl, rfl⟩
  · refine lv_iload_n hx hb dX8_methodAt_9 rfl (lv_at hl 2 rfl) ?_
    refine lv_bipush (v := 16) hx hb dX8_methodAt_10 (by decide) ?_
    refine g_calli w (g_runS (As := [.int se, .int 16]) (rest := []) S hE w hl (c_X8_isBelow l D ar κ G sz se 16) (k_RX8_97 S.2.2.2.2 ⟨Nat.le_of_ble_eq_true rfl, Nat.le_of_ble_eq_true rfl⟩) rfl rfl (Nat.le_of_ble_eq_true rfl) dX8_methodAt_12 ⟨Nat.le_of_ble_eq_true rfl, Nat.le_of_ble_eq_true rfl⟩) (fun r u H locs hp hnz w => ?_)
    obtain ⟨rfl, rfl⟩ := hp
    dsimp only at w
    refine lv_if_ne (tgt := 20) hx hb dX8_methodAt_15 (by decide) (fun c_15 => ?_) (fun c_15 => ?_)
    · refine lv_aload_n hx hb dX8_methodAt_20 rfl (lv_at hl 0 rfl) ?_
      refine gf_RX8_18_12 S hE w f0 rfl dX8_methodAt_21 ?_
      refine lv_iload_n hx hb dX8_methodAt_24 rfl (lv_at hl 1 rfl) ?_
      refine lv_bipush (v := 16) hx hb dX8_methodAt_25 (by decide) ?_
      refine lv_imul hx hb dX8_methodAt_27 ?_
      refine lv_iload_n hx hb dX8_methodAt_28 rfl (lv_at hl 2 rfl) ?_
      refine lv_iadd hx hb dX8_methodAt_29 ?_
      refine va_aldq hx hb hE.1 (g_1 w.1 f4) 0 8 rfl rfl (in_ms c_6 c_15) dX8_methodAt_30 ?_
      show W p l e _ s m _ below meth c _ _ _ _ _ (F0 m 31 ls (.null :: _))
      exact g_qret (r := none) hx hb hr (Or.inl ⟨_, rfl⟩) hlk w (Nat.le_of_ble_eq_true rfl) (Nat.le_of_ble_eq_true rfl) dX8_methodAt_31 ⟨rfl, rfl⟩
    · refine lv_null hx hb dX8_methodAt_18 ?_
      exact g_qret (r := none) hx hb hr (Or.inl ⟨_, rfl⟩) hlk w (Nat.le_of_ble_eq_true rfl) (Nat.le_of_ble_eq_true rfl) dX8_methodAt_19 ⟨rfl, rfl⟩
set_option maxHeartbeats 4000000 in
set_option maxRecDepth 100000 in
theorem h_checkedMethod (l : Launch) (D : va_G) (ar : Nat → ClassId) (κ : Nat → Nat) (G : gW) (sz : Nat) (x : Nat) (cl : Int32) (se : Int32) (q : Nat) (hF : FH ar κ G x q) (hlt : l.stackTraces = false) : vx_Met l yX8_checkedMethod (lwC yX8_checkedMethod cX8_checkedMethod 4 (some (.object "Sendhouse$Told"))) (rD 7 2 12) (g_Pc D vwCl (gT ar) (EX1 κ) G sz [.ref x, .int cl, .int se]) (g_Qq D vwCl (g_A G sz) (fun r u => False)) (gX D (g_A G sz) (fun E u => (E = "java/lang/IndexOutOfBoundsException" ∧ K_meth cl se = 1) ∨ (E = "java/util/NoSuchElementException" ∧ K_meth cl se = 2))) 2 12 (g_A G sz) := by
  refine gx_ofW (by decide +kernel) (Nat.le_of_ble_eq_true rfl) ?_
  intro p e s m below meth c ls S hr hlk ht hE w hl
  have hx := S.1
  have hb := S.2.1
  have hl : lv_has ls 4 [(0, .ref x), (1, .int cl), (2, .int se)] := hl
  obtain ⟨hxq, f0, f1, f2, f3, f4, f5, f6, f7, f8, f9, f10, f11, f12, f13, f14, f15, f16, f17, f18, f19⟩ := id hF
  refine lv_aload_n hx hb dX8_checkedMethod_0 rfl (lv_at hl 0 rfl) ?_
  refine lv_iload_n hx hb dX8_checkedMethod_1 rfl (lv_at hl 1 rfl) ?_
  refine lv_iload_n hx hb dX8_checkedMethod_2 rfl (lv_at hl 2 rfl) ?_
  refine gx_callv w (gx_runV (As := [.int cl, .int se]) (rest := []) S hE w hl (h_checkPlace l D ar κ G sz x cl se q hF hlt) (k_RX8_134 S.2.2.2.2 ⟨Nat.le_of_ble_eq_true rfl, Nat.le_of_ble_eq_true rfl⟩) f0 rfl rfl rfl rfl (Nat.le_of_ble_eq_true rfl) dX8_checkedMethod_3 ⟨Nat.le_of_ble_eq_true rfl, Nat.le_of_ble_eq_true rfl⟩) (fun E ce q9 u H locs hp hnz w hce hv hcl => g_pass ht hlk w hce hv hcl (by rcases hp with ⟨rfl, h9 | h9⟩ <;> exact Or.inl ⟨rfl, by simp [K_meth, h9]⟩) (Nat.le_of_ble_eq_true rfl) (Nat.le_of_ble_eq_true rfl)) (fun u H locs hp hnz w => ?_)
  obtain ⟨n_3, rfl⟩ := hp
  dsimp only at w
  refine lv_aload_n hx hb dX8_checkedMethod_6 rfl (lv_at hl 0 rfl) ?_
  refine lv_iload_n hx hb dX8_checkedMethod_7 rfl (lv_at hl 1 rfl) ?_
  refine lv_iload_n hx hb dX8_checkedMethod_8 rfl (lv_at hl 2 rfl) ?_
  refine g_callq w (g_runV (As := [.int cl, .int se]) (rest := []) S hE w hl (h_methodAt l D ar κ G sz x cl se q hF) (k_RX8_179 S.2.2.2.2 ⟨Nat.le_of_ble_eq_true rfl, Nat.le_of_ble_eq_true rfl⟩) f0 rfl rfl rfl rfl (Nat.le_of_ble_eq_true rfl) dX8_checkedMethod_9 ⟨Nat.le_of_ble_eq_true rfl, Nat.le_of_ble_eq_true rfl⟩) (fun r u H locs hp hnz w => ?_)
  obtain ⟨rfl, rfl⟩ := hp
  show W p l e _ s m _ below meth c _ _ _ _ _ (F0 m _ ls (.null :: _))
  dsimp only at w
  refine lv_astore_nN (lv' := [(3, .null), (0, .ref x), (1, .int cl), (2, .int se)]) hx hb dX8_checkedMethod_12 rfl hl (by decide) rfl (fun ls hl => ?_)
  refine lv_aload_nN hx hb dX8_checkedMethod_13 rfl (lv_at hl 0 rfl) ?_
  refine lv_ifnonnullN hx hb dX8_checkedMethod_14 ?_
  exact g_throwN (Y := "java/lang/RuntimeException") (r := ["java/lang/Exception"]) hlt S hE w hl ht hlk (by decide +kernel) (by decide +kernel) (by decide +kernel) m_4_49 m_1_35 (List.mem_of_getElem? (i := 8) rfl) nse_1 nse_2 nse_3 dX8_checkedMethod_17 dX8_checkedMethod_20 dX8_checkedMethod_21 dX8_checkedMethod_23 dX8_checkedMethod_26 (Nat.le_of_ble_eq_true rfl) (Nat.le_of_ble_eq_true rfl) (Nat.le_of_ble_eq_true rfl) (Nat.le_of_ble_eq_true rfl) (Nat.le_of_ble_eq_true rfl) (Nat.le_of_ble_eq_true rfl) (fun _ _ => Or.inr ⟨rfl, by simp [K_meth, n_3.1, n_3.2]⟩)
set_option maxHeartbeats 4000000 in
set_option maxRecDepth 100000 in
theorem h_lookUp (l : Launch) (D : va_G) (ar : Nat → ClassId) (κ : Nat → Nat) (G : gW) (sz : Nat) (x : Nat) (cl : Int32) (se : Int32) (q : Nat) (hF : FH ar κ G x q) : Met l yX8_lookUp (lwC yX8_lookUp cX8_lookUp 6 (some (.object "Sendhouse$Told"))) (rD 3 0 0) (g_Pc D vwCl (gT ar) (EX1 κ) G sz [.ref x, .int cl, .int se]) (g_Qq D vwCl (g_A G sz) (fun r u => r = none ∧ u = (G, sz))) 0 0 (g_A G sz) := by
  refine g_ofW (by decide +kernel) (Nat.le_of_ble_eq_true rfl) ?_
  intro p e s m below meth c ls S hr hlk hin hE w hl
  have hx := S.1
  have hb := S.2.1
  have hl : lv_has ls 6 [(0, .ref x), (1, .int cl), (2, .int se)] := hl
  obtain ⟨hxq, f0, f1, f2, f3, f4, f5, f6, f7, f8, f9, f10, f11, f12, f13, f14, f15, f16, f17, f18, f19⟩ := id hF
  refine lv_iload_n hx hb dX8_lookUp_0 rfl (lv_at hl 1 rfl) ?_
  refine lv_istore_n (lv' := [(3, .int cl), (0, .ref x), (1, .int cl), (2, .int se)]) hx hb dX8_lookUp_1 rfl hl (by decide) rfl (fun ls hl => ?_)
  refine lv_iconst (v := 0) hx hb dX8_lookUp_2 (by decide) ?_
  refine lv_istore (lv' := [(4, .int 0), (3, .int cl), (0, .ref x), (1, .int cl), (2, .int se)]) hx hb dX8_lookUp_3 hl (by decide) rfl (fun ls hl => ?_)
  have key : ∀ (n9 i : Nat), i ≤ 12 → 12 + 1 ≤ i + n9 → ∀ (x9 : Int32), x9 = nI i → ∀ (z9 : Int32) (H : Heap) (locs : List Loc) (ls : Array Slot), g_S D vwCl (g_A G sz) s.heap (G) H locs (sz) → lv_has ls 6 [(4, .int x9), (3, .int z9), (0, .ref x), (1, .int cl), (2, .int se)] → W p l e (rD 3 0 0) s m ([.ref x, .int cl, .int se] : List Value).toArray below meth c H locs (0) (0) (MQ below (g_Qq D vwCl (g_A G sz) (fun r u => r = none ∧ u = (G, sz))) ([.ref x, .int cl, .int se] : List Value).toArray s 0 0 (g_A G sz)) (F0 m 5 ls []) := by
    intro n9
    induction n9 with
    | zero => intro i hi1 hi2; exact absurd hi2 (by omega)
    | succ n9 ih =>
      intro i hi1 hi2 x9 ex9 z9 H locs ls w hl
      refine lv_iload hx hb dX8_lookUp_5 (lv_at hl 0 rfl) ?_
      refine lv_bipush (v := 12) hx hb dX8_lookUp_7 (by decide) ?_
      refine lv_icmp_ge (tgt := 48) hx hb dX8_lookUp_9 (by decide) (fun c_9 => ?_) (fun c_9 => ?_)
      · refine lv_null hx hb dX8_lookUp_48 ?_
        exact g_qret (r := none) hx hb hr (Or.inl ⟨_, rfl⟩) hlk w (by (try dsimp only [rD]); omega) (by (try dsimp only [rD]); omega) dX8_lookUp_49 ⟨rfl, rfl⟩
      · have hlt9 := lp_lt (n := 12) rfl ex9 hi1 (by decide) c_9
        refine lv_iload_n hx hb dX8_lookUp_12 rfl (lv_at hl 1 rfl) ?_
        refine lv_iconst (v := (-1)) hx hb dX8_lookUp_13 (by decide) ?_
        refine lv_icmp_eq (tgt := 48) hx hb dX8_lookUp_14 (by decide) (fun c_14 => ?_) (fun c_14 => ?_)
        · refine lv_null hx hb dX8_lookUp_48 ?_
          exact g_qret (r := none) hx hb hr (Or.inl ⟨_, rfl⟩) hlk w (by (try dsimp only [rD]); omega) (by (try dsimp only [rD]); omega) dX8_lookUp_49 ⟨rfl, rfl⟩
        · refine lv_aload_n hx hb dX8_lookUp_17 rfl (lv_at hl 2 rfl) ?_
          refine lv_iload_n hx hb dX8_lookUp_18 rfl (lv_at hl 1 rfl) ?_
          refine lv_iload_n hx hb dX8_lookUp_19 rfl (lv_at hl 4 rfl) ?_
          refine g_callq w (g_runV (As := [.int z9, .int se]) (rest := []) S hE w hl (h_methodAt l D ar κ G sz x z9 se q hF) (k_RX8_179 S.2.2.2.2 ⟨Nat.le_of_ble_eq_true rfl, Nat.le_of_ble_eq_true rfl⟩) f0 rfl rfl rfl rfl (Nat.le_of_ble_eq_true rfl) dX8_lookUp_20 ⟨(by (try dsimp only [rD]); omega), (by (try dsimp only [rD]); omega)⟩) (fun r u H locs hp hnz w => ?_)
          obtain ⟨rfl, rfl⟩ := hp
          show W p l e _ s m _ below meth c _ _ _ _ _ (F0 m _ ls (.null :: _))
          dsimp only at w
          refine lv_astoreN (lv' := [(5, .null), (4, .int x9), (3, .int z9), (0, .ref x), (1, .int cl), (2, .int se)]) hx hb dX8_lookUp_23 hl (by decide) rfl (fun ls hl => ?_)
          refine lv_aloadN hx hb dX8_lookUp_25 (lv_at hl 0 rfl) ?_
          refine lv_ifnullN (tgt := 33) hx hb dX8_lookUp_27 (by decide) ?_
          refine lv_aload_n hx hb dX8_lookUp_33 rfl (lv_at hl 3 rfl) ?_
          refine gf_RX8_10_12 S hE w f0 rfl dX8_lookUp_34 ?_
          refine lv_iload_n hx hb dX8_lookUp_37 rfl (lv_at hl 2 rfl) ?_
          refine g_calli w (g_runV (As := [.int z9]) (rest := []) S hE w hl (c_X0_aboveOf l D ar κ G sz q z9 (q + 1) (q + 2) 3 (upd (fun _ => 0) (Int32.toNatClampNeg 0) (-1)) f1 f2) (k_RX8_184 S.2.2.2.2 ⟨Nat.le_of_ble_eq_true rfl, Nat.le_of_ble_eq_true rfl⟩) f1 rfl rfl rfl rfl (Nat.le_of_ble_eq_true rfl) dX8_lookUp_38 ⟨(by (try dsimp only [rD]); omega), (by (try dsimp only [rD]); omega)⟩) (fun r u H locs hp hnz w => ?_)
          obtain ⟨rfl, rfl⟩ := hp
          dsimp only at w
          refine lv_istore_n (lv' := [(3, .int (aA (upd (fun _ => 0) (Int32.toNatClampNeg 0) (-1)) (-1) z9)), (5, .null), (4, .int x9), (0, .ref x), (1, .int cl), (2, .int se)]) hx hb dX8_lookUp_41 rfl hl (by decide) rfl (fun ls hl => ?_)
          refine lv_iinc (v := x9 + 1) (lv' := [(4, .int (x9 + 1)), (3, .int (aA (upd (fun _ => 0) (Int32.toNatClampNeg 0) (-1)) (-1) z9)), (5, .null), (0, .ref x), (1, .int cl), (2, .int se)]) hx hb dX8_lookUp_42 hl (k := 2) rfl rfl (by decide) rfl (fun ls hl => ?_)
          refine lv_goto (tgt := 5) hx hb dX8_lookUp_45 (by decide) ?_
          exact ih (i + 1) (by omega) (by omega) _ (by rw [ex9]; exact nI_1 i) _ _ _ _ w (lv_sub hl [0, 1, 3, 4, 5] rfl)
  exact key 13 0 (Nat.zero_le _) (by omega) 0 rfl _ _ _ _ w (lv_sub hl [0, 1, 2, 3, 4] rfl)
set_option maxHeartbeats 4000000 in
set_option maxRecDepth 100000 in
theorem h_remove (l : Launch) (D : va_G) (ar : Nat → ClassId) (κ : Nat → Nat) (G : gW) (sz : Nat) (x : Nat) (cl : Int32) (se : Int32) (q : Nat) (hF : FH ar κ G x q) (hlt : l.stackTraces = false) : vx_Met l yX8_remove (lwC yX8_remove cX8_remove 4 (some .int)) (rD 8 2 12) (g_Pc D vwCl (gT ar) (EX1 κ) G sz [.ref x, .int cl, .int se]) (g_Qi D vwCl (g_A G sz) (fun r u => False)) (gX D (g_A G sz) (fun E u => (E = "java/lang/IndexOutOfBoundsException" ∧ K_meth cl se = 1) ∨ (E = "java/util/NoSuchElementException" ∧ K_meth cl se = 2))) 2 12 (g_A G sz) := by
  refine gx_ofW (by decide +kernel) (Nat.le_of_ble_eq_true rfl) ?_
  intro p e s m below meth c ls S hr hlk ht hE w hl
  have hx := S.1
  have hb := S.2.1
  have hl : lv_has ls 4 [(0, .ref x), (1, .int cl), (2, .int se)] := hl
  obtain ⟨hxq, f0, f1, f2, f3, f4, f5, f6, f7, f8, f9, f10, f11, f12, f13, f14, f15, f16, f17, f18, f19⟩ := id hF
  refine lv_aload_n hx hb dX8_remove_0 rfl (lv_at hl 0 rfl) ?_
  refine lv_iload_n hx hb dX8_remove_1 rfl (lv_at hl 1 rfl) ?_
  refine lv_iload_n hx hb dX8_remove_2 rfl (lv_at hl 2 rfl) ?_
  exact gx_callq w (gx_runV (As := [.int cl, .int se]) (rest := []) S hE w hl (h_checkedMethod l D ar κ G sz x cl se q hF hlt) (k_RX8_159 S.2.2.2.2 ⟨Nat.le_of_ble_eq_true rfl, Nat.le_of_ble_eq_true rfl⟩) f0 rfl rfl rfl rfl (Nat.le_of_ble_eq_true rfl) dX8_remove_3 ⟨Nat.le_of_ble_eq_true rfl, Nat.le_of_ble_eq_true rfl⟩) (fun E ce q9 u H locs hp hnz w hce hv hcl => g_pass ht hlk w hce hv hcl hp (Nat.le_of_ble_eq_true rfl) (Nat.le_of_ble_eq_true rfl)) (fun r u H locs hp hnz w => hp.elim)
set_option maxHeartbeats 4000000 in
set_option maxRecDepth 100000 in
theorem h_calls (l : Launch) (D : va_G) (ar : Nat → ClassId) (κ : Nat → Nat) (G : gW) (sz : Nat) (x : Nat) (cl : Int32) (se : Int32) (q : Nat) (hF : FH ar κ G x q) (hlt : l.stackTraces = false) : vx_Met l yX8_calls (lwC yX8_calls cX8_calls 3 (some .int)) (rD 8 2 12) (g_Pc D vwCl (gT ar) (EX1 κ) G sz [.ref x, .int cl, .int se]) (g_Qi D vwCl (g_A G sz) (fun r u => False)) (gX D (g_A G sz) (fun E u => (E = "java/lang/IndexOutOfBoundsException" ∧ K_meth cl se = 1) ∨ (E = "java/util/NoSuchElementException" ∧ K_meth cl se = 2))) 2 12 (g_A G sz) := by
  refine gx_ofW (by decide +kernel) (Nat.le_of_ble_eq_true rfl) ?_
  intro p e s m below meth c ls S hr hlk ht hE w hl
  have hx := S.1
  have hb := S.2.1
  have hl : lv_has ls 3 [(0, .ref x), (1, .int cl), (2, .int se)] := hl
  obtain ⟨hxq, f0, f1, f2, f3, f4, f5, f6, f7, f8, f9, f10, f11, f12, f13, f14, f15, f16, f17, f18, f19⟩ := id hF
  refine lv_aload_n hx hb dX8_calls_0 rfl (lv_at hl 0 rfl) ?_
  refine lv_iload_n hx hb dX8_calls_1 rfl (lv_at hl 1 rfl) ?_
  refine lv_iload_n hx hb dX8_calls_2 rfl (lv_at hl 2 rfl) ?_
  exact gx_callq w (gx_runV (As := [.int cl, .int se]) (rest := []) S hE w hl (h_checkedMethod l D ar κ G sz x cl se q hF hlt) (k_RX8_159 S.2.2.2.2 ⟨Nat.le_of_ble_eq_true rfl, Nat.le_of_ble_eq_true rfl⟩) f0 rfl rfl rfl rfl (Nat.le_of_ble_eq_true rfl) dX8_calls_3 ⟨Nat.le_of_ble_eq_true rfl, Nat.le_of_ble_eq_true rfl⟩) (fun E ce q9 u H locs hp hnz w hce hv hcl => g_pass ht hlk w hce hv hcl hp (Nat.le_of_ble_eq_true rfl) (Nat.le_of_ble_eq_true rfl)) (fun r u H locs hp hnz w => hp.elim)
set_option maxHeartbeats 4000000 in
set_option maxRecDepth 100000 in
theorem h_compile (l : Launch) (D : va_G) (ar : Nat → ClassId) (κ : Nat → Nat) (G : gW) (sz : Nat) (x : Nat) (cl : Int32) (se : Int32) (q : Nat) (hF : FH ar κ G x q) (hlt : l.stackTraces = false) : vx_Met l yX8_compile (lwC yX8_compile cX8_compile 3 (some .int)) (rD 8 2 12) (g_Pc D vwCl (gT ar) (EX1 κ) G sz [.ref x, .int cl, .int se]) (g_Qi D vwCl (g_A G sz) (fun r u => False)) (gX D (g_A G sz) (fun E u => (E = "java/lang/IndexOutOfBoundsException" ∧ K_meth cl se = 1) ∨ (E = "java/util/NoSuchElementException" ∧ K_meth cl se = 2))) 2 12 (g_A G sz) := by
  refine gx_ofW (by decide +kernel) (Nat.le_of_ble_eq_true rfl) ?_
  intro p e s m below meth c ls S hr hlk ht hE w hl
  have hx := S.1
  have hb := S.2.1
  have hl : lv_has ls 3 [(0, .ref x), (1, .int cl), (2, .int se)] := hl
  obtain ⟨hxq, f0, f1, f2, f3, f4, f5, f6, f7, f8, f9, f10, f11, f12, f13, f14, f15, f16, f17, f18, f19⟩ := id hF
  refine lv_aload_n hx hb dX8_compile_0 rfl (lv_at hl 0 rfl) ?_
  refine lv_iload_n hx hb dX8_compile_1 rfl (lv_at hl 1 rfl) ?_
  refine lv_iload_n hx hb dX8_compile_2 rfl (lv_at hl 2 rfl) ?_
  exact gx_callq w (gx_runV (As := [.int cl, .int se]) (rest := []) S hE w hl (h_checkedMethod l D ar κ G sz x cl se q hF hlt) (k_RX8_159 S.2.2.2.2 ⟨Nat.le_of_ble_eq_true rfl, Nat.le_of_ble_eq_true rfl⟩) f0 rfl rfl rfl rfl (Nat.le_of_ble_eq_true rfl) dX8_compile_3 ⟨Nat.le_of_ble_eq_true rfl, Nat.le_of_ble_eq_true rfl⟩) (fun E ce q9 u H locs hp hnz w hce hv hcl => g_pass ht hlk w hce hv hcl hp (Nat.le_of_ble_eq_true rfl) (Nat.le_of_ble_eq_true rfl)) (fun r u H locs hp hnz w => hp.elim)
set_option maxHeartbeats 4000000 in
set_option maxRecDepth 100000 in
theorem h_isCompiled (l : Launch) (D : va_G) (ar : Nat → ClassId) (κ : Nat → Nat) (G : gW) (sz : Nat) (x : Nat) (cl : Int32) (se : Int32) (q : Nat) (hF : FH ar κ G x q) (hlt : l.stackTraces = false) : vx_Met l yX8_isCompiled (lwC yX8_isCompiled cX8_isCompiled 3 (some .boolean)) (rD 8 2 12) (g_Pc D vwCl (gT ar) (EX1 κ) G sz [.ref x, .int cl, .int se]) (g_Qi D vwCl (g_A G sz) (fun r u => False)) (gX D (g_A G sz) (fun E u => (E = "java/lang/IndexOutOfBoundsException" ∧ K_meth cl se = 1) ∨ (E = "java/util/NoSuchElementException" ∧ K_meth cl se = 2))) 2 12 (g_A G sz) := by
  refine gx_ofW (by decide +kernel) (Nat.le_of_ble_eq_true rfl) ?_
  intro p e s m below meth c ls S hr hlk ht hE w hl
  have hx := S.1
  have hb := S.2.1
  have hl : lv_has ls 3 [(0, .ref x), (1, .int cl), (2, .int se)] := hl
  obtain ⟨hxq, f0, f1, f2, f3, f4, f5, f6, f7, f8, f9, f10, f11, f12, f13, f14, f15, f16, f17, f18, f19⟩ := id hF
  refine lv_aload_n hx hb dX8_isCompiled_0 rfl (lv_at hl 0 rfl) ?_
  refine lv_iload_n hx hb dX8_isCompiled_1 rfl (lv_at hl 1 rfl) ?_
  refine lv_iload_n hx hb dX8_isCompiled_2 rfl (lv_at hl 2 rfl) ?_
  exact gx_callq w (gx_runV (As := [.int cl, .int se]) (rest := []) S hE w hl (h_checkedMethod l D ar κ G sz x cl se q hF hlt) (k_RX8_159 S.2.2.2.2 ⟨Nat.le_of_ble_eq_true rfl, Nat.le_of_ble_eq_true rfl⟩) f0 rfl rfl rfl rfl (Nat.le_of_ble_eq_true rfl) dX8_isCompiled_3 ⟨Nat.le_of_ble_eq_true rfl, Nat.le_of_ble_eq_true rfl⟩) (fun E ce q9 u H locs hp hnz w hce hv hcl => g_pass ht hlk w hce hv hcl hp (Nat.le_of_ble_eq_true rfl) (Nat.le_of_ble_eq_true rfl)) (fun r u H locs hp hnz w => hp.elim)
set_option maxHeartbeats 4000000 in
set_option maxRecDepth 100000 in
theorem h_find (l : Launch) (D : va_G) (ar : Nat → ClassId) (κ : Nat → Nat) (G : gW) (sz : Nat) (x : Nat) (cl : Int32) (se : Int32) (q : Nat) (hF : FH ar κ G x q) (hlt : l.stackTraces = false) : vx_Met l yX8_find (lwC yX8_find cX8_find 4 (some .int)) (rD 8 2 12) (g_Pc D vwCl (gT ar) (EX1 κ) G sz [.ref x, .int cl, .int se]) (g_Qi D vwCl (g_A G sz) (fun r u => False)) (gX D (g_A G sz) (fun E u => (E = "java/lang/IndexOutOfBoundsException" ∧ K_meth cl se = 1) ∨ (E = "java/util/NoSuchElementException" ∧ K_meth cl se = 2))) 2 12 (g_A G sz) := by
  refine gx_ofW (by decide +kernel) (Nat.le_of_ble_eq_true rfl) ?_
  intro p e s m below meth c ls S hr hlk ht hE w hl
  have hx := S.1
  have hb := S.2.1
  have hl : lv_has ls 4 [(0, .ref x), (1, .int cl), (2, .int se)] := hl
  obtain ⟨hxq, f0, f1, f2, f3, f4, f5, f6, f7, f8, f9, f10, f11, f12, f13, f14, f15, f16, f17, f18, f19⟩ := id hF
  refine lv_aload_n hx hb dX8_find_0 rfl (lv_at hl 0 rfl) ?_
  refine lv_iload_n hx hb dX8_find_1 rfl (lv_at hl 1 rfl) ?_
  refine lv_iload_n hx hb dX8_find_2 rfl (lv_at hl 2 rfl) ?_
  refine gx_callv w (gx_runV (As := [.int cl, .int se]) (rest := []) S hE w hl (h_checkPlace l D ar κ G sz x cl se q hF hlt) (k_RX8_134 S.2.2.2.2 ⟨Nat.le_of_ble_eq_true rfl, Nat.le_of_ble_eq_true rfl⟩) f0 rfl rfl rfl rfl (Nat.le_of_ble_eq_true rfl) dX8_find_3 ⟨Nat.le_of_ble_eq_true rfl, Nat.le_of_ble_eq_true rfl⟩) (fun E ce q9 u H locs hp hnz w hce hv hcl => g_pass ht hlk w hce hv hcl (by rcases hp with ⟨rfl, h9 | h9⟩ <;> exact Or.inl ⟨rfl, by simp [K_meth, h9]⟩) (Nat.le_of_ble_eq_true rfl) (Nat.le_of_ble_eq_true rfl)) (fun u H locs hp hnz w => ?_)
  obtain ⟨n_3, rfl⟩ := hp
  dsimp only at w
  refine lv_aload_n hx hb dX8_find_6 rfl (lv_at hl 0 rfl) ?_
  refine lv_iload_n hx hb dX8_find_7 rfl (lv_at hl 1 rfl) ?_
  refine lv_iload_n hx hb dX8_find_8 rfl (lv_at hl 2 rfl) ?_
  refine g_callq w (g_runV (As := [.int cl, .int se]) (rest := []) S hE w hl (h_lookUp l D ar κ G sz x cl se q hF) (k_RX8_166 S.2.2.2.2 ⟨Nat.le_of_ble_eq_true rfl, Nat.le_of_ble_eq_true rfl⟩) f0 rfl rfl rfl rfl (Nat.le_of_ble_eq_true rfl) dX8_find_9 ⟨Nat.le_of_ble_eq_true rfl, Nat.le_of_ble_eq_true rfl⟩) (fun r u H locs hp hnz w => ?_)
  obtain ⟨rfl, rfl⟩ := hp
  show W p l e _ s m _ below meth c _ _ _ _ _ (F0 m _ ls (.null :: _))
  dsimp only at w
  refine lv_astore_nN (lv' := [(3, .null), (0, .ref x), (1, .int cl), (2, .int se)]) hx hb dX8_find_12 rfl hl (by decide) rfl (fun ls hl => ?_)
  refine lv_aload_nN hx hb dX8_find_13 rfl (lv_at hl 0 rfl) ?_
  refine lv_ifnonnullN hx hb dX8_find_14 ?_
  exact g_throwN (Y := "java/lang/RuntimeException") (r := ["java/lang/Exception"]) hlt S hE w hl ht hlk (by decide +kernel) (by decide +kernel) (by decide +kernel) m_4_49 m_1_35 (List.mem_of_getElem? (i := 9) rfl) nse_1 nse_2 nse_3 dX8_find_17 dX8_find_20 dX8_find_21 dX8_find_23 dX8_find_26 (Nat.le_of_ble_eq_true rfl) (Nat.le_of_ble_eq_true rfl) (Nat.le_of_ble_eq_true rfl) (Nat.le_of_ble_eq_true rfl) (Nat.le_of_ble_eq_true rfl) (Nat.le_of_ble_eq_true rfl) (fun _ _ => Or.inr ⟨rfl, by simp [K_meth, n_3.1, n_3.2]⟩)
set_option maxHeartbeats 4000000 in
set_option maxRecDepth 100000 in
theorem h_hot (l : Launch) (D : va_G) (ar : Nat → ClassId) (κ : Nat → Nat) (G : gW) (sz : Nat) (x : Nat) (a : Int32) (q : Nat) (hF : FH ar κ G x q) (hlt : l.stackTraces = false) : vx_Met l yX8_hot (lwC yX8_hot cX8_hot 3 (some .int)) (rD 8 1 6) (g_Pc D vwCl (gT ar) (EX1 κ) G sz [.ref x, .int a]) (g_Qi D vwCl (g_A G sz) (fun r u => K_hot a = 0 ∧ r = 0)) (gX D (g_A G sz) (fun E u => (E = "java/lang/IllegalArgumentException" ∧ K_hot a = 1))) 1 6 (g_A G sz) := by
  refine gx_ofW (by decide +kernel) (Nat.le_of_ble_eq_true rfl) ?_
  intro p e s m below meth c ls S hr hlk ht hE w hl
  have hx := S.1
  have hb := S.2.1
  have hl : lv_has ls 3 [(0, .ref x), (1, .int a)] := hl
  obtain ⟨hxq, f0, f1, f2, f3, f4, f5, f6, f7, f8, f9, f10, f11, f12, f13, f14, f15, f16, f17, f18, f19⟩ := id hF
  refine lv_iload_n hx hb dX8_hot_0 rfl (lv_at hl 1 rfl) ?_
  refine lv_bipush (v := 100) hx hb dX8_hot_1 (by decide) ?_
  refine g_calli w (g_runS (As := [.int a, .int 100]) (rest := []) S hE w hl (c_X8_isBelow l D ar κ G sz a 100) (k_RX8_97 S.2.2.2.2 ⟨Nat.le_of_ble_eq_true rfl, Nat.le_of_ble_eq_true rfl⟩) rfl rfl (Nat.le_of_ble_eq_true rfl) dX8_hot_3 ⟨Nat.le_of_ble_eq_true rfl, Nat.le_of_ble_eq_true rfl⟩) (fun r u H locs hp hnz w => ?_)
  obtain ⟨rfl, rfl⟩ := hp
  dsimp only at w
  refine lv_if_ne (tgt := 19) hx hb dX8_hot_6 (by decide) (fun c_6 => ?_) (fun c_6 => ?_)
  · refine lv_aload_n hx hb dX8_hot_19 rfl (lv_at hl 0 rfl) ?_
    refine gf_RX8_29_12 S hE w f0 rfl dX8_hot_20 ?_
    refine lv_istore_n (lv' := [(2, .int 0), (0, .ref x), (1, .int a)]) hx hb dX8_hot_23 rfl hl (by decide) rfl (fun ls hl => ?_)
    refine lv_aload_n hx hb dX8_hot_24 rfl (lv_at hl 1 rfl) ?_
    refine lv_iload_n hx hb dX8_hot_25 rfl (lv_at hl 2 rfl) ?_
    refine pf_RX8_29_12 (fs1 := [.ref q, .ref (q + 3), .ref (q + 4), .int a, .ref (q + 10), .ref (q + 11), .ref (q + 134), .int 0, .int 45, .int 32, .long 502511173632, .int 0, .ref (q + 135)]) S hE w f0 rfl rfl (Nat.le_of_ble_eq_true rfl) rfl dX8_hot_26 (fun H locs w => ?_)
    refine lv_iload_n hx hb dX8_hot_29 rfl (lv_at hl 0 rfl) ?_
    exact vx_ret (g_iret hx hb hr hlk w (Nat.le_of_ble_eq_true rfl) (Nat.le_of_ble_eq_true rfl) dX8_hot_30 (by first | (simp [K_hot, c_6]; done) | (simp [K_hot, c_6]; decide)))
  · exact g_throwS (names := ["java/lang/RuntimeException", "java/lang/Exception"]) hlt S hE w hl ht hlk (by decide +kernel) (by decide +kernel) m_3_89 m_1_24 (List.mem_of_getElem? (i := 6) rfl) th_RX8_105_109_1 th_RX8_105_109_2 th_RX8_105_109_3 dX8_hot_9 dX8_hot_12 dX8_hot_13 dX8_hot_15 dX8_hot_18 (Nat.le_of_ble_eq_true rfl) (Nat.le_of_ble_eq_true rfl) (Nat.le_of_ble_eq_true rfl) (Nat.le_of_ble_eq_true rfl) (Nat.le_of_ble_eq_true rfl) (Nat.le_of_ble_eq_true rfl) (fun _ _ => ⟨rfl, by simp [K_hot, c_6]⟩)
set_option maxHeartbeats 4000000 in
set_option maxRecDepth 100000 in
theorem h_checkGlobal (l : Launch) (D : va_G) (ar : Nat → ClassId) (κ : Nat → Nat) (G : gW) (sz : Nat) (x : Nat) (g : Int32) (q : Nat) (hF : FH ar κ G x q) (hlt : l.stackTraces = false) : vx_Met l yX8_checkGlobal (lwC yX8_checkGlobal cX8_checkGlobal 2 none) (rD 6 1 6) (g_Pc D vwCl (gT ar) (EX1 κ) G sz [.ref x, .int g]) (g_Qv D vwCl (g_A G sz) (fun u => ¬ isB g 8 = 0 ∧ u = (G, sz))) (gX D (g_A G sz) (fun E u => (E = "java/lang/IndexOutOfBoundsException" ∧ isB g 8 = 0))) 1 6 (g_A G sz) := by
  refine gx_ofW (by decide +kernel) (Nat.le_of_ble_eq_true rfl) ?_
  intro p e s m below meth c ls S hr hlk ht hE w hl
  have hx := S.1
  have hb := S.2.1
  have hl : lv_has ls 2 [(0, .ref x), (1, .int g)] := hl
  obtain ⟨hxq, f0, f1, f2, f3, f4, f5, f6, f7, f8, f9, f10, f11, f12, f13, f14, f15, f16, f17, f18, f19⟩ := id hF
  refine lv_iload_n hx hb dX8_checkGlobal_0 rfl (lv_at hl 1 rfl) ?_
  refine lv_bipush (v := 8) hx hb dX8_checkGlobal_1 (by decide) ?_
  refine g_calli w (g_runS (As := [.int g, .int 8]) (rest := []) S hE w hl (c_X8_isBelow l D ar κ G sz g 8) (k_RX8_97 S.2.2.2.2 ⟨Nat.le_of_ble_eq_true rfl, Nat.le_of_ble_eq_true rfl⟩) rfl rfl (Nat.le_of_ble_eq_true rfl) dX8_checkGlobal_3 ⟨Nat.le_of_ble_eq_true rfl, Nat.le_of_ble_eq_true rfl⟩) (fun r u H locs hp hnz w => ?_)
  obtain ⟨rfl, rfl⟩ := hp
  dsimp only at w
  refine lv_if_ne (tgt := 20) hx hb dX8_checkGlobal_6 (by decide) (fun c_6 => ?_) (fun c_6 => ?_)
  · exact vx_ret (g_vret hx hb hr hlk w (Nat.le_of_ble_eq_true rfl) (Nat.le_of_ble_eq_true rfl) dX8_checkGlobal_20 ⟨c_6, rfl⟩)
  · exact g_throwSW (names := ["java/lang/RuntimeException", "java/lang/Exception"]) hlt S hE w hl ht hlk (by decide +kernel) (by decide +kernel) m_3_69 m_1_21 (List.mem_of_getElem? (i := 10) rfl) th_RX8_87_91_1 th_RX8_87_91_2 th_RX8_87_91_3 dX8_checkGlobal_9 dX8_checkGlobal_12 dX8_checkGlobal_13 dX8_checkGlobal_16 dX8_checkGlobal_19 (Nat.le_of_ble_eq_true rfl) (Nat.le_of_ble_eq_true rfl) (Nat.le_of_ble_eq_true rfl) (Nat.le_of_ble_eq_true rfl) (Nat.le_of_ble_eq_true rfl) (Nat.le_of_ble_eq_true rfl) (fun _ _ => ⟨rfl, by simp [c_6]⟩)
set_option maxHeartbeats 4000000 in
set_option maxRecDepth 100000 in
theorem c_X8_ofNumber (l : Launch) (D : va_G) (ar : Nat → ClassId) (κ : Nat → Nat) (G : gW) (sz : Nat) (i : Int32) : Met l yX8_ofNumber (lwC yX8_ofNumber cX8_ofNumber 1 (some .long)) (rD 1 0 0) (g_Pc D vwCl (gT ar) (EX1 κ) G sz [.int i]) (g_Ql D vwCl (g_A G sz) (fun r u => r = 472446402560 ||| (i.toInt64 &&& 4294967295) ∧ u = (G, sz))) 0 0 (g_A G sz) := by
  refine g_ofW (by decide +kernel) (Nat.le_of_ble_eq_true rfl) ?_
  intro p e s m below meth c ls S hr hlk hin hE w hl
  have hx := S.1
  have hb := S.2.1
  have hl : lv_has ls 1 [(0, .int i)] := hl
  refine lv_ldc2 hx hb S.2.2.2.1 (S.2.2.2.2 _ m_4_128) dX8_ofNumber_0 ?_
  refine lv_iload_n hx hb dX8_ofNumber_3 rfl (lv_at hl 0 rfl) ?_
  refine lv_i2l hx hb dX8_ofNumber_4 rfl ?_
  refine lv_ldc2 hx hb S.2.2.2.1 (S.2.2.2.2 _ m_4_129) dX8_ofNumber_5 ?_
  refine lv_land hx hb dX8_ofNumber_8 ?_
  refine lv_lor hx hb dX8_ofNumber_9 ?_
  exact g_lret hx hb hr hlk w (Nat.le_of_ble_eq_true rfl) (Nat.le_of_ble_eq_true rfl) dX8_ofNumber_10 ⟨rfl, rfl⟩
set_option maxHeartbeats 4000000 in
set_option maxRecDepth 100000 in
theorem c_X8_ofThing (l : Launch) (D : va_G) (ar : Nat → ClassId) (κ : Nat → Nat) (G : gW) (sz : Nat) (i : Int32) : Met l yX8_ofThing (lwC yX8_ofThing cX8_ofThing 1 (some .long)) (rD 1 0 0) (g_Pc D vwCl (gT ar) (EX1 κ) G sz [.int i]) (g_Ql D vwCl (g_A G sz) (fun r u => r = 476741369856 ||| (i.toInt64 &&& 4294967295) ∧ u = (G, sz))) 0 0 (g_A G sz) := by
  refine g_ofW (by decide +kernel) (Nat.le_of_ble_eq_true rfl) ?_
  intro p e s m below meth c ls S hr hlk hin hE w hl
  have hx := S.1
  have hb := S.2.1
  have hl : lv_has ls 1 [(0, .int i)] := hl
  refine lv_ldc2 hx hb S.2.2.2.1 (S.2.2.2.2 _ m_4_167) dX8_ofThing_0 ?_
  refine lv_iload_n hx hb dX8_ofThing_3 rfl (lv_at hl 0 rfl) ?_
  refine lv_i2l hx hb dX8_ofThing_4 rfl ?_
  refine lv_ldc2 hx hb S.2.2.2.1 (S.2.2.2.2 _ m_4_129) dX8_ofThing_5 ?_
  refine lv_land hx hb dX8_ofThing_8 ?_
  refine lv_lor hx hb dX8_ofThing_9 ?_
  exact g_lret hx hb hr hlk w (Nat.le_of_ble_eq_true rfl) (Nat.le_of_ble_eq_true rfl) dX8_ofThing_10 ⟨rfl, rfl⟩
set_option maxHeartbeats 4000000 in
set_option maxRecDepth 100000 in
theorem h_number (l : Launch) (D : va_G) (ar : Nat → ClassId) (κ : Nat → Nat) (G : gW) (sz : Nat) (x : Nat) (g : Int32) (i : Int32) (q : Nat) (hF : FH ar κ G x q) (hlt : l.stackTraces = false) : vx_Met l yX8_number (lwC yX8_number cX8_number 3 (some .int)) (rD 8 1 6) (g_Pc D vwCl (gT ar) (EX1 κ) G sz [.ref x, .int g, .int i]) (g_Qi D vwCl (g_A G sz) (fun r u => K_gl g = 0 ∧ r = 0)) (gX D (g_A G sz) (fun E u => (E = "java/lang/IndexOutOfBoundsException" ∧ K_gl g = 1))) 1 6 (g_A G sz) := by
  refine gx_ofW (by decide +kernel) (Nat.le_of_ble_eq_true rfl) ?_
  intro p e s m below meth c ls S hr hlk ht hE w hl
  have hx := S.1
  have hb := S.2.1
  have hl : lv_has ls 3 [(0, .ref x), (1, .int g), (2, .int i)] := hl
  obtain ⟨hxq, f0, f1, f2, f3, f4, f5, f6, f7, f8, f9, f10, f11, f12, f13, f14, f15, f16, f17, f18, f19⟩ := id hF
  refine lv_aload_n hx hb dX8_number_0 rfl (lv_at hl 0 rfl) ?_
  refine lv_iload_n hx hb dX8_number_1 rfl (lv_at hl 1 rfl) ?_
  refine gx_callv w (gx_runV (As := [.int g]) (rest := []) S hE w hl (h_checkGlobal l D ar κ G sz x g q hF hlt) (k_RX8_195 S.2.2.2.2 ⟨Nat.le_of_ble_eq_true rfl, Nat.le_of_ble_eq_true rfl⟩) f0 rfl rfl rfl rfl (Nat.le_of_ble_eq_true rfl) dX8_number_2 ⟨Nat.le_of_ble_eq_true rfl, Nat.le_of_ble_eq_true rfl⟩) (fun E ce q9 u H locs hp hnz w hce hv hcl => g_pass ht hlk w hce hv hcl (by obtain ⟨rfl, h9⟩ := hp; exact ⟨rfl, by simp [K_gl, h9]⟩) (Nat.le_of_ble_eq_true rfl) (Nat.le_of_ble_eq_true rfl)) (fun u H locs hp hnz w => ?_)
  obtain ⟨n_2, rfl⟩ := hp
  dsimp only at w
  refine lv_aload_n hx hb dX8_number_5 rfl (lv_at hl 0 rfl) ?_
  refine gf_RX8_33_12 S hE w f0 rfl dX8_number_6 ?_
  refine lv_iload_n hx hb dX8_number_9 rfl (lv_at hl 1 rfl) ?_
  refine lv_iload_n hx hb dX8_number_10 rfl (lv_at hl 2 rfl) ?_
  refine g_calll w (g_runS (As := [.int i]) (rest := [.int g, .ref (q + 10)]) S hE w hl (c_X8_ofNumber l D ar κ G sz i) (k_RX8_199 S.2.2.2.2 ⟨Nat.le_of_ble_eq_true rfl, Nat.le_of_ble_eq_true rfl⟩) rfl rfl (Nat.le_of_ble_eq_true rfl) dX8_number_11 ⟨Nat.le_of_ble_eq_true rfl, Nat.le_of_ble_eq_true rfl⟩) (fun r u H locs hp hnz w => ?_)
  obtain ⟨rfl, rfl⟩ := hp
  dsimp only at w
  refine g_callv w (g_runS (As := [.ref (q + 10), .int g, .long (472446402560 ||| (i.toInt64 &&& 4294967295))]) (rest := []) S hE w hl (c_X8_putAt l D ar κ G sz (q + 10) g (472446402560 ||| (i.toInt64 &&& 4294967295)) 8 (fillJ (fun _ => 0) 502511173632 8) f11 (by decide) n_2) (k_RX8_203 S.2.2.2.2 ⟨Nat.le_of_ble_eq_true rfl, Nat.le_of_ble_eq_true rfl⟩) rfl rfl (Nat.le_of_ble_eq_true rfl) dX8_number_14 ⟨Nat.le_of_ble_eq_true rfl, Nat.le_of_ble_eq_true rfl⟩) (fun u H locs hp hnz w => ?_)
  obtain rfl := hp
  dsimp only at w
  refine lv_aload_n hx hb dX8_number_17 rfl (lv_at hl 0 rfl) ?_
  refine gf_RX8_40_12 S hE w (g_up_o (g_nx f0 f11 (by simp)) f0) rfl dX8_number_18 ?_
  refine gf_RX8_207_9 S hE w (g_up_o (g_nx f12 f11 (by simp)) f12) rfl dX8_number_21 ?_
  exact vx_ret (g_iret hx hb hr hlk w (Nat.le_of_ble_eq_true rfl) (Nat.le_of_ble_eq_true rfl) dX8_number_24 ⟨by simp [K_gl, n_2], by first | rfl | decide⟩)
set_option maxHeartbeats 4000000 in
set_option maxRecDepth 100000 in
theorem h_nothing (l : Launch) (D : va_G) (ar : Nat → ClassId) (κ : Nat → Nat) (G : gW) (sz : Nat) (x : Nat) (g : Int32) (q : Nat) (hF : FH ar κ G x q) (hlt : l.stackTraces = false) : vx_Met l yX8_nothing (lwC yX8_nothing cX8_nothing 2 (some .int)) (rD 8 1 6) (g_Pc D vwCl (gT ar) (EX1 κ) G sz [.ref x, .int g]) (g_Qi D vwCl (g_A G sz) (fun r u => K_gl g = 0 ∧ r = 0)) (gX D (g_A G sz) (fun E u => (E = "java/lang/IndexOutOfBoundsException" ∧ K_gl g = 1))) 1 6 (g_A G sz) := by
  refine gx_ofW (by decide +kernel) (Nat.le_of_ble_eq_true rfl) ?_
  intro p e s m below meth c ls S hr hlk ht hE w hl
  have hx := S.1
  have hb := S.2.1
  have hl : lv_has ls 2 [(0, .ref x), (1, .int g)] := hl
  obtain ⟨hxq, f0, f1, f2, f3, f4, f5, f6, f7, f8, f9, f10, f11, f12, f13, f14, f15, f16, f17, f18, f19⟩ := id hF
  refine lv_aload_n hx hb dX8_nothing_0 rfl (lv_at hl 0 rfl) ?_
  refine lv_iload_n hx hb dX8_nothing_1 rfl (lv_at hl 1 rfl) ?_
  refine gx_callv w (gx_runV (As := [.int g]) (rest := []) S hE w hl (h_checkGlobal l D ar κ G sz x g q hF hlt) (k_RX8_195 S.2.2.2.2 ⟨Nat.le_of_ble_eq_true rfl, Nat.le_of_ble_eq_true rfl⟩) f0 rfl rfl rfl rfl (Nat.le_of_ble_eq_true rfl) dX8_nothing_2 ⟨Nat.le_of_ble_eq_true rfl, Nat.le_of_ble_eq_true rfl⟩) (fun E ce q9 u H locs hp hnz w hce hv hcl => g_pass ht hlk w hce hv hcl (by obtain ⟨rfl, h9⟩ := hp; exact ⟨rfl, by simp [K_gl, h9]⟩) (Nat.le_of_ble_eq_true rfl) (Nat.le_of_ble_eq_true rfl)) (fun u H locs hp hnz w => ?_)
  obtain ⟨n_2, rfl⟩ := hp
  dsimp only at w
  refine lv_aload_n hx hb dX8_nothing_5 rfl (lv_at hl 0 rfl) ?_
  refine gf_RX8_33_12 S hE w f0 rfl dX8_nothing_6 ?_
  refine lv_iload_n hx hb dX8_nothing_9 rfl (lv_at hl 1 rfl) ?_
  refine lv_ldc2 hx hb S.2.2.2.1 (S.2.2.2.2 _ m_1_158) dX8_nothing_10 ?_
  refine g_callv w (g_runS (As := [.ref (q + 10), .int g, .long 502511173632]) (rest := []) S hE w hl (c_X8_putAt l D ar κ G sz (q + 10) g 502511173632 8 (fillJ (fun _ => 0) 502511173632 8) f11 (by decide) n_2) (k_RX8_203 S.2.2.2.2 ⟨Nat.le_of_ble_eq_true rfl, Nat.le_of_ble_eq_true rfl⟩) rfl rfl (Nat.le_of_ble_eq_true rfl) dX8_nothing_13 ⟨Nat.le_of_ble_eq_true rfl, Nat.le_of_ble_eq_true rfl⟩) (fun u H locs hp hnz w => ?_)
  obtain rfl := hp
  dsimp only at w
  refine lv_aload_n hx hb dX8_nothing_16 rfl (lv_at hl 0 rfl) ?_
  refine gf_RX8_40_12 S hE w (g_up_o (g_nx f0 f11 (by simp)) f0) rfl dX8_nothing_17 ?_
  refine gf_RX8_207_9 S hE w (g_up_o (g_nx f12 f11 (by simp)) f12) rfl dX8_nothing_20 ?_
  exact vx_ret (g_iret hx hb hr hlk w (Nat.le_of_ble_eq_true rfl) (Nat.le_of_ble_eq_true rfl) dX8_nothing_23 ⟨by simp [K_gl, n_2], by first | rfl | decide⟩)
set_option maxHeartbeats 4000000 in
set_option maxRecDepth 100000 in
theorem h_kind (l : Launch) (D : va_G) (ar : Nat → ClassId) (κ : Nat → Nat) (G : gW) (sz : Nat) (x : Nat) (g : Int32) (q : Nat) (hF : FH ar κ G x q) (hlt : l.stackTraces = false) : vx_Met l yX8_kind (lwC yX8_kind cX8_kind 2 (some .char)) (rD 8 1 6) (g_Pc D vwCl (gT ar) (EX1 κ) G sz [.ref x, .int g]) (g_Qi D vwCl (g_A G sz) (fun r u => K_gl g = 0 ∧ r = 117)) (gX D (g_A G sz) (fun E u => (E = "java/lang/IndexOutOfBoundsException" ∧ K_gl g = 1))) 1 6 (g_A G sz) := by
  refine gx_ofW (by decide +kernel) (Nat.le_of_ble_eq_true rfl) ?_
  intro p e s m below meth c ls S hr hlk ht hE w hl
  have hx := S.1
  have hb := S.2.1
  have hl : lv_has ls 2 [(0, .ref x), (1, .int g)] := hl
  obtain ⟨hxq, f0, f1, f2, f3, f4, f5, f6, f7, f8, f9, f10, f11, f12, f13, f14, f15, f16, f17, f18, f19⟩ := id hF
  refine lv_aload_n hx hb dX8_kind_0 rfl (lv_at hl 0 rfl) ?_
  refine lv_iload_n hx hb dX8_kind_1 rfl (lv_at hl 1 rfl) ?_
  refine gx_callv w (gx_runV (As := [.int g]) (rest := []) S hE w hl (h_checkGlobal l D ar κ G sz x g q hF hlt) (k_RX8_195 S.2.2.2.2 ⟨Nat.le_of_ble_eq_true rfl, Nat.le_of_ble_eq_true rfl⟩) f0 rfl rfl rfl rfl (Nat.le_of_ble_eq_true rfl) dX8_kind_2 ⟨Nat.le_of_ble_eq_true rfl, Nat.le_of_ble_eq_true rfl⟩) (fun E ce q9 u H locs hp hnz w hce hv hcl => g_pass ht hlk w hce hv hcl (by obtain ⟨rfl, h9⟩ := hp; exact ⟨rfl, by simp [K_gl, h9]⟩) (Nat.le_of_ble_eq_true rfl) (Nat.le_of_ble_eq_true rfl)) (fun u H locs hp hnz w => ?_)
  obtain ⟨n_2, rfl⟩ := hp
  dsimp only at w
  refine lv_aload_n hx hb dX8_kind_5 rfl (lv_at hl 0 rfl) ?_
  refine gf_RX8_33_12 S hE w f0 rfl dX8_kind_6 ?_
  refine lv_iload_n hx hb dX8_kind_9 rfl (lv_at hl 1 rfl) ?_
  refine g_calll w (g_runS (As := [.ref (q + 10), .int g]) (rest := []) S hE w hl (c_X8_placeAt l D ar κ G sz (q + 10) g 8 (fillJ (fun _ => 0) 502511173632 8) f11 (by decide)) (k_RX8_222 S.2.2.2.2 ⟨Nat.le_of_ble_eq_true rfl, Nat.le_of_ble_eq_true rfl⟩) rfl rfl (Nat.le_of_ble_eq_true rfl) dX8_kind_10 ⟨Nat.le_of_ble_eq_true rfl, Nat.le_of_ble_eq_true rfl⟩) (fun r u H locs hp hnz w => ?_)
  obtain ⟨rfl, rfl⟩ := hp
  rw [show pA (fillJ (fun _ => 0) 502511173632 8) (Int32.ofNat 8) g = 502511173632 from pA_nt]
  dsimp only at w
  refine g_calli w (g_runS (As := [.long 502511173632]) (rest := []) S hE w hl (c_X8_kindOf l D ar κ G sz 502511173632) (k_RX8_226 S.2.2.2.2 ⟨Nat.le_of_ble_eq_true rfl, Nat.le_of_ble_eq_true rfl⟩) rfl rfl (Nat.le_of_ble_eq_true rfl) dX8_kind_13 ⟨Nat.le_of_ble_eq_true rfl, Nat.le_of_ble_eq_true rfl⟩) (fun r u H locs hp hnz w => ?_)
  obtain ⟨rfl, rfl⟩ := hp
  rw [show (kf 502511173632 : Int32) = 117 from by decide +kernel]
  dsimp only at w
  exact vx_ret (g_zret hx hb hr hlk w (Nat.le_of_ble_eq_true rfl) (Nat.le_of_ble_eq_true rfl) dX8_kind_16 rfl ⟨by simp [K_gl, n_2], by first | rfl | decide⟩)
set_option maxHeartbeats 4000000 in
set_option maxRecDepth 100000 in
theorem h_value (l : Launch) (D : va_G) (ar : Nat → ClassId) (κ : Nat → Nat) (G : gW) (sz : Nat) (x : Nat) (g : Int32) (q : Nat) (hF : FH ar κ G x q) (hlt : l.stackTraces = false) : vx_Met l yX8_value (lwC yX8_value cX8_value 2 (some .int)) (rD 8 1 6) (g_Pc D vwCl (gT ar) (EX1 κ) G sz [.ref x, .int g]) (g_Qi D vwCl (g_A G sz) (fun r u => K_gl g = 0 ∧ r = 0)) (gX D (g_A G sz) (fun E u => (E = "java/lang/IndexOutOfBoundsException" ∧ K_gl g = 1))) 1 6 (g_A G sz) := by
  refine gx_ofW (by decide +kernel) (Nat.le_of_ble_eq_true rfl) ?_
  intro p e s m below meth c ls S hr hlk ht hE w hl
  have hx := S.1
  have hb := S.2.1
  have hl : lv_has ls 2 [(0, .ref x), (1, .int g)] := hl
  obtain ⟨hxq, f0, f1, f2, f3, f4, f5, f6, f7, f8, f9, f10, f11, f12, f13, f14, f15, f16, f17, f18, f19⟩ := id hF
  refine lv_aload_n hx hb dX8_value_0 rfl (lv_at hl 0 rfl) ?_
  refine lv_iload_n hx hb dX8_value_1 rfl (lv_at hl 1 rfl) ?_
  refine gx_callv w (gx_runV (As := [.int g]) (rest := []) S hE w hl (h_checkGlobal l D ar κ G sz x g q hF hlt) (k_RX8_195 S.2.2.2.2 ⟨Nat.le_of_ble_eq_true rfl, Nat.le_of_ble_eq_true rfl⟩) f0 rfl rfl rfl rfl (Nat.le_of_ble_eq_true rfl) dX8_value_2 ⟨Nat.le_of_ble_eq_true rfl, Nat.le_of_ble_eq_true rfl⟩) (fun E ce q9 u H locs hp hnz w hce hv hcl => g_pass ht hlk w hce hv hcl (by obtain ⟨rfl, h9⟩ := hp; exact ⟨rfl, by simp [K_gl, h9]⟩) (Nat.le_of_ble_eq_true rfl) (Nat.le_of_ble_eq_true rfl)) (fun u H locs hp hnz w => ?_)
  obtain ⟨n_2, rfl⟩ := hp
  dsimp only at w
  refine lv_aload_n hx hb dX8_value_5 rfl (lv_at hl 0 rfl) ?_
  refine gf_RX8_33_12 S hE w f0 rfl dX8_value_6 ?_
  refine lv_iload_n hx hb dX8_value_9 rfl (lv_at hl 1 rfl) ?_
  refine g_calll w (g_runS (As := [.ref (q + 10), .int g]) (rest := []) S hE w hl (c_X8_placeAt l D ar κ G sz (q + 10) g 8 (fillJ (fun _ => 0) 502511173632 8) f11 (by decide)) (k_RX8_222 S.2.2.2.2 ⟨Nat.le_of_ble_eq_true rfl, Nat.le_of_ble_eq_true rfl⟩) rfl rfl (Nat.le_of_ble_eq_true rfl) dX8_value_10 ⟨Nat.le_of_ble_eq_true rfl, Nat.le_of_ble_eq_true rfl⟩) (fun r u H locs hp hnz w => ?_)
  obtain ⟨rfl, rfl⟩ := hp
  rw [show pA (fillJ (fun _ => 0) 502511173632 8) (Int32.ofNat 8) g = 502511173632 from pA_nt]
  dsimp only at w
  refine g_calli w (g_runS (As := [.long 502511173632]) (rest := []) S hE w hl (c_X8_numberOf l D ar κ G sz 502511173632) (k_RX8_230 S.2.2.2.2 ⟨Nat.le_of_ble_eq_true rfl, Nat.le_of_ble_eq_true rfl⟩) rfl rfl (Nat.le_of_ble_eq_true rfl) dX8_value_13 ⟨Nat.le_of_ble_eq_true rfl, Nat.le_of_ble_eq_true rfl⟩) (fun r u H locs hp hnz w => ?_)
  obtain ⟨rfl, rfl⟩ := hp
  rw [show (nf 502511173632 : Int32) = 0 from by decide +kernel]
  dsimp only at w
  exact vx_ret (g_iret hx hb hr hlk w (Nat.le_of_ble_eq_true rfl) (Nat.le_of_ble_eq_true rfl) dX8_value_16 ⟨by simp [K_gl, n_2], by first | rfl | decide⟩)
set_option maxHeartbeats 4000000 in
set_option maxRecDepth 100000 in
theorem c_X5_isFull (l : Launch) (D : va_G) (ar : Nat → ClassId) (κ : Nat → Nat) (G : gW) (sz : Nat) (o : Nat) (a1 : Nat) (a2 : Nat) (ho : G o = some (.inr (9, [.ref a1, .ref a2, .int 0, .int 0, .int 0]))) : Met l yX5_isFull (lwC yX5_isFull cX5_isFull 1 (some .boolean)) (rD 1 0 0) (g_Pc D vwCl (gT ar) (EX1 κ) G sz [.ref o]) (g_Qi D vwCl (g_A G sz) (fun r u => r = 0 ∧ u = (G, sz))) 0 0 (g_A G sz) := by
  refine g_ofW (by decide +kernel) (Nat.le_of_ble_eq_true rfl) ?_
  intro p e s m below meth c ls S hr hlk hin hE w hl
  have hx := S.1
  have hb := S.2.1
  have hl : lv_has ls 1 [(0, .ref o)] := hl
  have lt_ho : o < sz := g_ltn w ho
  refine lv_aload_n hx hb dX5_isFull_0 rfl (lv_at hl 0 rfl) ?_
  refine gf_RX5_20_9 S hE w ho rfl dX5_isFull_1 ?_
  refine lv_bipush (v := 60) hx hb dX5_isFull_4 (by decide) ?_
  refine lv_icmp_lt (tgt := 13) hx hb dX5_isFull_6 (by decide) (fun _ => ?_) (fun c => absurd (by decide) c)
  refine lv_iconst (v := 0) hx hb dX5_isFull_13 (by decide) ?_
  exact g_zret hx hb hr hlk w (Nat.le_of_ble_eq_true rfl) (Nat.le_of_ble_eq_true rfl) dX5_isFull_14 rfl ⟨rfl, rfl⟩
set_option maxHeartbeats 4000000 in
set_option maxRecDepth 100000 in
theorem c_X5_withNumber (l : Launch) (D : va_G) (ar : Nat → ClassId) (κ : Nat → Nat) (G : gW) (sz : Nat) (o : Nat) (n : Int32) (a1 : Nat) (a2 : Nat) (ho : G o = some (.inr (9, [.ref a1, .ref a2, .int 0, .int 0, .int 0]))) : Met l yX5_withNumber (lwC yX5_withNumber cX5_withNumber 7 (some (.object "Sendhouse$Thing"))) (rD 2 0 0) (g_Pc D vwCl (gT ar) (EX1 κ) G sz [.ref o, .int n]) (g_Qq D vwCl (g_A G sz) (fun r u => r = none ∧ u = (G, sz))) 0 0 (g_A G sz) := by
  refine g_ofW (by decide +kernel) (Nat.le_of_ble_eq_true rfl) ?_
  intro p e s m below meth c ls S hr hlk hin hE w hl
  have hx := S.1
  have hb := S.2.1
  have hl : lv_has ls 7 [(0, .ref o), (1, .int n)] := hl
  have lt_ho : o < sz := g_ltn w ho
  refine lv_iconst (v := 0) hx hb dX5_withNumber_0 (by decide) ?_
  refine lv_istore_n (lv' := [(2, .int 0), (0, .ref o), (1, .int n)]) hx hb dX5_withNumber_1 rfl hl (by decide) rfl (fun ls hl => ?_)
  refine lv_aload_n hx hb dX5_withNumber_2 rfl (lv_at hl 1 rfl) ?_
  refine gf_RX5_20_9 S hE w ho rfl dX5_withNumber_3 ?_
  refine lv_iconst (v := 1) hx hb dX5_withNumber_6 (by decide) ?_
  refine lv_isub hx hb dX5_withNumber_7 ?_
  rw [show (0 - 1 : Int32) = (-1) by decide +kernel]
  refine lv_istore_n (lv' := [(3, .int (-1)), (2, .int 0), (0, .ref o), (1, .int n)]) hx hb dX5_withNumber_8 rfl hl (by decide) rfl (fun ls hl => ?_)
  refine lv_iconst (v := 0) hx hb dX5_withNumber_9 (by decide) ?_
  refine lv_istore (lv' := [(4, .int 0), (3, .int (-1)), (2, .int 0), (0, .ref o), (1, .int n)]) hx hb dX5_withNumber_10 hl (by decide) rfl (fun ls hl => ?_)
  refine lv_iload hx hb dX5_withNumber_12 (lv_at hl 0 rfl) ?_
  refine lv_bipush (v := 60) hx hb dX5_withNumber_14 (by decide) ?_
  refine lv_icmp_ge (tgt := 102) hx hb dX5_withNumber_16 (by decide) (fun c => absurd c (by decide)) (fun _ => ?_)
  refine lv_iload_n hx hb dX5_withNumber_19 rfl (lv_at hl 2 rfl) ?_
  refine lv_iload_n hx hb dX5_withNumber_20 rfl (lv_at hl 1 rfl) ?_
  refine lv_icmp_gt (tgt := 102) hx hb dX5_withNumber_21 (by decide) (fun _ => ?_) (fun c => absurd (by decide) c)
  refine lv_null hx hb dX5_withNumber_102 ?_
  exact g_qret (r := none) hx hb hr (Or.inl ⟨_, rfl⟩) hlk w (Nat.le_of_ble_eq_true rfl) (Nat.le_of_ble_eq_true rfl) dX5_withNumber_103 ⟨rfl, rfl⟩
set_option maxHeartbeats 4000000 in
set_option maxRecDepth 100000 in
theorem c_X5_ofValue (l : Launch) (D : va_G) (ar : Nat → ClassId) (κ : Nat → Nat) (G : gW) (sz : Nat) (o : Nat) (v : Int64) (a1 : Nat) (a2 : Nat) (ho : G o = some (.inr (9, [.ref a1, .ref a2, .int 0, .int 0, .int 0]))) (hv : isT v = 0) : Met l yX5_ofValue (lwC yX5_ofValue cX5_ofValue 3 (some (.object "Sendhouse$Thing"))) (rD 3 0 0) (g_Pc D vwCl (gT ar) (EX1 κ) G sz [.ref o, .long v]) (g_Qq D vwCl (g_A G sz) (fun r u => r = none ∧ u = (G, sz))) 0 0 (g_A G sz) := by
  refine g_ofW (by decide +kernel) (Nat.le_of_ble_eq_true rfl) ?_
  intro p e s m below meth c ls S hr hlk hin hE w hl
  have hx := S.1
  have hb := S.2.1
  have hl : lv_has ls 3 [(0, .ref o), (1, .long v)] := hl
  have lt_ho : o < sz := g_ltn w ho
  refine lv_lload_n hx hb dX5_ofValue_0 rfl (lv_at hl 1 rfl) ?_
  refine g_calli w (g_runSN (As := [.long v]) (rest := []) S hE w hl (c_X8_isThing l D ar κ G sz v) (k_RX5_42 S.2.2.2.2 (hE.2.1.1 _ (ckN_0 _ (List.mem_of_getElem? (i := 29) rfl))) ⟨Nat.le_of_ble_eq_true rfl, Nat.le_of_ble_eq_true rfl⟩) rfl rfl (Nat.le_of_ble_eq_true rfl) dX5_ofValue_1 ⟨Nat.le_of_ble_eq_true rfl, Nat.le_of_ble_eq_true rfl⟩) (fun r u H locs hp hnz w => ?_)
  obtain ⟨rfl, rfl⟩ := hp
  dsimp only at w
  refine lv_if_eq (tgt := 18) hx hb dX5_ofValue_4 (by decide) (fun c_4 => ?_) (fun c_4 => absurd hv c_4)
  refine lv_null hx hb dX5_ofValue_18 ?_
  exact g_qret (r := none) hx hb hr (Or.inl ⟨_, rfl⟩) hlk w (Nat.le_of_ble_eq_true rfl) (Nat.le_of_ble_eq_true rfl) dX5_ofValue_19 ⟨rfl, rfl⟩
set_option maxHeartbeats 4000000 in
set_option maxRecDepth 100000 in
theorem c_X5_has (l : Launch) (D : va_G) (ar : Nat → ClassId) (κ : Nat → Nat) (G : gW) (sz : Nat) (o : Nat) (v : Int64) (a1 : Nat) (a2 : Nat) (ho : G o = some (.inr (9, [.ref a1, .ref a2, .int 0, .int 0, .int 0]))) (hv : isT v = 0) : Met l yX5_has (lwC yX5_has cX5_has 3 (some .boolean)) (rD 4 0 0) (g_Pc D vwCl (gT ar) (EX1 κ) G sz [.ref o, .long v]) (g_Qi D vwCl (g_A G sz) (fun r u => r = 1 ∧ u = (G, sz))) 0 0 (g_A G sz) := by
  refine g_ofW (by decide +kernel) (Nat.le_of_ble_eq_true rfl) ?_
  intro p e s m below meth c ls S hr hlk hin hE w hl
  have hx := S.1
  have hb := S.2.1
  have hl : lv_has ls 3 [(0, .ref o), (1, .long v)] := hl
  have lt_ho : o < sz := g_ltn w ho
  refine lv_lload_n hx hb dX5_has_0 rfl (lv_at hl 1 rfl) ?_
  refine g_calli w (g_runSN (As := [.long v]) (rest := []) S hE w hl (c_X8_isThing l D ar κ G sz v) (k_RX5_42 S.2.2.2.2 (hE.2.1.1 _ (ckN_0 _ (List.mem_of_getElem? (i := 29) rfl))) ⟨Nat.le_of_ble_eq_true rfl, Nat.le_of_ble_eq_true rfl⟩) rfl rfl (Nat.le_of_ble_eq_true rfl) dX5_has_1 ⟨Nat.le_of_ble_eq_true rfl, Nat.le_of_ble_eq_true rfl⟩) (fun r u H locs hp hnz w => ?_)
  obtain ⟨rfl, rfl⟩ := hp
  dsimp only at w
  refine lv_if_eq (tgt := 15) hx hb dX5_has_4 (by decide) (fun c_4 => ?_) (fun c_4 => absurd hv c_4)
  refine lv_iconst (v := 1) hx hb dX5_has_15 (by decide) ?_
  refine lv_goto (tgt := 20) hx hb dX5_has_16 (by decide) ?_
  exact g_zret hx hb hr hlk w (Nat.le_of_ble_eq_true rfl) (Nat.le_of_ble_eq_true rfl) dX5_has_20 rfl ⟨rfl, rfl⟩
set_option maxHeartbeats 4000000 in
set_option maxRecDepth 100000 in
theorem c_X5_reach (l : Launch) (D : va_G) (ar : Nat → ClassId) (κ : Nat → Nat) (G : gW) (sz : Nat) (o : Nat) (v : Int64) (a1 : Nat) (a2 : Nat) (ho : G o = some (.inr (9, [.ref a1, .ref a2, .int 0, .int 0, .int 0]))) (hv : isT v = 0) : Met l yX5_reach (lwC yX5_reach cX5_reach 4 none) (rD 4 0 0) (g_Pc D vwCl (gT ar) (EX1 κ) G sz [.ref o, .long v]) (g_Qv D vwCl (g_A G sz) (fun u => u = (G, sz))) 0 0 (g_A G sz) := by
  refine g_ofW (by decide +kernel) (Nat.le_of_ble_eq_true rfl) ?_
  intro p e s m below meth c ls S hr hlk hin hE w hl
  have hx := S.1
  have hb := S.2.1
  have hl : lv_has ls 4 [(0, .ref o), (1, .long v)] := hl
  have lt_ho : o < sz := g_ltn w ho
  refine lv_aload_n hx hb dX5_reach_0 rfl (lv_at hl 0 rfl) ?_
  refine lv_lload_n hx hb dX5_reach_1 rfl (lv_at hl 1 rfl) ?_
  refine g_callq w (g_runV (As := [.long v]) (rest := []) S hE w hl (c_X5_ofValue l D ar κ G sz o v a1 a2 ho hv) (k_RX5_57 S.2.2.2.2 ⟨Nat.le_of_ble_eq_true rfl, Nat.le_of_ble_eq_true rfl⟩) ho rfl rfl rfl rfl (Nat.le_of_ble_eq_true rfl) dX5_reach_2 ⟨Nat.le_of_ble_eq_true rfl, Nat.le_of_ble_eq_true rfl⟩) (fun r u H locs hp hnz w => ?_)
  obtain ⟨rfl, rfl⟩ := hp
  dsimp only at w
  refine lv_astore_nN (lv' := [(3, .null), (0, .ref o), (1, .long v)]) hx hb dX5_reach_5 rfl hl (by decide) rfl (fun ls hl => ?_)
  refine lv_aload_nN hx hb dX5_reach_6 rfl (lv_at hl 0 rfl) ?_
  refine lv_ifnullN (tgt := 57) hx hb dX5_reach_7 (by decide) ?_
  exact g_vret hx hb hr hlk w (Nat.le_of_ble_eq_true rfl) (Nat.le_of_ble_eq_true rfl) dX5_reach_57 rfl
