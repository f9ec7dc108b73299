theorem dX4_hasField_0 : decode cX4_hasField 0 = .ok (.iload_n 1, 1) := by decide +kernel
theorem dX4_hasField_1 : decode cX4_hasField 1 = .ok (.aload_n 0, 1) := by decide +kernel
theorem dX4_hasField_2 : decode cX4_hasField 2 = .ok (.getfield 22, 3) := by decide +kernel
theorem dX4_hasField_5 : decode cX4_hasField 5 = .ok (.invokestatic 37, 3) := by decide +kernel
theorem dX4_hasField_8 : decode cX4_hasField 8 = .ok (.ireturn, 1) := by decide +kernel
theorem dX4_open_0 : decode cX4_open 0 = .ok (.aload_n 0, 1) := by decide +kernel
theorem dX4_open_1 : decode cX4_open 1 = .ok (.iload_n 1, 1) := by decide +kernel
theorem dX4_open_2 : decode cX4_open 2 = .ok (.putfield 15, 3) := by decide +kernel
theorem dX4_open_5 : decode cX4_open 5 = .ok (.aload_n 0, 1) := by decide +kernel
theorem dX4_open_6 : decode cX4_open 6 = .ok (.iload_n 2, 1) := by decide +kernel
theorem dX4_open_7 : decode cX4_open 7 = .ok (.putfield 19, 3) := by decide +kernel
theorem dX4_open_10 : decode cX4_open 10 = .ok (.aload_n 0, 1) := by decide +kernel
theorem dX4_open_11 : decode cX4_open 11 = .ok (.iload_n 3, 1) := by decide +kernel
theorem dX4_open_12 : decode cX4_open 12 = .ok (.putfield 22, 3) := by decide +kernel
theorem dX4_open_15 : decode cX4_open 15 = .ok (.aload_n 0, 1) := by decide +kernel
theorem dX4_open_16 : decode cX4_open 16 = .ok (.iconst 0, 1) := by decide +kernel
theorem dX4_open_17 : decode cX4_open 17 = .ok (.putfield 25, 3) := by decide +kernel
theorem dX4_open_20 : decode cX4_open 20 = .ok (.aload_n 0, 1) := by decide +kernel
theorem dX4_open_21 : decode cX4_open 21 = .ok (.getfield 9, 3) := by decide +kernel
theorem dX4_open_24 : decode cX4_open 24 = .ok (.ldc2_w 29, 3) := by decide +kernel
theorem dX4_open_27 : decode cX4_open 27 = .ok (.invokestatic 31, 3) := by decide +kernel
theorem dX4_open_30 : decode cX4_open 30 = .ok (.return_, 1) := by decide +kernel
theorem dX5_isFull_0 : decode cX5_isFull 0 = .ok (.aload_n 0, 1) := by decide +kernel
theorem dX5_isFull_1 : decode cX5_isFull 1 = .ok (.getfield 20, 3) := by decide +kernel
theorem dX5_isFull_4 : decode cX5_isFull 4 = .ok (.bipush 60, 2) := by decide +kernel
theorem dX5_isFull_6 : decode cX5_isFull 6 = .ok (.if_icmp .lt 7, 3) := by decide +kernel
theorem dX5_isFull_9 : decode cX5_isFull 9 = .ok (.iconst 1, 1) := by decide +kernel
theorem dX5_isFull_10 : decode cX5_isFull 10 = .ok (.goto 4, 3) := by decide +kernel
theorem dX5_isFull_13 : decode cX5_isFull 13 = .ok (.iconst 0, 1) := by decide +kernel
theorem dX5_isFull_14 : decode cX5_isFull 14 = .ok (.ireturn, 1) := by decide +kernel
theorem dX5_inOrder_0 : decode cX5_inOrder 0 = .ok (.iload_n 1, 1) := by decide +kernel
theorem dX5_inOrder_1 : decode cX5_inOrder 1 = .ok (.aload_n 0, 1) := by decide +kernel
theorem dX5_inOrder_2 : decode cX5_inOrder 2 = .ok (.getfield 20, 3) := by decide +kernel
theorem dX5_inOrder_5 : decode cX5_inOrder 5 = .ok (.invokestatic 31, 3) := by decide +kernel
theorem dX5_inOrder_8 : decode cX5_inOrder 8 = .ok (.ifCond .eq 24, 3) := by decide +kernel
theorem dX5_inOrder_11 : decode cX5_inOrder 11 = .ok (.iload_n 1, 1) := by decide +kernel
theorem dX5_inOrder_12 : decode cX5_inOrder 12 = .ok (.aload_n 0, 1) := by decide +kernel
theorem dX5_inOrder_13 : decode cX5_inOrder 13 = .ok (.getfield 11, 3) := by decide +kernel
theorem dX5_inOrder_16 : decode cX5_inOrder 16 = .ok (.arraylength, 1) := by decide +kernel
theorem dX5_inOrder_17 : decode cX5_inOrder 17 = .ok (.invokestatic 31, 3) := by decide +kernel
theorem dX5_inOrder_20 : decode cX5_inOrder 20 = .ok (.ifCond .eq 12, 3) := by decide +kernel
theorem dX5_inOrder_23 : decode cX5_inOrder 23 = .ok (.aload_n 0, 1) := by decide +kernel
theorem dX5_inOrder_24 : decode cX5_inOrder 24 = .ok (.getfield 11, 3) := by decide +kernel
theorem dX5_inOrder_27 : decode cX5_inOrder 27 = .ok (.iload_n 1, 1) := by decide +kernel
theorem dX5_inOrder_28 : decode cX5_inOrder 28 = .ok (.aaload, 1) := by decide +kernel
theorem dX5_inOrder_29 : decode cX5_inOrder 29 = .ok (.goto 4, 3) := by decide +kernel
theorem dX5_inOrder_32 : decode cX5_inOrder 32 = .ok (.aconst_null, 1) := by decide +kernel
theorem dX5_inOrder_33 : decode cX5_inOrder 33 = .ok (.areturn, 1) := by decide +kernel
theorem dX5_enlist_0 : decode cX5_enlist 0 = .ok (.aload_n 0, 1) := by decide +kernel
theorem dX5_enlist_1 : decode cX5_enlist 1 = .ok (.getfield 27, 3) := by decide +kernel
theorem dX5_enlist_4 : decode cX5_enlist 4 = .ok (.istore_n 3, 1) := by decide +kernel
theorem dX5_enlist_5 : decode cX5_enlist 5 = .ok (.aload_n 0, 1) := by decide +kernel
theorem dX5_enlist_6 : decode cX5_enlist 6 = .ok (.getfield 20, 3) := by decide +kernel
theorem dX5_enlist_9 : decode cX5_enlist 9 = .ok (.aload_n 0, 1) := by decide +kernel
theorem dX5_enlist_10 : decode cX5_enlist 10 = .ok (.getfield 11, 3) := by decide +kernel
theorem dX5_enlist_13 : decode cX5_enlist 13 = .ok (.arraylength, 1) := by decide +kernel
theorem dX5_enlist_14 : decode cX5_enlist 14 = .ok (.invokestatic 31, 3) := by decide +kernel
theorem dX5_enlist_17 : decode cX5_enlist 17 = .ok (.ifCond .eq 15, 3) := by decide +kernel
theorem dX5_enlist_20 : decode cX5_enlist 20 = .ok (.aload_n 0, 1) := by decide +kernel
theorem dX5_enlist_21 : decode cX5_enlist 21 = .ok (.getfield 11, 3) := by decide +kernel
theorem dX5_enlist_24 : decode cX5_enlist 24 = .ok (.aload_n 0, 1) := by decide +kernel
theorem dX5_enlist_25 : decode cX5_enlist 25 = .ok (.getfield 20, 3) := by decide +kernel
theorem dX5_enlist_28 : decode cX5_enlist 28 = .ok (.aaload, 1) := by decide +kernel
theorem dX5_enlist_29 : decode cX5_enlist 29 = .ok (.goto 4, 3) := by decide +kernel
theorem dX5_enlist_32 : decode cX5_enlist 32 = .ok (.aconst_null, 1) := by decide +kernel
theorem dX5_enlist_33 : decode cX5_enlist 33 = .ok (.astore 4, 2) := by decide +kernel
theorem dX5_enlist_35 : decode cX5_enlist 35 = .ok (.aload 4, 2) := by decide +kernel
theorem dX5_enlist_37 : decode cX5_enlist 37 = .ok (.ifnull 31, 3) := by decide +kernel
theorem dX5_enlist_40 : decode cX5_enlist 40 = .ok (.aload 4, 2) := by decide +kernel
theorem dX5_enlist_42 : decode cX5_enlist 42 = .ok (.iload_n 3, 1) := by decide +kernel
theorem dX5_enlist_43 : decode cX5_enlist 43 = .ok (.iload_n 1, 1) := by decide +kernel
theorem dX5_enlist_44 : decode cX5_enlist 44 = .ok (.iload_n 2, 1) := by decide +kernel
theorem dX5_enlist_45 : decode cX5_enlist 45 = .ok (.invokevirtual 35, 3) := by decide +kernel
theorem dX5_enlist_48 : decode cX5_enlist 48 = .ok (.aload_n 0, 1) := by decide +kernel
theorem dX5_enlist_49 : decode cX5_enlist 49 = .ok (.dup, 1) := by decide +kernel
theorem dX5_enlist_50 : decode cX5_enlist 50 = .ok (.getfield 20, 3) := by decide +kernel
theorem dX5_enlist_53 : decode cX5_enlist 53 = .ok (.iconst 1, 1) := by decide +kernel
theorem dX5_enlist_54 : decode cX5_enlist 54 = .ok (.iadd, 1) := by decide +kernel
theorem dX5_enlist_55 : decode cX5_enlist 55 = .ok (.putfield 20, 3) := by decide +kernel
theorem dX5_enlist_58 : decode cX5_enlist 58 = .ok (.aload_n 0, 1) := by decide +kernel
theorem dX5_enlist_59 : decode cX5_enlist 59 = .ok (.dup, 1) := by decide +kernel
theorem dX5_enlist_60 : decode cX5_enlist 60 = .ok (.getfield 27, 3) := by decide +kernel
theorem dX5_enlist_63 : decode cX5_enlist 63 = .ok (.iconst 1, 1) := by decide +kernel
theorem dX5_enlist_64 : decode cX5_enlist 64 = .ok (.iadd, 1) := by decide +kernel
theorem dX5_enlist_65 : decode cX5_enlist 65 = .ok (.putfield 27, 3) := by decide +kernel
theorem dX5_enlist_68 : decode cX5_enlist 68 = .ok (.iload_n 3, 1) := by decide +kernel
theorem dX5_enlist_69 : decode cX5_enlist 69 = .ok (.ireturn, 1) := by decide +kernel
theorem dX5_withNumber_0 : decode cX5_withNumber 0 = .ok (.iconst 0, 1) := by decide +kernel
theorem dX5_withNumber_1 : decode cX5_withNumber 1 = .ok (.istore_n 2, 1) := by decide +kernel
theorem dX5_withNumber_2 : decode cX5_withNumber 2 = .ok (.aload_n 0, 1) := by decide +kernel
theorem dX5_withNumber_3 : decode cX5_withNumber 3 = .ok (.getfield 20, 3) := by decide +kernel
theorem dX5_withNumber_6 : decode cX5_withNumber 6 = .ok (.iconst 1, 1) := by decide +kernel
theorem dX5_withNumber_7 : decode cX5_withNumber 7 = .ok (.isub, 1) := by decide +kernel
theorem dX5_withNumber_8 : decode cX5_withNumber 8 = .ok (.istore_n 3, 1) := by decide +kernel
theorem dX5_withNumber_9 : decode cX5_withNumber 9 = .ok (.iconst 0, 1) := by decide +kernel
theorem dX5_withNumber_10 : decode cX5_withNumber 10 = .ok (.istore 4, 2) := by decide +kernel
theorem dX5_withNumber_12 : decode cX5_withNumber 12 = .ok (.iload 4, 2) := by decide +kernel
theorem dX5_withNumber_14 : decode cX5_withNumber 14 = .ok (.bipush 60, 2) := by decide +kernel
theorem dX5_withNumber_16 : decode cX5_withNumber 16 = .ok (.if_icmp .ge 86, 3) := by decide +kernel
theorem dX5_withNumber_19 : decode cX5_withNumber 19 = .ok (.iload_n 2, 1) := by decide +kernel
theorem dX5_withNumber_20 : decode cX5_withNumber 20 = .ok (.iload_n 3, 1) := by decide +kernel
theorem dX5_withNumber_21 : decode cX5_withNumber 21 = .ok (.if_icmp .gt 81, 3) := by decide +kernel
theorem dX5_withNumber_24 : decode cX5_withNumber 24 = .ok (.iload_n 2, 1) := by decide +kernel
theorem dX5_withNumber_25 : decode cX5_withNumber 25 = .ok (.iload_n 3, 1) := by decide +kernel
theorem dX5_withNumber_26 : decode cX5_withNumber 26 = .ok (.iadd, 1) := by decide +kernel
theorem dX5_withNumber_27 : decode cX5_withNumber 27 = .ok (.iconst 2, 1) := by decide +kernel
theorem dX5_withNumber_28 : decode cX5_withNumber 28 = .ok (.idiv, 1) := by decide +kernel
theorem dX5_withNumber_29 : decode cX5_withNumber 29 = .ok (.istore 5, 2) := by decide +kernel
theorem dX5_withNumber_31 : decode cX5_withNumber 31 = .ok (.iload 5, 2) := by decide +kernel
theorem dX5_withNumber_33 : decode cX5_withNumber 33 = .ok (.aload_n 0, 1) := by decide +kernel
theorem dX5_withNumber_34 : decode cX5_withNumber 34 = .ok (.getfield 11, 3) := by decide +kernel
theorem dX5_withNumber_37 : decode cX5_withNumber 37 = .ok (.arraylength, 1) := by decide +kernel
theorem dX5_withNumber_38 : decode cX5_withNumber 38 = .ok (.invokestatic 31, 3) := by decide +kernel
theorem dX5_withNumber_41 : decode cX5_withNumber 41 = .ok (.ifCond .eq 13, 3) := by decide +kernel
theorem dX5_withNumber_44 : decode cX5_withNumber 44 = .ok (.aload_n 0, 1) := by decide +kernel
theorem dX5_withNumber_45 : decode cX5_withNumber 45 = .ok (.getfield 11, 3) := by decide +kernel
theorem dX5_withNumber_48 : decode cX5_withNumber 48 = .ok (.iload 5, 2) := by decide +kernel
theorem dX5_withNumber_50 : decode cX5_withNumber 50 = .ok (.aaload, 1) := by decide +kernel
theorem dX5_withNumber_51 : decode cX5_withNumber 51 = .ok (.goto 4, 3) := by decide +kernel
theorem dX5_withNumber_54 : decode cX5_withNumber 54 = .ok (.aconst_null, 1) := by decide +kernel
theorem dX5_withNumber_55 : decode cX5_withNumber 55 = .ok (.astore 6, 2) := by decide +kernel
theorem dX5_withNumber_57 : decode cX5_withNumber 57 = .ok (.aload 6, 2) := by decide +kernel
theorem dX5_withNumber_59 : decode cX5_withNumber 59 = .ok (.ifnull 12, 3) := by decide +kernel
theorem dX5_withNumber_62 : decode cX5_withNumber 62 = .ok (.aload 6, 2) := by decide +kernel
theorem dX5_withNumber_64 : decode cX5_withNumber 64 = .ok (.getfield 39, 3) := by decide +kernel
theorem dX5_withNumber_67 : decode cX5_withNumber 67 = .ok (.iload_n 1, 1) := by decide +kernel
theorem dX5_withNumber_68 : decode cX5_withNumber 68 = .ok (.if_icmp .ne 6, 3) := by decide +kernel
theorem dX5_withNumber_71 : decode cX5_withNumber 71 = .ok (.aload 6, 2) := by decide +kernel
theorem dX5_withNumber_73 : decode cX5_withNumber 73 = .ok (.areturn, 1) := by decide +kernel
theorem dX5_withNumber_74 : decode cX5_withNumber 74 = .ok (.aload 6, 2) := by decide +kernel
theorem dX5_withNumber_76 : decode cX5_withNumber 76 = .ok (.getfield 39, 3) := by decide +kernel
theorem dX5_withNumber_79 : decode cX5_withNumber 79 = .ok (.iload_n 1, 1) := by decide +kernel
theorem dX5_withNumber_80 : decode cX5_withNumber 80 = .ok (.if_icmp .ge 11, 3) := by decide +kernel
theorem dX5_withNumber_83 : decode cX5_withNumber 83 = .ok (.iload 5, 2) := by decide +kernel
theorem dX5_withNumber_85 : decode cX5_withNumber 85 = .ok (.iconst 1, 1) := by decide +kernel
theorem dX5_withNumber_86 : decode cX5_withNumber 86 = .ok (.iadd, 1) := by decide +kernel
theorem dX5_withNumber_87 : decode cX5_withNumber 87 = .ok (.istore_n 2, 1) := by decide +kernel
theorem dX5_withNumber_88 : decode cX5_withNumber 88 = .ok (.goto 8, 3) := by decide +kernel
theorem dX5_withNumber_91 : decode cX5_withNumber 91 = .ok (.iload 5, 2) := by decide +kernel
theorem dX5_withNumber_93 : decode cX5_withNumber 93 = .ok (.iconst 1, 1) := by decide +kernel
theorem dX5_withNumber_94 : decode cX5_withNumber 94 = .ok (.isub, 1) := by decide +kernel
theorem dX5_withNumber_95 : decode cX5_withNumber 95 = .ok (.istore_n 3, 1) := by decide +kernel
theorem dX5_withNumber_96 : decode cX5_withNumber 96 = .ok (.iinc 4 1, 3) := by decide +kernel
theorem dX5_withNumber_99 : decode cX5_withNumber 99 = .ok (.goto (-87), 3) := by decide +kernel
theorem dX5_withNumber_102 : decode cX5_withNumber 102 = .ok (.aconst_null, 1) := by decide +kernel
theorem dX5_withNumber_103 : decode cX5_withNumber 103 = .ok (.areturn, 1) := by decide +kernel
theorem dX5_ofValue_0 : decode cX5_ofValue 0 = .ok (.lload_n 1, 1) := by decide +kernel
theorem dX5_ofValue_1 : decode cX5_ofValue 1 = .ok (.invokestatic 42, 3) := by decide +kernel
theorem dX5_ofValue_4 : decode cX5_ofValue 4 = .ok (.ifCond .eq 14, 3) := by decide +kernel
theorem dX5_ofValue_7 : decode cX5_ofValue 7 = .ok (.aload_n 0, 1) := by decide +kernel
theorem dX5_ofValue_8 : decode cX5_ofValue 8 = .ok (.lload_n 1, 1) := by decide +kernel
theorem dX5_ofValue_9 : decode cX5_ofValue 9 = .ok (.invokestatic 46, 3) := by decide +kernel
theorem dX5_ofValue_12 : decode cX5_ofValue 12 = .ok (.invokevirtual 50, 3) := by decide +kernel
theorem dX5_ofValue_15 : decode cX5_ofValue 15 = .ok (.goto 4, 3) := by decide +kernel
theorem dX5_ofValue_18 : decode cX5_ofValue 18 = .ok (.aconst_null, 1) := by decide +kernel
theorem dX5_ofValue_19 : decode cX5_ofValue 19 = .ok (.areturn, 1) := by decide +kernel
theorem dX5_classOfValue_0 : decode cX5_classOfValue 0 = .ok (.lload_n 1, 1) := by decide +kernel
theorem dX5_classOfValue_1 : decode cX5_classOfValue 1 = .ok (.invokestatic 54, 3) := by decide +kernel
theorem dX5_classOfValue_4 : decode cX5_classOfValue 4 = .ok (.ifCond .eq 5, 3) := by decide +kernel
theorem dX5_classOfValue_7 : decode cX5_classOfValue 7 = .ok (.iconst 1, 1) := by decide +kernel
theorem dX5_classOfValue_8 : decode cX5_classOfValue 8 = .ok (.ireturn, 1) := by decide +kernel
theorem dX5_classOfValue_9 : decode cX5_classOfValue 9 = .ok (.aload_n 0, 1) := by decide +kernel
theorem dX5_classOfValue_10 : decode cX5_classOfValue 10 = .ok (.lload_n 1, 1) := by decide +kernel
theorem dX5_classOfValue_11 : decode cX5_classOfValue 11 = .ok (.invokevirtual 57, 3) := by decide +kernel
theorem dX5_classOfValue_14 : decode cX5_classOfValue 14 = .ok (.astore_n 3, 1) := by decide +kernel
theorem dX5_classOfValue_15 : decode cX5_classOfValue 15 = .ok (.aload_n 3, 1) := by decide +kernel
theorem dX5_classOfValue_16 : decode cX5_classOfValue 16 = .ok (.ifnonnull 7, 3) := by decide +kernel
theorem dX5_classOfValue_19 : decode cX5_classOfValue 19 = .ok (.iconst 2, 1) := by decide +kernel
theorem dX5_classOfValue_20 : decode cX5_classOfValue 20 = .ok (.goto 7, 3) := by decide +kernel
theorem dX5_classOfValue_23 : decode cX5_classOfValue 23 = .ok (.aload_n 3, 1) := by decide +kernel
theorem dX5_classOfValue_24 : decode cX5_classOfValue 24 = .ok (.getfield 61, 3) := by decide +kernel
theorem dX5_classOfValue_27 : decode cX5_classOfValue 27 = .ok (.ireturn, 1) := by decide +kernel
theorem dX5_has_0 : decode cX5_has 0 = .ok (.lload_n 1, 1) := by decide +kernel
theorem dX5_has_1 : decode cX5_has 1 = .ok (.invokestatic 42, 3) := by decide +kernel
theorem dX5_has_4 : decode cX5_has 4 = .ok (.ifCond .eq 11, 3) := by decide +kernel
theorem dX5_has_7 : decode cX5_has 7 = .ok (.aload_n 0, 1) := by decide +kernel
theorem dX5_has_8 : decode cX5_has 8 = .ok (.lload_n 1, 1) := by decide +kernel
theorem dX5_has_9 : decode cX5_has 9 = .ok (.invokevirtual 57, 3) := by decide +kernel
theorem dX5_has_12 : decode cX5_has 12 = .ok (.ifnull 7, 3) := by decide +kernel
theorem dX5_has_15 : decode cX5_has 15 = .ok (.iconst 1, 1) := by decide +kernel
theorem dX5_has_16 : decode cX5_has 16 = .ok (.goto 4, 3) := by decide +kernel
theorem dX5_has_19 : decode cX5_has 19 = .ok (.iconst 0, 1) := by decide +kernel
theorem dX5_has_20 : decode cX5_has 20 = .ok (.ireturn, 1) := by decide +kernel
theorem dX5_hasPlacesThere_0 : decode cX5_hasPlacesThere 0 = .ok (.iconst 0, 1) := by decide +kernel
theorem dX5_hasPlacesThere_1 : decode cX5_hasPlacesThere 1 = .ok (.istore_n 2, 1) := by decide +kernel
theorem dX5_hasPlacesThere_2 : decode cX5_hasPlacesThere 2 = .ok (.iload_n 2, 1) := by decide +kernel
theorem dX5_hasPlacesThere_3 : decode cX5_hasPlacesThere 3 = .ok (.aload_n 1, 1) := by decide +kernel
theorem dX5_hasPlacesThere_4 : decode cX5_hasPlacesThere 4 = .ok (.getfield 71, 3) := by decide +kernel
theorem dX5_hasPlacesThere_7 : decode cX5_hasPlacesThere 7 = .ok (.if_icmp .ge 26, 3) := by decide +kernel
theorem dX5_hasPlacesThere_10 : decode cX5_hasPlacesThere 10 = .ok (.aload_n 0, 1) := by decide +kernel
theorem dX5_hasPlacesThere_11 : decode cX5_hasPlacesThere 11 = .ok (.aload_n 1, 1) := by decide +kernel
theorem dX5_hasPlacesThere_12 : decode cX5_hasPlacesThere 12 = .ok (.getfield 74, 3) := by decide +kernel
theorem dX5_hasPlacesThere_15 : decode cX5_hasPlacesThere 15 = .ok (.iload_n 2, 1) := by decide +kernel
theorem dX5_hasPlacesThere_16 : decode cX5_hasPlacesThere 16 = .ok (.invokestatic 78, 3) := by decide +kernel
theorem dX5_hasPlacesThere_19 : decode cX5_hasPlacesThere 19 = .ok (.invokevirtual 82, 3) := by decide +kernel
theorem dX5_hasPlacesThere_22 : decode cX5_hasPlacesThere 22 = .ok (.ifCond .ne 5, 3) := by decide +kernel
theorem dX5_hasPlacesThere_25 : decode cX5_hasPlacesThere 25 = .ok (.iconst 0, 1) := by decide +kernel
theorem dX5_hasPlacesThere_26 : decode cX5_hasPlacesThere 26 = .ok (.ireturn, 1) := by decide +kernel
theorem dX5_hasPlacesThere_27 : decode cX5_hasPlacesThere 27 = .ok (.iinc 2 1, 3) := by decide +kernel
theorem dX5_hasPlacesThere_30 : decode cX5_hasPlacesThere 30 = .ok (.goto (-28), 3) := by decide +kernel
theorem dX5_hasPlacesThere_33 : decode cX5_hasPlacesThere 33 = .ok (.iconst 1, 1) := by decide +kernel
theorem dX5_hasPlacesThere_34 : decode cX5_hasPlacesThere 34 = .ok (.ireturn, 1) := by decide +kernel
theorem dX5_hasFieldsThere_0 : decode cX5_hasFieldsThere 0 = .ok (.iconst 0, 1) := by decide +kernel
theorem dX5_hasFieldsThere_1 : decode cX5_hasFieldsThere 1 = .ok (.istore_n 1, 1) := by decide +kernel
theorem dX5_hasFieldsThere_2 : decode cX5_hasFieldsThere 2 = .ok (.iload_n 1, 1) := by decide +kernel
theorem dX5_hasFieldsThere_3 : decode cX5_hasFieldsThere 3 = .ok (.aload_n 0, 1) := by decide +kernel
theorem dX5_hasFieldsThere_4 : decode cX5_hasFieldsThere 4 = .ok (.getfield 20, 3) := by decide +kernel
theorem dX5_hasFieldsThere_7 : decode cX5_hasFieldsThere 7 = .ok (.if_icmp .ge 29, 3) := by decide +kernel
theorem dX5_hasFieldsThere_10 : decode cX5_hasFieldsThere 10 = .ok (.aload_n 0, 1) := by decide +kernel
theorem dX5_hasFieldsThere_11 : decode cX5_hasFieldsThere 11 = .ok (.iload_n 1, 1) := by decide +kernel
theorem dX5_hasFieldsThere_12 : decode cX5_hasFieldsThere 12 = .ok (.invokevirtual 64, 3) := by decide +kernel
theorem dX5_hasFieldsThere_15 : decode cX5_hasFieldsThere 15 = .ok (.astore_n 2, 1) := by decide +kernel
theorem dX5_hasFieldsThere_16 : decode cX5_hasFieldsThere 16 = .ok (.aload_n 2, 1) := by decide +kernel
theorem dX5_hasFieldsThere_17 : decode cX5_hasFieldsThere 17 = .ok (.ifnull 11, 3) := by decide +kernel
theorem dX5_hasFieldsThere_20 : decode cX5_hasFieldsThere 20 = .ok (.aload_n 0, 1) := by decide +kernel
theorem dX5_hasFieldsThere_21 : decode cX5_hasFieldsThere 21 = .ok (.aload_n 2, 1) := by decide +kernel
theorem dX5_hasFieldsThere_22 : decode cX5_hasFieldsThere 22 = .ok (.invokevirtual 67, 3) := by decide +kernel
theorem dX5_hasFieldsThere_25 : decode cX5_hasFieldsThere 25 = .ok (.ifCond .ne 5, 3) := by decide +kernel
theorem dX5_hasFieldsThere_28 : decode cX5_hasFieldsThere 28 = .ok (.iconst 0, 1) := by decide +kernel
theorem dX5_hasFieldsThere_29 : decode cX5_hasFieldsThere 29 = .ok (.ireturn, 1) := by decide +kernel
theorem dX5_hasFieldsThere_30 : decode cX5_hasFieldsThere 30 = .ok (.iinc 1 1, 3) := by decide +kernel
theorem dX5_hasFieldsThere_33 : decode cX5_hasFieldsThere 33 = .ok (.goto (-31), 3) := by decide +kernel
theorem dX5_hasFieldsThere_36 : decode cX5_hasFieldsThere 36 = .ok (.iconst 1, 1) := by decide +kernel
theorem dX5_hasFieldsThere_37 : decode cX5_hasFieldsThere 37 = .ok (.ireturn, 1) := by decide +kernel
theorem dX5_reach_0 : decode cX5_reach 0 = .ok (.aload_n 0, 1) := by decide +kernel
theorem dX5_reach_1 : decode cX5_reach 1 = .ok (.lload_n 1, 1) := by decide +kernel
theorem dX5_reach_2 : decode cX5_reach 2 = .ok (.invokevirtual 57, 3) := by decide +kernel
theorem dX5_reach_5 : decode cX5_reach 5 = .ok (.astore_n 3, 1) := by decide +kernel
theorem dX5_reach_6 : decode cX5_reach 6 = .ok (.aload_n 3, 1) := by decide +kernel
theorem dX5_reach_7 : decode cX5_reach 7 = .ok (.ifnull 50, 3) := by decide +kernel
theorem dX5_reach_10 : decode cX5_reach 10 = .ok (.aload_n 3, 1) := by decide +kernel
theorem dX5_reach_11 : decode cX5_reach 11 = .ok (.getfield 85, 3) := by decide +kernel
theorem dX5_reach_14 : decode cX5_reach 14 = .ok (.ifCond .ne 43, 3) := by decide +kernel
theorem dX5_reach_17 : decode cX5_reach 17 = .ok (.aload_n 0, 1) := by decide +kernel
theorem dX5_reach_18 : decode cX5_reach 18 = .ok (.getfield 24, 3) := by decide +kernel
theorem dX5_reach_21 : decode cX5_reach 21 = .ok (.aload_n 0, 1) := by decide +kernel
theorem dX5_reach_22 : decode cX5_reach 22 = .ok (.getfield 17, 3) := by decide +kernel
theorem dX5_reach_25 : decode cX5_reach 25 = .ok (.arraylength, 1) := by decide +kernel
theorem dX5_reach_26 : decode cX5_reach 26 = .ok (.invokestatic 31, 3) := by decide +kernel
theorem dX5_reach_29 : decode cX5_reach 29 = .ok (.ifCond .eq 28, 3) := by decide +kernel
theorem dX5_reach_32 : decode cX5_reach 32 = .ok (.aload_n 3, 1) := by decide +kernel
theorem dX5_reach_33 : decode cX5_reach 33 = .ok (.iconst 1, 1) := by decide +kernel
theorem dX5_reach_34 : decode cX5_reach 34 = .ok (.putfield 85, 3) := by decide +kernel
theorem dX5_reach_37 : decode cX5_reach 37 = .ok (.aload_n 0, 1) := by decide +kernel
theorem dX5_reach_38 : decode cX5_reach 38 = .ok (.getfield 17, 3) := by decide +kernel
theorem dX5_reach_41 : decode cX5_reach 41 = .ok (.aload_n 0, 1) := by decide +kernel
theorem dX5_reach_42 : decode cX5_reach 42 = .ok (.getfield 24, 3) := by decide +kernel
theorem dX5_reach_45 : decode cX5_reach 45 = .ok (.aload_n 3, 1) := by decide +kernel
theorem dX5_reach_46 : decode cX5_reach 46 = .ok (.aastore, 1) := by decide +kernel
theorem dX5_reach_47 : decode cX5_reach 47 = .ok (.aload_n 0, 1) := by decide +kernel
theorem dX5_reach_48 : decode cX5_reach 48 = .ok (.dup, 1) := by decide +kernel
theorem dX5_reach_49 : decode cX5_reach 49 = .ok (.getfield 24, 3) := by decide +kernel
theorem dX5_reach_52 : decode cX5_reach 52 = .ok (.iconst 1, 1) := by decide +kernel
theorem dX5_reach_53 : decode cX5_reach 53 = .ok (.iadd, 1) := by decide +kernel
theorem dX5_reach_54 : decode cX5_reach 54 = .ok (.putfield 24, 3) := by decide +kernel
theorem dX5_reach_57 : decode cX5_reach 57 = .ok (.return_, 1) := by decide +kernel
theorem dX5_reachFields_0 : decode cX5_reachFields 0 = .ok (.iconst 0, 1) := by decide +kernel
theorem dX5_reachFields_1 : decode cX5_reachFields 1 = .ok (.istore_n 1, 1) := by decide +kernel
theorem dX5_reachFields_2 : decode cX5_reachFields 2 = .ok (.iload_n 1, 1) := by decide +kernel
theorem dX5_reachFields_3 : decode cX5_reachFields 3 = .ok (.aload_n 0, 1) := by decide +kernel
theorem dX5_reachFields_4 : decode cX5_reachFields 4 = .ok (.getfield 17, 3) := by decide +kernel
theorem dX5_reachFields_7 : decode cX5_reachFields 7 = .ok (.arraylength, 1) := by decide +kernel
theorem dX5_reachFields_8 : decode cX5_reachFields 8 = .ok (.if_icmp .ge 56, 3) := by decide +kernel
theorem dX5_reachFields_11 : decode cX5_reachFields 11 = .ok (.iload_n 1, 1) := by decide +kernel
theorem dX5_reachFields_12 : decode cX5_reachFields 12 = .ok (.aload_n 0, 1) := by decide +kernel
theorem dX5_reachFields_13 : decode cX5_reachFields 13 = .ok (.getfield 24, 3) := by decide +kernel
theorem dX5_reachFields_16 : decode cX5_reachFields 16 = .ok (.if_icmp .ge 48, 3) := by decide +kernel
theorem dX5_reachFields_19 : decode cX5_reachFields 19 = .ok (.aload_n 0, 1) := by decide +kernel
theorem dX5_reachFields_20 : decode cX5_reachFields 20 = .ok (.getfield 17, 3) := by decide +kernel
theorem dX5_reachFields_23 : decode cX5_reachFields 23 = .ok (.iload_n 1, 1) := by decide +kernel
theorem dX5_reachFields_24 : decode cX5_reachFields 24 = .ok (.aaload, 1) := by decide +kernel
theorem dX5_reachFields_25 : decode cX5_reachFields 25 = .ok (.astore_n 2, 1) := by decide +kernel
theorem dX5_reachFields_26 : decode cX5_reachFields 26 = .ok (.iconst 0, 1) := by decide +kernel
theorem dX5_reachFields_27 : decode cX5_reachFields 27 = .ok (.istore_n 3, 1) := by decide +kernel
theorem dX5_reachFields_28 : decode cX5_reachFields 28 = .ok (.aload_n 2, 1) := by decide +kernel
theorem dX5_reachFields_29 : decode cX5_reachFields 29 = .ok (.ifnull 29, 3) := by decide +kernel
theorem dX5_reachFields_32 : decode cX5_reachFields 32 = .ok (.iload_n 3, 1) := by decide +kernel
theorem dX5_reachFields_33 : decode cX5_reachFields 33 = .ok (.aload_n 2, 1) := by decide +kernel
theorem dX5_reachFields_34 : decode cX5_reachFields 34 = .ok (.getfield 71, 3) := by decide +kernel
theorem dX5_reachFields_37 : decode cX5_reachFields 37 = .ok (.if_icmp .ge 21, 3) := by decide +kernel
theorem dX5_reachFields_40 : decode cX5_reachFields 40 = .ok (.aload_n 0, 1) := by decide +kernel
theorem dX5_reachFields_41 : decode cX5_reachFields 41 = .ok (.aload_n 2, 1) := by decide +kernel
theorem dX5_reachFields_42 : decode cX5_reachFields 42 = .ok (.getfield 74, 3) := by decide +kernel
theorem dX5_reachFields_45 : decode cX5_reachFields 45 = .ok (.iload_n 3, 1) := by decide +kernel
theorem dX5_reachFields_46 : decode cX5_reachFields 46 = .ok (.invokestatic 78, 3) := by decide +kernel
theorem dX5_reachFields_49 : decode cX5_reachFields 49 = .ok (.invokevirtual 88, 3) := by decide +kernel
theorem dX5_reachFields_52 : decode cX5_reachFields 52 = .ok (.iinc 3 1, 3) := by decide +kernel
theorem dX5_reachFields_55 : decode cX5_reachFields 55 = .ok (.goto (-27), 3) := by decide +kernel
theorem dX5_reachFields_58 : decode cX5_reachFields 58 = .ok (.iinc 1 1, 3) := by decide +kernel
theorem dX5_reachFields_61 : decode cX5_reachFields 61 = .ok (.goto (-59), 3) := by decide +kernel
theorem dX5_reachFields_64 : decode cX5_reachFields 64 = .ok (.return_, 1) := by decide +kernel
theorem dX5_sweep_0 : decode cX5_sweep 0 = .ok (.aload_n 0, 1) := by decide +kernel
theorem dX5_sweep_1 : decode cX5_sweep 1 = .ok (.getfield 20, 3) := by decide +kernel
theorem dX5_sweep_4 : decode cX5_sweep 4 = .ok (.istore_n 1, 1) := by decide +kernel
theorem dX5_sweep_5 : decode cX5_sweep 5 = .ok (.iconst 0, 1) := by decide +kernel
theorem dX5_sweep_6 : decode cX5_sweep 6 = .ok (.istore_n 2, 1) := by decide +kernel
theorem dX5_sweep_7 : decode cX5_sweep 7 = .ok (.iconst 0, 1) := by decide +kernel
theorem dX5_sweep_8 : decode cX5_sweep 8 = .ok (.istore_n 3, 1) := by decide +kernel
theorem dX5_sweep_9 : decode cX5_sweep 9 = .ok (.iload_n 3, 1) := by decide +kernel
theorem dX5_sweep_10 : decode cX5_sweep 10 = .ok (.iload_n 1, 1) := by decide +kernel
theorem dX5_sweep_11 : decode cX5_sweep 11 = .ok (.if_icmp .ge 73, 3) := by decide +kernel
theorem dX5_sweep_14 : decode cX5_sweep 14 = .ok (.iload_n 3, 1) := by decide +kernel
theorem dX5_sweep_15 : decode cX5_sweep 15 = .ok (.aload_n 0, 1) := by decide +kernel
theorem dX5_sweep_16 : decode cX5_sweep 16 = .ok (.getfield 11, 3) := by decide +kernel
theorem dX5_sweep_19 : decode cX5_sweep 19 = .ok (.arraylength, 1) := by decide +kernel
theorem dX5_sweep_20 : decode cX5_sweep 20 = .ok (.if_icmp .ge 64, 3) := by decide +kernel
theorem dX5_sweep_23 : decode cX5_sweep 23 = .ok (.aload_n 0, 1) := by decide +kernel
theorem dX5_sweep_24 : decode cX5_sweep 24 = .ok (.getfield 11, 3) := by decide +kernel
theorem dX5_sweep_27 : decode cX5_sweep 27 = .ok (.iload_n 3, 1) := by decide +kernel
theorem dX5_sweep_28 : decode cX5_sweep 28 = .ok (.aaload, 1) := by decide +kernel
theorem dX5_sweep_29 : decode cX5_sweep 29 = .ok (.astore 4, 2) := by decide +kernel
theorem dX5_sweep_31 : decode cX5_sweep 31 = .ok (.aload 4, 2) := by decide +kernel
theorem dX5_sweep_33 : decode cX5_sweep 33 = .ok (.ifnull 45, 3) := by decide +kernel
theorem dX5_sweep_36 : decode cX5_sweep 36 = .ok (.aload 4, 2) := by decide +kernel
theorem dX5_sweep_38 : decode cX5_sweep 38 = .ok (.getfield 85, 3) := by decide +kernel
theorem dX5_sweep_41 : decode cX5_sweep 41 = .ok (.ifCond .eq 37, 3) := by decide +kernel
theorem dX5_sweep_44 : decode cX5_sweep 44 = .ok (.iload_n 2, 1) := by decide +kernel
theorem dX5_sweep_45 : decode cX5_sweep 45 = .ok (.iload_n 3, 1) := by decide +kernel
theorem dX5_sweep_46 : decode cX5_sweep 46 = .ok (.if_icmp .gt 32, 3) := by decide +kernel
theorem dX5_sweep_49 : decode cX5_sweep 49 = .ok (.aload 4, 2) := by decide +kernel
theorem dX5_sweep_51 : decode cX5_sweep 51 = .ok (.iconst 0, 1) := by decide +kernel
theorem dX5_sweep_52 : decode cX5_sweep 52 = .ok (.putfield 85, 3) := by decide +kernel
theorem dX5_sweep_55 : decode cX5_sweep 55 = .ok (.aload_n 0, 1) := by decide +kernel
theorem dX5_sweep_56 : decode cX5_sweep 56 = .ok (.getfield 11, 3) := by decide +kernel
theorem dX5_sweep_59 : decode cX5_sweep 59 = .ok (.iload_n 3, 1) := by decide +kernel
theorem dX5_sweep_60 : decode cX5_sweep 60 = .ok (.aload_n 0, 1) := by decide +kernel
theorem dX5_sweep_61 : decode cX5_sweep 61 = .ok (.getfield 11, 3) := by decide +kernel
theorem dX5_sweep_64 : decode cX5_sweep 64 = .ok (.iload_n 2, 1) := by decide +kernel
theorem dX5_sweep_65 : decode cX5_sweep 65 = .ok (.aaload, 1) := by decide +kernel
theorem dX5_sweep_66 : decode cX5_sweep 66 = .ok (.aastore, 1) := by decide +kernel
theorem dX5_sweep_67 : decode cX5_sweep 67 = .ok (.aload_n 0, 1) := by decide +kernel
theorem dX5_sweep_68 : decode cX5_sweep 68 = .ok (.getfield 11, 3) := by decide +kernel
theorem dX5_sweep_71 : decode cX5_sweep 71 = .ok (.iload_n 2, 1) := by decide +kernel
theorem dX5_sweep_72 : decode cX5_sweep 72 = .ok (.aload 4, 2) := by decide +kernel
theorem dX5_sweep_74 : decode cX5_sweep 74 = .ok (.aastore, 1) := by decide +kernel
theorem dX5_sweep_75 : decode cX5_sweep 75 = .ok (.iinc 2 1, 3) := by decide +kernel
theorem dX5_sweep_78 : decode cX5_sweep 78 = .ok (.iinc 3 1, 3) := by decide +kernel
theorem dX5_sweep_81 : decode cX5_sweep 81 = .ok (.goto (-72), 3) := by decide +kernel
theorem dX5_sweep_84 : decode cX5_sweep 84 = .ok (.aload_n 0, 1) := by decide +kernel
theorem dX5_sweep_85 : decode cX5_sweep 85 = .ok (.iload_n 2, 1) := by decide +kernel
theorem dX5_sweep_86 : decode cX5_sweep 86 = .ok (.putfield 20, 3) := by decide +kernel
theorem dX5_sweep_89 : decode cX5_sweep 89 = .ok (.aload_n 0, 1) := by decide +kernel
theorem dX5_sweep_90 : decode cX5_sweep 90 = .ok (.iconst 0, 1) := by decide +kernel
theorem dX5_sweep_91 : decode cX5_sweep 91 = .ok (.putfield 24, 3) := by decide +kernel
theorem dX5_sweep_94 : decode cX5_sweep 94 = .ok (.iload_n 1, 1) := by decide +kernel
theorem dX5_sweep_95 : decode cX5_sweep 95 = .ok (.iload_n 2, 1) := by decide +kernel
theorem dX5_sweep_96 : decode cX5_sweep 96 = .ok (.isub, 1) := by decide +kernel
theorem dX5_sweep_97 : decode cX5_sweep 97 = .ok (.ireturn, 1) := by decide +kernel
section SITES
variable {p : Program} {l : Launch} {e : Env} {R : Room} {s : State} {m : MethodId} {args : Array Value} {below : List Frame} {meth : Method} {c : Code} {H : Heap} {locs : List Loc} {cells slots : Nat} {Q : State → Prop}
variable {pc : Nat} {ls : Array Slot} {rest : List Value} {D : va_G} {ar : Nat → ClassId} {κ : Nat → Nat} {A : Nat → Prop} {a : Nat} {H0 : Heap} {G : gW} {nz nL : Nat} {cc : ByteArray}
theorem gf_RX4_22_10 {A9 : Nat → Prop} {H9 : Heap} {fs : List Value} {v : Value} (S : CallFix p m c cc nL s args lwA RX4) (hE : g_E D vwCl (gT ar) (EX1 κ) A9 s H9) (w : g_S D vwCl A H0 G H locs nz) (ha : G a = some (.inr (10, fs))) (hv : fs[3]? = some v) (hdg : decode cc pc = .ok (.getfield 22, 3)) (kk : W p l e R s m args below meth c H locs cells slots Q (F0 m (pc + 3) ls (v :: rest))) : W p l e R s m args below meth c H locs cells slots Q (F0 m pc ls (.ref a :: rest)) :=
  va_get (ci := 10) (C := RX4) (T := TX4) (N := 5) S.1 S.2.1 S.2.2.2.2 inA_RX4 S.2.2.2.1 hE.1 (g_1 w.1 ha) 0 rfl rfl 3 (by decide) (S.2.2.2.2 _ m_1_121) (fun _ h => h) hv hdg kk
theorem k_RX4_37 {args : Array Value} {s : State} {R rm : Room} (hts : ∀ w ∈ lwA, w.before args s = true) (hN : va_Nw (.methodLinkNest RX4 37 yX8_isBelow "Sendhouse") s) (hR : rm.frames + 1 ≤ R.frames ∧ 8 + (2 + 11) + rm.locals ≤ R.locals) : va_CN R s args RX4 37 yX8_isBelow "Sendhouse" cX8_isBelow 2 (some .boolean) (lwC yX8_isBelow cX8_isBelow 2 (some .boolean)) rm rm.cells rm.slots 2 ∧ (Cond.static yX8_isBelow).before args s = true ∧ True := ⟨va_cnB 2 hts (gd m_2_157) rfl rfl rfl hN (hts _ m_1_1) (by decide +kernel) hR, hts _ m_2_156, trivial⟩
theorem Th_p_sn {v9 : Th} {y9 : Int32} : (v9.sn y9).p = v9.p := rfl
theorem Th_p_sc {v9 : Th} {y9 : Int32} : (v9.sc y9).p = v9.p := rfl
theorem Th_p_sz {v9 : Th} {y9 : Int32} : (v9.sz y9).p = v9.p := rfl
theorem Th_p_sr {v9 : Th} {y9 : Int32} : (v9.sr y9).p = v9.p := rfl
theorem gf_RX4_9_10 {A9 : Nat → Prop} {H9 : Heap} {fs : List Value} {v : Value} (S : CallFix p m c cc nL s args lwA RX4) (hE : g_E D vwCl (gT ar) (EX1 κ) A9 s H9) (w : g_S D vwCl A H0 G H locs nz) (ha : G a = some (.inr (10, fs))) (hv : fs[0]? = some v) (hdg : decode cc pc = .ok (.getfield 9, 3)) (kk : W p l e R s m args below meth c H locs cells slots Q (F0 m (pc + 3) ls (v :: rest))) : W p l e R s m args below meth c H locs cells slots Q (F0 m pc ls (.ref a :: rest)) :=
  va_get (ci := 10) (C := RX4) (T := TX4) (N := 5) S.1 S.2.1 S.2.2.2.2 inA_RX4 S.2.2.2.1 hE.1 (g_1 w.1 ha) 0 rfl rfl 0 (by decide) (S.2.2.2.2 _ m_1_112) (fun _ h => h) hv hdg kk
theorem m_3_226 : (Cond.constantLong RX4 29 (502511173632)) ∈ lwA := lwA_mk (ck_3 _ (List.mem_of_getElem? (i := 226) rfl)) rfl
theorem m_3_227 : (Cond.methodLink RX4 31 yJ7_fill_d0a16) ∈ lwA := lwA_mk (ck_3 _ (List.mem_of_getElem? (i := 227) rfl)) rfl
theorem k_RX4_31 {args : Array Value} {s : State} {R rm : Room} (hts : ∀ w ∈ lwA, w.before args s = true) (hR : rm.frames + 1 ≤ R.frames ∧ 8 + (5 + 11) + rm.locals ≤ R.locals) : CallB R s args RX4 31 yJ7_fill_d0a16 cJ7_fill_d0a16 5 none (lwC yJ7_fill_d0a16 cJ7_fill_d0a16 5 none) rm rm.cells rm.slots 2 ∧ (Cond.static yJ7_fill_d0a16).before args s = true := va_cwS 2 hts (gdT m_3_227 m_1_210 m_1_10 m_1_211) rfl rfl rfl (by decide +kernel) hR
theorem Th_n_sp {v9 : Th} {y9 : Nat → Int64} : (v9.sp y9).n = v9.n := rfl
theorem Th_n_sr {v9 : Th} {y9 : Int32} : (v9.sr y9).n = v9.n := rfl
theorem Th_n_sz {v9 : Th} {y9 : Int32} : (v9.sz y9).n = v9.n := rfl
theorem Th_n_sc {v9 : Th} {y9 : Int32} : (v9.sc y9).n = v9.n := rfl
theorem Th_n_sn {v9 : Th} {y9 : Int32} : (v9.sn y9).n = y9 := rfl
theorem Th_c_sp {v9 : Th} {y9 : Nat → Int64} : (v9.sp y9).c = v9.c := rfl
theorem Th_c_sr {v9 : Th} {y9 : Int32} : (v9.sr y9).c = v9.c := rfl
theorem Th_c_sz {v9 : Th} {y9 : Int32} : (v9.sz y9).c = v9.c := rfl
theorem Th_c_sc {v9 : Th} {y9 : Int32} : (v9.sc y9).c = y9 := rfl
theorem Th_z_sp {v9 : Th} {y9 : Nat → Int64} : (v9.sp y9).z = v9.z := rfl
theorem Th_z_sr {v9 : Th} {y9 : Int32} : (v9.sr y9).z = v9.z := rfl
theorem Th_z_sz {v9 : Th} {y9 : Int32} : (v9.sz y9).z = y9 := rfl
theorem Th_r_sp {v9 : Th} {y9 : Nat → Int64} : (v9.sp y9).r = v9.r := rfl
theorem Th_r_sr {v9 : Th} {y9 : Int32} : (v9.sr y9).r = y9 := rfl
theorem gf_RX5_20_11 {A9 : Nat → Prop} {H9 : Heap} {fs : List Value} {v : Value} (S : CallFix p m c cc nL s args lwA RX5) (hE : g_E D vwCl (gT ar) (EX1 κ) A9 s H9) (w : g_S D vwCl A H0 G H locs nz) (ha : G a = some (.inr (11, fs))) (hv : fs[2]? = some v) (hdg : decode cc pc = .ok (.getfield 20, 3)) (kk : W p l e R s m args below meth c H locs cells slots Q (F0 m (pc + 3) ls (v :: rest))) : W p l e R s m args below meth c H locs cells slots Q (F0 m pc ls (.ref a :: rest)) :=
  va_get (ci := 11) (C := RX5) (T := TX5) (N := 5) S.1 S.2.1 S.2.2.2.2 inA_RX5 S.2.2.2.1 hE.1 (g_1 w.1 ha) 0 rfl rfl 2 (by decide) (S.2.2.2.2 _ m_1_140) (fun _ h => h) hv hdg kk
theorem k_RX5_31 {args : Array Value} {s : State} {R rm : Room} (hts : ∀ w ∈ lwA, w.before args s = true) (hN : va_Nw (.methodLinkNest RX5 31 yX8_isBelow "Sendhouse") s) (hR : rm.frames + 1 ≤ R.frames ∧ 8 + (2 + 11) + rm.locals ≤ R.locals) : va_CN R s args RX5 31 yX8_isBelow "Sendhouse" cX8_isBelow 2 (some .boolean) (lwC yX8_isBelow cX8_isBelow 2 (some .boolean)) rm rm.cells rm.slots 2 ∧ (Cond.static yX8_isBelow).before args s = true ∧ True := ⟨va_cnB 2 hts (gd m_2_157) rfl rfl rfl hN (hts _ m_1_1) (by decide +kernel) hR, hts _ m_2_156, trivial⟩
theorem gf_RX5_27_11 {A9 : Nat → Prop} {H9 : Heap} {fs : List Value} {v : Value} (S : CallFix p m c cc nL s args lwA RX5) (hE : g_E D vwCl (gT ar) (EX1 κ) A9 s H9) (w : g_S D vwCl A H0 G H locs nz) (ha : G a = some (.inr (11, fs))) (hv : fs[4]? = some v) (hdg : decode cc pc = .ok (.getfield 27, 3)) (kk : W p l e R s m args below meth c H locs cells slots Q (F0 m (pc + 3) ls (v :: rest))) : W p l e R s m args below meth c H locs cells slots Q (F0 m pc ls (.ref a :: rest)) :=
  va_get (ci := 11) (C := RX5) (T := TX5) (N := 5) S.1 S.2.1 S.2.2.2.2 inA_RX5 S.2.2.2.1 hE.1 (g_1 w.1 ha) 0 rfl rfl 4 (by decide) (S.2.2.2.2 _ m_1_143) (fun _ h => h) hv hdg kk
theorem m_3_225 : (Cond.code yX4_open cX4_open 4 none) ∈ lwA := lwA_mk (ck_3 _ (List.mem_of_getElem? (i := 225) rfl)) rfl
theorem m_3_222 : (Cond.methodLink RX5 35 yX4_open) ∈ lwA := lwA_mk (ck_3 _ (List.mem_of_getElem? (i := 222) rfl)) rfl
theorem m_3_223 : (Cond.instanceMethod yX4_open) ∈ lwA := lwA_mk (ck_3 _ (List.mem_of_getElem? (i := 223) rfl)) rfl
theorem m_3_224 : (Cond.selects RX4 yX4_open yX4_open) ∈ lwA := lwA_mk (ck_3 _ (List.mem_of_getElem? (i := 224) rfl)) rfl
theorem k_RX5_35 {args : Array Value} {s : State} {R rm : Room} (hts : ∀ w ∈ lwA, w.before args s = true) (hR : rm.frames + 1 ≤ R.frames ∧ 8 + (4 + 11) + rm.locals ≤ R.locals) : CallW R s args RX5 RX4 35 yX4_open cX4_open 4 none (lwC yX4_open cX4_open 4 none) rm rm.cells rm.slots 3 := cwV 3 hts (gdV m_3_222 m_3_223 m_3_224 m_1_5 m_3_225) rfl rfl rfl (by decide +kernel) hR
theorem Ho_ab_stc {v9 : Ho} {y9 : Int32} : (v9.stc y9).ab = v9.ab := rfl
theorem Ho_fc_stc {v9 : Ho} {y9 : Int32} : (v9.stc y9).fc = v9.fc := rfl
theorem Ho_cn_stc {v9 : Ho} {y9 : Int32} : (v9.stc y9).cn = v9.cn := rfl
theorem Ho_me_stc {v9 : Ho} {y9 : Int32} : (v9.stc y9).me = v9.me := rfl
theorem Ho_nt_stc {v9 : Ho} {y9 : Int32} : (v9.stc y9).nt = v9.nt := rfl
theorem Ho_nr_stc {v9 : Ho} {y9 : Int32} : (v9.stc y9).nr = v9.nr := rfl
theorem Ho_ty_stc {v9 : Ho} {y9 : Int32} : (v9.stc y9).ty = v9.ty := rfl
theorem Ho_to_stc {v9 : Ho} {y9 : Int32} : (v9.stc y9).to = v9.to := rfl
theorem Ho_ro_stc {v9 : Ho} {y9 : Int32} : (v9.stc y9).ro = v9.ro := rfl
theorem Ho_gl_stc {v9 : Ho} {y9 : Int32} : (v9.stc y9).gl = v9.gl := rfl
theorem Ho_al_stc {v9 : Ho} {y9 : Int32} : (v9.stc y9).al = v9.al := rfl
theorem Ho_re_stc {v9 : Ho} {y9 : Int32} : (v9.stc y9).re = v9.re := rfl
theorem Ho_th_stc {v9 : Ho} {y9 : Int32} : (v9.stc y9).th = v9.th := rfl
theorem Ho_fr_stc {v9 : Ho} {y9 : Int32} : (v9.stc y9).fr = v9.fr := rfl
theorem Ho_fn_stc {v9 : Ho} {y9 : Int32} : (v9.stc y9).fn = v9.fn := rfl
theorem Ho_st_stc {v9 : Ho} {y9 : Int32} : (v9.stc y9).st = v9.st := rfl
theorem Ho_rs_stc {v9 : Ho} {y9 : Int32} : (v9.stc y9).rs = v9.rs := rfl
theorem Ho_an_stc {v9 : Ho} {y9 : Int32} : (v9.stc y9).an = v9.an := rfl
theorem Ho_sp_stc {v9 : Ho} {y9 : Int32} : (v9.stc y9).sp = v9.sp := rfl
theorem Ho_np_stc {v9 : Ho} {y9 : Int32} : (v9.stc y9).np = v9.np := rfl
theorem Ho_pg_stc {v9 : Ho} {y9 : Int32} : (v9.stc y9).pg = v9.pg := rfl
theorem Ho_wc_stc {v9 : Ho} {y9 : Int32} : (v9.stc y9).wc = v9.wc := rfl
theorem Ho_ws_stc {v9 : Ho} {y9 : Int32} : (v9.stc y9).ws = v9.ws := rfl
theorem Ho_wp_stc {v9 : Ho} {y9 : Int32} : (v9.stc y9).wp = v9.wp := rfl
theorem Ho_ab_smk {v9 : Ho} {y9 : Int32} : (v9.smk y9).ab = v9.ab := rfl
theorem Ho_fc_smk {v9 : Ho} {y9 : Int32} : (v9.smk y9).fc = v9.fc := rfl
theorem Ho_cn_smk {v9 : Ho} {y9 : Int32} : (v9.smk y9).cn = v9.cn := rfl
theorem Ho_me_smk {v9 : Ho} {y9 : Int32} : (v9.smk y9).me = v9.me := rfl
theorem Ho_nt_smk {v9 : Ho} {y9 : Int32} : (v9.smk y9).nt = v9.nt := rfl
theorem Ho_nr_smk {v9 : Ho} {y9 : Int32} : (v9.smk y9).nr = v9.nr := rfl
theorem Ho_ty_smk {v9 : Ho} {y9 : Int32} : (v9.smk y9).ty = v9.ty := rfl
theorem Ho_to_smk {v9 : Ho} {y9 : Int32} : (v9.smk y9).to = v9.to := rfl
theorem Ho_ro_smk {v9 : Ho} {y9 : Int32} : (v9.smk y9).ro = v9.ro := rfl
theorem Ho_gl_smk {v9 : Ho} {y9 : Int32} : (v9.smk y9).gl = v9.gl := rfl
theorem Ho_al_smk {v9 : Ho} {y9 : Int32} : (v9.smk y9).al = v9.al := rfl
theorem Ho_re_smk {v9 : Ho} {y9 : Int32} : (v9.smk y9).re = v9.re := rfl
theorem Ho_th_smk {v9 : Ho} {y9 : Int32} : (v9.smk y9).th = v9.th := rfl
theorem Ho_fr_smk {v9 : Ho} {y9 : Int32} : (v9.smk y9).fr = v9.fr := rfl
theorem Ho_fn_smk {v9 : Ho} {y9 : Int32} : (v9.smk y9).fn = v9.fn := rfl
theorem Ho_st_smk {v9 : Ho} {y9 : Int32} : (v9.smk y9).st = v9.st := rfl
theorem Ho_rs_smk {v9 : Ho} {y9 : Int32} : (v9.smk y9).rs = v9.rs := rfl
theorem Ho_an_smk {v9 : Ho} {y9 : Int32} : (v9.smk y9).an = v9.an := rfl
theorem Ho_sp_smk {v9 : Ho} {y9 : Int32} : (v9.smk y9).sp = v9.sp := rfl
theorem Ho_np_smk {v9 : Ho} {y9 : Int32} : (v9.smk y9).np = v9.np := rfl
theorem Ho_pg_smk {v9 : Ho} {y9 : Int32} : (v9.smk y9).pg = v9.pg := rfl
theorem Ho_wc_smk {v9 : Ho} {y9 : Int32} : (v9.smk y9).wc = v9.wc := rfl
theorem Ho_ws_smk {v9 : Ho} {y9 : Int32} : (v9.smk y9).ws = v9.ws := rfl
theorem Ho_wp_smk {v9 : Ho} {y9 : Int32} : (v9.smk y9).wp = v9.wp := rfl
theorem gf_RX5_39_10 {A9 : Nat → Prop} {H9 : Heap} {fs : List Value} {v : Value} (S : CallFix p m c cc nL s args lwA RX5) (hE : g_E D vwCl (gT ar) (EX1 κ) A9 s H9) (w : g_S D vwCl A H0 G H locs nz) (ha : G a = some (.inr (10, fs))) (hv : fs[1]? = some v) (hdg : decode cc pc = .ok (.getfield 39, 3)) (kk : W p l e R s m args below meth c H locs cells slots Q (F0 m (pc + 3) ls (v :: rest))) : W p l e R s m args below meth c H locs cells slots Q (F0 m pc ls (.ref a :: rest)) :=
  va_getN (ci := 10) (C := RX4) (T := TX4) (N := 5) S.1 S.2.1 S.2.2.2.2 inA_RX4 S.2.2.2.1 hE.1 (g_1 w.1 ha) 0 rfl rfl 1 (by decide) (va_Nw.use rfl (hE.2.1.1 _ (ckN_0 _ (List.mem_of_getElem? (i := 9) rfl)))) (fun _ h => h) hv hdg kk
theorem m_2_222 : (Cond.code yX8_isThing cX8_isThing 2 (some .boolean)) ∈ lwA := lwA_mk (ck_2 _ (List.mem_of_getElem? (i := 222) rfl)) rfl
theorem m_2_221 : (Cond.static yX8_isThing) ∈ lwA := lwA_mk (ck_2 _ (List.mem_of_getElem? (i := 221) rfl)) rfl
theorem k_RX5_42 {args : Array Value} {s : State} {R rm : Room} (hts : ∀ w ∈ lwA, w.before args s = true) (hN : va_Nw (.methodLinkNest RX5 42 yX8_isThing "Sendhouse") s) (hR : rm.frames + 1 ≤ R.frames ∧ 8 + (2 + 11) + rm.locals ≤ R.locals) : va_CN R s args RX5 42 yX8_isThing "Sendhouse" cX8_isThing 2 (some .boolean) (lwC yX8_isThing cX8_isThing 2 (some .boolean)) rm rm.cells rm.slots 1 ∧ (Cond.static yX8_isThing).before args s = true ∧ True := ⟨va_cnB 1 hts (gd m_2_222) rfl rfl rfl hN (hts _ m_1_1) (by decide +kernel) hR, hts _ m_2_221, trivial⟩
theorem m_2_228 : (Cond.code yX8_numberOf cX8_numberOf 2 (some .int)) ∈ lwA := lwA_mk (ck_2 _ (List.mem_of_getElem? (i := 228) rfl)) rfl
theorem m_2_227 : (Cond.static yX8_numberOf) ∈ lwA := lwA_mk (ck_2 _ (List.mem_of_getElem? (i := 227) rfl)) rfl
theorem k_RX5_46 {args : Array Value} {s : State} {R rm : Room} (hts : ∀ w ∈ lwA, w.before args s = true) (hN : va_Nw (.methodLinkNest RX5 46 yX8_numberOf "Sendhouse") s) (hR : rm.frames + 1 ≤ R.frames ∧ 8 + (2 + 11) + rm.locals ≤ R.locals) : va_CN R s args RX5 46 yX8_numberOf "Sendhouse" cX8_numberOf 2 (some .int) (lwC yX8_numberOf cX8_numberOf 2 (some .int)) rm rm.cells rm.slots 1 ∧ (Cond.static yX8_numberOf).before args s = true ∧ True := ⟨va_cnB 1 hts (gd m_2_228) rfl rfl rfl hN (hts _ m_1_1) (by decide +kernel) hR, hts _ m_2_227, trivial⟩
theorem m_2_232 : (Cond.code yX5_withNumber cX5_withNumber 7 (some (.object "Sendhouse$Thing"))) ∈ lwA := lwA_mk (ck_2 _ (List.mem_of_getElem? (i := 232) rfl)) rfl
theorem m_2_229 : (Cond.methodLink RX5 50 yX5_withNumber) ∈ lwA := lwA_mk (ck_2 _ (List.mem_of_getElem? (i := 229) rfl)) rfl
theorem m_2_230 : (Cond.instanceMethod yX5_withNumber) ∈ lwA := lwA_mk (ck_2 _ (List.mem_of_getElem? (i := 230) rfl)) rfl
theorem m_2_231 : (Cond.selects RX5 yX5_withNumber yX5_withNumber) ∈ lwA := lwA_mk (ck_2 _ (List.mem_of_getElem? (i := 231) rfl)) rfl
theorem k_RX5_50 {args : Array Value} {s : State} {R rm : Room} (hts : ∀ w ∈ lwA, w.before args s = true) (hR : rm.frames + 1 ≤ R.frames ∧ 8 + (7 + 11) + rm.locals ≤ R.locals) : CallW R s args RX5 RX5 50 yX5_withNumber cX5_withNumber 7 (some (.object "Sendhouse$Thing")) (lwC yX5_withNumber cX5_withNumber 7 (some (.object "Sendhouse$Thing"))) rm rm.cells rm.slots 1 := cwV 1 hts (gdV m_2_229 m_2_230 m_2_231 m_1_4 m_2_232) rfl rfl rfl (by decide +kernel) hR
theorem m_3_81 : (Cond.code yX8_isNumber cX8_isNumber 2 (some .boolean)) ∈ lwA := lwA_mk (ck_3 _ (List.mem_of_getElem? (i := 81) rfl)) rfl
theorem m_3_80 : (Cond.static yX8_isNumber) ∈ lwA := lwA_mk (ck_3 _ (List.mem_of_getElem? (i := 80) rfl)) rfl
theorem k_RX5_54 {args : Array Value} {s : State} {R rm : Room} (hts : ∀ w ∈ lwA, w.before args s = true) (hN : va_Nw (.methodLinkNest RX5 54 yX8_isNumber "Sendhouse") s) (hR : rm.frames + 1 ≤ R.frames ∧ 8 + (2 + 11) + rm.locals ≤ R.locals) : va_CN R s args RX5 54 yX8_isNumber "Sendhouse" cX8_isNumber 2 (some .boolean) (lwC yX8_isNumber cX8_isNumber 2 (some .boolean)) rm rm.cells rm.slots 1 ∧ (Cond.static yX8_isNumber).before args s = true ∧ True := ⟨va_cnB 1 hts (gd m_3_81) rfl rfl rfl hN (hts _ m_1_1) (by decide +kernel) hR, hts _ m_3_80, trivial⟩
theorem m_2_219 : (Cond.code yX5_ofValue cX5_ofValue 3 (some (.object "Sendhouse$Thing"))) ∈ lwA := lwA_mk (ck_2 _ (List.mem_of_getElem? (i := 219) rfl)) rfl
theorem m_2_216 : (Cond.methodLink RX5 57 yX5_ofValue) ∈ lwA := lwA_mk (ck_2 _ (List.mem_of_getElem? (i := 216) rfl)) rfl
theorem m_2_217 : (Cond.instanceMethod yX5_ofValue) ∈ lwA := lwA_mk (ck_2 _ (List.mem_of_getElem? (i := 217) rfl)) rfl
theorem m_2_218 : (Cond.selects RX5 yX5_ofValue yX5_ofValue) ∈ lwA := lwA_mk (ck_2 _ (List.mem_of_getElem? (i := 218) rfl)) rfl
theorem k_RX5_57 {args : Array Value} {s : State} {R rm : Room} (hts : ∀ w ∈ lwA, w.before args s = true) (hR : rm.frames + 1 ≤ R.frames ∧ 8 + (3 + 11) + rm.locals ≤ R.locals) : CallW R s args RX5 RX5 57 yX5_ofValue cX5_ofValue 3 (some (.object "Sendhouse$Thing")) (lwC yX5_ofValue cX5_ofValue 3 (some (.object "Sendhouse$Thing"))) rm rm.cells rm.slots 1 := cwV 1 hts (gdV m_2_216 m_2_217 m_2_218 m_1_4 m_2_219) rfl rfl rfl (by decide +kernel) hR
theorem gf_RX5_61_10 {A9 : Nat → Prop} {H9 : Heap} {fs : List Value} {v : Value} (S : CallFix p m c cc nL s args lwA RX5) (hE : g_E D vwCl (gT ar) (EX1 κ) A9 s H9) (w : g_S D vwCl A H0 G H locs nz) (ha : G a = some (.inr (10, fs))) (hv : fs[2]? = some v) (hdg : decode cc pc = .ok (.getfield 61, 3)) (kk : W p l e R s m args below meth c H locs cells slots Q (F0 m (pc + 3) ls (v :: rest))) : W p l e R s m args below meth c H locs cells slots Q (F0 m pc ls (.ref a :: rest)) :=
  va_getN (ci := 10) (C := RX4) (T := TX4) (N := 5) S.1 S.2.1 S.2.2.2.2 inA_RX4 S.2.2.2.1 hE.1 (g_1 w.1 ha) 0 rfl rfl 2 (by decide) (va_Nw.use rfl (hE.2.1.1 _ (ckN_0 _ (List.mem_of_getElem? (i := 11) rfl)))) (fun _ h => h) hv hdg kk
theorem gf_RX5_71_10 {A9 : Nat → Prop} {H9 : Heap} {fs : List Value} {v : Value} (S : CallFix p m c cc nL s args lwA RX5) (hE : g_E D vwCl (gT ar) (EX1 κ) A9 s H9) (w : g_S D vwCl A H0 G H locs nz) (ha : G a = some (.inr (10, fs))) (hv : fs[3]? = some v) (hdg : decode cc pc = .ok (.getfield 71, 3)) (kk : W p l e R s m args below meth c H locs cells slots Q (F0 m (pc + 3) ls (v :: rest))) : W p l e R s m args below meth c H locs cells slots Q (F0 m pc ls (.ref a :: rest)) :=
  va_getN (ci := 10) (C := RX4) (T := TX4) (N := 5) S.1 S.2.1 S.2.2.2.2 inA_RX4 S.2.2.2.1 hE.1 (g_1 w.1 ha) 0 rfl rfl 3 (by decide) (va_Nw.use rfl (hE.2.1.1 _ (ckN_0 _ (List.mem_of_getElem? (i := 13) rfl)))) (fun _ h => h) hv hdg kk
theorem gf_RX5_74_10 {A9 : Nat → Prop} {H9 : Heap} {fs : List Value} {v : Value} (S : CallFix p m c cc nL s args lwA RX5) (hE : g_E D vwCl (gT ar) (EX1 κ) A9 s H9) (w : g_S D vwCl A H0 G H locs nz) (ha : G a = some (.inr (10, fs))) (hv : fs[0]? = some v) (hdg : decode cc pc = .ok (.getfield 74, 3)) (kk : W p l e R s m args below meth c H locs cells slots Q (F0 m (pc + 3) ls (v :: rest))) : W p l e R s m args below meth c H locs cells slots Q (F0 m pc ls (.ref a :: rest)) :=
  va_getN (ci := 10) (C := RX4) (T := TX4) (N := 5) S.1 S.2.1 S.2.2.2.2 inA_RX4 S.2.2.2.1 hE.1 (g_1 w.1 ha) 0 rfl rfl 0 (by decide) (va_Nw.use rfl (hE.2.1.1 _ (ckN_0 _ (List.mem_of_getElem? (i := 7) rfl)))) (fun _ h => h) hv hdg kk
theorem k_RX5_78 {args : Array Value} {s : State} {R rm : Room} (hts : ∀ w ∈ lwA, w.before args s = true) (hN : va_Nw (.methodLinkNest RX5 78 yX8_placeAt "Sendhouse") s) (hR : rm.frames + 1 ≤ R.frames ∧ 8 + (2 + 11) + rm.locals ≤ R.locals) : va_CN R s args RX5 78 yX8_placeAt "Sendhouse" cX8_placeAt 2 (some .long) (lwC yX8_placeAt cX8_placeAt 2 (some .long)) rm rm.cells rm.slots 2 ∧ (Cond.static yX8_placeAt).before args s = true ∧ True := ⟨va_cnB 2 hts (gd m_3_20) rfl rfl rfl hN (hts _ m_1_1) (by decide +kernel) hR, hts _ m_3_19, trivial⟩
theorem m_8_51 : (Cond.code yX5_has cX5_has 3 (some .boolean)) ∈ lwA := lwA_mk (ck_8 _ (List.mem_of_getElem? (i := 51) rfl)) rfl
theorem m_8_65 : (Cond.methodLink RX5 82 yX5_has) ∈ lwA := lwA_mk (ck_8 _ (List.mem_of_getElem? (i := 65) rfl)) rfl
theorem m_8_49 : (Cond.instanceMethod yX5_has) ∈ lwA := lwA_mk (ck_8 _ (List.mem_of_getElem? (i := 49) rfl)) rfl
theorem m_8_50 : (Cond.selects RX5 yX5_has yX5_has) ∈ lwA := lwA_mk (ck_8 _ (List.mem_of_getElem? (i := 50) rfl)) rfl
theorem k_RX5_82 {args : Array Value} {s : State} {R rm : Room} (hts : ∀ w ∈ lwA, w.before args s = true) (hR : rm.frames + 1 ≤ R.frames ∧ 8 + (3 + 11) + rm.locals ≤ R.locals) : CallW R s args RX5 RX5 82 yX5_has cX5_has 3 (some .boolean) (lwC yX5_has cX5_has 3 (some .boolean)) rm rm.cells rm.slots 1 := cwV 1 hts (gdV m_8_65 m_8_49 m_8_50 m_1_4 m_8_51) rfl rfl rfl (by decide +kernel) hR
theorem m_8_15 : (Cond.code yX5_inOrder cX5_inOrder 2 (some (.object "Sendhouse$Thing"))) ∈ lwA := lwA_mk (ck_8 _ (List.mem_of_getElem? (i := 15) rfl)) rfl
theorem m_8_60 : (Cond.methodLink RX5 64 yX5_inOrder) ∈ lwA := lwA_mk (ck_8 _ (List.mem_of_getElem? (i := 60) rfl)) rfl
theorem m_8_13 : (Cond.instanceMethod yX5_inOrder) ∈ lwA := lwA_mk (ck_8 _ (List.mem_of_getElem? (i := 13) rfl)) rfl
theorem m_8_14 : (Cond.selects RX5 yX5_inOrder yX5_inOrder) ∈ lwA := lwA_mk (ck_8 _ (List.mem_of_getElem? (i := 14) rfl)) rfl
theorem k_RX5_64 {args : Array Value} {s : State} {R rm : Room} (hts : ∀ w ∈ lwA, w.before args s = true) (hR : rm.frames + 1 ≤ R.frames ∧ 8 + (2 + 11) + rm.locals ≤ R.locals) : CallW R s args RX5 RX5 64 yX5_inOrder cX5_inOrder 2 (some (.object "Sendhouse$Thing")) (lwC yX5_inOrder cX5_inOrder 2 (some (.object "Sendhouse$Thing"))) rm rm.cells rm.slots 1 := cwV 1 hts (gdV m_8_60 m_8_13 m_8_14 m_1_4 m_8_15) rfl rfl rfl (by decide +kernel) hR
theorem m_8_64 : (Cond.code yX5_hasPlacesThere cX5_hasPlacesThere 3 (some .boolean)) ∈ lwA := lwA_mk (ck_8 _ (List.mem_of_getElem? (i := 64) rfl)) rfl
theorem m_8_61 : (Cond.methodLink RX5 67 yX5_hasPlacesThere) ∈ lwA := lwA_mk (ck_8 _ (List.mem_of_getElem? (i := 61) rfl)) rfl
theorem m_8_63 : (Cond.instanceMethod yX5_hasPlacesThere) ∈ lwA := lwA_mk (ck_8 _ (List.mem_of_getElem? (i := 63) rfl)) rfl
theorem ms_37 : (Cond.selects RX5 yX5_hasPlacesThere yX5_hasPlacesThere) ∈ lwA := lwA_mk (List.mem_append_left _ (List.mem_of_getElem? (i := 37) rfl)) rfl
theorem k_RX5_67 {args : Array Value} {s : State} {R rm : Room} (hts : ∀ w ∈ lwA, w.before args s = true) (hR : rm.frames + 1 ≤ R.frames ∧ 8 + (3 + 11) + rm.locals ≤ R.locals) : CallW R s args RX5 RX5 67 yX5_hasPlacesThere cX5_hasPlacesThere 3 (some .boolean) (lwC yX5_hasPlacesThere cX5_hasPlacesThere 3 (some .boolean)) rm rm.cells rm.slots 1 := cwV 1 hts (gdV m_8_61 m_8_63 ms_37 m_1_4 m_8_64) rfl rfl rfl (by decide +kernel) hR
theorem gf_RX5_85_10 {A9 : Nat → Prop} {H9 : Heap} {fs : List Value} {v : Value} (S : CallFix p m c cc nL s args lwA RX5) (hE : g_E D vwCl (gT ar) (EX1 κ) A9 s H9) (w : g_S D vwCl A H0 G H locs nz) (ha : G a = some (.inr (10, fs))) (hv : fs[4]? = some v) (hdg : decode cc pc = .ok (.getfield 85, 3)) (kk : W p l e R s m args below meth c H locs cells slots Q (F0 m (pc + 3) ls (v :: rest))) : W p l e R s m args below meth c H locs cells slots Q (F0 m pc ls (.ref a :: rest)) :=
  va_getN (ci := 10) (C := RX4) (T := TX4) (N := 5) S.1 S.2.1 S.2.2.2.2 inA_RX4 S.2.2.2.1 hE.1 (g_1 w.1 ha) 0 rfl rfl 4 (by decide) (va_Nw.use rfl (hE.2.1.1 _ (ckN_0 _ (List.mem_of_getElem? (i := 15) rfl)))) (fun _ h => h) hv hdg kk
theorem gf_RX5_24_11 {A9 : Nat → Prop} {H9 : Heap} {fs : List Value} {v : Value} (S : CallFix p m c cc nL s args lwA RX5) (hE : g_E D vwCl (gT ar) (EX1 κ) A9 s H9) (w : g_S D vwCl A H0 G H locs nz) (ha : G a = some (.inr (11, fs))) (hv : fs[3]? = some v) (hdg : decode cc pc = .ok (.getfield 24, 3)) (kk : W p l e R s m args below meth c H locs cells slots Q (F0 m (pc + 3) ls (v :: rest))) : W p l e R s m args below meth c H locs cells slots Q (F0 m pc ls (.ref a :: rest)) :=
  va_get (ci := 11) (C := RX5) (T := TX5) (N := 5) S.1 S.2.1 S.2.2.2.2 inA_RX5 S.2.2.2.1 hE.1 (g_1 w.1 ha) 0 rfl rfl 3 (by decide) (S.2.2.2.2 _ m_1_142) (fun _ h => h) hv hdg kk
theorem gf_RX5_17_11 {A9 : Nat → Prop} {H9 : Heap} {fs : List Value} {v : Value} (S : CallFix p m c cc nL s args lwA RX5) (hE : g_E D vwCl (gT ar) (EX1 κ) A9 s H9) (w : g_S D vwCl A H0 G H locs nz) (ha : G a = some (.inr (11, fs))) (hv : fs[1]? = some v) (hdg : decode cc pc = .ok (.getfield 17, 3)) (kk : W p l e R s m args below meth c H locs cells slots Q (F0 m (pc + 3) ls (v :: rest))) : W p l e R s m args below meth c H locs cells slots Q (F0 m pc ls (.ref a :: rest)) :=
  va_get (ci := 11) (C := RX5) (T := TX5) (N := 5) S.1 S.2.1 S.2.2.2.2 inA_RX5 S.2.2.2.1 hE.1 (g_1 w.1 ha) 0 rfl rfl 1 (by decide) (S.2.2.2.2 _ m_1_139) (fun _ h => h) hv hdg kk
theorem pf_RX5_85_10 {A9 : Nat → Prop} {H9 : Heap} {fs : List Value} {v : Value} (S : CallFix p m c cc nL s args lwA RX5) (hE : g_E D vwCl (gT ar) (EX1 κ) A9 s H9) (w : g_S D vwCl A H0 G H locs nz) (ha : G a = some (.inr (10, fs))) (hn : narrow .boolean v = v) (hfit : fits .boolean v = true) (hl : 4 < fs.length) {fs1 : List Value} (hfs : fs.set 4 v = fs1) (hdg : decode cc pc = .ok (.putfield 85, 3)) (kk : ∀ (H1 : Heap) (locs1 : List Loc), g_S D vwCl A H0 (g_up G a (.inr (10, fs1))) H1 locs1 nz → W p l e R s m args below meth c H1 locs1 cells slots Q (F0 m (pc + 3) ls rest)) : W p l e R s m args below meth c H locs cells slots Q (F0 m pc ls (v :: .ref a :: rest)) :=
  g_putN (ci := 10) (ty := .boolean) (C := RX4) (T := TX4) (N := 5) S.1 S.2.1 S.2.2.2.2 inA_RX4 tyX4 tyX4_ok nmX4 S.2.2.2.1 hE.1 w ha rfl 4 (by decide) (va_Nw.use rfl (hE.2.1.1 _ (ckN_0 _ (List.mem_of_getElem? (i := 15) rfl)))) (fun _ h => h) rfl (by decide +kernel) hn hfit hl hdg (fun H1 l1 w1 => kk H1 l1 (by rw [← hfs]; exact w1))
theorem Ho_ab_sre {v9 : Ho} {y9 : Nat → Option (Fin 60)} : (v9.sre y9).ab = v9.ab := rfl
theorem Ho_ab_thS {v9 : Ho} {i9 : Fin 60} {y9 : Th} : (v9.thS i9 y9).ab = v9.ab := rfl
theorem Ho_fc_sre {v9 : Ho} {y9 : Nat → Option (Fin 60)} : (v9.sre y9).fc = v9.fc := rfl
theorem Ho_fc_thS {v9 : Ho} {i9 : Fin 60} {y9 : Th} : (v9.thS i9 y9).fc = v9.fc := rfl
theorem Ho_cn_sre {v9 : Ho} {y9 : Nat → Option (Fin 60)} : (v9.sre y9).cn = v9.cn := rfl
theorem Ho_cn_thS {v9 : Ho} {i9 : Fin 60} {y9 : Th} : (v9.thS i9 y9).cn = v9.cn := rfl
theorem Ho_me_sre {v9 : Ho} {y9 : Nat → Option (Fin 60)} : (v9.sre y9).me = v9.me := rfl
theorem Ho_me_thS {v9 : Ho} {i9 : Fin 60} {y9 : Th} : (v9.thS i9 y9).me = v9.me := rfl
theorem Ho_nt_sre {v9 : Ho} {y9 : Nat → Option (Fin 60)} : (v9.sre y9).nt = v9.nt := rfl
theorem Ho_nt_thS {v9 : Ho} {i9 : Fin 60} {y9 : Th} : (v9.thS i9 y9).nt = v9.nt := rfl
theorem Ho_nr_sre {v9 : Ho} {y9 : Nat → Option (Fin 60)} : (v9.sre y9).nr = v9.nr := rfl
theorem Ho_nr_thS {v9 : Ho} {i9 : Fin 60} {y9 : Th} : (v9.thS i9 y9).nr = v9.nr := rfl
theorem Ho_ty_sre {v9 : Ho} {y9 : Nat → Option (Fin 60)} : (v9.sre y9).ty = v9.ty := rfl
theorem Ho_ty_thS {v9 : Ho} {i9 : Fin 60} {y9 : Th} : (v9.thS i9 y9).ty = v9.ty := rfl
theorem Ho_to_sre {v9 : Ho} {y9 : Nat → Option (Fin 60)} : (v9.sre y9).to = v9.to := rfl
theorem Ho_to_thS {v9 : Ho} {i9 : Fin 60} {y9 : Th} : (v9.thS i9 y9).to = v9.to := rfl
theorem Ho_ro_sre {v9 : Ho} {y9 : Nat → Option (Fin 60)} : (v9.sre y9).ro = v9.ro := rfl
theorem Ho_ro_thS {v9 : Ho} {i9 : Fin 60} {y9 : Th} : (v9.thS i9 y9).ro = v9.ro := rfl
theorem Ho_gl_sre {v9 : Ho} {y9 : Nat → Option (Fin 60)} : (v9.sre y9).gl = v9.gl := rfl
theorem Ho_gl_thS {v9 : Ho} {i9 : Fin 60} {y9 : Th} : (v9.thS i9 y9).gl = v9.gl := rfl
theorem Ho_al_sre {v9 : Ho} {y9 : Nat → Option (Fin 60)} : (v9.sre y9).al = v9.al := rfl
theorem Ho_al_thS {v9 : Ho} {i9 : Fin 60} {y9 : Th} : (v9.thS i9 y9).al = v9.al := rfl
theorem Ho_th_sre {v9 : Ho} {y9 : Nat → Option (Fin 60)} : (v9.sre y9).th = v9.th := rfl
theorem Ho_th_thS {v9 : Ho} {i9 : Fin 60} {y9 : Th} : (v9.thS i9 y9).th = updF v9.th i9 y9 := rfl
theorem Ho_tc_sre {v9 : Ho} {y9 : Nat → Option (Fin 60)} : (v9.sre y9).tc = v9.tc := rfl
theorem Ho_tc_thS {v9 : Ho} {i9 : Fin 60} {y9 : Th} : (v9.thS i9 y9).tc = v9.tc := rfl
theorem Ho_rc_sre {v9 : Ho} {y9 : Nat → Option (Fin 60)} : (v9.sre y9).rc = v9.rc := rfl
theorem Ho_rc_thS {v9 : Ho} {i9 : Fin 60} {y9 : Th} : (v9.thS i9 y9).rc = v9.rc := rfl
theorem Ho_mk_sre {v9 : Ho} {y9 : Nat → Option (Fin 60)} : (v9.sre y9).mk = v9.mk := rfl
theorem Ho_mk_thS {v9 : Ho} {i9 : Fin 60} {y9 : Th} : (v9.thS i9 y9).mk = v9.mk := rfl
theorem Ho_fr_sre {v9 : Ho} {y9 : Nat → Option (Fin 60)} : (v9.sre y9).fr = v9.fr := rfl
theorem Ho_fr_thS {v9 : Ho} {i9 : Fin 60} {y9 : Th} : (v9.thS i9 y9).fr = v9.fr := rfl
theorem Ho_fn_sre {v9 : Ho} {y9 : Nat → Option (Fin 60)} : (v9.sre y9).fn = v9.fn := rfl
theorem Ho_fn_thS {v9 : Ho} {i9 : Fin 60} {y9 : Th} : (v9.thS i9 y9).fn = v9.fn := rfl
theorem Ho_st_sre {v9 : Ho} {y9 : Nat → Option (Fin 60)} : (v9.sre y9).st = v9.st := rfl
theorem Ho_st_thS {v9 : Ho} {i9 : Fin 60} {y9 : Th} : (v9.thS i9 y9).st = v9.st := rfl
theorem Ho_rs_sre {v9 : Ho} {y9 : Nat → Option (Fin 60)} : (v9.sre y9).rs = v9.rs := rfl
theorem Ho_rs_thS {v9 : Ho} {i9 : Fin 60} {y9 : Th} : (v9.thS i9 y9).rs = v9.rs := rfl
theorem Ho_an_sre {v9 : Ho} {y9 : Nat → Option (Fin 60)} : (v9.sre y9).an = v9.an := rfl
theorem Ho_an_thS {v9 : Ho} {i9 : Fin 60} {y9 : Th} : (v9.thS i9 y9).an = v9.an := rfl
theorem Ho_sp_sre {v9 : Ho} {y9 : Nat → Option (Fin 60)} : (v9.sre y9).sp = v9.sp := rfl
theorem Ho_sp_thS {v9 : Ho} {i9 : Fin 60} {y9 : Th} : (v9.thS i9 y9).sp = v9.sp := rfl
theorem Ho_np_sre {v9 : Ho} {y9 : Nat → Option (Fin 60)} : (v9.sre y9).np = v9.np := rfl
theorem Ho_np_thS {v9 : Ho} {i9 : Fin 60} {y9 : Th} : (v9.thS i9 y9).np = v9.np := rfl
theorem Ho_pg_sre {v9 : Ho} {y9 : Nat → Option (Fin 60)} : (v9.sre y9).pg = v9.pg := rfl
theorem Ho_pg_thS {v9 : Ho} {i9 : Fin 60} {y9 : Th} : (v9.thS i9 y9).pg = v9.pg := rfl
theorem Ho_wc_sre {v9 : Ho} {y9 : Nat → Option (Fin 60)} : (v9.sre y9).wc = v9.wc := rfl
theorem Ho_wc_thS {v9 : Ho} {i9 : Fin 60} {y9 : Th} : (v9.thS i9 y9).wc = v9.wc := rfl
theorem Ho_ws_sre {v9 : Ho} {y9 : Nat → Option (Fin 60)} : (v9.sre y9).ws = v9.ws := rfl
theorem Ho_ws_thS {v9 : Ho} {i9 : Fin 60} {y9 : Th} : (v9.thS i9 y9).ws = v9.ws := rfl
theorem Ho_wp_sre {v9 : Ho} {y9 : Nat → Option (Fin 60)} : (v9.sre y9).wp = v9.wp := rfl
theorem Ho_wp_thS {v9 : Ho} {i9 : Fin 60} {y9 : Th} : (v9.thS i9 y9).wp = v9.wp := rfl
theorem Ho_ab_src {v9 : Ho} {y9 : Int32} : (v9.src y9).ab = v9.ab := rfl
theorem Ho_fc_src {v9 : Ho} {y9 : Int32} : (v9.src y9).fc = v9.fc := rfl
theorem Ho_cn_src {v9 : Ho} {y9 : Int32} : (v9.src y9).cn = v9.cn := rfl
theorem Ho_me_src {v9 : Ho} {y9 : Int32} : (v9.src y9).me = v9.me := rfl
theorem Ho_nt_src {v9 : Ho} {y9 : Int32} : (v9.src y9).nt = v9.nt := rfl
theorem Ho_nr_src {v9 : Ho} {y9 : Int32} : (v9.src y9).nr = v9.nr := rfl
theorem Ho_ty_src {v9 : Ho} {y9 : Int32} : (v9.src y9).ty = v9.ty := rfl
theorem Ho_to_src {v9 : Ho} {y9 : Int32} : (v9.src y9).to = v9.to := rfl
theorem Ho_ro_src {v9 : Ho} {y9 : Int32} : (v9.src y9).ro = v9.ro := rfl
theorem Ho_gl_src {v9 : Ho} {y9 : Int32} : (v9.src y9).gl = v9.gl := rfl
theorem Ho_al_src {v9 : Ho} {y9 : Int32} : (v9.src y9).al = v9.al := rfl
theorem Ho_re_src {v9 : Ho} {y9 : Int32} : (v9.src y9).re = v9.re := rfl
theorem Ho_re_sre {v9 : Ho} {y9 : Nat → Option (Fin 60)} : (v9.sre y9).re = y9 := rfl
theorem Ho_re_thS {v9 : Ho} {i9 : Fin 60} {y9 : Th} : (v9.thS i9 y9).re = v9.re := rfl
theorem Ho_th_src {v9 : Ho} {y9 : Int32} : (v9.src y9).th = v9.th := rfl
theorem Ho_fr_src {v9 : Ho} {y9 : Int32} : (v9.src y9).fr = v9.fr := rfl
theorem Ho_fn_src {v9 : Ho} {y9 : Int32} : (v9.src y9).fn = v9.fn := rfl
theorem Ho_st_src {v9 : Ho} {y9 : Int32} : (v9.src y9).st = v9.st := rfl
theorem Ho_rs_src {v9 : Ho} {y9 : Int32} : (v9.src y9).rs = v9.rs := rfl
theorem Ho_an_src {v9 : Ho} {y9 : Int32} : (v9.src y9).an = v9.an := rfl
theorem Ho_sp_src {v9 : Ho} {y9 : Int32} : (v9.src y9).sp = v9.sp := rfl
theorem Ho_np_src {v9 : Ho} {y9 : Int32} : (v9.src y9).np = v9.np := rfl
theorem Ho_pg_src {v9 : Ho} {y9 : Int32} : (v9.src y9).pg = v9.pg := rfl
theorem Ho_wc_src {v9 : Ho} {y9 : Int32} : (v9.src y9).wc = v9.wc := rfl
theorem Ho_ws_src {v9 : Ho} {y9 : Int32} : (v9.src y9).ws = v9.ws := rfl
theorem Ho_wp_src {v9 : Ho} {y9 : Int32} : (v9.src y9).wp = v9.wp := rfl
theorem m_2_215 : (Cond.code yX5_reach cX5_reach 4 none) ∈ lwA := lwA_mk (ck_2 _ (List.mem_of_getElem? (i := 215) rfl)) rfl
theorem m_3_26 : (Cond.methodLink RX5 88 yX5_reach) ∈ lwA := lwA_mk (ck_3 _ (List.mem_of_getElem? (i := 26) rfl)) rfl
theorem m_2_213 : (Cond.instanceMethod yX5_reach) ∈ lwA := lwA_mk (ck_2 _ (List.mem_of_getElem? (i := 213) rfl)) rfl
theorem m_2_214 : (Cond.selects RX5 yX5_reach yX5_reach) ∈ lwA := lwA_mk (ck_2 _ (List.mem_of_getElem? (i := 214) rfl)) rfl
theorem k_RX5_88 {args : Array Value} {s : State} {R rm : Room} (hts : ∀ w ∈ lwA, w.before args s = true) (hR : rm.frames + 1 ≤ R.frames ∧ 8 + (4 + 11) + rm.locals ≤ R.locals) : CallW R s args RX5 RX5 88 yX5_reach cX5_reach 4 none (lwC yX5_reach cX5_reach 4 none) rm rm.cells rm.slots 1 := cwV 1 hts (gdV m_3_26 m_2_213 m_2_214 m_1_4 m_2_215) rfl rfl rfl (by decide +kernel) hR
theorem Ho_ab_sal {v9 : Ho} {y9 : Nat → Option (Fin 60)} : (v9.sal y9).ab = v9.ab := rfl
theorem Ho_fc_sal {v9 : Ho} {y9 : Nat → Option (Fin 60)} : (v9.sal y9).fc = v9.fc := rfl
theorem Ho_cn_sal {v9 : Ho} {y9 : Nat → Option (Fin 60)} : (v9.sal y9).cn = v9.cn := rfl
theorem Ho_me_sal {v9 : Ho} {y9 : Nat → Option (Fin 60)} : (v9.sal y9).me = v9.me := rfl
theorem Ho_nt_sal {v9 : Ho} {y9 : Nat → Option (Fin 60)} : (v9.sal y9).nt = v9.nt := rfl
theorem Ho_nr_sal {v9 : Ho} {y9 : Nat → Option (Fin 60)} : (v9.sal y9).nr = v9.nr := rfl
theorem Ho_ty_sal {v9 : Ho} {y9 : Nat → Option (Fin 60)} : (v9.sal y9).ty = v9.ty := rfl
theorem Ho_to_sal {v9 : Ho} {y9 : Nat → Option (Fin 60)} : (v9.sal y9).to = v9.to := rfl
theorem Ho_ro_sal {v9 : Ho} {y9 : Nat → Option (Fin 60)} : (v9.sal y9).ro = v9.ro := rfl
theorem Ho_gl_sal {v9 : Ho} {y9 : Nat → Option (Fin 60)} : (v9.sal y9).gl = v9.gl := rfl
theorem Ho_re_sal {v9 : Ho} {y9 : Nat → Option (Fin 60)} : (v9.sal y9).re = v9.re := rfl
theorem Ho_th_sal {v9 : Ho} {y9 : Nat → Option (Fin 60)} : (v9.sal y9).th = v9.th := rfl
theorem Ho_tc_sal {v9 : Ho} {y9 : Nat → Option (Fin 60)} : (v9.sal y9).tc = v9.tc := rfl
theorem Ho_rc_sal {v9 : Ho} {y9 : Nat → Option (Fin 60)} : (v9.sal y9).rc = v9.rc := rfl
theorem Ho_mk_sal {v9 : Ho} {y9 : Nat → Option (Fin 60)} : (v9.sal y9).mk = v9.mk := rfl
theorem Ho_fr_sal {v9 : Ho} {y9 : Nat → Option (Fin 60)} : (v9.sal y9).fr = v9.fr := rfl
theorem Ho_fn_sal {v9 : Ho} {y9 : Nat → Option (Fin 60)} : (v9.sal y9).fn = v9.fn := rfl
theorem Ho_st_sal {v9 : Ho} {y9 : Nat → Option (Fin 60)} : (v9.sal y9).st = v9.st := rfl
theorem Ho_rs_sal {v9 : Ho} {y9 : Nat → Option (Fin 60)} : (v9.sal y9).rs = v9.rs := rfl
theorem Ho_an_sal {v9 : Ho} {y9 : Nat → Option (Fin 60)} : (v9.sal y9).an = v9.an := rfl
theorem Ho_sp_sal {v9 : Ho} {y9 : Nat → Option (Fin 60)} : (v9.sal y9).sp = v9.sp := rfl
theorem Ho_np_sal {v9 : Ho} {y9 : Nat → Option (Fin 60)} : (v9.sal y9).np = v9.np := rfl
theorem Ho_pg_sal {v9 : Ho} {y9 : Nat → Option (Fin 60)} : (v9.sal y9).pg = v9.pg := rfl
theorem Ho_wc_sal {v9 : Ho} {y9 : Nat → Option (Fin 60)} : (v9.sal y9).wc = v9.wc := rfl
theorem Ho_ws_sal {v9 : Ho} {y9 : Nat → Option (Fin 60)} : (v9.sal y9).ws = v9.ws := rfl
theorem Ho_wp_sal {v9 : Ho} {y9 : Nat → Option (Fin 60)} : (v9.sal y9).wp = v9.wp := rfl
end SITES
def sX4_hasField (Z : Ho) (i0 : Fin 60) (j0 : Int32) : Int32 := vp_nar .boolean (isB j0 ((Z.th i0).z))
theorem sX4_hasField_u (Z : Ho) (i0 : Fin 60) (j0 : Int32) : sX4_hasField Z i0 j0 = vp_nar .boolean (isB j0 ((Z.th i0).z)) := rfl
set_option maxHeartbeats 4000000 in
set_option maxRecDepth 100000 in
theorem hX4_hasField (l : Launch) (D : va_G) (ar : Nat → ClassId) (κ : Nat → Nat) (G : gW) (x : Xo) (Z : Ho) (sz : Nat) (i0 : Fin 60) (j0 : Int32) (hk : OK x Z) : Met l yX4_hasField (lwC yX4_hasField cX4_hasField 2 (some .boolean)) (rD 3 0 0) (g_Pc D vwCl (gT ar) (EX1 κ) (ov κ ar x Z G) sz [.ref (x.f (.th i0)), .int j0]) (g_Qi D vwCl (g_A (ov κ ar x Z G) sz) (fun r u => r = sX4_hasField Z i0 j0 ∧ u = (ov κ ar x Z G, sz))) 0 0 (g_A (ov κ ar x Z G) sz) := by
  refine g_ofW (by decide +kernel) (Nat.le_of_ble_eq_true rfl) ?_
  intro p e s m below meth c ls S hr hlk hin hE w hl
  have hx := S.1
  have hb := S.2.1
  have hl : lv_has ls 2 [(0, .ref (x.f (.th i0))), (1, .int j0)] := hl
  refine lv_iload_n hx hb dX4_hasField_0 rfl (lv_at hl 1 rfl) ?_
  refine lv_aload_n hx hb dX4_hasField_1 rfl (lv_at hl 0 rfl) ?_
  refine gf_RX4_22_10 (v := .int ((Z.th i0).z)) S hE w (ov_r (t := .th i0) (hk.e (.th i0) rfl)) rfl dX4_hasField_2 ?_
  refine g_calli w (g_runSN (As := [.int j0, .int ((Z.th i0).z)]) (rest := []) S hE w hl (c_X8_isBelow l D ar κ (ov κ ar x Z G) sz j0 ((Z.th i0).z)) (k_RX4_37 S.2.2.2.2 (hE.2.1.1 _ (ckN_1 _ (List.mem_of_getElem? (i := 9) rfl))) ⟨Nat.le_of_ble_eq_true rfl, Nat.le_of_ble_eq_true rfl⟩) rfl rfl (Nat.le_of_ble_eq_true rfl) dX4_hasField_5 ⟨Nat.le_of_ble_eq_true rfl, Nat.le_of_ble_eq_true rfl⟩) (fun r u H locs hp hnz w => ?_)
  obtain ⟨rfl, rfl⟩ := hp
  dsimp only at w
  exact g_zretN (v := vp_nar .boolean (isB j0 ((Z.th i0).z))) hx hb hr hlk w (Nat.le_of_ble_eq_true rfl) (Nat.le_of_ble_eq_true rfl) dX4_hasField_8 rfl ⟨((sX4_hasField_u Z i0 j0)).symm, rfl⟩
def sX4_open (Z : Ho) (i0 : Fin 60) (a0 : Int32) (b0 : Int32) (c0 : Int32) : Ho := (Z.thS i0 ((((((Z.th i0).sn a0).sc b0).sz c0).sr 0).sp (fillJ ((Z.th i0).p) 502511173632 8)))
theorem sX4_open_u (Z : Ho) (i0 : Fin 60) (a0 : Int32) (b0 : Int32) (c0 : Int32) : sX4_open Z i0 a0 b0 c0 = (Z.thS i0 ((((((Z.th i0).sn a0).sc b0).sz c0).sr 0).sp (fillJ ((Z.th i0).p) 502511173632 8))) := rfl
set_option maxHeartbeats 4000000 in
set_option maxRecDepth 100000 in
theorem hX4_open (l : Launch) (D : va_G) (ar : Nat → ClassId) (κ : Nat → Nat) (G : gW) (x : Xo) (Z : Ho) (sz : Nat) (i0 : Fin 60) (a0 : Int32) (b0 : Int32) (c0 : Int32) (hk : OK x Z) : Met l yX4_open (lwC yX4_open cX4_open 4 none) (rD 4 0 0) (g_Pc D vwCl (gT ar) (EX1 κ) (ov κ ar x Z G) sz [.ref (x.f (.th i0)), .int a0, .int b0, .int c0]) (g_Qv D vwCl (g_A (ov κ ar x Z G) sz) (fun u => ∃ T9 : Ho, sX4_open Z i0 a0 b0 c0 = T9 ∧ u = (ov κ ar x T9 G, sz) ∧ OK x T9 ∧ SZ T9 Z)) 0 0 (g_A (ov κ ar x Z G) sz) := by
  refine g_ofW (by decide +kernel) (Nat.le_of_ble_eq_true rfl) ?_
  intro p e s m below meth c ls S hr hlk hin hE w hl
  have hx := S.1
  have hb := S.2.1
  have hl : lv_has ls 4 [(0, .ref (x.f (.th i0))), (1, .int a0), (2, .int b0), (3, .int c0)] := hl
  refine lv_aload_n hx hb dX4_open_0 rfl (lv_at hl 0 rfl) ?_
  refine lv_iload_n hx hb dX4_open_1 rfl (lv_at hl 1 rfl) ?_
  refine pf_RX4_15_10 (fs1 := [.ref (x.f (.tp i0)), .int a0, .int ((Z.th i0).c), .int ((Z.th i0).z), .int ((Z.th i0).r)]) S hE w (ov_r (t := .th i0) (hk.e (.th i0) rfl)) rfl rfl (Nat.le_of_ble_eq_true rfl) rfl dX4_open_2 (fun H locs w => ?_)
  have w := g_eqw w (congrArg (fun Z9 => g_up (ov κ ar x Z9 G) (x.f (.th i0)) (.inr (10, [.ref (x.f (.tp i0)), .int a0, .int ((Z.th i0).c), .int ((Z.th i0).z), .int ((Z.th i0).r)]))) (thS_id (S := Z) (i := i0)).symm)
  have w : g_S D vwCl (g_A (ov κ ar x Z G) sz) s.heap (ov κ ar x (Z.thS i0 ((Z.th i0).sn a0)) G) H _ sz := g_eqw w (ov_wth (S := Z) (v := (Z.th i0)) (v' := ((Z.th i0).sn a0)) hk.v (hk.e (.th i0) rfl) rfl Th_p_sn)
  refine lv_aload_n hx hb dX4_open_5 rfl (lv_at hl 0 rfl) ?_
  refine lv_iload_n hx hb dX4_open_6 rfl (lv_at hl 2 rfl) ?_
  refine pf_RX4_19_10 (fs1 := [.ref (x.f (.tp i0)), .int a0, .int b0, .int ((Z.th i0).z), .int ((Z.th i0).r)]) S hE w (ov_rth (hk.e (.th i0) rfl)) rfl rfl (Nat.le_of_ble_eq_true rfl) rfl dX4_open_7 (fun H locs w => ?_)
  have w : g_S D vwCl (g_A (ov κ ar x Z G) sz) s.heap (ov κ ar x (Z.thS i0 (((Z.th i0).sn a0).sc b0)) G) H _ sz := g_eqw w (ov_wth (S := Z) (v := ((Z.th i0).sn a0)) (v' := (((Z.th i0).sn a0).sc b0)) hk.v (hk.e (.th i0) rfl) rfl ((Th_p_sc.trans Th_p_sn).trans Th_p_sn.symm))
  refine lv_aload_n hx hb dX4_open_10 rfl (lv_at hl 0 rfl) ?_
  refine lv_iload_n hx hb dX4_open_11 rfl (lv_at hl 3 rfl) ?_
  refine pf_RX4_22_10 (fs1 := [.ref (x.f (.tp i0)), .int a0, .int b0, .int c0, .int ((Z.th i0).r)]) S hE w (ov_rth (hk.e (.th i0) rfl)) rfl rfl (Nat.le_of_ble_eq_true rfl) rfl dX4_open_12 (fun H locs w => ?_)
  have w : g_S D vwCl (g_A (ov κ ar x Z G) sz) s.heap (ov κ ar x (Z.thS i0 ((((Z.th i0).sn a0).sc b0).sz c0)) G) H _ sz := g_eqw w (ov_wth (S := Z) (v := (((Z.th i0).sn a0).sc b0)) (v' := ((((Z.th i0).sn a0).sc b0).sz c0)) hk.v (hk.e (.th i0) rfl) rfl ((Th_p_sz.trans (Th_p_sc.trans Th_p_sn)).trans (Th_p_sc.trans Th_p_sn).symm))
  refine lv_aload_n hx hb dX4_open_15 rfl (lv_at hl 0 rfl) ?_
  refine lv_iconst (v := 0) hx hb dX4_open_16 (by decide) ?_
  refine pf_RX4_25_10 (fs1 := [.ref (x.f (.tp i0)), .int a0, .int b0, .int c0, .int 0]) S hE w (ov_rth (hk.e (.th i0) rfl)) rfl rfl (Nat.le_of_ble_eq_true rfl) rfl dX4_open_17 (fun H locs w => ?_)
  have w : g_S D vwCl (g_A (ov κ ar x Z G) sz) s.heap (ov κ ar x (Z.thS i0 (((((Z.th i0).sn a0).sc b0).sz c0).sr 0)) G) H _ sz := g_eqw w (ov_wth (S := Z) (v := ((((Z.th i0).sn a0).sc b0).sz c0)) (v' := (((((Z.th i0).sn a0).sc b0).sz c0).sr 0)) hk.v (hk.e (.th i0) rfl) rfl ((Th_p_sr.trans (Th_p_sz.trans (Th_p_sc.trans Th_p_sn))).trans (Th_p_sz.trans (Th_p_sc.trans Th_p_sn)).symm))
  refine lv_aload_n hx hb dX4_open_20 rfl (lv_at hl 0 rfl) ?_
  refine gf_RX4_9_10 (v := .ref (x.f (.tp i0))) S hE w (ov_rth (hk.e (.th i0) rfl)) rfl dX4_open_21 ?_
  refine lv_ldc2 hx hb S.2.2.2.1 (S.2.2.2.2 _ m_3_226) dX4_open_24 ?_
  refine g_callv w (g_runS (As := [.ref (x.f (.tp i0)), .long 502511173632]) (rest := []) S hE w hl (c_fillJ l D ar κ (ov κ ar x (Z.thS i0 (((((Z.th i0).sn a0).sc b0).sz c0).sr 0)) G) sz (x.f (.tp i0)) 502511173632 8 ((Z.th i0).p) (ov_rtp (hk.e (.tp i0) rfl)) (by decide)) (k_RX4_31 S.2.2.2.2 ⟨Nat.le_of_ble_eq_true rfl, Nat.le_of_ble_eq_true rfl⟩) rfl rfl (Nat.le_of_ble_eq_true rfl) dX4_open_27 ⟨Nat.le_of_ble_eq_true rfl, Nat.le_of_ble_eq_true rfl⟩) (fun u H locs hp hnz w => ?_)
  obtain rfl := hp
  dsimp only at w
  have w : g_S D vwCl (g_A (ov κ ar x Z G) sz) s.heap (ov κ ar x (Z.thS i0 ((((((Z.th i0).sn a0).sc b0).sz c0).sr 0).sp (fillJ ((Z.th i0).p) 502511173632 8))) G) H _ sz := g_eqw w (ov_wtp (S := Z) (v := (((((Z.th i0).sn a0).sc b0).sz c0).sr 0)) (v' := ((((((Z.th i0).sn a0).sc b0).sz c0).sr 0).sp (fillJ ((Z.th i0).p) 502511173632 8))) hk.v (hk.e (.tp i0) rfl) rfl ((Th_n_sp.trans (Th_n_sr.trans (Th_n_sz.trans (Th_n_sc.trans Th_n_sn)))).trans (Th_n_sr.trans (Th_n_sz.trans (Th_n_sc.trans Th_n_sn))).symm) ((Th_c_sp.trans (Th_c_sr.trans (Th_c_sz.trans Th_c_sc))).trans (Th_c_sr.trans (Th_c_sz.trans Th_c_sc)).symm) ((Th_z_sp.trans (Th_z_sr.trans Th_z_sz)).trans (Th_z_sr.trans Th_z_sz).symm) ((Th_r_sp.trans Th_r_sr).trans Th_r_sr.symm))
  exact g_vret hx hb hr hlk w (Nat.le_of_ble_eq_true rfl) (Nat.le_of_ble_eq_true rfl) dX4_open_30 ⟨_, (sX4_open_u Z i0 a0 b0 c0), rfl, (hk.plain (T := (Z.thS i0 ((((((Z.th i0).sn a0).sc b0).sz c0).sr 0).sp (fillJ ((Z.th i0).p) 502511173632 8)))) rfl rfl rfl rfl rfl rfl rfl), ⟨rfl, rfl, rfl, rfl⟩⟩
def sX5_isFull (Z : Ho) : Int32 := if Z.tc < 60 then (0) else (1)
theorem sX5_isFull_u (Z : Ho) : sX5_isFull Z = if Z.tc < 60 then (0) else (1) := rfl
set_option maxHeartbeats 4000000 in
set_option maxRecDepth 100000 in
theorem hX5_isFull (l : Launch) (D : va_G) (ar : Nat → ClassId) (κ : Nat → Nat) (G : gW) (x : Xo) (Z : Ho) (sz : Nat) (hk : OK x Z) : Met l yX5_isFull (lwC yX5_isFull cX5_isFull 1 (some .boolean)) (rD 3 0 0) (g_Pc D vwCl (gT ar) (EX1 κ) (ov κ ar x Z G) sz [.ref (x.f .ts)]) (g_Qi D vwCl (g_A (ov κ ar x Z G) sz) (fun r u => r = sX5_isFull Z ∧ u = (ov κ ar x Z G, sz))) 0 0 (g_A (ov κ ar x Z G) sz) := by
  refine g_ofW (by decide +kernel) (Nat.le_of_ble_eq_true rfl) ?_
  intro p e s m below meth c ls S hr hlk hin hE w hl
  have hx := S.1
  have hb := S.2.1
  have hl : lv_has ls 1 [(0, .ref (x.f .ts))] := hl
  refine lv_aload_n hx hb dX5_isFull_0 rfl (lv_at hl 0 rfl) ?_
  refine gf_RX5_20_11 (v := .int Z.tc) S hE w (ov_r (t := .ts) (hk.e (.ts) rfl)) rfl dX5_isFull_1 ?_
  refine lv_bipush (v := 60) hx hb dX5_isFull_4 (by decide) ?_
  refine lv_icmp_lt (tgt := 13) hx hb dX5_isFull_6 (by decide) (fun c_6 => ?_) (fun c_6 => ?_)
  · refine lv_iconst (v := 0) hx hb dX5_isFull_13 (by decide) ?_
    exact g_zret hx hb hr hlk w (Nat.le_of_ble_eq_true rfl) (Nat.le_of_ble_eq_true rfl) dX5_isFull_14 rfl ⟨(((sX5_isFull_u Z).trans (if_pos c_6))).symm, rfl⟩
  · refine lv_iconst (v := 1) hx hb dX5_isFull_9 (by decide) ?_
    refine lv_goto (tgt := 14) hx hb dX5_isFull_10 (by decide) ?_
    exact g_zret hx hb hr hlk w (Nat.le_of_ble_eq_true rfl) (Nat.le_of_ble_eq_true rfl) dX5_isFull_14 rfl ⟨(((sX5_isFull_u Z).trans (if_neg c_6))).symm, rfl⟩
def sX5_inOrder (Z : Ho) (j0 : Int32) : Option (Fin 60) := if isB j0 Z.tc = 0 then (none) else (if isB j0 60 = 0 then (none) else (Z.al (Int32.toNatClampNeg j0)))
theorem sX5_inOrder_u (Z : Ho) (j0 : Int32) : sX5_inOrder Z j0 = if isB j0 Z.tc = 0 then (none) else (if isB j0 60 = 0 then (none) else (Z.al (Int32.toNatClampNeg j0))) := rfl
set_option maxHeartbeats 4000000 in
set_option maxRecDepth 100000 in
theorem hX5_inOrder (l : Launch) (D : va_G) (ar : Nat → ClassId) (κ : Nat → Nat) (G : gW) (x : Xo) (Z : Ho) (sz : Nat) (j0 : Int32) (hk : OK x Z) : Met l yX5_inOrder (lwC yX5_inOrder cX5_inOrder 2 (some (.object "Sendhouse$Thing"))) (rD 3 0 0) (g_Pc D vwCl (gT ar) (EX1 κ) (ov κ ar x Z G) sz [.ref (x.f .ts), .int j0]) (g_Qq D vwCl (g_A (ov κ ar x Z G) sz) (fun r u => r = Option.map (fun k9 => x.f (.th k9)) (sX5_inOrder Z j0) ∧ u = (ov κ ar x Z G, sz))) 0 0 (g_A (ov κ ar x Z G) sz) := by
  refine g_ofW (by decide +kernel) (Nat.le_of_ble_eq_true rfl) ?_
  intro p e s m below meth c ls S hr hlk hin hE w hl
  have hx := S.1
  have hb := S.2.1
  have hl : lv_has ls 2 [(0, .ref (x.f .ts)), (1, .int j0)] := hl
  refine lv_iload_n hx hb dX5_inOrder_0 rfl (lv_at hl 1 rfl) ?_
  refine lv_aload_n hx hb dX5_inOrder_1 rfl (lv_at hl 0 rfl) ?_
  refine gf_RX5_20_11 (v := .int Z.tc) S hE w (ov_r (t := .ts) (hk.e (.ts) rfl)) rfl dX5_inOrder_2 ?_
  refine g_calli w (g_runSN (As := [.int j0, .int Z.tc]) (rest := []) S hE w hl (c_X8_isBelow l D ar κ (ov κ ar x Z G) sz j0 Z.tc) (k_RX5_31 S.2.2.2.2 (hE.2.1.1 _ (ckN_1 _ (List.mem_of_getElem? (i := 1) rfl))) ⟨Nat.le_of_ble_eq_true rfl, Nat.le_of_ble_eq_true rfl⟩) rfl rfl (Nat.le_of_ble_eq_true rfl) dX5_inOrder_5 ⟨Nat.le_of_ble_eq_true rfl, Nat.le_of_ble_eq_true rfl⟩) (fun r u H locs hp hnz w => ?_)
  obtain ⟨rfl, rfl⟩ := hp
  dsimp only at w
  refine lv_if_eq (tgt := 32) hx hb dX5_inOrder_8 (by decide) (fun c_8 => ?_) (fun c_8 => ?_)
  · refine lv_null hx hb dX5_inOrder_32 ?_
    exact g_qret (r := none) hx hb hr (Or.inl ⟨_, rfl⟩) hlk w (Nat.le_of_ble_eq_true rfl) (Nat.le_of_ble_eq_true rfl) dX5_inOrder_33 ⟨congrArg (Option.map (fun k9 => x.f (.th k9))) ((((sX5_inOrder_u Z j0).trans (if_pos c_8))).symm), rfl⟩
  · refine lv_iload_n hx hb dX5_inOrder_11 rfl (lv_at hl 1 rfl) ?_
    refine lv_aload_n hx hb dX5_inOrder_12 rfl (lv_at hl 0 rfl) ?_
    refine gf_RX5_11_11 (v := .ref (x.f .al)) S hE w (ov_r (t := .ts) (hk.e (.ts) rfl)) rfl dX5_inOrder_13 ?_
    refine va_alen (v := 60) hx hb hE.1 (g_1 w.1 (ov_r (t := .al) (hk.e (.al) rfl))) 0 6 rfl rfl rfl dX5_inOrder_16 ?_
    refine g_calli w (g_runSN (As := [.int j0, .int 60]) (rest := []) S hE w hl (c_X8_isBelow l D ar κ (ov κ ar x Z G) sz j0 60) (k_RX5_31 S.2.2.2.2 (hE.2.1.1 _ (ckN_1 _ (List.mem_of_getElem? (i := 1) rfl))) ⟨Nat.le_of_ble_eq_true rfl, Nat.le_of_ble_eq_true rfl⟩) rfl rfl (Nat.le_of_ble_eq_true rfl) dX5_inOrder_17 ⟨Nat.le_of_ble_eq_true rfl, Nat.le_of_ble_eq_true rfl⟩) (fun r u H locs hp hnz w => ?_)
    obtain ⟨rfl, rfl⟩ := hp
    dsimp only at w
    refine lv_if_eq (tgt := 32) hx hb dX5_inOrder_20 (by decide) (fun c_20 => ?_) (fun c_20 => ?_)
    · refine lv_null hx hb dX5_inOrder_32 ?_
      exact g_qret (r := none) hx hb hr (Or.inl ⟨_, rfl⟩) hlk w (Nat.le_of_ble_eq_true rfl) (Nat.le_of_ble_eq_true rfl) dX5_inOrder_33 ⟨congrArg (Option.map (fun k9 => x.f (.th k9))) ((((sX5_inOrder_u Z j0).trans ((if_neg c_8).trans (if_pos c_20)))).symm), rfl⟩
    · refine lv_aload_n hx hb dX5_inOrder_23 rfl (lv_at hl 0 rfl) ?_
      refine gf_RX5_11_11 (v := .ref (x.f .al)) S hE w (ov_r (t := .ts) (hk.e (.ts) rfl)) rfl dX5_inOrder_24 ?_
      refine lv_iload_n hx hb dX5_inOrder_27 rfl (lv_at hl 1 rfl) ?_
      refine va_aldq hx hb hE.1 (g_1 w.1 (ov_r (t := .al) (hk.e (.al) rfl))) 0 6 rfl rfl (vinB (n := 60) rfl (by decide) c_20) dX5_inOrder_28 ?_
      show W p l e _ s m _ below meth c _ _ _ _ _ (F0 m 29 ls [va_rf ((Z.al (Int32.toNatClampNeg j0)).map (fun k9 => x.f (.th k9)))])
      refine lv_goto (tgt := 33) hx hb dX5_inOrder_29 (by decide) ?_
      exact g_qret (r := Option.map (fun k9 => x.f (.th k9)) (Z.al (Int32.toNatClampNeg j0))) hx hb hr (Or.inl ⟨_, rfl⟩) hlk w (Nat.le_of_ble_eq_true rfl) (Nat.le_of_ble_eq_true rfl) dX5_inOrder_33 ⟨congrArg (Option.map (fun k9 => x.f (.th k9))) ((((sX5_inOrder_u Z j0).trans ((if_neg c_8).trans (if_neg c_20)))).symm), rfl⟩
def sX5_enlist (Z : Ho) (c0 : Int32) (z0 : Int32) : Int32 × Ho := if isB Z.tc 60 = 0 then ((Z.mk, Z)) else (oc (Z.al (Int32.toNatClampNeg Z.tc)) ((Z.mk, Z)) (fun k1 => vc (sX4_open Z k1 Z.mk c0 z0) (fun T3 => (Z.mk, ((T3.stc (T3.tc + 1)).smk (T3.mk + 1))))))
theorem sX5_enlist_u (Z : Ho) (c0 : Int32) (z0 : Int32) : sX5_enlist Z c0 z0 = if isB Z.tc 60 = 0 then ((Z.mk, Z)) else (oc (Z.al (Int32.toNatClampNeg Z.tc)) ((Z.mk, Z)) (fun k1 => vc (sX4_open Z k1 Z.mk c0 z0) (fun T3 => (Z.mk, ((T3.stc (T3.tc + 1)).smk (T3.mk + 1)))))) := rfl
set_option maxHeartbeats 4000000 in
set_option maxRecDepth 100000 in
theorem hX5_enlist (l : Launch) (D : va_G) (ar : Nat → ClassId) (κ : Nat → Nat) (G : gW) (x : Xo) (Z : Ho) (sz : Nat) (c0 : Int32) (z0 : Int32) (hk : OK x Z) : Met l yX5_enlist (lwC yX5_enlist cX5_enlist 5 (some .int)) (rD 6 0 0) (g_Pc D vwCl (gT ar) (EX1 κ) (ov κ ar x Z G) sz [.ref (x.f .ts), .int c0, .int z0]) (g_Qi D vwCl (g_A (ov κ ar x Z G) sz) (fun r u => ∃ T9 : Ho, sX5_enlist Z c0 z0 = (r, T9) ∧ u = (ov κ ar x T9 G, sz) ∧ OK x T9 ∧ SZ T9 Z)) 0 0 (g_A (ov κ ar x Z G) sz) := by
  refine g_ofW (by decide +kernel) (Nat.le_of_ble_eq_true rfl) ?_
  intro p e s m below meth c ls S hr hlk hin hE w hl
  have hx := S.1
  have hb := S.2.1
  have hl : lv_has ls 5 [(0, .ref (x.f .ts)), (1, .int c0), (2, .int z0)] := hl
  refine lv_aload_n hx hb dX5_enlist_0 rfl (lv_at hl 0 rfl) ?_
  refine gf_RX5_27_11 (v := .int Z.mk) S hE w (ov_r (t := .ts) (hk.e (.ts) rfl)) rfl dX5_enlist_1 ?_
  refine lv_istore_n (lv' := [(3, .int Z.mk), (0, .ref (x.f .ts)), (1, .int c0), (2, .int z0)]) hx hb dX5_enlist_4 rfl hl (by decide) rfl (fun ls hl => ?_)
  refine lv_aload_n hx hb dX5_enlist_5 rfl (lv_at hl 1 rfl) ?_
  refine gf_RX5_20_11 (v := .int Z.tc) S hE w (ov_r (t := .ts) (hk.e (.ts) rfl)) rfl dX5_enlist_6 ?_
  refine lv_aload_n hx hb dX5_enlist_9 rfl (lv_at hl 1 rfl) ?_
  refine gf_RX5_11_11 (v := .ref (x.f .al)) S hE w (ov_r (t := .ts) (hk.e (.ts) rfl)) rfl dX5_enlist_10 ?_
  refine va_alen (v := 60) hx hb hE.1 (g_1 w.1 (ov_r (t := .al) (hk.e (.al) rfl))) 0 6 rfl rfl rfl dX5_enlist_13 ?_
  refine g_calli w (g_runSN (As := [.int Z.tc, .int 60]) (rest := []) S hE w hl (c_X8_isBelow l D ar κ (ov κ ar x Z G) sz Z.tc 60) (k_RX5_31 S.2.2.2.2 (hE.2.1.1 _ (ckN_1 _ (List.mem_of_getElem? (i := 1) rfl))) ⟨Nat.le_of_ble_eq_true rfl, Nat.le_of_ble_eq_true rfl⟩) rfl rfl (Nat.le_of_ble_eq_true rfl) dX5_enlist_14 ⟨Nat.le_of_ble_eq_true rfl, Nat.le_of_ble_eq_true rfl⟩) (fun r u H locs hp hnz w => ?_)
  obtain ⟨rfl, rfl⟩ := hp
  dsimp only at w
  refine lv_if_eq (tgt := 32) hx hb dX5_enlist_17 (by decide) (fun c_17 => ?_) (fun c_17 => ?_)
  · refine lv_null hx hb dX5_enlist_32 ?_
    refine lv_astoreN (lv' := [(4, .null), (3, .int Z.mk), (0, .ref (x.f .ts)), (1, .int c0), (2, .int z0)]) hx hb dX5_enlist_33 hl (by decide) rfl (fun ls hl => ?_)
    refine lv_aloadN hx hb dX5_enlist_35 (lv_at hl 0 rfl) ?_
    refine lv_ifnullN (tgt := 68) hx hb dX5_enlist_37 (by decide) ?_
    refine lv_iload_n hx hb dX5_enlist_68 rfl (lv_at hl 1 rfl) ?_
    exact g_iret hx hb hr hlk w (Nat.le_of_ble_eq_true rfl) (Nat.le_of_ble_eq_true rfl) dX5_enlist_69 ⟨_, ((sX5_enlist_u Z c0 z0).trans (if_pos c_17)), rfl, hk, ⟨rfl, rfl, rfl, rfl⟩⟩
  · refine lv_aload_n hx hb dX5_enlist_20 rfl (lv_at hl 1 rfl) ?_
    refine gf_RX5_11_11 (v := .ref (x.f .al)) S hE w (ov_r (t := .ts) (hk.e (.ts) rfl)) rfl dX5_enlist_21 ?_
    refine lv_aload_n hx hb dX5_enlist_24 rfl (lv_at hl 1 rfl) ?_
    refine gf_RX5_20_11 (v := .int Z.tc) S hE w (ov_r (t := .ts) (hk.e (.ts) rfl)) rfl dX5_enlist_25 ?_
    refine va_aldq hx hb hE.1 (g_1 w.1 (ov_r (t := .al) (hk.e (.al) rfl))) 0 6 rfl rfl (vinB (n := 60) rfl (by decide) c_17) dX5_enlist_28 ?_
    show W p l e _ s m _ below meth c _ _ _ _ _ (F0 m 29 ls [va_rf ((Z.al (Int32.toNatClampNeg Z.tc)).map (fun k9 => x.f (.th k9)))])
    refine lv_goto (tgt := 33) hx hb dX5_enlist_29 (by decide) ?_
    refine lv_astoreQ (lv' := [(4, va_rf ((Z.al (Int32.toNatClampNeg Z.tc)).map (fun k9 => x.f (.th k9)))), (3, .int Z.mk), (0, .ref (x.f .ts)), (1, .int c0), (2, .int z0)]) hx hb dX5_enlist_33 hl (by decide) rfl (fun ls hl => ?_)
    refine lv_aloadQ hx hb dX5_enlist_35 (lv_at hl 0 rfl) ?_
    rcases he2 : Z.al (Int32.toNatClampNeg Z.tc) with _ | k1
    · have hl : lv_has ls 5 [(4, .null), (3, .int Z.mk), (0, .ref (x.f .ts)), (1, .int c0), (2, .int z0)] := by rw [he2] at hl; exact hl
      show W p l e _ s m _ below meth c _ _ _ _ _ (F0 m 37 ls [.null])
      refine lv_ifnullN (tgt := 68) hx hb dX5_enlist_37 (by decide) ?_
      refine lv_iload_n hx hb dX5_enlist_68 rfl (lv_at hl 1 rfl) ?_
      exact g_iret hx hb hr hlk w (Nat.le_of_ble_eq_true rfl) (Nat.le_of_ble_eq_true rfl) dX5_enlist_69 ⟨_, ((sX5_enlist_u Z c0 z0).trans ((if_neg c_17).trans (oc_n he2))), rfl, hk, ⟨rfl, rfl, rfl, rfl⟩⟩
    · have hl : lv_has ls 5 [(4, .ref (x.f (.th k1))), (3, .int Z.mk), (0, .ref (x.f .ts)), (1, .int c0), (2, .int z0)] := by rw [he2] at hl; exact hl
      show W p l e _ s m _ below meth c _ _ _ _ _ (F0 m 37 ls [.ref (x.f (.th k1))])
      refine lv_ifnull hx hb dX5_enlist_37 ?_
      refine lv_aload hx hb dX5_enlist_40 (lv_at hl 0 rfl) ?_
      refine lv_iload_n hx hb dX5_enlist_42 rfl (lv_at hl 1 rfl) ?_
      refine lv_iload_n hx hb dX5_enlist_43 rfl (lv_at hl 3 rfl) ?_
      refine lv_iload_n hx hb dX5_enlist_44 rfl (lv_at hl 4 rfl) ?_
      refine g_callv w (g_runV (As := [.int Z.mk, .int c0, .int z0]) (rest := []) S hE w hl (hX4_open l D ar κ G x Z sz k1 Z.mk c0 z0 hk ) (k_RX5_35 S.2.2.2.2 ⟨Nat.le_of_ble_eq_true rfl, Nat.le_of_ble_eq_true rfl⟩) (ov_r (t := .th k1) (hk.e (.th k1) rfl)) rfl rfl rfl rfl (Nat.le_of_ble_eq_true rfl) dX5_enlist_45 ⟨Nat.le_of_ble_eq_true rfl, Nat.le_of_ble_eq_true rfl⟩) (fun u H locs hp hnz w => ?_)
      obtain ⟨T3, e4, hu9, hk5, sq6⟩ := hp
      subst hu9
      dsimp only at w
      refine lv_aload_n hx hb dX5_enlist_48 rfl (lv_at hl 2 rfl) ?_
      refine lv_dup hx hb dX5_enlist_49 rfl ?_
      refine gf_RX5_20_11 (v := .int T3.tc) S hE w (ov_r (t := .ts) (hk5.e (.ts) rfl)) rfl dX5_enlist_50 ?_
      refine lv_iconst (v := 1) hx hb dX5_enlist_53 (by decide) ?_
      refine lv_iadd hx hb dX5_enlist_54 ?_
      refine pf_RX5_20_11 (fs1 := [.ref (x.f .al), .ref (x.f .re), .int (T3.tc + 1), .int T3.rc, .int T3.mk]) S hE w (ov_r (t := .ts) (hk5.e (.ts) rfl)) rfl rfl (Nat.le_of_ble_eq_true rfl) rfl dX5_enlist_55 (fun H locs w => ?_)
      have w : g_S D vwCl (g_A (ov κ ar x Z G) sz) s.heap (ov κ ar x (T3.stc (T3.tc + 1)) G) H _ sz := g_eqw w (ov_wts (S := T3) (T := (T3.stc (T3.tc + 1))) hk5.v (hk5.e (.ts) rfl) rfl Ho_ab_stc Ho_fc_stc Ho_cn_stc Ho_me_stc Ho_nt_stc Ho_nr_stc Ho_ty_stc Ho_to_stc Ho_ro_stc Ho_gl_stc Ho_al_stc Ho_re_stc Ho_th_stc Ho_fr_stc Ho_fn_stc Ho_st_stc Ho_rs_stc Ho_an_stc Ho_sp_stc Ho_np_stc Ho_pg_stc Ho_wc_stc Ho_ws_stc Ho_wp_stc)
      refine lv_aload_n hx hb dX5_enlist_58 rfl (lv_at hl 2 rfl) ?_
      refine lv_dup hx hb dX5_enlist_59 rfl ?_
      refine gf_RX5_27_11 (v := .int T3.mk) S hE w (ov_r (t := .ts) (hk5.e (.ts) rfl)) rfl dX5_enlist_60 ?_
      refine lv_iconst (v := 1) hx hb dX5_enlist_63 (by decide) ?_
      refine lv_iadd hx hb dX5_enlist_64 ?_
      refine pf_RX5_27_11 (fs1 := [.ref (x.f .al), .ref (x.f .re), .int (T3.tc + 1), .int T3.rc, .int (T3.mk + 1)]) S hE w (ov_r (t := .ts) (hk5.e (.ts) rfl)) rfl rfl (Nat.le_of_ble_eq_true rfl) rfl dX5_enlist_65 (fun H locs w => ?_)
      have w : g_S D vwCl (g_A (ov κ ar x Z G) sz) s.heap (ov κ ar x ((T3.stc (T3.tc + 1)).smk (T3.mk + 1)) G) H _ sz := g_eqw w (ov_wts (S := (T3.stc (T3.tc + 1))) (T := ((T3.stc (T3.tc + 1)).smk (T3.mk + 1))) hk5.v (hk5.e (.ts) rfl) rfl ((Ho_ab_smk.trans Ho_ab_stc).trans Ho_ab_stc.symm) ((Ho_fc_smk.trans Ho_fc_stc).trans Ho_fc_stc.symm) ((Ho_cn_smk.trans Ho_cn_stc).trans Ho_cn_stc.symm) ((Ho_me_smk.trans Ho_me_stc).trans Ho_me_stc.symm) ((Ho_nt_smk.trans Ho_nt_stc).trans Ho_nt_stc.symm) ((Ho_nr_smk.trans Ho_nr_stc).trans Ho_nr_stc.symm) ((Ho_ty_smk.trans Ho_ty_stc).trans Ho_ty_stc.symm) ((Ho_to_smk.trans Ho_to_stc).trans Ho_to_stc.symm) ((Ho_ro_smk.trans Ho_ro_stc).trans Ho_ro_stc.symm) ((Ho_gl_smk.trans Ho_gl_stc).trans Ho_gl_stc.symm) ((Ho_al_smk.trans Ho_al_stc).trans Ho_al_stc.symm) ((Ho_re_smk.trans Ho_re_stc).trans Ho_re_stc.symm) ((Ho_th_smk.trans Ho_th_stc).trans Ho_th_stc.symm) ((Ho_fr_smk.trans Ho_fr_stc).trans Ho_fr_stc.symm) ((Ho_fn_smk.trans Ho_fn_stc).trans Ho_fn_stc.symm) ((Ho_st_smk.trans Ho_st_stc).trans Ho_st_stc.symm) ((Ho_rs_smk.trans Ho_rs_stc).trans Ho_rs_stc.symm) ((Ho_an_smk.trans Ho_an_stc).trans Ho_an_stc.symm) ((Ho_sp_smk.trans Ho_sp_stc).trans Ho_sp_stc.symm) ((Ho_np_smk.trans Ho_np_stc).trans Ho_np_stc.symm) ((Ho_pg_smk.trans Ho_pg_stc).trans Ho_pg_stc.symm) ((Ho_wc_smk.trans Ho_wc_stc).trans Ho_wc_stc.symm) ((Ho_ws_smk.trans Ho_ws_stc).trans Ho_ws_stc.symm) ((Ho_wp_smk.trans Ho_wp_stc).trans Ho_wp_stc.symm))
      refine lv_iload_n hx hb dX5_enlist_68 rfl (lv_at hl 1 rfl) ?_
      exact g_iret hx hb hr hlk w (Nat.le_of_ble_eq_true rfl) (Nat.le_of_ble_eq_true rfl) dX5_enlist_69 ⟨_, ((sX5_enlist_u Z c0 z0).trans ((if_neg c_17).trans ((oc_s he2).trans (vc_e e4)))), rfl, (hk5.plain (T := ((T3.stc (T3.tc + 1)).smk (T3.mk + 1))) rfl rfl rfl rfl rfl rfl rfl), (SZ.t sq6 ⟨rfl, rfl, rfl, rfl⟩)⟩
def LX5_withNumber_12 (n0 : Int32) : Nat → Int32 → Int32 → Int32 → Ho → Option (Fin 60)
  | 0, _, _, _, Z => none
  | nx1 + 1, x1, lox1, hhx1, Z => if 60 ≤ x1 then (none) else (if hhx1 < lox1 then (none) else (if isB ((lox1 + hhx1) / 2) 60 = 0 then (none) else (oc (Z.al (Int32.toNatClampNeg ((lox1 + hhx1) / 2))) (none) (fun k5 => if (Z.th k5).n = n0 then (some k5) else (if n0 ≤ (Z.th k5).n then (LX5_withNumber_12 n0 nx1 (x1 + 1) lox1 (((lox1 + hhx1) / 2) - 1) Z) else (LX5_withNumber_12 n0 nx1 (x1 + 1) (((lox1 + hhx1) / 2) + 1) hhx1 Z))))))
theorem LX5_withNumber_12_u (n0 : Int32) (nx1 : Nat) (x1 : Int32) (lox1 : Int32) (hhx1 : Int32) (Z : Ho) : LX5_withNumber_12 n0 (nx1 + 1) x1 lox1 hhx1 Z = if 60 ≤ x1 then (none) else (if hhx1 < lox1 then (none) else (if isB ((lox1 + hhx1) / 2) 60 = 0 then (none) else (oc (Z.al (Int32.toNatClampNeg ((lox1 + hhx1) / 2))) (none) (fun k5 => if (Z.th k5).n = n0 then (some k5) else (if n0 ≤ (Z.th k5).n then (LX5_withNumber_12 n0 nx1 (x1 + 1) lox1 (((lox1 + hhx1) / 2) - 1) Z) else (LX5_withNumber_12 n0 nx1 (x1 + 1) (((lox1 + hhx1) / 2) + 1) hhx1 Z)))))) := rfl
def sX5_withNumber (Z : Ho) (n0 : Int32) : Option (Fin 60) := LX5_withNumber_12 n0 61 0 0 (Z.tc - 1) Z
theorem sX5_withNumber_u (Z : Ho) (n0 : Int32) : sX5_withNumber Z n0 = LX5_withNumber_12 n0 61 0 0 (Z.tc - 1) Z := rfl
set_option maxHeartbeats 4000000 in
set_option maxRecDepth 100000 in
theorem hX5_withNumber (l : Launch) (D : va_G) (ar : Nat → ClassId) (κ : Nat → Nat) (G : gW) (x : Xo) (Z : Ho) (sz : Nat) (n0 : Int32) (hk : OK x Z) : Met l yX5_withNumber (lwC yX5_withNumber cX5_withNumber 7 (some (.object "Sendhouse$Thing"))) (rD 4 0 0) (g_Pc D vwCl (gT ar) (EX1 κ) (ov κ ar x Z G) sz [.ref (x.f .ts), .int n0]) (g_Qq D vwCl (g_A (ov κ ar x Z G) sz) (fun r u => r = Option.map (fun k9 => x.f (.th k9)) (sX5_withNumber Z n0) ∧ u = (ov κ ar x Z G, sz))) 0 0 (g_A (ov κ ar x Z G) sz) := by
  refine g_ofW (by decide +kernel) (Nat.le_of_ble_eq_true rfl) ?_
  intro p e s m below meth c ls S hr hlk hin hE w hl
  have hx := S.1
  have hb := S.2.1
  have hl : lv_has ls 7 [(0, .ref (x.f .ts)), (1, .int n0)] := hl
  refine lv_iconst (v := 0) hx hb dX5_withNumber_0 (by decide) ?_
  refine lv_istore_n (lv' := [(2, .int 0), (0, .ref (x.f .ts)), (1, .int n0)]) hx hb dX5_withNumber_1 rfl hl (by decide) rfl (fun ls hl => ?_)
  refine lv_aload_n hx hb dX5_withNumber_2 rfl (lv_at hl 1 rfl) ?_
  refine gf_RX5_20_11 (v := .int Z.tc) S hE w (ov_r (t := .ts) (hk.e (.ts) rfl)) rfl dX5_withNumber_3 ?_
  refine lv_iconst (v := 1) hx hb dX5_withNumber_6 (by decide) ?_
  refine lv_isub hx hb dX5_withNumber_7 ?_
  refine lv_istore_n (lv' := [(3, .int (Z.tc - 1)), (2, .int 0), (0, .ref (x.f .ts)), (1, .int n0)]) hx hb dX5_withNumber_8 rfl hl (by decide) rfl (fun ls hl => ?_)
  refine lv_iconst (v := 0) hx hb dX5_withNumber_9 (by decide) ?_
  refine lv_istore (lv' := [(4, .int 0), (3, .int (Z.tc - 1)), (2, .int 0), (0, .ref (x.f .ts)), (1, .int n0)]) hx hb dX5_withNumber_10 hl (by decide) rfl (fun ls hl => ?_)
  have key4 : ∀ (nx1 ix1 : Nat), ix1 ≤ 60 → 60 + 1 ≤ ix1 + nx1 → ∀ (x1 : Int32), x1 = nI ix1 → ∀ (lox1 : Int32), ∀ (hhx1 : Int32), sX5_withNumber Z n0 = LX5_withNumber_12 n0 nx1 x1 lox1 hhx1 Z → ∀ (H : Heap) (locs : List Loc) (ls : Array Slot), g_S D vwCl (g_A (ov κ ar x Z G) sz) s.heap (ov κ ar x Z G) H locs sz → lv_has ls 7 [(4, .int x1), (2, .int lox1), (3, .int hhx1), (0, .ref (x.f .ts)), (1, .int n0)] → W p l e (rD 4 0 0) s m ([.ref (x.f .ts), .int n0] : List Value).toArray below meth c H locs 0 0 (MQ below (g_Qq D vwCl (g_A (ov κ ar x Z G) sz) (fun r u => r = Option.map (fun k9 => x.f (.th k9)) (sX5_withNumber Z n0) ∧ u = (ov κ ar x Z G, sz))) ([.ref (x.f .ts), .int n0] : List Value).toArray s 0 0 (g_A (ov κ ar x Z G) sz)) (F0 m 12 ls []) := by
    intro nx1
    induction nx1 with
    | zero => intro ix1 hix1 hi2; exact absurd hi2 (by omega)
    | succ nx1 ihx1 =>
      intro ix1 hix1 hi2 x1 exx1 lox1 hhx1 hsp3 H locs ls w hl
      refine lv_iload hx hb dX5_withNumber_12 (lv_at hl 0 rfl) ?_
      refine lv_bipush (v := 60) hx hb dX5_withNumber_14 (by decide) ?_
      refine lv_icmp_ge (tgt := 102) hx hb dX5_withNumber_16 (by decide) (fun c_16 => ?_) (fun c_16 => ?_)
      · refine lv_null hx hb dX5_withNumber_102 ?_
        exact g_qret (r := none) hx hb hr (Or.inl ⟨_, rfl⟩) hlk w (Nat.le_of_ble_eq_true rfl) (Nat.le_of_ble_eq_true rfl) dX5_withNumber_103 ⟨congrArg (Option.map (fun k9 => x.f (.th k9))) ((((hsp3).trans ((LX5_withNumber_12_u n0 nx1 x1 lox1 hhx1 Z).trans (if_pos c_16)))).symm), rfl⟩
      · refine lv_iload_n hx hb dX5_withNumber_19 rfl (lv_at hl 1 rfl) ?_
        refine lv_iload_n hx hb dX5_withNumber_20 rfl (lv_at hl 2 rfl) ?_
        refine lv_icmp_gt (tgt := 102) hx hb dX5_withNumber_21 (by decide) (fun c_21 => ?_) (fun c_21 => ?_)
        · refine lv_null hx hb dX5_withNumber_102 ?_
          exact g_qret (r := none) hx hb hr (Or.inl ⟨_, rfl⟩) hlk w (Nat.le_of_ble_eq_true rfl) (Nat.le_of_ble_eq_true rfl) dX5_withNumber_103 ⟨congrArg (Option.map (fun k9 => x.f (.th k9))) ((((hsp3).trans ((LX5_withNumber_12_u n0 nx1 x1 lox1 hhx1 Z).trans ((if_neg c_16).trans (if_pos c_21))))).symm), rfl⟩
        · refine lv_iload_n hx hb dX5_withNumber_24 rfl (lv_at hl 1 rfl) ?_
          refine lv_iload_n hx hb dX5_withNumber_25 rfl (lv_at hl 2 rfl) ?_
          refine lv_iadd hx hb dX5_withNumber_26 ?_
          refine lv_iconst (v := 2) hx hb dX5_withNumber_27 (by decide) ?_
          refine lv_idiv hx hb dX5_withNumber_28 (by decide) ?_
          refine lv_istore (lv' := [(5, .int ((lox1 + hhx1) / 2)), (4, .int x1), (2, .int lox1), (3, .int hhx1), (0, .ref (x.f .ts)), (1, .int n0)]) hx hb dX5_withNumber_29 hl (by decide) rfl (fun ls hl => ?_)
          refine lv_iload hx hb dX5_withNumber_31 (lv_at hl 0 rfl) ?_
          refine lv_aload_n hx hb dX5_withNumber_33 rfl (lv_at hl 4 rfl) ?_
          refine gf_RX5_11_11 (v := .ref (x.f .al)) S hE w (ov_r (t := .ts) (hk.e (.ts) rfl)) rfl dX5_withNumber_34 ?_
          refine va_alen (v := 60) hx hb hE.1 (g_1 w.1 (ov_r (t := .al) (hk.e (.al) rfl))) 0 6 rfl rfl rfl dX5_withNumber_37 ?_
          refine g_calli w (g_runSN (As := [.int ((lox1 + hhx1) / 2), .int 60]) (rest := []) S hE w hl (c_X8_isBelow l D ar κ (ov κ ar x Z G) sz ((lox1 + hhx1) / 2) 60) (k_RX5_31 S.2.2.2.2 (hE.2.1.1 _ (ckN_1 _ (List.mem_of_getElem? (i := 1) rfl))) ⟨Nat.le_of_ble_eq_true rfl, Nat.le_of_ble_eq_true rfl⟩) rfl rfl (Nat.le_of_ble_eq_true rfl) dX5_withNumber_38 ⟨Nat.le_of_ble_eq_true rfl, Nat.le_of_ble_eq_true rfl⟩) (fun r u H locs hp hnz w => ?_)
          obtain ⟨rfl, rfl⟩ := hp
          dsimp only at w
          refine lv_if_eq (tgt := 54) hx hb dX5_withNumber_41 (by decide) (fun c_41 => ?_) (fun c_41 => ?_)
          · refine lv_null hx hb dX5_withNumber_54 ?_
            refine lv_astoreN (lv' := [(6, .null), (5, .int ((lox1 + hhx1) / 2)), (4, .int x1), (2, .int lox1), (3, .int hhx1), (0, .ref (x.f .ts)), (1, .int n0)]) hx hb dX5_withNumber_55 hl (by decide) rfl (fun ls hl => ?_)
            refine lv_aloadN hx hb dX5_withNumber_57 (lv_at hl 0 rfl) ?_
            refine lv_ifnullN (tgt := 71) hx hb dX5_withNumber_59 (by decide) ?_
            refine lv_aloadN hx hb dX5_withNumber_71 (lv_at hl 0 rfl) ?_
            exact g_qret (r := none) hx hb hr (Or.inl ⟨_, rfl⟩) hlk w (Nat.le_of_ble_eq_true rfl) (Nat.le_of_ble_eq_true rfl) dX5_withNumber_73 ⟨congrArg (Option.map (fun k9 => x.f (.th k9))) ((((hsp3).trans ((LX5_withNumber_12_u n0 nx1 x1 lox1 hhx1 Z).trans ((if_neg c_16).trans ((if_neg c_21).trans (if_pos c_41)))))).symm), rfl⟩
          · refine lv_aload_n hx hb dX5_withNumber_44 rfl (lv_at hl 4 rfl) ?_
            refine gf_RX5_11_11 (v := .ref (x.f .al)) S hE w (ov_r (t := .ts) (hk.e (.ts) rfl)) rfl dX5_withNumber_45 ?_
            refine lv_iload hx hb dX5_withNumber_48 (lv_at hl 0 rfl) ?_
            refine va_aldq hx hb hE.1 (g_1 w.1 (ov_r (t := .al) (hk.e (.al) rfl))) 0 6 rfl rfl (vinB (n := 60) rfl (by decide) c_41) dX5_withNumber_50 ?_
            show W p l e _ s m _ below meth c _ _ _ _ _ (F0 m 51 ls [va_rf ((Z.al (Int32.toNatClampNeg ((lox1 + hhx1) / 2))).map (fun k9 => x.f (.th k9)))])
            refine lv_goto (tgt := 55) hx hb dX5_withNumber_51 (by decide) ?_
            refine lv_astoreQ (lv' := [(6, va_rf ((Z.al (Int32.toNatClampNeg ((lox1 + hhx1) / 2))).map (fun k9 => x.f (.th k9)))), (5, .int ((lox1 + hhx1) / 2)), (4, .int x1), (2, .int lox1), (3, .int hhx1), (0, .ref (x.f .ts)), (1, .int n0)]) hx hb dX5_withNumber_55 hl (by decide) rfl (fun ls hl => ?_)
            refine lv_aloadQ hx hb dX5_withNumber_57 (lv_at hl 0 rfl) ?_
            rcases he6 : Z.al (Int32.toNatClampNeg ((lox1 + hhx1) / 2)) with _ | k5
            · have hl : lv_has ls 7 [(6, .null), (5, .int ((lox1 + hhx1) / 2)), (4, .int x1), (2, .int lox1), (3, .int hhx1), (0, .ref (x.f .ts)), (1, .int n0)] := by rw [he6] at hl; exact hl
              show W p l e _ s m _ below meth c _ _ _ _ _ (F0 m 59 ls [.null])
              refine lv_ifnullN (tgt := 71) hx hb dX5_withNumber_59 (by decide) ?_
              refine lv_aloadN hx hb dX5_withNumber_71 (lv_at hl 0 rfl) ?_
              exact g_qret (r := none) hx hb hr (Or.inl ⟨_, rfl⟩) hlk w (Nat.le_of_ble_eq_true rfl) (Nat.le_of_ble_eq_true rfl) dX5_withNumber_73 ⟨congrArg (Option.map (fun k9 => x.f (.th k9))) ((((hsp3).trans ((LX5_withNumber_12_u n0 nx1 x1 lox1 hhx1 Z).trans ((if_neg c_16).trans ((if_neg c_21).trans ((if_neg c_41).trans (oc_n he6))))))).symm), rfl⟩
            · have hl : lv_has ls 7 [(6, .ref (x.f (.th k5))), (5, .int ((lox1 + hhx1) / 2)), (4, .int x1), (2, .int lox1), (3, .int hhx1), (0, .ref (x.f .ts)), (1, .int n0)] := by rw [he6] at hl; exact hl
              show W p l e _ s m _ below meth c _ _ _ _ _ (F0 m 59 ls [.ref (x.f (.th k5))])
              refine lv_ifnull hx hb dX5_withNumber_59 ?_
              refine lv_aload hx hb dX5_withNumber_62 (lv_at hl 0 rfl) ?_
              refine gf_RX5_39_10 (v := .int ((Z.th k5).n)) S hE w (ov_r (t := .th k5) (hk.e (.th k5) rfl)) rfl dX5_withNumber_64 ?_
              refine lv_iload_n hx hb dX5_withNumber_67 rfl (lv_at hl 6 rfl) ?_
              refine lv_icmp_ne (tgt := 74) hx hb dX5_withNumber_68 (by decide) (fun c_68 => ?_) (fun c_68 => ?_)
              · refine lv_aload hx hb dX5_withNumber_74 (lv_at hl 0 rfl) ?_
                refine gf_RX5_39_10 (v := .int ((Z.th k5).n)) S hE w (ov_r (t := .th k5) (hk.e (.th k5) rfl)) rfl dX5_withNumber_76 ?_
                refine lv_iload_n hx hb dX5_withNumber_79 rfl (lv_at hl 6 rfl) ?_
                refine lv_icmp_ge (tgt := 91) hx hb dX5_withNumber_80 (by decide) (fun c_80 => ?_) (fun c_80 => ?_)
                · refine lv_iload hx hb dX5_withNumber_91 (lv_at hl 1 rfl) ?_
                  refine lv_iconst (v := 1) hx hb dX5_withNumber_93 (by decide) ?_
                  refine lv_isub hx hb dX5_withNumber_94 ?_
                  refine lv_istore_n (lv' := [(3, .int (((lox1 + hhx1) / 2) - 1)), (6, .ref (x.f (.th k5))), (5, .int ((lox1 + hhx1) / 2)), (4, .int x1), (2, .int lox1), (0, .ref (x.f .ts)), (1, .int n0)]) hx hb dX5_withNumber_95 rfl hl (by decide) rfl (fun ls hl => ?_)
                  refine lv_iinc (v := x1 + 1) (lv' := [(4, .int (x1 + 1)), (3, .int (((lox1 + hhx1) / 2) - 1)), (6, .ref (x.f (.th k5))), (5, .int ((lox1 + hhx1) / 2)), (2, .int lox1), (0, .ref (x.f .ts)), (1, .int n0)]) hx hb dX5_withNumber_96 hl (k := 3) rfl rfl (by decide) rfl (fun ls hl => ?_)
                  refine lv_goto (tgt := 12) hx hb dX5_withNumber_99 (by decide) ?_
                  exact ihx1 (ix1 + 1) (lp_up (n := 60) rfl exx1 hix1 (by decide) (by decide) (by decide) c_16) (by omega) (x1 + 1) (by rw [exx1]; exact nI_1 ix1) lox1 (((lox1 + hhx1) / 2) - 1) ((hsp3).trans ((LX5_withNumber_12_u n0 nx1 x1 lox1 hhx1 Z).trans ((if_neg c_16).trans ((if_neg c_21).trans ((if_neg c_41).trans ((oc_s he6).trans ((if_neg c_68).trans (if_pos c_80)))))))) H _ ls w (lv_sub hl [0, 4, 1, 5, 6] rfl)
                · refine lv_iload hx hb dX5_withNumber_83 (lv_at hl 1 rfl) ?_
                  refine lv_iconst (v := 1) hx hb dX5_withNumber_85 (by decide) ?_
                  refine lv_iadd hx hb dX5_withNumber_86 ?_
                  refine lv_istore_n (lv' := [(2, .int (((lox1 + hhx1) / 2) + 1)), (6, .ref (x.f (.th k5))), (5, .int ((lox1 + hhx1) / 2)), (4, .int x1), (3, .int hhx1), (0, .ref (x.f .ts)), (1, .int n0)]) hx hb dX5_withNumber_87 rfl hl (by decide) rfl (fun ls hl => ?_)
                  refine lv_goto (tgt := 96) hx hb dX5_withNumber_88 (by decide) ?_
                  refine lv_iinc (v := x1 + 1) (lv' := [(4, .int (x1 + 1)), (2, .int (((lox1 + hhx1) / 2) + 1)), (6, .ref (x.f (.th k5))), (5, .int ((lox1 + hhx1) / 2)), (3, .int hhx1), (0, .ref (x.f .ts)), (1, .int n0)]) hx hb dX5_withNumber_96 hl (k := 3) rfl rfl (by decide) rfl (fun ls hl => ?_)
                  refine lv_goto (tgt := 12) hx hb dX5_withNumber_99 (by decide) ?_
                  exact ihx1 (ix1 + 1) (lp_up (n := 60) rfl exx1 hix1 (by decide) (by decide) (by decide) c_16) (by omega) (x1 + 1) (by rw [exx1]; exact nI_1 ix1) (((lox1 + hhx1) / 2) + 1) hhx1 ((hsp3).trans ((LX5_withNumber_12_u n0 nx1 x1 lox1 hhx1 Z).trans ((if_neg c_16).trans ((if_neg c_21).trans ((if_neg c_41).trans ((oc_s he6).trans ((if_neg c_68).trans (if_neg c_80)))))))) H _ ls w (lv_sub hl [0, 1, 4, 5, 6] rfl)
              · refine lv_aload hx hb dX5_withNumber_71 (lv_at hl 0 rfl) ?_
                exact g_qret (r := (some (x.f (.th k5)))) hx hb hr (Or.inl ⟨_, rfl⟩) hlk w (Nat.le_of_ble_eq_true rfl) (Nat.le_of_ble_eq_true rfl) dX5_withNumber_73 ⟨congrArg (Option.map (fun k9 => x.f (.th k9))) ((((hsp3).trans ((LX5_withNumber_12_u n0 nx1 x1 lox1 hhx1 Z).trans ((if_neg c_16).trans ((if_neg c_21).trans ((if_neg c_41).trans ((oc_s he6).trans (if_pos c_68)))))))).symm), rfl⟩
  exact key4 61 0 (Nat.zero_le _) (by decide) 0 rfl 0 (Z.tc - 1) (sX5_withNumber_u Z n0) _ _ _ w (lv_sub hl [0, 2, 1, 3, 4] rfl)
def sX5_ofValue (Z : Ho) (v0 : Int64) : Option (Fin 60) := if isT v0 = 0 then (none) else (sX5_withNumber Z (nf v0))
theorem sX5_ofValue_u (Z : Ho) (v0 : Int64) : sX5_ofValue Z v0 = if isT v0 = 0 then (none) else (sX5_withNumber Z (nf v0)) := rfl
set_option maxHeartbeats 4000000 in
set_option maxRecDepth 100000 in
theorem hX5_ofValue (l : Launch) (D : va_G) (ar : Nat → ClassId) (κ : Nat → Nat) (G : gW) (x : Xo) (Z : Ho) (sz : Nat) (v0 : Int64) (hk : OK x Z) : Met l yX5_ofValue (lwC yX5_ofValue cX5_ofValue 3 (some (.object "Sendhouse$Thing"))) (rD 5 0 0) (g_Pc D vwCl (gT ar) (EX1 κ) (ov κ ar x Z G) sz [.ref (x.f .ts), .long v0]) (g_Qq D vwCl (g_A (ov κ ar x Z G) sz) (fun r u => r = Option.map (fun k9 => x.f (.th k9)) (sX5_ofValue Z v0) ∧ u = (ov κ ar x Z G, sz))) 0 0 (g_A (ov κ ar x Z G) sz) := by
  refine g_ofW (by decide +kernel) (Nat.le_of_ble_eq_true rfl) ?_
  intro p e s m below meth c ls S hr hlk hin hE w hl
  have hx := S.1
  have hb := S.2.1
  have hl : lv_has ls 3 [(0, .ref (x.f .ts)), (1, .long v0)] := hl
  refine lv_lload_n hx hb dX5_ofValue_0 rfl (lv_at hl 1 rfl) ?_
  refine g_calli w (g_runSN (As := [.long v0]) (rest := []) S hE w hl (c_X8_isThing l D ar κ (ov κ ar x Z G) sz v0) (k_RX5_42 S.2.2.2.2 (hE.2.1.1 _ (ckN_0 _ (List.mem_of_getElem? (i := 39) rfl))) ⟨Nat.le_of_ble_eq_true rfl, Nat.le_of_ble_eq_true rfl⟩) rfl rfl (Nat.le_of_ble_eq_true rfl) dX5_ofValue_1 ⟨Nat.le_of_ble_eq_true rfl, Nat.le_of_ble_eq_true rfl⟩) (fun r u H locs hp hnz w => ?_)
  obtain ⟨rfl, rfl⟩ := hp
  dsimp only at w
  refine lv_if_eq (tgt := 18) hx hb dX5_ofValue_4 (by decide) (fun c_4 => ?_) (fun c_4 => ?_)
  · refine lv_null hx hb dX5_ofValue_18 ?_
    exact g_qret (r := none) hx hb hr (Or.inl ⟨_, rfl⟩) hlk w (Nat.le_of_ble_eq_true rfl) (Nat.le_of_ble_eq_true rfl) dX5_ofValue_19 ⟨congrArg (Option.map (fun k9 => x.f (.th k9))) ((((sX5_ofValue_u Z v0).trans (if_pos c_4))).symm), rfl⟩
  · refine lv_aload_n hx hb dX5_ofValue_7 rfl (lv_at hl 0 rfl) ?_
    refine lv_lload_n hx hb dX5_ofValue_8 rfl (lv_at hl 1 rfl) ?_
    refine g_calli w (g_runSN (As := [.long v0]) (rest := [.ref (x.f .ts)]) S hE w hl (c_X8_numberOf l D ar κ (ov κ ar x Z G) sz v0) (k_RX5_46 S.2.2.2.2 (hE.2.1.1 _ (ckN_1 _ (List.mem_of_getElem? (i := 0) rfl))) ⟨Nat.le_of_ble_eq_true rfl, Nat.le_of_ble_eq_true rfl⟩) rfl rfl (Nat.le_of_ble_eq_true rfl) dX5_ofValue_9 ⟨Nat.le_of_ble_eq_true rfl, Nat.le_of_ble_eq_true rfl⟩) (fun r u H locs hp hnz w => ?_)
    obtain ⟨rfl, rfl⟩ := hp
    dsimp only at w
    refine g_callq w (g_runV (As := [.int (nf v0)]) (rest := []) S hE w hl (hX5_withNumber l D ar κ G x Z sz (nf v0) hk ) (k_RX5_50 S.2.2.2.2 ⟨Nat.le_of_ble_eq_true rfl, Nat.le_of_ble_eq_true rfl⟩) (ov_r (t := .ts) (hk.e (.ts) rfl)) rfl rfl rfl rfl (Nat.le_of_ble_eq_true rfl) dX5_ofValue_12 ⟨Nat.le_of_ble_eq_true rfl, Nat.le_of_ble_eq_true rfl⟩) (fun r u H locs hp hnz w => ?_)
    obtain ⟨rfl, rfl⟩ := hp
    dsimp only at w
    refine lv_goto (tgt := 19) hx hb dX5_ofValue_15 (by decide) ?_
    exact g_qret (r := Option.map (fun k9 => x.f (.th k9)) (sX5_withNumber Z (nf v0))) hx hb hr (Or.inl ⟨_, rfl⟩) hlk w (Nat.le_of_ble_eq_true rfl) (Nat.le_of_ble_eq_true rfl) dX5_ofValue_19 ⟨congrArg (Option.map (fun k9 => x.f (.th k9))) ((((sX5_ofValue_u Z v0).trans (if_neg c_4))).symm), rfl⟩
def sX5_classOfValue (Z : Ho) (v0 : Int64) : Int32 := if isN v0 = 0 then (oc (sX5_ofValue Z v0) (2) (fun k1 => (Z.th k1).c)) else (1)
theorem sX5_classOfValue_u (Z : Ho) (v0 : Int64) : sX5_classOfValue Z v0 = if isN v0 = 0 then (oc (sX5_ofValue Z v0) (2) (fun k1 => (Z.th k1).c)) else (1) := rfl
set_option maxHeartbeats 4000000 in
set_option maxRecDepth 100000 in
theorem hX5_classOfValue (l : Launch) (D : va_G) (ar : Nat → ClassId) (κ : Nat → Nat) (G : gW) (x : Xo) (Z : Ho) (sz : Nat) (v0 : Int64) (hk : OK x Z) : Met l yX5_classOfValue (lwC yX5_classOfValue cX5_classOfValue 4 (some .int)) (rD 6 0 0) (g_Pc D vwCl (gT ar) (EX1 κ) (ov κ ar x Z G) sz [.ref (x.f .ts), .long v0]) (g_Qi D vwCl (g_A (ov κ ar x Z G) sz) (fun r u => r = sX5_classOfValue Z v0 ∧ u = (ov κ ar x Z G, sz))) 0 0 (g_A (ov κ ar x Z G) sz) := by
  refine g_ofW (by decide +kernel) (Nat.le_of_ble_eq_true rfl) ?_
  intro p e s m below meth c ls S hr hlk hin hE w hl
  have hx := S.1
  have hb := S.2.1
  have hl : lv_has ls 4 [(0, .ref (x.f .ts)), (1, .long v0)] := hl
  refine lv_lload_n hx hb dX5_classOfValue_0 rfl (lv_at hl 1 rfl) ?_
  refine g_calli w (g_runSN (As := [.long v0]) (rest := []) S hE w hl (c_X8_isNumber l D ar κ (ov κ ar x Z G) sz v0) (k_RX5_54 S.2.2.2.2 (hE.2.1.1 _ (ckN_1 _ (List.mem_of_getElem? (i := 6) rfl))) ⟨Nat.le_of_ble_eq_true rfl, Nat.le_of_ble_eq_true rfl⟩) rfl rfl (Nat.le_of_ble_eq_true rfl) dX5_classOfValue_1 ⟨Nat.le_of_ble_eq_true rfl, Nat.le_of_ble_eq_true rfl⟩) (fun r u H locs hp hnz w => ?_)
  obtain ⟨rfl, rfl⟩ := hp
  dsimp only at w
  refine lv_if_eq (tgt := 9) hx hb dX5_classOfValue_4 (by decide) (fun c_4 => ?_) (fun c_4 => ?_)
  · refine lv_aload_n hx hb dX5_classOfValue_9 rfl (lv_at hl 0 rfl) ?_
    refine lv_lload_n hx hb dX5_classOfValue_10 rfl (lv_at hl 1 rfl) ?_
    refine g_callq w (g_runV (As := [.long v0]) (rest := []) S hE w hl (hX5_ofValue l D ar κ G x Z sz v0 hk ) (k_RX5_57 S.2.2.2.2 ⟨Nat.le_of_ble_eq_true rfl, Nat.le_of_ble_eq_true rfl⟩) (ov_r (t := .ts) (hk.e (.ts) rfl)) rfl rfl rfl rfl (Nat.le_of_ble_eq_true rfl) dX5_classOfValue_11 ⟨Nat.le_of_ble_eq_true rfl, Nat.le_of_ble_eq_true rfl⟩) (fun r u H locs hp hnz w => ?_)
    obtain ⟨rfl, rfl⟩ := hp
    dsimp only at w
    refine lv_astore_nQ (lv' := [(3, va_rf ((sX5_ofValue Z v0).map (fun k9 => x.f (.th k9)))), (0, .ref (x.f .ts)), (1, .long v0)]) hx hb dX5_classOfValue_14 rfl hl (by decide) rfl (fun ls hl => ?_)
    refine lv_aload_nQ hx hb dX5_classOfValue_15 rfl (lv_at hl 0 rfl) ?_
    rcases he2 : sX5_ofValue Z v0 with _ | k1
    · have hl : lv_has ls 4 [(3, .null), (0, .ref (x.f .ts)), (1, .long v0)] := by rw [he2] at hl; exact hl
      show W p l e _ s m _ below meth c _ _ _ _ _ (F0 m 16 ls [.null])
      refine lv_ifnonnullN hx hb dX5_classOfValue_16 ?_
      refine lv_iconst (v := 2) hx hb dX5_classOfValue_19 (by decide) ?_
      refine lv_goto (tgt := 27) hx hb dX5_classOfValue_20 (by decide) ?_
      exact g_iret hx hb hr hlk w (Nat.le_of_ble_eq_true rfl) (Nat.le_of_ble_eq_true rfl) dX5_classOfValue_27 ⟨(((sX5_classOfValue_u Z v0).trans ((if_pos c_4).trans (oc_n he2)))).symm, rfl⟩
    · have hl : lv_has ls 4 [(3, .ref (x.f (.th k1))), (0, .ref (x.f .ts)), (1, .long v0)] := by rw [he2] at hl; exact hl
      show W p l e _ s m _ below meth c _ _ _ _ _ (F0 m 16 ls [.ref (x.f (.th k1))])
      refine lv_ifnonnull (tgt := 23) hx hb dX5_classOfValue_16 (by decide) ?_
      refine lv_aload_n hx hb dX5_classOfValue_23 rfl (lv_at hl 0 rfl) ?_
      refine gf_RX5_61_10 (v := .int ((Z.th k1).c)) S hE w (ov_r (t := .th k1) (hk.e (.th k1) rfl)) rfl dX5_classOfValue_24 ?_
      exact g_iret hx hb hr hlk w (Nat.le_of_ble_eq_true rfl) (Nat.le_of_ble_eq_true rfl) dX5_classOfValue_27 ⟨(((sX5_classOfValue_u Z v0).trans ((if_pos c_4).trans (oc_s he2)))).symm, rfl⟩
  · refine lv_iconst (v := 1) hx hb dX5_classOfValue_7 (by decide) ?_
    exact g_iret hx hb hr hlk w (Nat.le_of_ble_eq_true rfl) (Nat.le_of_ble_eq_true rfl) dX5_classOfValue_8 ⟨(((sX5_classOfValue_u Z v0).trans (if_neg c_4))).symm, rfl⟩
def sX5_has (Z : Ho) (v0 : Int64) : Int32 := if isT v0 = 0 then (1) else (oc (sX5_ofValue Z v0) (0) (fun k1 => 1))
theorem sX5_has_u (Z : Ho) (v0 : Int64) : sX5_has Z v0 = if isT v0 = 0 then (1) else (oc (sX5_ofValue Z v0) (0) (fun k1 => 1)) := rfl
set_option maxHeartbeats 4000000 in
set_option maxRecDepth 100000 in
theorem hX5_has (l : Launch) (D : va_G) (ar : Nat → ClassId) (κ : Nat → Nat) (G : gW) (x : Xo) (Z : Ho) (sz : Nat) (v0 : Int64) (hk : OK x Z) : Met l yX5_has (lwC yX5_has cX5_has 3 (some .boolean)) (rD 6 0 0) (g_Pc D vwCl (gT ar) (EX1 κ) (ov κ ar x Z G) sz [.ref (x.f .ts), .long v0]) (g_Qi D vwCl (g_A (ov κ ar x Z G) sz) (fun r u => r = sX5_has Z v0 ∧ u = (ov κ ar x Z G, sz))) 0 0 (g_A (ov κ ar x Z G) sz) := by
  refine g_ofW (by decide +kernel) (Nat.le_of_ble_eq_true rfl) ?_
  intro p e s m below meth c ls S hr hlk hin hE w hl
  have hx := S.1
  have hb := S.2.1
  have hl : lv_has ls 3 [(0, .ref (x.f .ts)), (1, .long v0)] := hl
  refine lv_lload_n hx hb dX5_has_0 rfl (lv_at hl 1 rfl) ?_
  refine g_calli w (g_runSN (As := [.long v0]) (rest := []) S hE w hl (c_X8_isThing l D ar κ (ov κ ar x Z G) sz v0) (k_RX5_42 S.2.2.2.2 (hE.2.1.1 _ (ckN_0 _ (List.mem_of_getElem? (i := 39) rfl))) ⟨Nat.le_of_ble_eq_true rfl, Nat.le_of_ble_eq_true rfl⟩) rfl rfl (Nat.le_of_ble_eq_true rfl) dX5_has_1 ⟨Nat.le_of_ble_eq_true rfl, Nat.le_of_ble_eq_true rfl⟩) (fun r u H locs hp hnz w => ?_)
  obtain ⟨rfl, rfl⟩ := hp
  dsimp only at w
  refine lv_if_eq (tgt := 15) hx hb dX5_has_4 (by decide) (fun c_4 => ?_) (fun c_4 => ?_)
  · refine lv_iconst (v := 1) hx hb dX5_has_15 (by decide) ?_
    refine lv_goto (tgt := 20) hx hb dX5_has_16 (by decide) ?_
    exact g_zret hx hb hr hlk w (Nat.le_of_ble_eq_true rfl) (Nat.le_of_ble_eq_true rfl) dX5_has_20 rfl ⟨(((sX5_has_u Z v0).trans (if_pos c_4))).symm, rfl⟩
  · refine lv_aload_n hx hb dX5_has_7 rfl (lv_at hl 0 rfl) ?_
    refine lv_lload_n hx hb dX5_has_8 rfl (lv_at hl 1 rfl) ?_
    refine g_callq w (g_runV (As := [.long v0]) (rest := []) S hE w hl (hX5_ofValue l D ar κ G x Z sz v0 hk ) (k_RX5_57 S.2.2.2.2 ⟨Nat.le_of_ble_eq_true rfl, Nat.le_of_ble_eq_true rfl⟩) (ov_r (t := .ts) (hk.e (.ts) rfl)) rfl rfl rfl rfl (Nat.le_of_ble_eq_true rfl) dX5_has_9 ⟨Nat.le_of_ble_eq_true rfl, Nat.le_of_ble_eq_true rfl⟩) (fun r u H locs hp hnz w => ?_)
    obtain ⟨rfl, rfl⟩ := hp
    dsimp only at w
    rcases he2 : sX5_ofValue Z v0 with _ | k1
    · show W p l e _ s m _ below meth c _ _ _ _ _ (F0 m 12 ls [.null])
      refine lv_ifnullN (tgt := 19) hx hb dX5_has_12 (by decide) ?_
      refine lv_iconst (v := 0) hx hb dX5_has_19 (by decide) ?_
      exact g_zret hx hb hr hlk w (Nat.le_of_ble_eq_true rfl) (Nat.le_of_ble_eq_true rfl) dX5_has_20 rfl ⟨(((sX5_has_u Z v0).trans ((if_neg c_4).trans (oc_n he2)))).symm, rfl⟩
    · show W p l e _ s m _ below meth c _ _ _ _ _ (F0 m 12 ls [.ref (x.f (.th k1))])
      refine lv_ifnull hx hb dX5_has_12 ?_
      refine lv_iconst (v := 1) hx hb dX5_has_15 (by decide) ?_
      refine lv_goto (tgt := 20) hx hb dX5_has_16 (by decide) ?_
      exact g_zret hx hb hr hlk w (Nat.le_of_ble_eq_true rfl) (Nat.le_of_ble_eq_true rfl) dX5_has_20 rfl ⟨(((sX5_has_u Z v0).trans ((if_neg c_4).trans (oc_s he2)))).symm, rfl⟩
noncomputable def LX5_hasPlacesThere_2 (i0 : Fin 60) : Nat → Int32 → Ho → Int32
  | 0, _, Z => 0
  | nx1 + 1, x1, Z => if (Z.th i0).z ≤ x1 then (1) else (if sX5_has Z (pA ((Z.th i0).p) 8 x1) = 0 then (0) else (LX5_hasPlacesThere_2 i0 nx1 (x1 + 1) Z))
theorem LX5_hasPlacesThere_2_u (i0 : Fin 60) (nx1 : Nat) (x1 : Int32) (Z : Ho) : LX5_hasPlacesThere_2 i0 (nx1 + 1) x1 Z = if (Z.th i0).z ≤ x1 then (1) else (if sX5_has Z (pA ((Z.th i0).p) 8 x1) = 0 then (0) else (LX5_hasPlacesThere_2 i0 nx1 (x1 + 1) Z)) := rfl
noncomputable def sX5_hasPlacesThere (Z : Ho) (i0 : Fin 60) : Int32 := LX5_hasPlacesThere_2 i0 FU 0 Z
theorem sX5_hasPlacesThere_u (Z : Ho) (i0 : Fin 60) : sX5_hasPlacesThere Z i0 = LX5_hasPlacesThere_2 i0 FU 0 Z := rfl
set_option maxHeartbeats 4000000 in
set_option maxRecDepth 100000 in
theorem hX5_hasPlacesThere (l : Launch) (D : va_G) (ar : Nat → ClassId) (κ : Nat → Nat) (G : gW) (x : Xo) (Z : Ho) (sz : Nat) (i0 : Fin 60) (hk : OK x Z) : Met l yX5_hasPlacesThere (lwC yX5_hasPlacesThere cX5_hasPlacesThere 3 (some .boolean)) (rD 7 0 0) (g_Pc D vwCl (gT ar) (EX1 κ) (ov κ ar x Z G) sz [.ref (x.f .ts), .ref (x.f (.th i0))]) (g_Qi D vwCl (g_A (ov κ ar x Z G) sz) (fun r u => r = sX5_hasPlacesThere Z i0 ∧ u = (ov κ ar x Z G, sz))) 0 0 (g_A (ov κ ar x Z G) sz) := by
  refine g_ofW (by decide +kernel) (Nat.le_of_ble_eq_true rfl) ?_
  intro p e s m below meth c ls S hr hlk hin hE w hl
  have hx := S.1
  have hb := S.2.1
  have hl : lv_has ls 3 [(0, .ref (x.f .ts)), (1, .ref (x.f (.th i0)))] := hl
  refine lv_iconst (v := 0) hx hb dX5_hasPlacesThere_0 (by decide) ?_
  refine lv_istore_n (lv' := [(2, .int 0), (0, .ref (x.f .ts)), (1, .ref (x.f (.th i0)))]) hx hb dX5_hasPlacesThere_1 rfl hl (by decide) rfl (fun ls hl => ?_)
  have key4 : ∀ (nx1 ix1 : Nat), ix1 ≤ 2147483647 → 2147483647 + 1 ≤ ix1 + nx1 → ∀ (x1 : Int32), x1 = nI ix1 → sX5_hasPlacesThere Z i0 = LX5_hasPlacesThere_2 i0 nx1 x1 Z → ∀ (H : Heap) (locs : List Loc) (ls : Array Slot), g_S D vwCl (g_A (ov κ ar x Z G) sz) s.heap (ov κ ar x Z G) H locs sz → lv_has ls 3 [(2, .int x1), (0, .ref (x.f .ts)), (1, .ref (x.f (.th i0)))] → W p l e (rD 7 0 0) s m ([.ref (x.f .ts), .ref (x.f (.th i0))] : List Value).toArray below meth c H locs 0 0 (MQ below (g_Qi D vwCl (g_A (ov κ ar x Z G) sz) (fun r u => r = sX5_hasPlacesThere Z i0 ∧ u = (ov κ ar x Z G, sz))) ([.ref (x.f .ts), .ref (x.f (.th i0))] : List Value).toArray s 0 0 (g_A (ov κ ar x Z G) sz)) (F0 m 2 ls []) := by
    intro nx1
    induction nx1 with
    | zero => intro ix1 hix1 hi2; exact absurd hi2 (by omega)
    | succ nx1 ihx1 =>
      intro ix1 hix1 hi2 x1 exx1 hsp3 H locs ls w hl
      refine lv_iload_n hx hb dX5_hasPlacesThere_2 rfl (lv_at hl 0 rfl) ?_
      refine lv_aload_n hx hb dX5_hasPlacesThere_3 rfl (lv_at hl 2 rfl) ?_
      refine gf_RX5_71_10 (v := .int ((Z.th i0).z)) S hE w (ov_r (t := .th i0) (hk.e (.th i0) rfl)) rfl dX5_hasPlacesThere_4 ?_
      refine lv_icmp_ge (tgt := 33) hx hb dX5_hasPlacesThere_7 (by decide) (fun c_7 => ?_) (fun c_7 => ?_)
      · refine lv_iconst (v := 1) hx hb dX5_hasPlacesThere_33 (by decide) ?_
        exact g_zret hx hb hr hlk w (Nat.le_of_ble_eq_true rfl) (Nat.le_of_ble_eq_true rfl) dX5_hasPlacesThere_34 rfl ⟨(((hsp3).trans ((LX5_hasPlacesThere_2_u i0 nx1 x1 Z).trans (if_pos c_7)))).symm, rfl⟩
      · refine lv_aload_n hx hb dX5_hasPlacesThere_10 rfl (lv_at hl 1 rfl) ?_
        refine lv_aload_n hx hb dX5_hasPlacesThere_11 rfl (lv_at hl 2 rfl) ?_
        refine gf_RX5_74_10 (v := .ref (x.f (.tp i0))) S hE w (ov_r (t := .th i0) (hk.e (.th i0) rfl)) rfl dX5_hasPlacesThere_12 ?_
        refine lv_iload_n hx hb dX5_hasPlacesThere_15 rfl (lv_at hl 0 rfl) ?_
        refine g_calll w (g_runSN (As := [.ref (x.f (.tp i0)), .int x1]) (rest := [.ref (x.f .ts)]) S hE w hl (c_X8_placeAt l D ar κ (ov κ ar x Z G) sz (x.f (.tp i0)) x1 8 ((Z.th i0).p) (ov_r (t := .tp i0) (hk.e (.tp i0) rfl)) (by decide)) (k_RX5_78 S.2.2.2.2 (hE.2.1.1 _ (ckN_1 _ (List.mem_of_getElem? (i := 3) rfl))) ⟨Nat.le_of_ble_eq_true rfl, Nat.le_of_ble_eq_true rfl⟩) rfl rfl (Nat.le_of_ble_eq_true rfl) dX5_hasPlacesThere_16 ⟨Nat.le_of_ble_eq_true rfl, Nat.le_of_ble_eq_true rfl⟩) (fun r u H locs hp hnz w => ?_)
        obtain ⟨rfl, rfl⟩ := hp
        dsimp only at w
        refine g_calli w (g_runV (As := [.long (pA ((Z.th i0).p) 8 x1)]) (rest := []) S hE w hl (hX5_has l D ar κ G x Z sz (pA ((Z.th i0).p) 8 x1) hk ) (k_RX5_82 S.2.2.2.2 ⟨Nat.le_of_ble_eq_true rfl, Nat.le_of_ble_eq_true rfl⟩) (ov_r (t := .ts) (hk.e (.ts) rfl)) rfl rfl rfl rfl (Nat.le_of_ble_eq_true rfl) dX5_hasPlacesThere_19 ⟨Nat.le_of_ble_eq_true rfl, Nat.le_of_ble_eq_true rfl⟩) (fun r u H locs hp hnz w => ?_)
        obtain ⟨rfl, rfl⟩ := hp
        dsimp only at w
        refine lv_if_ne (tgt := 27) hx hb dX5_hasPlacesThere_22 (by decide) (fun c_22 => ?_) (fun c_22 => ?_)
        · refine lv_iinc (v := x1 + 1) (lv' := [(2, .int (x1 + 1)), (0, .ref (x.f .ts)), (1, .ref (x.f (.th i0)))]) hx hb dX5_hasPlacesThere_27 hl (k := 0) rfl rfl (by decide) rfl (fun ls hl => ?_)
          refine lv_goto (tgt := 2) hx hb dX5_hasPlacesThere_30 (by decide) ?_
          exact ihx1 (ix1 + 1) (lp_fu exx1 hix1 c_7) (by omega) (x1 + 1) (by rw [exx1]; exact nI_1 ix1) ((hsp3).trans ((LX5_hasPlacesThere_2_u i0 nx1 x1 Z).trans ((if_neg c_7).trans (if_neg c_22)))) H _ ls w (lv_sub hl [0, 1, 2] rfl)
        · refine lv_iconst (v := 0) hx hb dX5_hasPlacesThere_25 (by decide) ?_
          exact g_zret hx hb hr hlk w (Nat.le_of_ble_eq_true rfl) (Nat.le_of_ble_eq_true rfl) dX5_hasPlacesThere_26 rfl ⟨(((hsp3).trans ((LX5_hasPlacesThere_2_u i0 nx1 x1 Z).trans ((if_neg c_7).trans (if_pos c_22))))).symm, rfl⟩
  exact key4 FU 0 (Nat.zero_le _) (by rw [FU_e]; decide) 0 rfl (sX5_hasPlacesThere_u Z i0) _ _ _ w (lv_sub hl [0, 1, 2] rfl)
noncomputable def LX5_hasFieldsThere_2 : Nat → Int32 → Ho → Int32
  | 0, _, Z => 0
  | nx1 + 1, x1, Z => if Z.tc ≤ x1 then (1) else (oc (sX5_inOrder Z x1) (0) (fun k5 => if sX5_hasPlacesThere Z k5 = 0 then (0) else (LX5_hasFieldsThere_2 nx1 (x1 + 1) Z)))
theorem LX5_hasFieldsThere_2_u (nx1 : Nat) (x1 : Int32) (Z : Ho) : LX5_hasFieldsThere_2 (nx1 + 1) x1 Z = if Z.tc ≤ x1 then (1) else (oc (sX5_inOrder Z x1) (0) (fun k5 => if sX5_hasPlacesThere Z k5 = 0 then (0) else (LX5_hasFieldsThere_2 nx1 (x1 + 1) Z))) := rfl
noncomputable def sX5_hasFieldsThere (Z : Ho) : Int32 := LX5_hasFieldsThere_2 FU 0 Z
theorem sX5_hasFieldsThere_u (Z : Ho) : sX5_hasFieldsThere Z = LX5_hasFieldsThere_2 FU 0 Z := rfl
set_option maxHeartbeats 4000000 in
set_option maxRecDepth 100000 in
theorem hX5_hasFieldsThere (l : Launch) (D : va_G) (ar : Nat → ClassId) (κ : Nat → Nat) (G : gW) (x : Xo) (Z : Ho) (sz : Nat) (hk : OK x Z) : Met l yX5_hasFieldsThere (lwC yX5_hasFieldsThere cX5_hasFieldsThere 3 (some .boolean)) (rD 8 0 0) (g_Pc D vwCl (gT ar) (EX1 κ) (ov κ ar x Z G) sz [.ref (x.f .ts)]) (g_Qi D vwCl (g_A (ov κ ar x Z G) sz) (fun r u => r = sX5_hasFieldsThere Z ∧ u = (ov κ ar x Z G, sz))) 0 0 (g_A (ov κ ar x Z G) sz) := by
  refine g_ofW (by decide +kernel) (Nat.le_of_ble_eq_true rfl) ?_
  intro p e s m below meth c ls S hr hlk hin hE w hl
  have hx := S.1
  have hb := S.2.1
  have hl : lv_has ls 3 [(0, .ref (x.f .ts))] := hl
  refine lv_iconst (v := 0) hx hb dX5_hasFieldsThere_0 (by decide) ?_
  refine lv_istore_n (lv' := [(1, .int 0), (0, .ref (x.f .ts))]) hx hb dX5_hasFieldsThere_1 rfl hl (by decide) rfl (fun ls hl => ?_)
  have key4 : ∀ (nx1 ix1 : Nat), ix1 ≤ 2147483647 → 2147483647 + 1 ≤ ix1 + nx1 → ∀ (x1 : Int32), x1 = nI ix1 → sX5_hasFieldsThere Z = LX5_hasFieldsThere_2 nx1 x1 Z → ∀ (H : Heap) (locs : List Loc) (ls : Array Slot), g_S D vwCl (g_A (ov κ ar x Z G) sz) s.heap (ov κ ar x Z G) H locs sz → lv_has ls 3 [(1, .int x1), (0, .ref (x.f .ts))] → W p l e (rD 8 0 0) s m ([.ref (x.f .ts)] : List Value).toArray below meth c H locs 0 0 (MQ below (g_Qi D vwCl (g_A (ov κ ar x Z G) sz) (fun r u => r = sX5_hasFieldsThere Z ∧ u = (ov κ ar x Z G, sz))) ([.ref (x.f .ts)] : List Value).toArray s 0 0 (g_A (ov κ ar x Z G) sz)) (F0 m 2 ls []) := by
    intro nx1
    induction nx1 with
    | zero => intro ix1 hix1 hi2; exact absurd hi2 (by omega)
    | succ nx1 ihx1 =>
      intro ix1 hix1 hi2 x1 exx1 hsp3 H locs ls w hl
      refine lv_iload_n hx hb dX5_hasFieldsThere_2 rfl (lv_at hl 0 rfl) ?_
      refine lv_aload_n hx hb dX5_hasFieldsThere_3 rfl (lv_at hl 1 rfl) ?_
      refine gf_RX5_20_11 (v := .int Z.tc) S hE w (ov_r (t := .ts) (hk.e (.ts) rfl)) rfl dX5_hasFieldsThere_4 ?_
      refine lv_icmp_ge (tgt := 36) hx hb dX5_hasFieldsThere_7 (by decide) (fun c_7 => ?_) (fun c_7 => ?_)
      · refine lv_iconst (v := 1) hx hb dX5_hasFieldsThere_36 (by decide) ?_
        exact g_zret hx hb hr hlk w (Nat.le_of_ble_eq_true rfl) (Nat.le_of_ble_eq_true rfl) dX5_hasFieldsThere_37 rfl ⟨(((hsp3).trans ((LX5_hasFieldsThere_2_u nx1 x1 Z).trans (if_pos c_7)))).symm, rfl⟩
      · refine lv_aload_n hx hb dX5_hasFieldsThere_10 rfl (lv_at hl 1 rfl) ?_
        refine lv_iload_n hx hb dX5_hasFieldsThere_11 rfl (lv_at hl 0 rfl) ?_
        refine g_callq w (g_runV (As := [.int x1]) (rest := []) S hE w hl (hX5_inOrder l D ar κ G x Z sz x1 hk ) (k_RX5_64 S.2.2.2.2 ⟨Nat.le_of_ble_eq_true rfl, Nat.le_of_ble_eq_true rfl⟩) (ov_r (t := .ts) (hk.e (.ts) rfl)) rfl rfl rfl rfl (Nat.le_of_ble_eq_true rfl) dX5_hasFieldsThere_12 ⟨Nat.le_of_ble_eq_true rfl, Nat.le_of_ble_eq_true rfl⟩) (fun r u H locs hp hnz w => ?_)
        obtain ⟨rfl, rfl⟩ := hp
        dsimp only at w
        refine lv_astore_nQ (lv' := [(2, va_rf ((sX5_inOrder Z x1).map (fun k9 => x.f (.th k9)))), (1, .int x1), (0, .ref (x.f .ts))]) hx hb dX5_hasFieldsThere_15 rfl hl (by decide) rfl (fun ls hl => ?_)
        refine lv_aload_nQ hx hb dX5_hasFieldsThere_16 rfl (lv_at hl 0 rfl) ?_
        rcases he6 : sX5_inOrder Z x1 with _ | k5
        · have hl : lv_has ls 3 [(2, .null), (1, .int x1), (0, .ref (x.f .ts))] := by rw [he6] at hl; exact hl
          show W p l e _ s m _ below meth c _ _ _ _ _ (F0 m 17 ls [.null])
          refine lv_ifnullN (tgt := 28) hx hb dX5_hasFieldsThere_17 (by decide) ?_
          refine lv_iconst (v := 0) hx hb dX5_hasFieldsThere_28 (by decide) ?_
          exact g_zret hx hb hr hlk w (Nat.le_of_ble_eq_true rfl) (Nat.le_of_ble_eq_true rfl) dX5_hasFieldsThere_29 rfl ⟨(((hsp3).trans ((LX5_hasFieldsThere_2_u nx1 x1 Z).trans ((if_neg c_7).trans (oc_n he6))))).symm, rfl⟩
        · have hl : lv_has ls 3 [(2, .ref (x.f (.th k5))), (1, .int x1), (0, .ref (x.f .ts))] := by rw [he6] at hl; exact hl
          show W p l e _ s m _ below meth c _ _ _ _ _ (F0 m 17 ls [.ref (x.f (.th k5))])
          refine lv_ifnull hx hb dX5_hasFieldsThere_17 ?_
          refine lv_aload_n hx hb dX5_hasFieldsThere_20 rfl (lv_at hl 2 rfl) ?_
          refine lv_aload_n hx hb dX5_hasFieldsThere_21 rfl (lv_at hl 0 rfl) ?_
          refine g_calli w (g_runV (As := [.ref (x.f (.th k5))]) (rest := []) S hE w hl (hX5_hasPlacesThere l D ar κ G x Z sz k5 hk ) (k_RX5_67 S.2.2.2.2 ⟨Nat.le_of_ble_eq_true rfl, Nat.le_of_ble_eq_true rfl⟩) (ov_r (t := .ts) (hk.e (.ts) rfl)) rfl rfl rfl rfl (Nat.le_of_ble_eq_true rfl) dX5_hasFieldsThere_22 ⟨Nat.le_of_ble_eq_true rfl, Nat.le_of_ble_eq_true rfl⟩) (fun r u H locs hp hnz w => ?_)
          obtain ⟨rfl, rfl⟩ := hp
          dsimp only at w
          refine lv_if_ne (tgt := 30) hx hb dX5_hasFieldsThere_25 (by decide) (fun c_25 => ?_) (fun c_25 => ?_)
          · refine lv_iinc (v := x1 + 1) (lv' := [(1, .int (x1 + 1)), (2, .ref (x.f (.th k5))), (0, .ref (x.f .ts))]) hx hb dX5_hasFieldsThere_30 hl (k := 1) rfl rfl (by decide) rfl (fun ls hl => ?_)
            refine lv_goto (tgt := 2) hx hb dX5_hasFieldsThere_33 (by decide) ?_
            exact ihx1 (ix1 + 1) (lp_fu exx1 hix1 c_7) (by omega) (x1 + 1) (by rw [exx1]; exact nI_1 ix1) ((hsp3).trans ((LX5_hasFieldsThere_2_u nx1 x1 Z).trans ((if_neg c_7).trans ((oc_s he6).trans (if_neg c_25))))) H _ ls w (lv_sub hl [0, 2] rfl)
          · refine lv_iconst (v := 0) hx hb dX5_hasFieldsThere_28 (by decide) ?_
            exact g_zret hx hb hr hlk w (Nat.le_of_ble_eq_true rfl) (Nat.le_of_ble_eq_true rfl) dX5_hasFieldsThere_29 rfl ⟨(((hsp3).trans ((LX5_hasFieldsThere_2_u nx1 x1 Z).trans ((if_neg c_7).trans ((oc_s he6).trans (if_pos c_25)))))).symm, rfl⟩
  exact key4 FU 0 (Nat.zero_le _) (by rw [FU_e]; decide) 0 rfl (sX5_hasFieldsThere_u Z) _ _ _ w (lv_sub hl [0, 1] rfl)
def sX5_reach (Z : Ho) (v0 : Int64) : Ho := oc (sX5_ofValue Z v0) (Z) (fun k1 => if (Z.th k1).r = 0 then (if isB Z.rc 60 = 0 then (Z) else ((((Z.sre (updN Z.re (Int32.toNatClampNeg Z.rc) (some k1))).src (Z.rc + 1)).thS k1 ((Z.th k1).sr 1)))) else (Z))
theorem sX5_reach_u (Z : Ho) (v0 : Int64) : sX5_reach Z v0 = oc (sX5_ofValue Z v0) (Z) (fun k1 => if (Z.th k1).r = 0 then (if isB Z.rc 60 = 0 then (Z) else ((((Z.sre (updN Z.re (Int32.toNatClampNeg Z.rc) (some k1))).src (Z.rc + 1)).thS k1 ((Z.th k1).sr 1)))) else (Z)) := rfl
set_option maxHeartbeats 4000000 in
set_option maxRecDepth 100000 in
theorem hX5_reach (l : Launch) (D : va_G) (ar : Nat → ClassId) (κ : Nat → Nat) (G : gW) (x : Xo) (Z : Ho) (sz : Nat) (v0 : Int64) (hk : OK x Z) : Met l yX5_reach (lwC yX5_reach cX5_reach 4 none) (rD 6 0 0) (g_Pc D vwCl (gT ar) (EX1 κ) (ov κ ar x Z G) sz [.ref (x.f .ts), .long v0]) (g_Qv D vwCl (g_A (ov κ ar x Z G) sz) (fun u => ∃ T9 : Ho, sX5_reach Z v0 = T9 ∧ u = (ov κ ar x T9 G, sz) ∧ OK x T9 ∧ SZ T9 Z)) 0 0 (g_A (ov κ ar x Z G) sz) := by
  refine g_ofW (by decide +kernel) (Nat.le_of_ble_eq_true rfl) ?_
  intro p e s m below meth c ls S hr hlk hin hE w hl
  have hx := S.1
  have hb := S.2.1
  have hl : lv_has ls 4 [(0, .ref (x.f .ts)), (1, .long v0)] := hl
  refine lv_aload_n hx hb dX5_reach_0 rfl (lv_at hl 0 rfl) ?_
  refine lv_lload_n hx hb dX5_reach_1 rfl (lv_at hl 1 rfl) ?_
  refine g_callq w (g_runV (As := [.long v0]) (rest := []) S hE w hl (hX5_ofValue l D ar κ G x Z sz v0 hk ) (k_RX5_57 S.2.2.2.2 ⟨Nat.le_of_ble_eq_true rfl, Nat.le_of_ble_eq_true rfl⟩) (ov_r (t := .ts) (hk.e (.ts) rfl)) rfl rfl rfl rfl (Nat.le_of_ble_eq_true rfl) dX5_reach_2 ⟨Nat.le_of_ble_eq_true rfl, Nat.le_of_ble_eq_true rfl⟩) (fun r u H locs hp hnz w => ?_)
  obtain ⟨rfl, rfl⟩ := hp
  dsimp only at w
  refine lv_astore_nQ (lv' := [(3, va_rf ((sX5_ofValue Z v0).map (fun k9 => x.f (.th k9)))), (0, .ref (x.f .ts)), (1, .long v0)]) hx hb dX5_reach_5 rfl hl (by decide) rfl (fun ls hl => ?_)
  refine lv_aload_nQ hx hb dX5_reach_6 rfl (lv_at hl 0 rfl) ?_
  rcases he2 : sX5_ofValue Z v0 with _ | k1
  · have hl : lv_has ls 4 [(3, .null), (0, .ref (x.f .ts)), (1, .long v0)] := by rw [he2] at hl; exact hl
    show W p l e _ s m _ below meth c _ _ _ _ _ (F0 m 7 ls [.null])
    refine lv_ifnullN (tgt := 57) hx hb dX5_reach_7 (by decide) ?_
    exact g_vret hx hb hr hlk w (Nat.le_of_ble_eq_true rfl) (Nat.le_of_ble_eq_true rfl) dX5_reach_57 ⟨_, ((sX5_reach_u Z v0).trans (oc_n he2)), rfl, hk, ⟨rfl, rfl, rfl, rfl⟩⟩
  · have hl : lv_has ls 4 [(3, .ref (x.f (.th k1))), (0, .ref (x.f .ts)), (1, .long v0)] := by rw [he2] at hl; exact hl
    show W p l e _ s m _ below meth c _ _ _ _ _ (F0 m 7 ls [.ref (x.f (.th k1))])
    refine lv_ifnull hx hb dX5_reach_7 ?_
    refine lv_aload_n hx hb dX5_reach_10 rfl (lv_at hl 0 rfl) ?_
    refine gf_RX5_85_10 (v := .int ((Z.th k1).r)) S hE w (ov_r (t := .th k1) (hk.e (.th k1) rfl)) rfl dX5_reach_11 ?_
    refine lv_if_ne (tgt := 57) hx hb dX5_reach_14 (by decide) (fun c_14 => ?_) (fun c_14 => ?_)
    · exact g_vret hx hb hr hlk w (Nat.le_of_ble_eq_true rfl) (Nat.le_of_ble_eq_true rfl) dX5_reach_57 ⟨_, ((sX5_reach_u Z v0).trans ((oc_s he2).trans (if_neg c_14))), rfl, hk, ⟨rfl, rfl, rfl, rfl⟩⟩
    · refine lv_aload_n hx hb dX5_reach_17 rfl (lv_at hl 1 rfl) ?_
      refine gf_RX5_24_11 (v := .int Z.rc) S hE w (ov_r (t := .ts) (hk.e (.ts) rfl)) rfl dX5_reach_18 ?_
      refine lv_aload_n hx hb dX5_reach_21 rfl (lv_at hl 1 rfl) ?_
      refine gf_RX5_17_11 (v := .ref (x.f .re)) S hE w (ov_r (t := .ts) (hk.e (.ts) rfl)) rfl dX5_reach_22 ?_
      refine va_alen (v := 60) hx hb hE.1 (g_1 w.1 (ov_r (t := .re) (hk.e (.re) rfl))) 0 6 rfl rfl rfl dX5_reach_25 ?_
      refine g_calli w (g_runSN (As := [.int Z.rc, .int 60]) (rest := []) S hE w hl (c_X8_isBelow l D ar κ (ov κ ar x Z G) sz Z.rc 60) (k_RX5_31 S.2.2.2.2 (hE.2.1.1 _ (ckN_1 _ (List.mem_of_getElem? (i := 1) rfl))) ⟨Nat.le_of_ble_eq_true rfl, Nat.le_of_ble_eq_true rfl⟩) rfl rfl (Nat.le_of_ble_eq_true rfl) dX5_reach_26 ⟨Nat.le_of_ble_eq_true rfl, Nat.le_of_ble_eq_true rfl⟩) (fun r u H locs hp hnz w => ?_)
      obtain ⟨rfl, rfl⟩ := hp
      dsimp only at w
      refine lv_if_eq (tgt := 57) hx hb dX5_reach_29 (by decide) (fun c_29 => ?_) (fun c_29 => ?_)
      · exact g_vret hx hb hr hlk w (Nat.le_of_ble_eq_true rfl) (Nat.le_of_ble_eq_true rfl) dX5_reach_57 ⟨_, ((sX5_reach_u Z v0).trans ((oc_s he2).trans ((if_pos c_14).trans (if_pos c_29)))), rfl, hk, ⟨rfl, rfl, rfl, rfl⟩⟩
      · refine lv_aload_n hx hb dX5_reach_32 rfl (lv_at hl 0 rfl) ?_
        refine lv_iconst (v := 1) hx hb dX5_reach_33 (by decide) ?_
        refine pf_RX5_85_10 (fs1 := [.ref (x.f (.tp k1)), .int ((Z.th k1).n), .int ((Z.th k1).c), .int ((Z.th k1).z), .int 1]) S hE w (ov_r (t := .th k1) (hk.e (.th k1) rfl)) rfl rfl (Nat.le_of_ble_eq_true rfl) rfl dX5_reach_34 (fun H locs w => ?_)
        have w := g_eqw w (congrArg (fun Z9 => g_up (ov κ ar x Z9 G) (x.f (.th k1)) (.inr (10, [.ref (x.f (.tp k1)), .int ((Z.th k1).n), .int ((Z.th k1).c), .int ((Z.th k1).z), .int 1]))) (thS_id (S := Z) (i := k1)).symm)
        have w : g_S D vwCl (g_A (ov κ ar x Z G) sz) s.heap (ov κ ar x (Z.thS k1 ((Z.th k1).sr 1)) G) H _ sz := g_eqw w (ov_wth (S := Z) (v := (Z.th k1)) (v' := ((Z.th k1).sr 1)) hk.v (hk.e (.th k1) rfl) rfl Th_p_sr)
        refine lv_aload_n hx hb dX5_reach_37 rfl (lv_at hl 1 rfl) ?_
        refine gf_RX5_17_11 (v := .ref (x.f .re)) S hE w (ov_r (t := .ts) (hk.e (.ts) rfl)) rfl dX5_reach_38 ?_
        refine lv_aload_n hx hb dX5_reach_41 rfl (lv_at hl 1 rfl) ?_
        refine gf_RX5_24_11 (v := .int Z.rc) S hE w (ov_r (t := .ts) (hk.e (.ts) rfl)) rfl dX5_reach_42 ?_
        refine lv_aload_n hx hb dX5_reach_45 rfl (lv_at hl 0 rfl) ?_
        refine g_astq (r := (RX4, TX4, 5)) hx hb hE.1 w 6 10 (ov_r (t := .re) (hk.e (.re) rfl)) rfl (ov_rth (hk.e (.th k1) rfl)) rfl (vinB (n := 60) rfl (by decide) c_29) dX5_reach_46 (fun H locs w => ?_)
        have w := g_eqw w (congrArg (fun Z9 => g_up (ov κ ar x (Z.thS k1 ((Z.th k1).sr 1)) G) (x.f .re) (.inl (ar 6, 60, .inr (.inr (.inr (.inr Z9)))))) (up_map (g := Z.re) (F := (fun k9 => x.f (.th k9))) (i := (Int32.toNatClampNeg Z.rc)) (e := (some k1))))
        have w : g_S D vwCl (g_A (ov κ ar x Z G) sz) s.heap (ov κ ar x ((Z.sre (updN Z.re (Int32.toNatClampNeg Z.rc) (some k1))).thS k1 ((Z.th k1).sr 1)) G) H _ sz := g_eqw w (ov_wre (S := (Z.thS k1 ((Z.th k1).sr 1))) (T := ((Z.sre (updN Z.re (Int32.toNatClampNeg Z.rc) (some k1))).thS k1 ((Z.th k1).sr 1))) hk.v (hk.e .re rfl) rfl ((Ho_ab_thS.trans Ho_ab_sre).trans Ho_ab_thS.symm) ((Ho_fc_thS.trans Ho_fc_sre).trans Ho_fc_thS.symm) ((Ho_cn_thS.trans Ho_cn_sre).trans Ho_cn_thS.symm) ((Ho_me_thS.trans Ho_me_sre).trans Ho_me_thS.symm) ((Ho_nt_thS.trans Ho_nt_sre).trans Ho_nt_thS.symm) ((Ho_nr_thS.trans Ho_nr_sre).trans Ho_nr_thS.symm) ((Ho_ty_thS.trans Ho_ty_sre).trans Ho_ty_thS.symm) ((Ho_to_thS.trans Ho_to_sre).trans Ho_to_thS.symm) ((Ho_ro_thS.trans Ho_ro_sre).trans Ho_ro_thS.symm) ((Ho_gl_thS.trans Ho_gl_sre).trans Ho_gl_thS.symm) ((Ho_al_thS.trans Ho_al_sre).trans Ho_al_thS.symm) ((Ho_th_thS.trans (congrArg (fun q9 => updF q9 k1 ((Z.th k1).sr 1)) Ho_th_sre)).trans Ho_th_thS.symm) ((Ho_tc_thS.trans Ho_tc_sre).trans Ho_tc_thS.symm) ((Ho_rc_thS.trans Ho_rc_sre).trans Ho_rc_thS.symm) ((Ho_mk_thS.trans Ho_mk_sre).trans Ho_mk_thS.symm) ((Ho_fr_thS.trans Ho_fr_sre).trans Ho_fr_thS.symm) ((Ho_fn_thS.trans Ho_fn_sre).trans Ho_fn_thS.symm) ((Ho_st_thS.trans Ho_st_sre).trans Ho_st_thS.symm) ((Ho_rs_thS.trans Ho_rs_sre).trans Ho_rs_thS.symm) ((Ho_an_thS.trans Ho_an_sre).trans Ho_an_thS.symm) ((Ho_sp_thS.trans Ho_sp_sre).trans Ho_sp_thS.symm) ((Ho_np_thS.trans Ho_np_sre).trans Ho_np_thS.symm) ((Ho_pg_thS.trans Ho_pg_sre).trans Ho_pg_thS.symm) ((Ho_wc_thS.trans Ho_wc_sre).trans Ho_wc_thS.symm) ((Ho_ws_thS.trans Ho_ws_sre).trans Ho_ws_thS.symm) ((Ho_wp_thS.trans Ho_wp_sre).trans Ho_wp_thS.symm))
        refine lv_aload_n hx hb dX5_reach_47 rfl (lv_at hl 1 rfl) ?_
        refine lv_dup hx hb dX5_reach_48 rfl ?_
        refine gf_RX5_24_11 (v := .int Z.rc) S hE w (ov_r (t := .ts) (hk.e (.ts) rfl)) rfl dX5_reach_49 ?_
        refine lv_iconst (v := 1) hx hb dX5_reach_52 (by decide) ?_
        refine lv_iadd hx hb dX5_reach_53 ?_
        refine pf_RX5_24_11 (fs1 := [.ref (x.f .al), .ref (x.f .re), .int Z.tc, .int (Z.rc + 1), .int Z.mk]) S hE w (ov_r (t := .ts) (hk.e (.ts) rfl)) rfl rfl (Nat.le_of_ble_eq_true rfl) rfl dX5_reach_54 (fun H locs w => ?_)
        have w : g_S D vwCl (g_A (ov κ ar x Z G) sz) s.heap (ov κ ar x (((Z.sre (updN Z.re (Int32.toNatClampNeg Z.rc) (some k1))).src (Z.rc + 1)).thS k1 ((Z.th k1).sr 1)) G) H _ sz := g_eqw w (ov_wts (S := ((Z.sre (updN Z.re (Int32.toNatClampNeg Z.rc) (some k1))).thS k1 ((Z.th k1).sr 1))) (T := (((Z.sre (updN Z.re (Int32.toNatClampNeg Z.rc) (some k1))).src (Z.rc + 1)).thS k1 ((Z.th k1).sr 1))) hk.v (hk.e (.ts) rfl) rfl ((Ho_ab_thS.trans (Ho_ab_src.trans Ho_ab_sre)).trans (Ho_ab_thS.trans Ho_ab_sre).symm) ((Ho_fc_thS.trans (Ho_fc_src.trans Ho_fc_sre)).trans (Ho_fc_thS.trans Ho_fc_sre).symm) ((Ho_cn_thS.trans (Ho_cn_src.trans Ho_cn_sre)).trans (Ho_cn_thS.trans Ho_cn_sre).symm) ((Ho_me_thS.trans (Ho_me_src.trans Ho_me_sre)).trans (Ho_me_thS.trans Ho_me_sre).symm) ((Ho_nt_thS.trans (Ho_nt_src.trans Ho_nt_sre)).trans (Ho_nt_thS.trans Ho_nt_sre).symm) ((Ho_nr_thS.trans (Ho_nr_src.trans Ho_nr_sre)).trans (Ho_nr_thS.trans Ho_nr_sre).symm) ((Ho_ty_thS.trans (Ho_ty_src.trans Ho_ty_sre)).trans (Ho_ty_thS.trans Ho_ty_sre).symm) ((Ho_to_thS.trans (Ho_to_src.trans Ho_to_sre)).trans (Ho_to_thS.trans Ho_to_sre).symm) ((Ho_ro_thS.trans (Ho_ro_src.trans Ho_ro_sre)).trans (Ho_ro_thS.trans Ho_ro_sre).symm) ((Ho_gl_thS.trans (Ho_gl_src.trans Ho_gl_sre)).trans (Ho_gl_thS.trans Ho_gl_sre).symm) ((Ho_al_thS.trans (Ho_al_src.trans Ho_al_sre)).trans (Ho_al_thS.trans Ho_al_sre).symm) ((Ho_re_thS.trans (Ho_re_src.trans Ho_re_sre)).trans (Ho_re_thS.trans Ho_re_sre).symm) ((Ho_th_thS.trans (congrArg (fun q9 => updF q9 k1 ((Z.th k1).sr 1)) (Ho_th_src.trans Ho_th_sre))).trans (Ho_th_thS.trans (congrArg (fun q9 => updF q9 k1 ((Z.th k1).sr 1)) Ho_th_sre)).symm) ((Ho_fr_thS.trans (Ho_fr_src.trans Ho_fr_sre)).trans (Ho_fr_thS.trans Ho_fr_sre).symm) ((Ho_fn_thS.trans (Ho_fn_src.trans Ho_fn_sre)).trans (Ho_fn_thS.trans Ho_fn_sre).symm) ((Ho_st_thS.trans (Ho_st_src.trans Ho_st_sre)).trans (Ho_st_thS.trans Ho_st_sre).symm) ((Ho_rs_thS.trans (Ho_rs_src.trans Ho_rs_sre)).trans (Ho_rs_thS.trans Ho_rs_sre).symm) ((Ho_an_thS.trans (Ho_an_src.trans Ho_an_sre)).trans (Ho_an_thS.trans Ho_an_sre).symm) ((Ho_sp_thS.trans (Ho_sp_src.trans Ho_sp_sre)).trans (Ho_sp_thS.trans Ho_sp_sre).symm) ((Ho_np_thS.trans (Ho_np_src.trans Ho_np_sre)).trans (Ho_np_thS.trans Ho_np_sre).symm) ((Ho_pg_thS.trans (Ho_pg_src.trans Ho_pg_sre)).trans (Ho_pg_thS.trans Ho_pg_sre).symm) ((Ho_wc_thS.trans (Ho_wc_src.trans Ho_wc_sre)).trans (Ho_wc_thS.trans Ho_wc_sre).symm) ((Ho_ws_thS.trans (Ho_ws_src.trans Ho_ws_sre)).trans (Ho_ws_thS.trans Ho_ws_sre).symm) ((Ho_wp_thS.trans (Ho_wp_src.trans Ho_wp_sre)).trans (Ho_wp_thS.trans Ho_wp_sre).symm))
        exact g_vret hx hb hr hlk w (Nat.le_of_ble_eq_true rfl) (Nat.le_of_ble_eq_true rfl) dX5_reach_57 ⟨_, ((sX5_reach_u Z v0).trans ((oc_s he2).trans ((if_pos c_14).trans (if_neg c_29)))), rfl, ((hk.plain (T := ((Z.sre (updN Z.re (Int32.toNatClampNeg Z.rc) (some k1))).src (Z.rc + 1))) rfl rfl rfl rfl rfl rfl rfl).plain (T := (((Z.sre (updN Z.re (Int32.toNatClampNeg Z.rc) (some k1))).src (Z.rc + 1)).thS k1 ((Z.th k1).sr 1))) rfl rfl rfl rfl rfl rfl rfl), ⟨rfl, rfl, rfl, rfl⟩⟩
noncomputable def LX5_reachFields_28 (x1 : Int32) (S2 : Ho) : Nat → Int32 → Ho → Ho
  | 0, _, S9 => S9
  | nx8 + 1, x8, S9 => oc (S2.re (Int32.toNatClampNeg x1)) (S9) (fun k15 => if (S9.th k15).z ≤ x8 then (S9) else (vc (sX5_reach S9 (pA ((S9.th k15).p) 8 x8)) (fun T25 => LX5_reachFields_28 x1 S2 nx8 (x8 + 1) T25)))
theorem LX5_reachFields_28_u (x1 : Int32) (S2 : Ho) (nx8 : Nat) (x8 : Int32) (S9 : Ho) : LX5_reachFields_28 x1 S2 (nx8 + 1) x8 S9 = oc (S2.re (Int32.toNatClampNeg x1)) (S9) (fun k15 => if (S9.th k15).z ≤ x8 then (S9) else (vc (sX5_reach S9 (pA ((S9.th k15).p) 8 x8)) (fun T25 => LX5_reachFields_28 x1 S2 nx8 (x8 + 1) T25))) := rfl
noncomputable def LX5_reachFields_2 (Z : Ho) : Nat → Int32 → Ho → Ho
  | 0, _, S2 => S2
  | nx1 + 1, x1, S2 => if 60 ≤ x1 then (S2) else (if S2.rc ≤ x1 then (S2) else (vc (LX5_reachFields_28 x1 S2 FU 0 S2) (fun T12 => LX5_reachFields_2 Z nx1 (x1 + 1) T12)))
theorem LX5_reachFields_2_u (Z : Ho) (nx1 : Nat) (x1 : Int32) (S2 : Ho) : LX5_reachFields_2 Z (nx1 + 1) x1 S2 = if 60 ≤ x1 then (S2) else (if S2.rc ≤ x1 then (S2) else (vc (LX5_reachFields_28 x1 S2 FU 0 S2) (fun T12 => LX5_reachFields_2 Z nx1 (x1 + 1) T12))) := rfl
noncomputable def sX5_reachFields (Z : Ho) : Ho := LX5_reachFields_2 Z 61 0 Z
theorem sX5_reachFields_u (Z : Ho) : sX5_reachFields Z = LX5_reachFields_2 Z 61 0 Z := rfl
set_option maxHeartbeats 4000000 in
set_option maxRecDepth 100000 in
theorem hX5_reachFields (l : Launch) (D : va_G) (ar : Nat → ClassId) (κ : Nat → Nat) (G : gW) (x : Xo) (Z : Ho) (sz : Nat) (hk : OK x Z) : Met l yX5_reachFields (lwC yX5_reachFields cX5_reachFields 4 none) (rD 7 0 0) (g_Pc D vwCl (gT ar) (EX1 κ) (ov κ ar x Z G) sz [.ref (x.f .ts)]) (g_Qv D vwCl (g_A (ov κ ar x Z G) sz) (fun u => ∃ T9 : Ho, sX5_reachFields Z = T9 ∧ u = (ov κ ar x T9 G, sz) ∧ OK x T9 ∧ SZ T9 Z)) 0 0 (g_A (ov κ ar x Z G) sz) := by
  refine g_ofW (by decide +kernel) (Nat.le_of_ble_eq_true rfl) ?_
  intro p e s m below meth c ls S hr hlk hin hE w hl
  have hx := S.1
  have hb := S.2.1
  have hl : lv_has ls 4 [(0, .ref (x.f .ts))] := hl
  refine lv_iconst (v := 0) hx hb dX5_reachFields_0 (by decide) ?_
  refine lv_istore_n (lv' := [(1, .int 0), (0, .ref (x.f .ts))]) hx hb dX5_reachFields_1 rfl hl (by decide) rfl (fun ls hl => ?_)
  have key7 : ∀ (nx1 ix1 : Nat), ix1 ≤ 60 → 60 + 1 ≤ ix1 + nx1 → ∀ (x1 : Int32), x1 = nI ix1 → ∀ (S2 : Ho), OK x S2 → SZ S2 Z → sX5_reachFields Z = LX5_reachFields_2 Z nx1 x1 S2 → ∀ (H : Heap) (locs : List Loc) (ls : Array Slot), g_S D vwCl (g_A (ov κ ar x Z G) sz) s.heap (ov κ ar x S2 G) H locs sz → lv_has ls 4 [(1, .int x1), (0, .ref (x.f .ts))] → W p l e (rD 7 0 0) s m ([.ref (x.f .ts)] : List Value).toArray below meth c H locs 0 0 (MQ below (g_Qv D vwCl (g_A (ov κ ar x Z G) sz) (fun u => ∃ T9 : Ho, sX5_reachFields Z = T9 ∧ u = (ov κ ar x T9 G, sz) ∧ OK x T9 ∧ SZ T9 Z)) ([.ref (x.f .ts)] : List Value).toArray s 0 0 (g_A (ov κ ar x Z G) sz)) (F0 m 2 ls []) := by
    intro nx1
    induction nx1 with
    | zero => intro ix1 hix1 hi2; exact absurd hi2 (by omega)
    | succ nx1 ihx1 =>
      intro ix1 hix1 hi2 x1 exx1 S2 hk3 sq4 hsp6 H locs ls w hl
      refine lv_iload_n hx hb dX5_reachFields_2 rfl (lv_at hl 0 rfl) ?_
      refine lv_aload_n hx hb dX5_reachFields_3 rfl (lv_at hl 1 rfl) ?_
      refine gf_RX5_17_11 (v := .ref (x.f .re)) S hE w (ov_r (t := .ts) (hk3.e (.ts) rfl)) rfl dX5_reachFields_4 ?_
      refine va_alen (v := 60) hx hb hE.1 (g_1 w.1 (ov_r (t := .re) (hk3.e (.re) rfl))) 0 6 rfl rfl rfl dX5_reachFields_7 ?_
      refine lv_icmp_ge (tgt := 64) hx hb dX5_reachFields_8 (by decide) (fun c_8 => ?_) (fun c_8 => ?_)
      · exact g_vret hx hb hr hlk w (Nat.le_of_ble_eq_true rfl) (Nat.le_of_ble_eq_true rfl) dX5_reachFields_64 ⟨_, ((hsp6).trans ((LX5_reachFields_2_u Z nx1 x1 S2).trans (if_pos c_8))), rfl, hk3, sq4⟩
      · refine lv_iload_n hx hb dX5_reachFields_11 rfl (lv_at hl 0 rfl) ?_
        refine lv_aload_n hx hb dX5_reachFields_12 rfl (lv_at hl 1 rfl) ?_
        refine gf_RX5_24_11 (v := .int S2.rc) S hE w (ov_r (t := .ts) (hk3.e (.ts) rfl)) rfl dX5_reachFields_13 ?_
        refine lv_icmp_ge (tgt := 64) hx hb dX5_reachFields_16 (by decide) (fun c_16 => ?_) (fun c_16 => ?_)
        · exact g_vret hx hb hr hlk w (Nat.le_of_ble_eq_true rfl) (Nat.le_of_ble_eq_true rfl) dX5_reachFields_64 ⟨_, ((hsp6).trans ((LX5_reachFields_2_u Z nx1 x1 S2).trans ((if_neg c_8).trans (if_pos c_16)))), rfl, hk3, sq4⟩
        · refine lv_aload_n hx hb dX5_reachFields_19 rfl (lv_at hl 1 rfl) ?_
          refine gf_RX5_17_11 (v := .ref (x.f .re)) S hE w (ov_r (t := .ts) (hk3.e (.ts) rfl)) rfl dX5_reachFields_20 ?_
          refine lv_iload_n hx hb dX5_reachFields_23 rfl (lv_at hl 0 rfl) ?_
          refine va_aldq hx hb hE.1 (g_1 w.1 (ov_r (t := .re) (hk3.e (.re) rfl))) 0 6 rfl rfl (in_lt (n := 60) rfl exx1 hix1 (by decide) (by decide) c_8) dX5_reachFields_24 ?_
          show W p l e _ s m _ below meth c _ _ _ _ _ (F0 m 25 ls [va_rf ((S2.re (Int32.toNatClampNeg x1)).map (fun k9 => x.f (.th k9)))])
          refine lv_astore_nQ (lv' := [(2, va_rf ((S2.re (Int32.toNatClampNeg x1)).map (fun k9 => x.f (.th k9)))), (1, .int x1), (0, .ref (x.f .ts))]) hx hb dX5_reachFields_25 rfl hl (by decide) rfl (fun ls hl => ?_)
          refine lv_iconst (v := 0) hx hb dX5_reachFields_26 (by decide) ?_
          refine lv_istore_n (lv' := [(3, .int 0), (2, va_rf ((S2.re (Int32.toNatClampNeg x1)).map (fun k9 => x.f (.th k9)))), (1, .int x1), (0, .ref (x.f .ts))]) hx hb dX5_reachFields_27 rfl hl (by decide) (by generalize S2.re (Int32.toNatClampNeg x1) = z9; cases z9 <;> rfl) (fun ls hl => ?_)
          have key14 : ∀ (nx8 ix8 : Nat), ix8 ≤ 2147483647 → 2147483647 + 1 ≤ ix8 + nx8 → ∀ (x8 : Int32), x8 = nI ix8 → ∀ (S9 : Ho), OK x S9 → SZ S9 Z → (LX5_reachFields_28 x1 S2 FU 0 S2) = LX5_reachFields_28 x1 S2 nx8 x8 S9 → ∀ (H : Heap) (locs : List Loc) (ls : Array Slot), g_S D vwCl (g_A (ov κ ar x Z G) sz) s.heap (ov κ ar x S9 G) H locs sz → lv_has ls 4 [(3, .int x8), (2, va_rf ((S2.re (Int32.toNatClampNeg x1)).map (fun k9 => x.f (.th k9)))), (1, .int x1), (0, .ref (x.f .ts))] → W p l e (rD 7 0 0) s m ([.ref (x.f .ts)] : List Value).toArray below meth c H locs 0 0 (MQ below (g_Qv D vwCl (g_A (ov κ ar x Z G) sz) (fun u => ∃ T9 : Ho, sX5_reachFields Z = T9 ∧ u = (ov κ ar x T9 G, sz) ∧ OK x T9 ∧ SZ T9 Z)) ([.ref (x.f .ts)] : List Value).toArray s 0 0 (g_A (ov κ ar x Z G) sz)) (F0 m 28 ls []) := by
            intro nx8
            induction nx8 with
            | zero => intro ix8 hix8 hi2; exact absurd hi2 (by omega)
            | succ nx8 ihx8 =>
              intro ix8 hix8 hi2 x8 exx8 S9 hk10 sq11 hsp13 H locs ls w hl
              refine lv_aload_nQ hx hb dX5_reachFields_28 rfl (lv_at hl 1 rfl) ?_
              rcases he16 : S2.re (Int32.toNatClampNeg x1) with _ | k15
              · have hl : lv_has ls 4 [(3, .int x8), (2, .null), (1, .int x1), (0, .ref (x.f .ts))] := by rw [he16] at hl; exact hl
                show W p l e _ s m _ below meth c _ _ _ _ _ (F0 m 29 ls [.null])
                refine lv_ifnullN (tgt := 58) hx hb dX5_reachFields_29 (by decide) ?_
                have hx17 : LX5_reachFields_28 x1 S2 FU 0 S2 = S9 := ((hsp13).trans ((LX5_reachFields_28_u x1 S2 nx8 x8 S9).trans (oc_n he16)))
                obtain ⟨T12, eT18⟩ : ∃ T9 : Ho, S9 = T9 := ⟨_, rfl⟩
                rw [eT18] at hx17 w
                have hk19 : OK x T12 := eT18 ▸ hk10
                have sq20 : SZ T12 Z := eT18 ▸ sq11
                have hl : lv_has ls 4 [(2, .null), (1, .int x1), (0, .ref (x.f .ts))] := lv_sub hl [1, 2, 3] rfl
                have hl : lv_has ls 4 [(2, va_rf ((S2.re (Int32.toNatClampNeg x1)).map (fun k9 => x.f (.th k9)))), (1, .int x1), (0, .ref (x.f .ts))] := by rw [he16]; exact hl
                refine lv_iinc (v := x1 + 1) (lv' := [(1, .int (x1 + 1)), (2, va_rf ((S2.re (Int32.toNatClampNeg x1)).map (fun k9 => x.f (.th k9)))), (0, .ref (x.f .ts))]) hx hb dX5_reachFields_58 hl (k := 1) rfl rfl (by decide) rfl (fun ls hl => ?_)
                refine lv_goto (tgt := 2) hx hb dX5_reachFields_61 (by decide) ?_
                exact ihx1 (ix1 + 1) (lp_up (n := 60) rfl exx1 hix1 (by decide) (by decide) (by decide) c_8) (by omega) (x1 + 1) (by rw [exx1]; exact nI_1 ix1) T12 hk19 sq20 ((hsp6).trans ((LX5_reachFields_2_u Z nx1 x1 S2).trans ((if_neg c_8).trans ((if_neg c_16).trans (vc_e hx17))))) H _ ls w (lv_sub hl [0, 2] rfl)
              · have hl : lv_has ls 4 [(3, .int x8), (2, .ref (x.f (.th k15))), (1, .int x1), (0, .ref (x.f .ts))] := by rw [he16] at hl; exact hl
                show W p l e _ s m _ below meth c _ _ _ _ _ (F0 m 29 ls [.ref (x.f (.th k15))])
                refine lv_ifnull hx hb dX5_reachFields_29 ?_
                refine lv_iload_n hx hb dX5_reachFields_32 rfl (lv_at hl 0 rfl) ?_
                refine lv_aload_n hx hb dX5_reachFields_33 rfl (lv_at hl 1 rfl) ?_
                refine gf_RX5_71_10 (v := .int ((S9.th k15).z)) S hE w (ov_r (t := .th k15) (hk10.e (.th k15) rfl)) rfl dX5_reachFields_34 ?_
                refine lv_icmp_ge (tgt := 58) hx hb dX5_reachFields_37 (by decide) (fun c_37 => ?_) (fun c_37 => ?_)
                · have hx21 : LX5_reachFields_28 x1 S2 FU 0 S2 = S9 := ((hsp13).trans ((LX5_reachFields_28_u x1 S2 nx8 x8 S9).trans ((oc_s he16).trans (if_pos c_37))))
                  obtain ⟨T12, eT22⟩ : ∃ T9 : Ho, S9 = T9 := ⟨_, rfl⟩
                  rw [eT22] at hx21 w
                  have hk23 : OK x T12 := eT22 ▸ hk10
                  have sq24 : SZ T12 Z := eT22 ▸ sq11
                  have hl : lv_has ls 4 [(2, .ref (x.f (.th k15))), (1, .int x1), (0, .ref (x.f .ts))] := lv_sub hl [1, 2, 3] rfl
                  have hl : lv_has ls 4 [(2, va_rf ((S2.re (Int32.toNatClampNeg x1)).map (fun k9 => x.f (.th k9)))), (1, .int x1), (0, .ref (x.f .ts))] := by rw [he16]; exact hl
                  refine lv_iinc (v := x1 + 1) (lv' := [(1, .int (x1 + 1)), (2, va_rf ((S2.re (Int32.toNatClampNeg x1)).map (fun k9 => x.f (.th k9)))), (0, .ref (x.f .ts))]) hx hb dX5_reachFields_58 hl (k := 1) rfl rfl (by decide) rfl (fun ls hl => ?_)
                  refine lv_goto (tgt := 2) hx hb dX5_reachFields_61 (by decide) ?_
                  exact ihx1 (ix1 + 1) (lp_up (n := 60) rfl exx1 hix1 (by decide) (by decide) (by decide) c_8) (by omega) (x1 + 1) (by rw [exx1]; exact nI_1 ix1) T12 hk23 sq24 ((hsp6).trans ((LX5_reachFields_2_u Z nx1 x1 S2).trans ((if_neg c_8).trans ((if_neg c_16).trans (vc_e hx21))))) H _ ls w (lv_sub hl [0, 2] rfl)
                · refine lv_aload_n hx hb dX5_reachFields_40 rfl (lv_at hl 3 rfl) ?_
                  refine lv_aload_n hx hb dX5_reachFields_41 rfl (lv_at hl 1 rfl) ?_
                  refine gf_RX5_74_10 (v := .ref (x.f (.tp k15))) S hE w (ov_r (t := .th k15) (hk10.e (.th k15) rfl)) rfl dX5_reachFields_42 ?_
                  refine lv_iload_n hx hb dX5_reachFields_45 rfl (lv_at hl 0 rfl) ?_
                  refine g_calll w (g_runSN (As := [.ref (x.f (.tp k15)), .int x8]) (rest := [.ref (x.f .ts)]) S hE w hl (c_X8_placeAt l D ar κ (ov κ ar x S9 G) sz (x.f (.tp k15)) x8 8 ((S9.th k15).p) (ov_r (t := .tp k15) (hk10.e (.tp k15) rfl)) (by decide)) (k_RX5_78 S.2.2.2.2 (hE.2.1.1 _ (ckN_1 _ (List.mem_of_getElem? (i := 3) rfl))) ⟨Nat.le_of_ble_eq_true rfl, Nat.le_of_ble_eq_true rfl⟩) rfl rfl (Nat.le_of_ble_eq_true rfl) dX5_reachFields_46 ⟨Nat.le_of_ble_eq_true rfl, Nat.le_of_ble_eq_true rfl⟩) (fun r u H locs hp hnz w => ?_)
                  obtain ⟨rfl, rfl⟩ := hp
                  dsimp only at w
                  refine g_callv w (g_runV (As := [.long (pA ((S9.th k15).p) 8 x8)]) (rest := []) S hE w hl (hX5_reach l D ar κ G x S9 sz (pA ((S9.th k15).p) 8 x8) hk10 ) (k_RX5_88 S.2.2.2.2 ⟨Nat.le_of_ble_eq_true rfl, Nat.le_of_ble_eq_true rfl⟩) (ov_r (t := .ts) (hk10.e (.ts) rfl)) rfl rfl rfl rfl (Nat.le_of_ble_eq_true rfl) dX5_reachFields_49 ⟨Nat.le_of_ble_eq_true rfl, Nat.le_of_ble_eq_true rfl⟩) (fun u H locs hp hnz w => ?_)
                  obtain ⟨T25, e26, hu9, hk27, sq28⟩ := hp
                  subst hu9
                  dsimp only at w
                  refine lv_iinc (v := x8 + 1) (lv' := [(3, .int (x8 + 1)), (2, .ref (x.f (.th k15))), (1, .int x1), (0, .ref (x.f .ts))]) hx hb dX5_reachFields_52 hl (k := 0) rfl rfl (by decide) rfl (fun ls hl => ?_)
                  refine lv_goto (tgt := 28) hx hb dX5_reachFields_55 (by decide) ?_
                  have hl : lv_has ls 4 [(3, .int (x8 + 1)), (2, va_rf ((S2.re (Int32.toNatClampNeg x1)).map (fun k9 => x.f (.th k9)))), (1, .int x1), (0, .ref (x.f .ts))] := by rw [he16]; exact hl
                  exact ihx8 (ix8 + 1) (lp_fu exx8 hix8 c_37) (by omega) (x8 + 1) (by rw [exx8]; exact nI_1 ix8) T25 hk27 (SZ.t sq28 sq11) ((hsp13).trans ((LX5_reachFields_28_u x1 S2 nx8 x8 S9).trans ((oc_s he16).trans ((if_neg c_37).trans (vc_e e26))))) H _ ls w (lv_sub hl [0, 1, 2, 3] rfl)
          exact key14 FU 0 (Nat.zero_le _) (by rw [FU_e]; decide) 0 rfl S2 hk3 sq4 rfl _ _ _ w (lv_sub hl [0, 1, 2, 3] rfl)
  exact key7 61 0 (Nat.zero_le _) (by decide) 0 rfl Z hk ⟨rfl, rfl, rfl, rfl⟩ (sX5_reachFields_u Z) _ _ _ w (lv_sub hl [0, 1] rfl)
def LX5_sweep_9 (Z : Ho) : Nat → Int32 → Int32 → Ho → Int32 × Ho
  | 0, _, _, S2 => (0, S2)
  | nx1 + 1, x1, kpx1, S2 => if Z.tc ≤ x1 then ((Z.tc - kpx1, ((S2.stc kpx1).src 0))) else (if 60 ≤ x1 then ((Z.tc - kpx1, ((S2.stc kpx1).src 0))) else (oc (S2.al (Int32.toNatClampNeg x1)) (LX5_sweep_9 Z nx1 (x1 + 1) kpx1 S2) (fun k9 => if (S2.th k9).r = 0 then (LX5_sweep_9 Z nx1 (x1 + 1) kpx1 S2) else (if x1 < kpx1 then (LX5_sweep_9 Z nx1 (x1 + 1) kpx1 S2) else (oc (S2.al (Int32.toNatClampNeg kpx1)) (vc (((S2.sal (updN (updN S2.al (Int32.toNatClampNeg x1) none) (Int32.toNatClampNeg kpx1) (some k9))).thS k9 ((S2.th k9).sr 0))) (fun T13 => LX5_sweep_9 Z nx1 (x1 + 1) (kpx1 + 1) T13)) (fun k11 => vc ((S2.thS k9 ((S2.th k9).sr 0))) (fun T17 => vc ((T17.sal (updN (updN T17.al (Int32.toNatClampNeg x1) (some k11)) (Int32.toNatClampNeg kpx1) (some k9)))) (fun T21 => LX5_sweep_9 Z nx1 (x1 + 1) (kpx1 + 1) T21))))))))
theorem LX5_sweep_9_u (Z : Ho) (nx1 : Nat) (x1 : Int32) (kpx1 : Int32) (S2 : Ho) : LX5_sweep_9 Z (nx1 + 1) x1 kpx1 S2 = if Z.tc ≤ x1 then ((Z.tc - kpx1, ((S2.stc kpx1).src 0))) else (if 60 ≤ x1 then ((Z.tc - kpx1, ((S2.stc kpx1).src 0))) else (oc (S2.al (Int32.toNatClampNeg x1)) (LX5_sweep_9 Z nx1 (x1 + 1) kpx1 S2) (fun k9 => if (S2.th k9).r = 0 then (LX5_sweep_9 Z nx1 (x1 + 1) kpx1 S2) else (if x1 < kpx1 then (LX5_sweep_9 Z nx1 (x1 + 1) kpx1 S2) else (oc (S2.al (Int32.toNatClampNeg kpx1)) (vc (((S2.sal (updN (updN S2.al (Int32.toNatClampNeg x1) none) (Int32.toNatClampNeg kpx1) (some k9))).thS k9 ((S2.th k9).sr 0))) (fun T13 => LX5_sweep_9 Z nx1 (x1 + 1) (kpx1 + 1) T13)) (fun k11 => vc ((S2.thS k9 ((S2.th k9).sr 0))) (fun T17 => vc ((T17.sal (updN (updN T17.al (Int32.toNatClampNeg x1) (some k11)) (Int32.toNatClampNeg kpx1) (some k9)))) (fun T21 => LX5_sweep_9 Z nx1 (x1 + 1) (kpx1 + 1) T21)))))))) := rfl
def sX5_sweep (Z : Ho) : Int32 × Ho := LX5_sweep_9 Z 61 0 0 Z
theorem sX5_sweep_u (Z : Ho) : sX5_sweep Z = LX5_sweep_9 Z 61 0 0 Z := rfl
set_option maxHeartbeats 4000000 in
set_option maxRecDepth 100000 in
theorem hX5_sweep (l : Launch) (D : va_G) (ar : Nat → ClassId) (κ : Nat → Nat) (G : gW) (x : Xo) (Z : Ho) (sz : Nat) (hk : OK x Z) : Met l yX5_sweep (lwC yX5_sweep cX5_sweep 5 (some .int)) (rD 4 0 0) (g_Pc D vwCl (gT ar) (EX1 κ) (ov κ ar x Z G) sz [.ref (x.f .ts)]) (g_Qi D vwCl (g_A (ov κ ar x Z G) sz) (fun r u => ∃ T9 : Ho, sX5_sweep Z = (r, T9) ∧ u = (ov κ ar x T9 G, sz) ∧ OK x T9 ∧ SZ T9 Z)) 0 0 (g_A (ov κ ar x Z G) sz) := by
  refine g_ofW (by decide +kernel) (Nat.le_of_ble_eq_true rfl) ?_
  intro p e s m below meth c ls S hr hlk hin hE w hl
  have hx := S.1
  have hb := S.2.1
  have hl : lv_has ls 5 [(0, .ref (x.f .ts))] := hl
  refine lv_aload_n hx hb dX5_sweep_0 rfl (lv_at hl 0 rfl) ?_
  refine gf_RX5_20_11 (v := .int Z.tc) S hE w (ov_r (t := .ts) (hk.e (.ts) rfl)) rfl dX5_sweep_1 ?_
  refine lv_istore_n (lv' := [(1, .int Z.tc), (0, .ref (x.f .ts))]) hx hb dX5_sweep_4 rfl hl (by decide) rfl (fun ls hl => ?_)
  refine lv_iconst (v := 0) hx hb dX5_sweep_5 (by decide) ?_
  refine lv_istore_n (lv' := [(2, .int 0), (1, .int Z.tc), (0, .ref (x.f .ts))]) hx hb dX5_sweep_6 rfl hl (by decide) rfl (fun ls hl => ?_)
  refine lv_iconst (v := 0) hx hb dX5_sweep_7 (by decide) ?_
  refine lv_istore_n (lv' := [(3, .int 0), (2, .int 0), (1, .int Z.tc), (0, .ref (x.f .ts))]) hx hb dX5_sweep_8 rfl hl (by decide) rfl (fun ls hl => ?_)
  have key7 : ∀ (nx1 ix1 : Nat), ix1 ≤ 60 → 60 + 1 ≤ ix1 + nx1 → ∀ (x1 : Int32), x1 = nI ix1 → ∀ (kpx1 : Int32), ∀ (S2 : Ho), OK x S2 → SZ S2 Z → (0 ≤ kpx1) → sX5_sweep Z = LX5_sweep_9 Z nx1 x1 kpx1 S2 → ∀ (H : Heap) (locs : List Loc) (ls : Array Slot), g_S D vwCl (g_A (ov κ ar x Z G) sz) s.heap (ov κ ar x S2 G) H locs sz → lv_has ls 5 [(3, .int x1), (2, .int kpx1), (1, .int Z.tc), (0, .ref (x.f .ts))] → W p l e (rD 4 0 0) s m ([.ref (x.f .ts)] : List Value).toArray below meth c H locs 0 0 (MQ below (g_Qi D vwCl (g_A (ov κ ar x Z G) sz) (fun r u => ∃ T9 : Ho, sX5_sweep Z = (r, T9) ∧ u = (ov κ ar x T9 G, sz) ∧ OK x T9 ∧ SZ T9 Z)) ([.ref (x.f .ts)] : List Value).toArray s 0 0 (g_A (ov κ ar x Z G) sz)) (F0 m 9 ls []) := by
    intro nx1
    induction nx1 with
    | zero => intro ix1 hix1 hi2; exact absurd hi2 (by omega)
    | succ nx1 ihx1 =>
      intro ix1 hix1 hi2 x1 exx1 kpx1 S2 hk3 sq4 hinv8 hsp6 H locs ls w hl
      refine lv_iload_n hx hb dX5_sweep_9 rfl (lv_at hl 0 rfl) ?_
      refine lv_iload_n hx hb dX5_sweep_10 rfl (lv_at hl 2 rfl) ?_
      refine lv_icmp_ge (tgt := 84) hx hb dX5_sweep_11 (by decide) (fun c_11 => ?_) (fun c_11 => ?_)
      · refine lv_aload_n hx hb dX5_sweep_84 rfl (lv_at hl 3 rfl) ?_
        refine lv_iload_n hx hb dX5_sweep_85 rfl (lv_at hl 1 rfl) ?_
        refine pf_RX5_20_11 (fs1 := [.ref (x.f .al), .ref (x.f .re), .int kpx1, .int S2.rc, .int S2.mk]) S hE w (ov_r (t := .ts) (hk3.e (.ts) rfl)) rfl rfl (Nat.le_of_ble_eq_true rfl) rfl dX5_sweep_86 (fun H locs w => ?_)
        have w : g_S D vwCl (g_A (ov κ ar x Z G) sz) s.heap (ov κ ar x (S2.stc kpx1) G) H _ sz := g_eqw w (ov_wts (S := S2) (T := (S2.stc kpx1)) hk3.v (hk3.e (.ts) rfl) rfl Ho_ab_stc Ho_fc_stc Ho_cn_stc Ho_me_stc Ho_nt_stc Ho_nr_stc Ho_ty_stc Ho_to_stc Ho_ro_stc Ho_gl_stc Ho_al_stc Ho_re_stc Ho_th_stc Ho_fr_stc Ho_fn_stc Ho_st_stc Ho_rs_stc Ho_an_stc Ho_sp_stc Ho_np_stc Ho_pg_stc Ho_wc_stc Ho_ws_stc Ho_wp_stc)
        refine lv_aload_n hx hb dX5_sweep_89 rfl (lv_at hl 3 rfl) ?_
        refine lv_iconst (v := 0) hx hb dX5_sweep_90 (by decide) ?_
        refine pf_RX5_24_11 (fs1 := [.ref (x.f .al), .ref (x.f .re), .int kpx1, .int 0, .int S2.mk]) S hE w (ov_r (t := .ts) (hk3.e (.ts) rfl)) rfl rfl (Nat.le_of_ble_eq_true rfl) rfl dX5_sweep_91 (fun H locs w => ?_)
        have w : g_S D vwCl (g_A (ov κ ar x Z G) sz) s.heap (ov κ ar x ((S2.stc kpx1).src 0) G) H _ sz := g_eqw w (ov_wts (S := (S2.stc kpx1)) (T := ((S2.stc kpx1).src 0)) hk3.v (hk3.e (.ts) rfl) rfl ((Ho_ab_src.trans Ho_ab_stc).trans Ho_ab_stc.symm) ((Ho_fc_src.trans Ho_fc_stc).trans Ho_fc_stc.symm) ((Ho_cn_src.trans Ho_cn_stc).trans Ho_cn_stc.symm) ((Ho_me_src.trans Ho_me_stc).trans Ho_me_stc.symm) ((Ho_nt_src.trans Ho_nt_stc).trans Ho_nt_stc.symm) ((Ho_nr_src.trans Ho_nr_stc).trans Ho_nr_stc.symm) ((Ho_ty_src.trans Ho_ty_stc).trans Ho_ty_stc.symm) ((Ho_to_src.trans Ho_to_stc).trans Ho_to_stc.symm) ((Ho_ro_src.trans Ho_ro_stc).trans Ho_ro_stc.symm) ((Ho_gl_src.trans Ho_gl_stc).trans Ho_gl_stc.symm) ((Ho_al_src.trans Ho_al_stc).trans Ho_al_stc.symm) ((Ho_re_src.trans Ho_re_stc).trans Ho_re_stc.symm) ((Ho_th_src.trans Ho_th_stc).trans Ho_th_stc.symm) ((Ho_fr_src.trans Ho_fr_stc).trans Ho_fr_stc.symm) ((Ho_fn_src.trans Ho_fn_stc).trans Ho_fn_stc.symm) ((Ho_st_src.trans Ho_st_stc).trans Ho_st_stc.symm) ((Ho_rs_src.trans Ho_rs_stc).trans Ho_rs_stc.symm) ((Ho_an_src.trans Ho_an_stc).trans Ho_an_stc.symm) ((Ho_sp_src.trans Ho_sp_stc).trans Ho_sp_stc.symm) ((Ho_np_src.trans Ho_np_stc).trans Ho_np_stc.symm) ((Ho_pg_src.trans Ho_pg_stc).trans Ho_pg_stc.symm) ((Ho_wc_src.trans Ho_wc_stc).trans Ho_wc_stc.symm) ((Ho_ws_src.trans Ho_ws_stc).trans Ho_ws_stc.symm) ((Ho_wp_src.trans Ho_wp_stc).trans Ho_wp_stc.symm))
        refine lv_iload_n hx hb dX5_sweep_94 rfl (lv_at hl 2 rfl) ?_
        refine lv_iload_n hx hb dX5_sweep_95 rfl (lv_at hl 1 rfl) ?_
        refine lv_isub hx hb dX5_sweep_96 ?_
        exact g_iret hx hb hr hlk w (Nat.le_of_ble_eq_true rfl) (Nat.le_of_ble_eq_true rfl) dX5_sweep_97 ⟨_, ((hsp6).trans ((LX5_sweep_9_u Z nx1 x1 kpx1 S2).trans (if_pos c_11))), rfl, (hk3.plain (T := ((S2.stc kpx1).src 0)) rfl rfl rfl rfl rfl rfl rfl), sq4⟩
      · refine lv_iload_n hx hb dX5_sweep_14 rfl (lv_at hl 0 rfl) ?_
        refine lv_aload_n hx hb dX5_sweep_15 rfl (lv_at hl 3 rfl) ?_
        refine gf_RX5_11_11 (v := .ref (x.f .al)) S hE w (ov_r (t := .ts) (hk3.e (.ts) rfl)) rfl dX5_sweep_16 ?_
        refine va_alen (v := 60) hx hb hE.1 (g_1 w.1 (ov_r (t := .al) (hk3.e (.al) rfl))) 0 6 rfl rfl rfl dX5_sweep_19 ?_
        refine lv_icmp_ge (tgt := 84) hx hb dX5_sweep_20 (by decide) (fun c_20 => ?_) (fun c_20 => ?_)
        · refine lv_aload_n hx hb dX5_sweep_84 rfl (lv_at hl 3 rfl) ?_
          refine lv_iload_n hx hb dX5_sweep_85 rfl (lv_at hl 1 rfl) ?_
          refine pf_RX5_20_11 (fs1 := [.ref (x.f .al), .ref (x.f .re), .int kpx1, .int S2.rc, .int S2.mk]) S hE w (ov_r (t := .ts) (hk3.e (.ts) rfl)) rfl rfl (Nat.le_of_ble_eq_true rfl) rfl dX5_sweep_86 (fun H locs w => ?_)
          have w : g_S D vwCl (g_A (ov κ ar x Z G) sz) s.heap (ov κ ar x (S2.stc kpx1) G) H _ sz := g_eqw w (ov_wts (S := S2) (T := (S2.stc kpx1)) hk3.v (hk3.e (.ts) rfl) rfl Ho_ab_stc Ho_fc_stc Ho_cn_stc Ho_me_stc Ho_nt_stc Ho_nr_stc Ho_ty_stc Ho_to_stc Ho_ro_stc Ho_gl_stc Ho_al_stc Ho_re_stc Ho_th_stc Ho_fr_stc Ho_fn_stc Ho_st_stc Ho_rs_stc Ho_an_stc Ho_sp_stc Ho_np_stc Ho_pg_stc Ho_wc_stc Ho_ws_stc Ho_wp_stc)
          refine lv_aload_n hx hb dX5_sweep_89 rfl (lv_at hl 3 rfl) ?_
          refine lv_iconst (v := 0) hx hb dX5_sweep_90 (by decide) ?_
          refine pf_RX5_24_11 (fs1 := [.ref (x.f .al), .ref (x.f .re), .int kpx1, .int 0, .int S2.mk]) S hE w (ov_r (t := .ts) (hk3.e (.ts) rfl)) rfl rfl (Nat.le_of_ble_eq_true rfl) rfl dX5_sweep_91 (fun H locs w => ?_)
          have w : g_S D vwCl (g_A (ov κ ar x Z G) sz) s.heap (ov κ ar x ((S2.stc kpx1).src 0) G) H _ sz := g_eqw w (ov_wts (S := (S2.stc kpx1)) (T := ((S2.stc kpx1).src 0)) hk3.v (hk3.e (.ts) rfl) rfl ((Ho_ab_src.trans Ho_ab_stc).trans Ho_ab_stc.symm) ((Ho_fc_src.trans Ho_fc_stc).trans Ho_fc_stc.symm) ((Ho_cn_src.trans Ho_cn_stc).trans Ho_cn_stc.symm) ((Ho_me_src.trans Ho_me_stc).trans Ho_me_stc.symm) ((Ho_nt_src.trans Ho_nt_stc).trans Ho_nt_stc.symm) ((Ho_nr_src.trans Ho_nr_stc).trans Ho_nr_stc.symm) ((Ho_ty_src.trans Ho_ty_stc).trans Ho_ty_stc.symm) ((Ho_to_src.trans Ho_to_stc).trans Ho_to_stc.symm) ((Ho_ro_src.trans Ho_ro_stc).trans Ho_ro_stc.symm) ((Ho_gl_src.trans Ho_gl_stc).trans Ho_gl_stc.symm) ((Ho_al_src.trans Ho_al_stc).trans Ho_al_stc.symm) ((Ho_re_src.trans Ho_re_stc).trans Ho_re_stc.symm) ((Ho_th_src.trans Ho_th_stc).trans Ho_th_stc.symm) ((Ho_fr_src.trans Ho_fr_stc).trans Ho_fr_stc.symm) ((Ho_fn_src.trans Ho_fn_stc).trans Ho_fn_stc.symm) ((Ho_st_src.trans Ho_st_stc).trans Ho_st_stc.symm) ((Ho_rs_src.trans Ho_rs_stc).trans Ho_rs_stc.symm) ((Ho_an_src.trans Ho_an_stc).trans Ho_an_stc.symm) ((Ho_sp_src.trans Ho_sp_stc).trans Ho_sp_stc.symm) ((Ho_np_src.trans Ho_np_stc).trans Ho_np_stc.symm) ((Ho_pg_src.trans Ho_pg_stc).trans Ho_pg_stc.symm) ((Ho_wc_src.trans Ho_wc_stc).trans Ho_wc_stc.symm) ((Ho_ws_src.trans Ho_ws_stc).trans Ho_ws_stc.symm) ((Ho_wp_src.trans Ho_wp_stc).trans Ho_wp_stc.symm))
          refine lv_iload_n hx hb dX5_sweep_94 rfl (lv_at hl 2 rfl) ?_
          refine lv_iload_n hx hb dX5_sweep_95 rfl (lv_at hl 1 rfl) ?_
          refine lv_isub hx hb dX5_sweep_96 ?_
          exact g_iret hx hb hr hlk w (Nat.le_of_ble_eq_true rfl) (Nat.le_of_ble_eq_true rfl) dX5_sweep_97 ⟨_, ((hsp6).trans ((LX5_sweep_9_u Z nx1 x1 kpx1 S2).trans ((if_neg c_11).trans (if_pos c_20)))), rfl, (hk3.plain (T := ((S2.stc kpx1).src 0)) rfl rfl rfl rfl rfl rfl rfl), sq4⟩
        · refine lv_aload_n hx hb dX5_sweep_23 rfl (lv_at hl 3 rfl) ?_
          refine gf_RX5_11_11 (v := .ref (x.f .al)) S hE w (ov_r (t := .ts) (hk3.e (.ts) rfl)) rfl dX5_sweep_24 ?_
          refine lv_iload_n hx hb dX5_sweep_27 rfl (lv_at hl 0 rfl) ?_
          refine va_aldq hx hb hE.1 (g_1 w.1 (ov_r (t := .al) (hk3.e (.al) rfl))) 0 6 rfl rfl (in_lt (n := 60) rfl exx1 hix1 (by decide) (by decide) c_20) dX5_sweep_28 ?_
          show W p l e _ s m _ below meth c _ _ _ _ _ (F0 m 29 ls [va_rf ((S2.al (Int32.toNatClampNeg x1)).map (fun k9 => x.f (.th k9)))])
          refine lv_astoreQ (lv' := [(4, va_rf ((S2.al (Int32.toNatClampNeg x1)).map (fun k9 => x.f (.th k9)))), (3, .int x1), (2, .int kpx1), (1, .int Z.tc), (0, .ref (x.f .ts))]) hx hb dX5_sweep_29 hl (by decide) rfl (fun ls hl => ?_)
          refine lv_aloadQ hx hb dX5_sweep_31 (lv_at hl 0 rfl) ?_
          rcases he10 : S2.al (Int32.toNatClampNeg x1) with _ | k9
          · have hl : lv_has ls 5 [(4, .null), (3, .int x1), (2, .int kpx1), (1, .int Z.tc), (0, .ref (x.f .ts))] := by rw [he10] at hl; exact hl
            show W p l e _ s m _ below meth c _ _ _ _ _ (F0 m 33 ls [.null])
            refine lv_ifnullN (tgt := 78) hx hb dX5_sweep_33 (by decide) ?_
            refine lv_iinc (v := x1 + 1) (lv' := [(3, .int (x1 + 1)), (4, .null), (2, .int kpx1), (1, .int Z.tc), (0, .ref (x.f .ts))]) hx hb dX5_sweep_78 hl (k := 1) rfl rfl (by decide) rfl (fun ls hl => ?_)
            refine lv_goto (tgt := 9) hx hb dX5_sweep_81 (by decide) ?_
            exact ihx1 (ix1 + 1) (lp_up (n := 60) rfl exx1 hix1 (by decide) (by decide) (by decide) c_20) (by omega) (x1 + 1) (by rw [exx1]; exact nI_1 ix1) kpx1 S2 hk3 sq4 hinv8 ((hsp6).trans ((LX5_sweep_9_u Z nx1 x1 kpx1 S2).trans ((if_neg c_11).trans ((if_neg c_20).trans (oc_n he10))))) H _ ls w (lv_sub hl [0, 2, 3, 4] rfl)
          · have hl : lv_has ls 5 [(4, .ref (x.f (.th k9))), (3, .int x1), (2, .int kpx1), (1, .int Z.tc), (0, .ref (x.f .ts))] := by rw [he10] at hl; exact hl
            show W p l e _ s m _ below meth c _ _ _ _ _ (F0 m 33 ls [.ref (x.f (.th k9))])
            refine lv_ifnull hx hb dX5_sweep_33 ?_
            refine lv_aload hx hb dX5_sweep_36 (lv_at hl 0 rfl) ?_
            refine gf_RX5_85_10 (v := .int ((S2.th k9).r)) S hE w (ov_r (t := .th k9) (hk3.e (.th k9) rfl)) rfl dX5_sweep_38 ?_
            refine lv_if_eq (tgt := 78) hx hb dX5_sweep_41 (by decide) (fun c_41 => ?_) (fun c_41 => ?_)
            · refine lv_iinc (v := x1 + 1) (lv' := [(3, .int (x1 + 1)), (4, .ref (x.f (.th k9))), (2, .int kpx1), (1, .int Z.tc), (0, .ref (x.f .ts))]) hx hb dX5_sweep_78 hl (k := 1) rfl rfl (by decide) rfl (fun ls hl => ?_)
              refine lv_goto (tgt := 9) hx hb dX5_sweep_81 (by decide) ?_
              exact ihx1 (ix1 + 1) (lp_up (n := 60) rfl exx1 hix1 (by decide) (by decide) (by decide) c_20) (by omega) (x1 + 1) (by rw [exx1]; exact nI_1 ix1) kpx1 S2 hk3 sq4 hinv8 ((hsp6).trans ((LX5_sweep_9_u Z nx1 x1 kpx1 S2).trans ((if_neg c_11).trans ((if_neg c_20).trans ((oc_s he10).trans (if_pos c_41)))))) H _ ls w (lv_sub hl [0, 2, 3, 4] rfl)
            · refine lv_iload_n hx hb dX5_sweep_44 rfl (lv_at hl 2 rfl) ?_
              refine lv_iload_n hx hb dX5_sweep_45 rfl (lv_at hl 1 rfl) ?_
              refine lv_icmp_gt (tgt := 78) hx hb dX5_sweep_46 (by decide) (fun c_46 => ?_) (fun c_46 => ?_)
              · refine lv_iinc (v := x1 + 1) (lv' := [(3, .int (x1 + 1)), (4, .ref (x.f (.th k9))), (2, .int kpx1), (1, .int Z.tc), (0, .ref (x.f .ts))]) hx hb dX5_sweep_78 hl (k := 1) rfl rfl (by decide) rfl (fun ls hl => ?_)
                refine lv_goto (tgt := 9) hx hb dX5_sweep_81 (by decide) ?_
                exact ihx1 (ix1 + 1) (lp_up (n := 60) rfl exx1 hix1 (by decide) (by decide) (by decide) c_20) (by omega) (x1 + 1) (by rw [exx1]; exact nI_1 ix1) kpx1 S2 hk3 sq4 hinv8 ((hsp6).trans ((LX5_sweep_9_u Z nx1 x1 kpx1 S2).trans ((if_neg c_11).trans ((if_neg c_20).trans ((oc_s he10).trans ((if_neg c_41).trans (if_pos c_46))))))) H _ ls w (lv_sub hl [0, 2, 3, 4] rfl)
              · refine lv_aload hx hb dX5_sweep_49 (lv_at hl 0 rfl) ?_
                refine lv_iconst (v := 0) hx hb dX5_sweep_51 (by decide) ?_
                refine pf_RX5_85_10 (fs1 := [.ref (x.f (.tp k9)), .int ((S2.th k9).n), .int ((S2.th k9).c), .int ((S2.th k9).z), .int 0]) S hE w (ov_r (t := .th k9) (hk3.e (.th k9) rfl)) rfl rfl (Nat.le_of_ble_eq_true rfl) rfl dX5_sweep_52 (fun H locs w => ?_)
                have w := g_eqw w (congrArg (fun Z9 => g_up (ov κ ar x Z9 G) (x.f (.th k9)) (.inr (10, [.ref (x.f (.tp k9)), .int ((S2.th k9).n), .int ((S2.th k9).c), .int ((S2.th k9).z), .int 0]))) (thS_id (S := S2) (i := k9)).symm)
                have w : g_S D vwCl (g_A (ov κ ar x Z G) sz) s.heap (ov κ ar x (S2.thS k9 ((S2.th k9).sr 0)) G) H _ sz := g_eqw w (ov_wth (S := S2) (v := (S2.th k9)) (v' := ((S2.th k9).sr 0)) hk3.v (hk3.e (.th k9) rfl) rfl Th_p_sr)
                refine lv_aload_n hx hb dX5_sweep_55 rfl (lv_at hl 4 rfl) ?_
                refine gf_RX5_11_11 (v := .ref (x.f .al)) S hE w (ov_r (t := .ts) (hk3.e (.ts) rfl)) rfl dX5_sweep_56 ?_
                refine lv_iload_n hx hb dX5_sweep_59 rfl (lv_at hl 1 rfl) ?_
                refine lv_aload_n hx hb dX5_sweep_60 rfl (lv_at hl 4 rfl) ?_
                refine gf_RX5_11_11 (v := .ref (x.f .al)) S hE w (ov_r (t := .ts) (hk3.e (.ts) rfl)) rfl dX5_sweep_61 ?_
                refine lv_iload_n hx hb dX5_sweep_64 rfl (lv_at hl 2 rfl) ?_
                refine va_aldq hx hb hE.1 (g_1 w.1 (ov_r (t := .al) (hk3.e (.al) rfl))) 0 6 rfl rfl (kp_in rfl exx1 hix1 c_20 hinv8 c_46) dX5_sweep_65 ?_
                show W p l e _ s m _ below meth c _ _ _ _ _ (F0 m 66 ls [va_rf ((S2.al (Int32.toNatClampNeg kpx1)).map (fun k9 => x.f (.th k9))), .int x1, .ref (x.f .al)])
                rcases he12 : S2.al (Int32.toNatClampNeg kpx1) with _ | k11
                · show W p l e _ s m _ below meth c _ _ _ _ _ (F0 m 66 ls [.null, .int x1, .ref (x.f .al)])
                  refine g_astqN hx hb hE.1 w 6 (ov_r (t := .al) (hk3.e (.al) rfl)) rfl (in_lt (n := 60) rfl exx1 hix1 (by decide) (by decide) c_20) dX5_sweep_66 (fun H locs w => ?_)
                  have w := g_eqw w (congrArg (fun Z9 => g_up (ov κ ar x (S2.thS k9 ((S2.th k9).sr 0)) G) (x.f .al) (.inl (ar 6, 60, .inr (.inr (.inr (.inr Z9)))))) (up_map (g := S2.al) (F := (fun k9 => x.f (.th k9))) (i := (Int32.toNatClampNeg x1)) (e := none)))
                  have w : g_S D vwCl (g_A (ov κ ar x Z G) sz) s.heap (ov κ ar x ((S2.sal (updN S2.al (Int32.toNatClampNeg x1) none)).thS k9 ((S2.th k9).sr 0)) G) H _ sz := g_eqw w (ov_wal (S := (S2.thS k9 ((S2.th k9).sr 0))) (T := ((S2.sal (updN S2.al (Int32.toNatClampNeg x1) none)).thS k9 ((S2.th k9).sr 0))) hk3.v (hk3.e .al rfl) rfl ((Ho_ab_thS.trans Ho_ab_sal).trans Ho_ab_thS.symm) ((Ho_fc_thS.trans Ho_fc_sal).trans Ho_fc_thS.symm) ((Ho_cn_thS.trans Ho_cn_sal).trans Ho_cn_thS.symm) ((Ho_me_thS.trans Ho_me_sal).trans Ho_me_thS.symm) ((Ho_nt_thS.trans Ho_nt_sal).trans Ho_nt_thS.symm) ((Ho_nr_thS.trans Ho_nr_sal).trans Ho_nr_thS.symm) ((Ho_ty_thS.trans Ho_ty_sal).trans Ho_ty_thS.symm) ((Ho_to_thS.trans Ho_to_sal).trans Ho_to_thS.symm) ((Ho_ro_thS.trans Ho_ro_sal).trans Ho_ro_thS.symm) ((Ho_gl_thS.trans Ho_gl_sal).trans Ho_gl_thS.symm) ((Ho_re_thS.trans Ho_re_sal).trans Ho_re_thS.symm) ((Ho_th_thS.trans (congrArg (fun q9 => updF q9 k9 ((S2.th k9).sr 0)) Ho_th_sal)).trans Ho_th_thS.symm) ((Ho_tc_thS.trans Ho_tc_sal).trans Ho_tc_thS.symm) ((Ho_rc_thS.trans Ho_rc_sal).trans Ho_rc_thS.symm) ((Ho_mk_thS.trans Ho_mk_sal).trans Ho_mk_thS.symm) ((Ho_fr_thS.trans Ho_fr_sal).trans Ho_fr_thS.symm) ((Ho_fn_thS.trans Ho_fn_sal).trans Ho_fn_thS.symm) ((Ho_st_thS.trans Ho_st_sal).trans Ho_st_thS.symm) ((Ho_rs_thS.trans Ho_rs_sal).trans Ho_rs_thS.symm) ((Ho_an_thS.trans Ho_an_sal).trans Ho_an_thS.symm) ((Ho_sp_thS.trans Ho_sp_sal).trans Ho_sp_thS.symm) ((Ho_np_thS.trans Ho_np_sal).trans Ho_np_thS.symm) ((Ho_pg_thS.trans Ho_pg_sal).trans Ho_pg_thS.symm) ((Ho_wc_thS.trans Ho_wc_sal).trans Ho_wc_thS.symm) ((Ho_ws_thS.trans Ho_ws_sal).trans Ho_ws_thS.symm) ((Ho_wp_thS.trans Ho_wp_sal).trans Ho_wp_thS.symm))
                  refine lv_aload_n hx hb dX5_sweep_67 rfl (lv_at hl 4 rfl) ?_
                  refine gf_RX5_11_11 (v := .ref (x.f .al)) S hE w (ov_r (t := .ts) (hk3.e (.ts) rfl)) rfl dX5_sweep_68 ?_
                  refine lv_iload_n hx hb dX5_sweep_71 rfl (lv_at hl 2 rfl) ?_
                  refine lv_aload hx hb dX5_sweep_72 (lv_at hl 0 rfl) ?_
                  refine g_astq (r := (RX4, TX4, 5)) hx hb hE.1 w 6 10 (ov_r (t := .al) (hk3.e (.al) rfl)) rfl (ov_rth (hk3.e (.th k9) rfl)) rfl (kp_in rfl exx1 hix1 c_20 hinv8 c_46) dX5_sweep_74 (fun H locs w => ?_)
                  have w := g_eqw w (congrArg (fun Z9 => g_up (ov κ ar x ((S2.sal (updN S2.al (Int32.toNatClampNeg x1) none)).thS k9 ((S2.th k9).sr 0)) G) (x.f .al) (.inl (ar 6, 60, .inr (.inr (.inr (.inr Z9)))))) (up_map (g := (updN S2.al (Int32.toNatClampNeg x1) none)) (F := (fun k9 => x.f (.th k9))) (i := (Int32.toNatClampNeg kpx1)) (e := (some k9))))
                  have w : g_S D vwCl (g_A (ov κ ar x Z G) sz) s.heap (ov κ ar x ((S2.sal (updN (updN S2.al (Int32.toNatClampNeg x1) none) (Int32.toNatClampNeg kpx1) (some k9))).thS k9 ((S2.th k9).sr 0)) G) H _ sz := g_eqw w (ov_wal (S := ((S2.sal (updN S2.al (Int32.toNatClampNeg x1) none)).thS k9 ((S2.th k9).sr 0))) (T := ((S2.sal (updN (updN S2.al (Int32.toNatClampNeg x1) none) (Int32.toNatClampNeg kpx1) (some k9))).thS k9 ((S2.th k9).sr 0))) hk3.v (hk3.e .al rfl) rfl ((Ho_ab_thS.trans Ho_ab_sal).trans (Ho_ab_thS.trans Ho_ab_sal).symm) ((Ho_fc_thS.trans Ho_fc_sal).trans (Ho_fc_thS.trans Ho_fc_sal).symm) ((Ho_cn_thS.trans Ho_cn_sal).trans (Ho_cn_thS.trans Ho_cn_sal).symm) ((Ho_me_thS.trans Ho_me_sal).trans (Ho_me_thS.trans Ho_me_sal).symm) ((Ho_nt_thS.trans Ho_nt_sal).trans (Ho_nt_thS.trans Ho_nt_sal).symm) ((Ho_nr_thS.trans Ho_nr_sal).trans (Ho_nr_thS.trans Ho_nr_sal).symm) ((Ho_ty_thS.trans Ho_ty_sal).trans (Ho_ty_thS.trans Ho_ty_sal).symm) ((Ho_to_thS.trans Ho_to_sal).trans (Ho_to_thS.trans Ho_to_sal).symm) ((Ho_ro_thS.trans Ho_ro_sal).trans (Ho_ro_thS.trans Ho_ro_sal).symm) ((Ho_gl_thS.trans Ho_gl_sal).trans (Ho_gl_thS.trans Ho_gl_sal).symm) ((Ho_re_thS.trans Ho_re_sal).trans (Ho_re_thS.trans Ho_re_sal).symm) ((Ho_th_thS.trans (congrArg (fun q9 => updF q9 k9 ((S2.th k9).sr 0)) Ho_th_sal)).trans (Ho_th_thS.trans (congrArg (fun q9 => updF q9 k9 ((S2.th k9).sr 0)) Ho_th_sal)).symm) ((Ho_tc_thS.trans Ho_tc_sal).trans (Ho_tc_thS.trans Ho_tc_sal).symm) ((Ho_rc_thS.trans Ho_rc_sal).trans (Ho_rc_thS.trans Ho_rc_sal).symm) ((Ho_mk_thS.trans Ho_mk_sal).trans (Ho_mk_thS.trans Ho_mk_sal).symm) ((Ho_fr_thS.trans Ho_fr_sal).trans (Ho_fr_thS.trans Ho_fr_sal).symm) ((Ho_fn_thS.trans Ho_fn_sal).trans (Ho_fn_thS.trans Ho_fn_sal).symm) ((Ho_st_thS.trans Ho_st_sal).trans (Ho_st_thS.trans Ho_st_sal).symm) ((Ho_rs_thS.trans Ho_rs_sal).trans (Ho_rs_thS.trans Ho_rs_sal).symm) ((Ho_an_thS.trans Ho_an_sal).trans (Ho_an_thS.trans Ho_an_sal).symm) ((Ho_sp_thS.trans Ho_sp_sal).trans (Ho_sp_thS.trans Ho_sp_sal).symm) ((Ho_np_thS.trans Ho_np_sal).trans (Ho_np_thS.trans Ho_np_sal).symm) ((Ho_pg_thS.trans Ho_pg_sal).trans (Ho_pg_thS.trans Ho_pg_sal).symm) ((Ho_wc_thS.trans Ho_wc_sal).trans (Ho_wc_thS.trans Ho_wc_sal).symm) ((Ho_ws_thS.trans Ho_ws_sal).trans (Ho_ws_thS.trans Ho_ws_sal).symm) ((Ho_wp_thS.trans Ho_wp_sal).trans (Ho_wp_thS.trans Ho_wp_sal).symm))
                  refine lv_iinc (v := kpx1 + 1) (lv' := [(2, .int (kpx1 + 1)), (4, .ref (x.f (.th k9))), (3, .int x1), (1, .int Z.tc), (0, .ref (x.f .ts))]) hx hb dX5_sweep_75 hl (k := 2) rfl rfl (by decide) rfl (fun ls hl => ?_)
                  refine lv_iinc (v := x1 + 1) (lv' := [(3, .int (x1 + 1)), (2, .int (kpx1 + 1)), (4, .ref (x.f (.th k9))), (1, .int Z.tc), (0, .ref (x.f .ts))]) hx hb dX5_sweep_78 hl (k := 2) rfl rfl (by decide) rfl (fun ls hl => ?_)
                  refine lv_goto (tgt := 9) hx hb dX5_sweep_81 (by decide) ?_
                  have hk150 : OK x ((S2.sal (updN (updN S2.al (Int32.toNatClampNeg x1) none) (Int32.toNatClampNeg kpx1) (some k9))).thS k9 ((S2.th k9).sr 0)) := ((hk3.plain (T := (S2.sal (updN (updN S2.al (Int32.toNatClampNeg x1) none) (Int32.toNatClampNeg kpx1) (some k9)))) rfl rfl rfl rfl rfl rfl rfl).plain (T := ((S2.sal (updN (updN S2.al (Int32.toNatClampNeg x1) none) (Int32.toNatClampNeg kpx1) (some k9))).thS k9 ((S2.th k9).sr 0))) rfl rfl rfl rfl rfl rfl rfl)
                  obtain ⟨T13, eT14⟩ : ∃ T9 : Ho, ((S2.sal (updN (updN S2.al (Int32.toNatClampNeg x1) none) (Int32.toNatClampNeg kpx1) (some k9))).thS k9 ((S2.th k9).sr 0)) = T9 := ⟨_, rfl⟩
                  have hk15 : OK x T13 := eT14 ▸ hk150
                  have sq16 : SZ T13 Z := eT14 ▸ (show SZ ((S2.sal (updN (updN S2.al (Int32.toNatClampNeg x1) none) (Int32.toNatClampNeg kpx1) (some k9))).thS k9 ((S2.th k9).sr 0)) Z from sq4)
                  have w := g_eqw w (congrArg (fun Z9 => ov κ ar x Z9 G) eT14)
                  exact ihx1 (ix1 + 1) (lp_up (n := 60) rfl exx1 hix1 (by decide) (by decide) (by decide) c_20) (by omega) (x1 + 1) (by rw [exx1]; exact nI_1 ix1) (kpx1 + 1) T13 hk15 sq16 (kp_up rfl exx1 hix1 c_20 hinv8 c_46) ((hsp6).trans ((LX5_sweep_9_u Z nx1 x1 kpx1 S2).trans ((if_neg c_11).trans ((if_neg c_20).trans ((oc_s he10).trans ((if_neg c_41).trans ((if_neg c_46).trans ((oc_n he12).trans (vc_e eT14))))))))) H _ ls w (lv_sub hl [0, 1, 3, 4] rfl)
                · show W p l e _ s m _ below meth c _ _ _ _ _ (F0 m 66 ls [.ref (x.f (.th k11)), .int x1, .ref (x.f .al)])
                  have hk190 : OK x (S2.thS k9 ((S2.th k9).sr 0)) := (hk3.plain (T := (S2.thS k9 ((S2.th k9).sr 0))) rfl rfl rfl rfl rfl rfl rfl)
                  obtain ⟨T17, eT18⟩ : ∃ T9 : Ho, (S2.thS k9 ((S2.th k9).sr 0)) = T9 := ⟨_, rfl⟩
                  have hk19 : OK x T17 := eT18 ▸ hk190
                  have sq20 : SZ T17 Z := eT18 ▸ (show SZ (S2.thS k9 ((S2.th k9).sr 0)) Z from sq4)
                  have w := g_eqw w (congrArg (fun Z9 => ov κ ar x Z9 G) eT18)
                  refine g_astq (r := (RX4, TX4, 5)) hx hb hE.1 w 6 10 (ov_r (t := .al) (hk19.e (.al) rfl)) rfl (ov_r (t := .th k11) (hk19.e (.th k11) rfl)) rfl (in_lt (n := 60) rfl exx1 hix1 (by decide) (by decide) c_20) dX5_sweep_66 (fun H locs w => ?_)
                  have w := g_eqw w (congrArg (fun Z9 => g_up (ov κ ar x T17 G) (x.f .al) (.inl (ar 6, 60, .inr (.inr (.inr (.inr Z9)))))) (up_map (g := T17.al) (F := (fun k9 => x.f (.th k9))) (i := (Int32.toNatClampNeg x1)) (e := (some k11))))
                  have w : g_S D vwCl (g_A (ov κ ar x Z G) sz) s.heap (ov κ ar x (T17.sal (updN T17.al (Int32.toNatClampNeg x1) (some k11))) G) H _ sz := g_eqw w (ov_wal (S := T17) (T := (T17.sal (updN T17.al (Int32.toNatClampNeg x1) (some k11)))) hk19.v (hk19.e .al rfl) rfl Ho_ab_sal Ho_fc_sal Ho_cn_sal Ho_me_sal Ho_nt_sal Ho_nr_sal Ho_ty_sal Ho_to_sal Ho_ro_sal Ho_gl_sal Ho_re_sal Ho_th_sal Ho_tc_sal Ho_rc_sal Ho_mk_sal Ho_fr_sal Ho_fn_sal Ho_st_sal Ho_rs_sal Ho_an_sal Ho_sp_sal Ho_np_sal Ho_pg_sal Ho_wc_sal Ho_ws_sal Ho_wp_sal)
                  refine lv_aload_n hx hb dX5_sweep_67 rfl (lv_at hl 4 rfl) ?_
                  refine gf_RX5_11_11 (v := .ref (x.f .al)) S hE w (ov_r (t := .ts) (hk19.e (.ts) rfl)) rfl dX5_sweep_68 ?_
                  refine lv_iload_n hx hb dX5_sweep_71 rfl (lv_at hl 2 rfl) ?_
                  refine lv_aload hx hb dX5_sweep_72 (lv_at hl 0 rfl) ?_
                  refine g_astq (r := (RX4, TX4, 5)) hx hb hE.1 w 6 10 (ov_r (t := .al) (hk19.e (.al) rfl)) rfl (ov_r (t := .th k9) (hk19.e (.th k9) rfl)) rfl (kp_in rfl exx1 hix1 c_20 hinv8 c_46) dX5_sweep_74 (fun H locs w => ?_)
                  have w := g_eqw w (congrArg (fun Z9 => g_up (ov κ ar x (T17.sal (updN T17.al (Int32.toNatClampNeg x1) (some k11))) G) (x.f .al) (.inl (ar 6, 60, .inr (.inr (.inr (.inr Z9)))))) (up_map (g := (updN T17.al (Int32.toNatClampNeg x1) (some k11))) (F := (fun k9 => x.f (.th k9))) (i := (Int32.toNatClampNeg kpx1)) (e := (some k9))))
                  have w : g_S D vwCl (g_A (ov κ ar x Z G) sz) s.heap (ov κ ar x (T17.sal (updN (updN T17.al (Int32.toNatClampNeg x1) (some k11)) (Int32.toNatClampNeg kpx1) (some k9))) G) H _ sz := g_eqw w (ov_wal (S := (T17.sal (updN T17.al (Int32.toNatClampNeg x1) (some k11)))) (T := (T17.sal (updN (updN T17.al (Int32.toNatClampNeg x1) (some k11)) (Int32.toNatClampNeg kpx1) (some k9)))) hk19.v (hk19.e .al rfl) rfl (Ho_ab_sal.trans Ho_ab_sal.symm) (Ho_fc_sal.trans Ho_fc_sal.symm) (Ho_cn_sal.trans Ho_cn_sal.symm) (Ho_me_sal.trans Ho_me_sal.symm) (Ho_nt_sal.trans Ho_nt_sal.symm) (Ho_nr_sal.trans Ho_nr_sal.symm) (Ho_ty_sal.trans Ho_ty_sal.symm) (Ho_to_sal.trans Ho_to_sal.symm) (Ho_ro_sal.trans Ho_ro_sal.symm) (Ho_gl_sal.trans Ho_gl_sal.symm) (Ho_re_sal.trans Ho_re_sal.symm) (Ho_th_sal.trans Ho_th_sal.symm) (Ho_tc_sal.trans Ho_tc_sal.symm) (Ho_rc_sal.trans Ho_rc_sal.symm) (Ho_mk_sal.trans Ho_mk_sal.symm) (Ho_fr_sal.trans Ho_fr_sal.symm) (Ho_fn_sal.trans Ho_fn_sal.symm) (Ho_st_sal.trans Ho_st_sal.symm) (Ho_rs_sal.trans Ho_rs_sal.symm) (Ho_an_sal.trans Ho_an_sal.symm) (Ho_sp_sal.trans Ho_sp_sal.symm) (Ho_np_sal.trans Ho_np_sal.symm) (Ho_pg_sal.trans Ho_pg_sal.symm) (Ho_wc_sal.trans Ho_wc_sal.symm) (Ho_ws_sal.trans Ho_ws_sal.symm) (Ho_wp_sal.trans Ho_wp_sal.symm))
                  refine lv_iinc (v := kpx1 + 1) (lv' := [(2, .int (kpx1 + 1)), (4, .ref (x.f (.th k9))), (3, .int x1), (1, .int Z.tc), (0, .ref (x.f .ts))]) hx hb dX5_sweep_75 hl (k := 2) rfl rfl (by decide) rfl (fun ls hl => ?_)
                  refine lv_iinc (v := x1 + 1) (lv' := [(3, .int (x1 + 1)), (2, .int (kpx1 + 1)), (4, .ref (x.f (.th k9))), (1, .int Z.tc), (0, .ref (x.f .ts))]) hx hb dX5_sweep_78 hl (k := 2) rfl rfl (by decide) rfl (fun ls hl => ?_)
                  refine lv_goto (tgt := 9) hx hb dX5_sweep_81 (by decide) ?_
                  have hk230 : OK x (T17.sal (updN (updN T17.al (Int32.toNatClampNeg x1) (some k11)) (Int32.toNatClampNeg kpx1) (some k9))) := (hk19.plain (T := (T17.sal (updN (updN T17.al (Int32.toNatClampNeg x1) (some k11)) (Int32.toNatClampNeg kpx1) (some k9)))) rfl rfl rfl rfl rfl rfl rfl)
                  obtain ⟨T21, eT22⟩ : ∃ T9 : Ho, (T17.sal (updN (updN T17.al (Int32.toNatClampNeg x1) (some k11)) (Int32.toNatClampNeg kpx1) (some k9))) = T9 := ⟨_, rfl⟩
                  have hk23 : OK x T21 := eT22 ▸ hk230
                  have sq24 : SZ T21 Z := eT22 ▸ (show SZ (T17.sal (updN (updN T17.al (Int32.toNatClampNeg x1) (some k11)) (Int32.toNatClampNeg kpx1) (some k9))) Z from sq20)
                  have w := g_eqw w (congrArg (fun Z9 => ov κ ar x Z9 G) eT22)
                  exact ihx1 (ix1 + 1) (lp_up (n := 60) rfl exx1 hix1 (by decide) (by decide) (by decide) c_20) (by omega) (x1 + 1) (by rw [exx1]; exact nI_1 ix1) (kpx1 + 1) T21 hk23 sq24 (kp_up rfl exx1 hix1 c_20 hinv8 c_46) ((hsp6).trans ((LX5_sweep_9_u Z nx1 x1 kpx1 S2).trans ((if_neg c_11).trans ((if_neg c_20).trans ((oc_s he10).trans ((if_neg c_41).trans ((if_neg c_46).trans ((oc_s he12).trans ((vc_e eT18).trans (vc_e eT22)))))))))) H _ ls w (lv_sub hl [0, 1, 3, 4] rfl)
  exact key7 61 0 (Nat.zero_le _) (by decide) 0 rfl 0 Z hk ⟨rfl, rfl, rfl, rfl⟩ (by decide) (sX5_sweep_u Z) _ _ _ w (lv_sub hl [0, 1, 2, 3] rfl)
