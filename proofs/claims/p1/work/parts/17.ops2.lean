theorem dX5_classOfValue_0 : decode cX5_classOfValue 0 = .ok (.lload_n 1, 1) := by decide +kernel
theorem dX5_classOfValue_1 : decode cX5_classOfValue 1 = .ok (.invokestatic 54, 3) := by decide +kernel
theorem dX5_classOfValue_4 : decode cX5_classOfValue 4 = .ok (.ifCond .eq 5, 3) := by decide +kernel
theorem dX5_classOfValue_7 : decode cX5_classOfValue 7 = .ok (.iconst 1, 1) := by decide +kernel
theorem dX5_classOfValue_8 : decode cX5_classOfValue 8 = .ok (.ireturn, 1) := by decide +kernel
theorem dX5_classOfValue_9 : decode cX5_classOfValue 9 = .ok (.aload_n 0, 1) := by decide +kernel
theorem dX5_classOfValue_10 : decode cX5_classOfValue 10 = .ok (.lload_n 1, 1) := by decide +kernel
theorem dX5_classOfValue_11 : decode cX5_classOfValue 11 = .ok (.invokevirtual 57, 3) := by decide +kernel
theorem dX5_classOfValue_14 : decode cX5_classOfValue 14 = .ok (.astore_n 3, 1) := by decide +kernel
theorem dX5_classOfValue_15 : decode cX5_classOfValue 15 = .ok (.aload_n 3, 1) := by decide +kernel
theorem dX5_classOfValue_16 : decode cX5_classOfValue 16 = .ok (.ifnonnull 7, 3) := by decide +kernel
theorem dX5_classOfValue_19 : decode cX5_classOfValue 19 = .ok (.iconst 2, 1) := by decide +kernel
theorem dX5_classOfValue_20 : decode cX5_classOfValue 20 = .ok (.goto 7, 3) := by decide +kernel
theorem dX5_classOfValue_23 : decode cX5_classOfValue 23 = .ok (.aload_n 3, 1) := by decide +kernel
theorem dX5_classOfValue_24 : decode cX5_classOfValue 24 = .ok (.getfield 61, 3) := by decide +kernel
theorem dX5_classOfValue_27 : decode cX5_classOfValue 27 = .ok (.ireturn, 1) := by decide +kernel
theorem dX5_reachFields_0 : decode cX5_reachFields 0 = .ok (.iconst 0, 1) := by decide +kernel
theorem dX5_reachFields_1 : decode cX5_reachFields 1 = .ok (.istore_n 1, 1) := by decide +kernel
theorem dX5_reachFields_2 : decode cX5_reachFields 2 = .ok (.iload_n 1, 1) := by decide +kernel
theorem dX5_reachFields_3 : decode cX5_reachFields 3 = .ok (.aload_n 0, 1) := by decide +kernel
theorem dX5_reachFields_4 : decode cX5_reachFields 4 = .ok (.getfield 17, 3) := by decide +kernel
theorem dX5_reachFields_7 : decode cX5_reachFields 7 = .ok (.arraylength, 1) := by decide +kernel
theorem dX5_reachFields_8 : decode cX5_reachFields 8 = .ok (.if_icmp .ge 56, 3) := by decide +kernel
theorem dX5_reachFields_11 : decode cX5_reachFields 11 = .ok (.iload_n 1, 1) := by decide +kernel
theorem dX5_reachFields_12 : decode cX5_reachFields 12 = .ok (.aload_n 0, 1) := by decide +kernel
theorem dX5_reachFields_13 : decode cX5_reachFields 13 = .ok (.getfield 24, 3) := by decide +kernel
theorem dX5_reachFields_16 : decode cX5_reachFields 16 = .ok (.if_icmp .ge 48, 3) := by decide +kernel
theorem dX5_reachFields_19 : decode cX5_reachFields 19 = .ok (.aload_n 0, 1) := by decide +kernel
theorem dX5_reachFields_20 : decode cX5_reachFields 20 = .ok (.getfield 17, 3) := by decide +kernel
theorem dX5_reachFields_23 : decode cX5_reachFields 23 = .ok (.iload_n 1, 1) := by decide +kernel
theorem dX5_reachFields_24 : decode cX5_reachFields 24 = .ok (.aaload, 1) := by decide +kernel
theorem dX5_reachFields_25 : decode cX5_reachFields 25 = .ok (.astore_n 2, 1) := by decide +kernel
theorem dX5_reachFields_26 : decode cX5_reachFields 26 = .ok (.iconst 0, 1) := by decide +kernel
theorem dX5_reachFields_27 : decode cX5_reachFields 27 = .ok (.istore_n 3, 1) := by decide +kernel
theorem dX5_reachFields_28 : decode cX5_reachFields 28 = .ok (.aload_n 2, 1) := by decide +kernel
theorem dX5_reachFields_29 : decode cX5_reachFields 29 = .ok (.ifnull 29, 3) := by decide +kernel
theorem dX5_reachFields_32 : decode cX5_reachFields 32 = .ok (.iload_n 3, 1) := by decide +kernel
theorem dX5_reachFields_33 : decode cX5_reachFields 33 = .ok (.aload_n 2, 1) := by decide +kernel
theorem dX5_reachFields_34 : decode cX5_reachFields 34 = .ok (.getfield 71, 3) := by decide +kernel
theorem dX5_reachFields_37 : decode cX5_reachFields 37 = .ok (.if_icmp .ge 21, 3) := by decide +kernel
theorem dX5_reachFields_40 : decode cX5_reachFields 40 = .ok (.aload_n 0, 1) := by decide +kernel
theorem dX5_reachFields_41 : decode cX5_reachFields 41 = .ok (.aload_n 2, 1) := by decide +kernel
theorem dX5_reachFields_42 : decode cX5_reachFields 42 = .ok (.getfield 74, 3) := by decide +kernel
theorem dX5_reachFields_45 : decode cX5_reachFields 45 = .ok (.iload_n 3, 1) := by decide +kernel
theorem dX5_reachFields_46 : decode cX5_reachFields 46 = .ok (.invokestatic 78, 3) := by decide +kernel
theorem dX5_reachFields_49 : decode cX5_reachFields 49 = .ok (.invokevirtual 88, 3) := by decide +kernel
theorem dX5_reachFields_52 : decode cX5_reachFields 52 = .ok (.iinc 3 1, 3) := by decide +kernel
theorem dX5_reachFields_55 : decode cX5_reachFields 55 = .ok (.goto (-27), 3) := by decide +kernel
theorem dX5_reachFields_58 : decode cX5_reachFields 58 = .ok (.iinc 1 1, 3) := by decide +kernel
theorem dX5_reachFields_61 : decode cX5_reachFields 61 = .ok (.goto (-59), 3) := by decide +kernel
theorem dX5_reachFields_64 : decode cX5_reachFields 64 = .ok (.return_, 1) := by decide +kernel
theorem dX5_sweep_0 : decode cX5_sweep 0 = .ok (.aload_n 0, 1) := by decide +kernel
theorem dX5_sweep_1 : decode cX5_sweep 1 = .ok (.getfield 20, 3) := by decide +kernel
theorem dX5_sweep_4 : decode cX5_sweep 4 = .ok (.istore_n 1, 1) := by decide +kernel
theorem dX5_sweep_5 : decode cX5_sweep 5 = .ok (.iconst 0, 1) := by decide +kernel
theorem dX5_sweep_6 : decode cX5_sweep 6 = .ok (.istore_n 2, 1) := by decide +kernel
theorem dX5_sweep_7 : decode cX5_sweep 7 = .ok (.iconst 0, 1) := by decide +kernel
theorem dX5_sweep_8 : decode cX5_sweep 8 = .ok (.istore_n 3, 1) := by decide +kernel
theorem dX5_sweep_9 : decode cX5_sweep 9 = .ok (.iload_n 3, 1) := by decide +kernel
theorem dX5_sweep_10 : decode cX5_sweep 10 = .ok (.iload_n 1, 1) := by decide +kernel
theorem dX5_sweep_11 : decode cX5_sweep 11 = .ok (.if_icmp .ge 73, 3) := by decide +kernel
theorem dX5_sweep_14 : decode cX5_sweep 14 = .ok (.iload_n 3, 1) := by decide +kernel
theorem dX5_sweep_15 : decode cX5_sweep 15 = .ok (.aload_n 0, 1) := by decide +kernel
theorem dX5_sweep_16 : decode cX5_sweep 16 = .ok (.getfield 11, 3) := by decide +kernel
theorem dX5_sweep_19 : decode cX5_sweep 19 = .ok (.arraylength, 1) := by decide +kernel
theorem dX5_sweep_20 : decode cX5_sweep 20 = .ok (.if_icmp .ge 64, 3) := by decide +kernel
theorem dX5_sweep_23 : decode cX5_sweep 23 = .ok (.aload_n 0, 1) := by decide +kernel
theorem dX5_sweep_24 : decode cX5_sweep 24 = .ok (.getfield 11, 3) := by decide +kernel
theorem dX5_sweep_27 : decode cX5_sweep 27 = .ok (.iload_n 3, 1) := by decide +kernel
theorem dX5_sweep_28 : decode cX5_sweep 28 = .ok (.aaload, 1) := by decide +kernel
theorem dX5_sweep_29 : decode cX5_sweep 29 = .ok (.astore 4, 2) := by decide +kernel
theorem dX5_sweep_31 : decode cX5_sweep 31 = .ok (.aload 4, 2) := by decide +kernel
theorem dX5_sweep_33 : decode cX5_sweep 33 = .ok (.ifnull 45, 3) := by decide +kernel
theorem dX5_sweep_36 : decode cX5_sweep 36 = .ok (.aload 4, 2) := by decide +kernel
theorem dX5_sweep_38 : decode cX5_sweep 38 = .ok (.getfield 85, 3) := by decide +kernel
theorem dX5_sweep_41 : decode cX5_sweep 41 = .ok (.ifCond .eq 37, 3) := by decide +kernel
theorem dX5_sweep_44 : decode cX5_sweep 44 = .ok (.iload_n 2, 1) := by decide +kernel
theorem dX5_sweep_45 : decode cX5_sweep 45 = .ok (.iload_n 3, 1) := by decide +kernel
theorem dX5_sweep_46 : decode cX5_sweep 46 = .ok (.if_icmp .gt 32, 3) := by decide +kernel
theorem dX5_sweep_49 : decode cX5_sweep 49 = .ok (.aload 4, 2) := by decide +kernel
theorem dX5_sweep_51 : decode cX5_sweep 51 = .ok (.iconst 0, 1) := by decide +kernel
theorem dX5_sweep_52 : decode cX5_sweep 52 = .ok (.putfield 85, 3) := by decide +kernel
theorem dX5_sweep_55 : decode cX5_sweep 55 = .ok (.aload_n 0, 1) := by decide +kernel
theorem dX5_sweep_56 : decode cX5_sweep 56 = .ok (.getfield 11, 3) := by decide +kernel
theorem dX5_sweep_59 : decode cX5_sweep 59 = .ok (.iload_n 3, 1) := by decide +kernel
theorem dX5_sweep_60 : decode cX5_sweep 60 = .ok (.aload_n 0, 1) := by decide +kernel
theorem dX5_sweep_61 : decode cX5_sweep 61 = .ok (.getfield 11, 3) := by decide +kernel
theorem dX5_sweep_64 : decode cX5_sweep 64 = .ok (.iload_n 2, 1) := by decide +kernel
theorem dX5_sweep_65 : decode cX5_sweep 65 = .ok (.aaload, 1) := by decide +kernel
theorem dX5_sweep_66 : decode cX5_sweep 66 = .ok (.aastore, 1) := by decide +kernel
theorem dX5_sweep_67 : decode cX5_sweep 67 = .ok (.aload_n 0, 1) := by decide +kernel
theorem dX5_sweep_68 : decode cX5_sweep 68 = .ok (.getfield 11, 3) := by decide +kernel
theorem dX5_sweep_71 : decode cX5_sweep 71 = .ok (.iload_n 2, 1) := by decide +kernel
theorem dX5_sweep_72 : decode cX5_sweep 72 = .ok (.aload 4, 2) := by decide +kernel
theorem dX5_sweep_74 : decode cX5_sweep 74 = .ok (.aastore, 1) := by decide +kernel
theorem dX5_sweep_75 : decode cX5_sweep 75 = .ok (.iinc 2 1, 3) := by decide +kernel
theorem dX5_sweep_78 : decode cX5_sweep 78 = .ok (.iinc 3 1, 3) := by decide +kernel
theorem dX5_sweep_81 : decode cX5_sweep 81 = .ok (.goto (-72), 3) := by decide +kernel
theorem dX5_sweep_84 : decode cX5_sweep 84 = .ok (.aload_n 0, 1) := by decide +kernel
theorem dX5_sweep_85 : decode cX5_sweep 85 = .ok (.iload_n 2, 1) := by decide +kernel
theorem dX5_sweep_86 : decode cX5_sweep 86 = .ok (.putfield 20, 3) := by decide +kernel
theorem dX5_sweep_89 : decode cX5_sweep 89 = .ok (.aload_n 0, 1) := by decide +kernel
theorem dX5_sweep_90 : decode cX5_sweep 90 = .ok (.iconst 0, 1) := by decide +kernel
theorem dX5_sweep_91 : decode cX5_sweep 91 = .ok (.putfield 24, 3) := by decide +kernel
theorem dX5_sweep_94 : decode cX5_sweep 94 = .ok (.iload_n 1, 1) := by decide +kernel
theorem dX5_sweep_95 : decode cX5_sweep 95 = .ok (.iload_n 2, 1) := by decide +kernel
theorem dX5_sweep_96 : decode cX5_sweep 96 = .ok (.isub, 1) := by decide +kernel
theorem dX5_sweep_97 : decode cX5_sweep 97 = .ok (.ireturn, 1) := by decide +kernel
theorem dX5_hasFieldsThere_0 : decode cX5_hasFieldsThere 0 = .ok (.iconst 0, 1) := by decide +kernel
theorem dX5_hasFieldsThere_1 : decode cX5_hasFieldsThere 1 = .ok (.istore_n 1, 1) := by decide +kernel
theorem dX5_hasFieldsThere_2 : decode cX5_hasFieldsThere 2 = .ok (.iload_n 1, 1) := by decide +kernel
theorem dX5_hasFieldsThere_3 : decode cX5_hasFieldsThere 3 = .ok (.aload_n 0, 1) := by decide +kernel
theorem dX5_hasFieldsThere_4 : decode cX5_hasFieldsThere 4 = .ok (.getfield 20, 3) := by decide +kernel
theorem dX5_hasFieldsThere_7 : decode cX5_hasFieldsThere 7 = .ok (.if_icmp .ge 29, 3) := by decide +kernel
theorem dX5_hasFieldsThere_10 : decode cX5_hasFieldsThere 10 = .ok (.aload_n 0, 1) := by decide +kernel
theorem dX5_hasFieldsThere_11 : decode cX5_hasFieldsThere 11 = .ok (.iload_n 1, 1) := by decide +kernel
theorem dX5_hasFieldsThere_12 : decode cX5_hasFieldsThere 12 = .ok (.invokevirtual 64, 3) := by decide +kernel
theorem dX5_hasFieldsThere_15 : decode cX5_hasFieldsThere 15 = .ok (.astore_n 2, 1) := by decide +kernel
theorem dX5_hasFieldsThere_16 : decode cX5_hasFieldsThere 16 = .ok (.aload_n 2, 1) := by decide +kernel
theorem dX5_hasFieldsThere_17 : decode cX5_hasFieldsThere 17 = .ok (.ifnull 11, 3) := by decide +kernel
theorem dX5_hasFieldsThere_20 : decode cX5_hasFieldsThere 20 = .ok (.aload_n 0, 1) := by decide +kernel
theorem dX5_hasFieldsThere_21 : decode cX5_hasFieldsThere 21 = .ok (.aload_n 2, 1) := by decide +kernel
theorem dX5_hasFieldsThere_22 : decode cX5_hasFieldsThere 22 = .ok (.invokevirtual 67, 3) := by decide +kernel
theorem dX5_hasFieldsThere_25 : decode cX5_hasFieldsThere 25 = .ok (.ifCond .ne 5, 3) := by decide +kernel
theorem dX5_hasFieldsThere_28 : decode cX5_hasFieldsThere 28 = .ok (.iconst 0, 1) := by decide +kernel
theorem dX5_hasFieldsThere_29 : decode cX5_hasFieldsThere 29 = .ok (.ireturn, 1) := by decide +kernel
theorem dX5_hasFieldsThere_30 : decode cX5_hasFieldsThere 30 = .ok (.iinc 1 1, 3) := by decide +kernel
theorem dX5_hasFieldsThere_33 : decode cX5_hasFieldsThere 33 = .ok (.goto (-31), 3) := by decide +kernel
theorem dX5_hasFieldsThere_36 : decode cX5_hasFieldsThere 36 = .ok (.iconst 1, 1) := by decide +kernel
theorem dX5_hasFieldsThere_37 : decode cX5_hasFieldsThere 37 = .ok (.ireturn, 1) := by decide +kernel
theorem dX4_open_0 : decode cX4_open 0 = .ok (.aload_n 0, 1) := by decide +kernel
theorem dX4_open_1 : decode cX4_open 1 = .ok (.iload_n 1, 1) := by decide +kernel
theorem dX4_open_2 : decode cX4_open 2 = .ok (.putfield 15, 3) := by decide +kernel
theorem dX4_open_5 : decode cX4_open 5 = .ok (.aload_n 0, 1) := by decide +kernel
theorem dX4_open_6 : decode cX4_open 6 = .ok (.iload_n 2, 1) := by decide +kernel
theorem dX4_open_7 : decode cX4_open 7 = .ok (.putfield 19, 3) := by decide +kernel
theorem dX4_open_10 : decode cX4_open 10 = .ok (.aload_n 0, 1) := by decide +kernel
theorem dX4_open_11 : decode cX4_open 11 = .ok (.iload_n 3, 1) := by decide +kernel
theorem dX4_open_12 : decode cX4_open 12 = .ok (.putfield 22, 3) := by decide +kernel
theorem dX4_open_15 : decode cX4_open 15 = .ok (.aload_n 0, 1) := by decide +kernel
theorem dX4_open_16 : decode cX4_open 16 = .ok (.iconst 0, 1) := by decide +kernel
theorem dX4_open_17 : decode cX4_open 17 = .ok (.putfield 25, 3) := by decide +kernel
theorem dX4_open_20 : decode cX4_open 20 = .ok (.aload_n 0, 1) := by decide +kernel
theorem dX4_open_21 : decode cX4_open 21 = .ok (.getfield 9, 3) := by decide +kernel
theorem dX4_open_24 : decode cX4_open 24 = .ok (.ldc2_w 29, 3) := by decide +kernel
theorem dX4_open_27 : decode cX4_open 27 = .ok (.invokestatic 31, 3) := by decide +kernel
theorem dX4_open_30 : decode cX4_open 30 = .ok (.return_, 1) := by decide +kernel
theorem dX5_enlist_0 : decode cX5_enlist 0 = .ok (.aload_n 0, 1) := by decide +kernel
theorem dX5_enlist_1 : decode cX5_enlist 1 = .ok (.getfield 27, 3) := by decide +kernel
theorem dX5_enlist_4 : decode cX5_enlist 4 = .ok (.istore_n 3, 1) := by decide +kernel
theorem dX5_enlist_5 : decode cX5_enlist 5 = .ok (.aload_n 0, 1) := by decide +kernel
theorem dX5_enlist_6 : decode cX5_enlist 6 = .ok (.getfield 20, 3) := by decide +kernel
theorem dX5_enlist_9 : decode cX5_enlist 9 = .ok (.aload_n 0, 1) := by decide +kernel
theorem dX5_enlist_10 : decode cX5_enlist 10 = .ok (.getfield 11, 3) := by decide +kernel
theorem dX5_enlist_13 : decode cX5_enlist 13 = .ok (.arraylength, 1) := by decide +kernel
theorem dX5_enlist_14 : decode cX5_enlist 14 = .ok (.invokestatic 31, 3) := by decide +kernel
theorem dX5_enlist_17 : decode cX5_enlist 17 = .ok (.ifCond .eq 15, 3) := by decide +kernel
theorem dX5_enlist_20 : decode cX5_enlist 20 = .ok (.aload_n 0, 1) := by decide +kernel
theorem dX5_enlist_21 : decode cX5_enlist 21 = .ok (.getfield 11, 3) := by decide +kernel
theorem dX5_enlist_24 : decode cX5_enlist 24 = .ok (.aload_n 0, 1) := by decide +kernel
theorem dX5_enlist_25 : decode cX5_enlist 25 = .ok (.getfield 20, 3) := by decide +kernel
theorem dX5_enlist_28 : decode cX5_enlist 28 = .ok (.aaload, 1) := by decide +kernel
theorem dX5_enlist_29 : decode cX5_enlist 29 = .ok (.goto 4, 3) := by decide +kernel
theorem dX5_enlist_32 : decode cX5_enlist 32 = .ok (.aconst_null, 1) := by decide +kernel
theorem dX5_enlist_33 : decode cX5_enlist 33 = .ok (.astore 4, 2) := by decide +kernel
theorem dX5_enlist_35 : decode cX5_enlist 35 = .ok (.aload 4, 2) := by decide +kernel
theorem dX5_enlist_37 : decode cX5_enlist 37 = .ok (.ifnull 31, 3) := by decide +kernel
theorem dX5_enlist_40 : decode cX5_enlist 40 = .ok (.aload 4, 2) := by decide +kernel
theorem dX5_enlist_42 : decode cX5_enlist 42 = .ok (.iload_n 3, 1) := by decide +kernel
theorem dX5_enlist_43 : decode cX5_enlist 43 = .ok (.iload_n 1, 1) := by decide +kernel
theorem dX5_enlist_44 : decode cX5_enlist 44 = .ok (.iload_n 2, 1) := by decide +kernel
theorem dX5_enlist_45 : decode cX5_enlist 45 = .ok (.invokevirtual 35, 3) := by decide +kernel
theorem dX5_enlist_48 : decode cX5_enlist 48 = .ok (.aload_n 0, 1) := by decide +kernel
theorem dX5_enlist_49 : decode cX5_enlist 49 = .ok (.dup, 1) := by decide +kernel
theorem dX5_enlist_50 : decode cX5_enlist 50 = .ok (.getfield 20, 3) := by decide +kernel
theorem dX5_enlist_53 : decode cX5_enlist 53 = .ok (.iconst 1, 1) := by decide +kernel
theorem dX5_enlist_54 : decode cX5_enlist 54 = .ok (.iadd, 1) := by decide +kernel
theorem dX5_enlist_55 : decode cX5_enlist 55 = .ok (.putfield 20, 3) := by decide +kernel
theorem dX5_enlist_58 : decode cX5_enlist 58 = .ok (.aload_n 0, 1) := by decide +kernel
theorem dX5_enlist_59 : decode cX5_enlist 59 = .ok (.dup, 1) := by decide +kernel
theorem dX5_enlist_60 : decode cX5_enlist 60 = .ok (.getfield 27, 3) := by decide +kernel
theorem dX5_enlist_63 : decode cX5_enlist 63 = .ok (.iconst 1, 1) := by decide +kernel
theorem dX5_enlist_64 : decode cX5_enlist 64 = .ok (.iadd, 1) := by decide +kernel
theorem dX5_enlist_65 : decode cX5_enlist 65 = .ok (.putfield 27, 3) := by decide +kernel
theorem dX5_enlist_68 : decode cX5_enlist 68 = .ok (.iload_n 3, 1) := by decide +kernel
theorem dX5_enlist_69 : decode cX5_enlist 69 = .ok (.ireturn, 1) := by decide +kernel
theorem dX8_make_0 : decode cX8_make 0 = .ok (.iload_n 1, 1) := by decide +kernel
theorem dX8_make_1 : decode cX8_make 1 = .ok (.bipush 8, 2) := by decide +kernel
theorem dX8_make_3 : decode cX8_make 3 = .ok (.invokestatic 97, 3) := by decide +kernel
theorem dX8_make_6 : decode cX8_make 6 = .ok (.ifCond .eq 14, 3) := by decide +kernel
theorem dX8_make_9 : decode cX8_make 9 = .ok (.aload_n 0, 1) := by decide +kernel
theorem dX8_make_10 : decode cX8_make 10 = .ok (.getfield 10, 3) := by decide +kernel
theorem dX8_make_13 : decode cX8_make 13 = .ok (.iload_n 2, 1) := by decide +kernel
theorem dX8_make_14 : decode cX8_make 14 = .ok (.invokevirtual 83, 3) := by decide +kernel
theorem dX8_make_17 : decode cX8_make 17 = .ok (.ifCond .ne 13, 3) := by decide +kernel
theorem dX8_make_20 : decode cX8_make 20 = .ok (.new 87, 3) := by decide +kernel
theorem dX8_make_23 : decode cX8_make 23 = .ok (.dup, 1) := by decide +kernel
theorem dX8_make_24 : decode cX8_make 24 = .ok (.ldc 208, 2) := by decide +kernel
theorem dX8_make_26 : decode cX8_make 26 = .ok (.invokespecial 91, 3) := by decide +kernel
theorem dX8_make_29 : decode cX8_make 29 = .ok (.athrow, 1) := by decide +kernel
theorem dX8_make_30 : decode cX8_make 30 = .ok (.iload_n 2, 1) := by decide +kernel
theorem dX8_make_31 : decode cX8_make 31 = .ok (.invokestatic 94, 3) := by decide +kernel
theorem dX8_make_34 : decode cX8_make 34 = .ok (.ifCond .eq 13, 3) := by decide +kernel
theorem dX8_make_37 : decode cX8_make 37 = .ok (.new 105, 3) := by decide +kernel
theorem dX8_make_40 : decode cX8_make 40 = .ok (.dup, 1) := by decide +kernel
theorem dX8_make_41 : decode cX8_make 41 = .ok (.ldc 210, 2) := by decide +kernel
theorem dX8_make_43 : decode cX8_make 43 = .ok (.invokespecial 109, 3) := by decide +kernel
theorem dX8_make_46 : decode cX8_make 46 = .ok (.athrow, 1) := by decide +kernel
theorem dX8_make_47 : decode cX8_make 47 = .ok (.aload_n 0, 1) := by decide +kernel
theorem dX8_make_48 : decode cX8_make 48 = .ok (.getfield 40, 3) := by decide +kernel
theorem dX8_make_51 : decode cX8_make 51 = .ok (.invokevirtual 212, 3) := by decide +kernel
theorem dX8_make_54 : decode cX8_make 54 = .ok (.ifCond .eq 13, 3) := by decide +kernel
theorem dX8_make_57 : decode cX8_make 57 = .ok (.new 113, 3) := by decide +kernel
theorem dX8_make_60 : decode cX8_make 60 = .ok (.dup, 1) := by decide +kernel
theorem dX8_make_61 : decode cX8_make 61 = .ok (.ldc 216, 2) := by decide +kernel
theorem dX8_make_63 : decode cX8_make 63 = .ok (.invokespecial 117, 3) := by decide +kernel
theorem dX8_make_66 : decode cX8_make 66 = .ok (.athrow, 1) := by decide +kernel
theorem dX8_make_67 : decode cX8_make 67 = .ok (.aload_n 0, 1) := by decide +kernel
theorem dX8_make_68 : decode cX8_make 68 = .ok (.getfield 40, 3) := by decide +kernel
theorem dX8_make_71 : decode cX8_make 71 = .ok (.iload_n 2, 1) := by decide +kernel
theorem dX8_make_72 : decode cX8_make 72 = .ok (.aload_n 0, 1) := by decide +kernel
theorem dX8_make_73 : decode cX8_make 73 = .ok (.getfield 10, 3) := by decide +kernel
theorem dX8_make_76 : decode cX8_make 76 = .ok (.iload_n 2, 1) := by decide +kernel
theorem dX8_make_77 : decode cX8_make 77 = .ok (.invokevirtual 101, 3) := by decide +kernel
theorem dX8_make_80 : decode cX8_make 80 = .ok (.invokevirtual 218, 3) := by decide +kernel
theorem dX8_make_83 : decode cX8_make 83 = .ok (.istore_n 3, 1) := by decide +kernel
theorem dX8_make_84 : decode cX8_make 84 = .ok (.aload_n 0, 1) := by decide +kernel
theorem dX8_make_85 : decode cX8_make 85 = .ok (.getfield 33, 3) := by decide +kernel
theorem dX8_make_88 : decode cX8_make 88 = .ok (.iload_n 1, 1) := by decide +kernel
theorem dX8_make_89 : decode cX8_make 89 = .ok (.iload_n 3, 1) := by decide +kernel
theorem dX8_make_90 : decode cX8_make 90 = .ok (.invokestatic 219, 3) := by decide +kernel
theorem dX8_make_93 : decode cX8_make 93 = .ok (.invokestatic 203, 3) := by decide +kernel
theorem dX8_make_96 : decode cX8_make 96 = .ok (.iload_n 3, 1) := by decide +kernel
theorem dX8_make_97 : decode cX8_make 97 = .ok (.ireturn, 1) := by decide +kernel
theorem dX8_classOf_0 : decode cX8_classOf 0 = .ok (.aload_n 0, 1) := by decide +kernel
theorem dX8_classOf_1 : decode cX8_classOf 1 = .ok (.getfield 40, 3) := by decide +kernel
theorem dX8_classOf_4 : decode cX8_classOf 4 = .ok (.iload_n 1, 1) := by decide +kernel
theorem dX8_classOf_5 : decode cX8_classOf 5 = .ok (.invokevirtual 234, 3) := by decide +kernel
theorem dX8_classOf_8 : decode cX8_classOf 8 = .ok (.astore_n 2, 1) := by decide +kernel
theorem dX8_classOf_9 : decode cX8_classOf 9 = .ok (.aload_n 2, 1) := by decide +kernel
theorem dX8_classOf_10 : decode cX8_classOf 10 = .ok (.ifnonnull 13, 3) := by decide +kernel
theorem dX8_classOf_13 : decode cX8_classOf 13 = .ok (.new 87, 3) := by decide +kernel
theorem dX8_classOf_16 : decode cX8_classOf 16 = .ok (.dup, 1) := by decide +kernel
theorem dX8_classOf_17 : decode cX8_classOf 17 = .ok (.ldc 238, 2) := by decide +kernel
theorem dX8_classOf_19 : decode cX8_classOf 19 = .ok (.invokespecial 91, 3) := by decide +kernel
theorem dX8_classOf_22 : decode cX8_classOf 22 = .ok (.athrow, 1) := by decide +kernel
theorem dX8_classOf_23 : decode cX8_classOf 23 = .ok (.aload_n 2, 1) := by decide +kernel
theorem dX8_classOf_24 : decode cX8_classOf 24 = .ok (.getfield 240, 3) := by decide +kernel
theorem dX8_classOf_27 : decode cX8_classOf 27 = .ok (.ireturn, 1) := by decide +kernel
theorem dX8_checkedField_0 : decode cX8_checkedField 0 = .ok (.aload_n 0, 1) := by decide +kernel
theorem dX8_checkedField_1 : decode cX8_checkedField 1 = .ok (.getfield 40, 3) := by decide +kernel
theorem dX8_checkedField_4 : decode cX8_checkedField 4 = .ok (.iload_n 1, 1) := by decide +kernel
theorem dX8_checkedField_5 : decode cX8_checkedField 5 = .ok (.invokevirtual 234, 3) := by decide +kernel
theorem dX8_checkedField_8 : decode cX8_checkedField 8 = .ok (.astore_n 3, 1) := by decide +kernel
theorem dX8_checkedField_9 : decode cX8_checkedField 9 = .ok (.aload_n 3, 1) := by decide +kernel
theorem dX8_checkedField_10 : decode cX8_checkedField 10 = .ok (.ifnull 11, 3) := by decide +kernel
theorem dX8_checkedField_13 : decode cX8_checkedField 13 = .ok (.aload_n 3, 1) := by decide +kernel
theorem dX8_checkedField_14 : decode cX8_checkedField 14 = .ok (.iload_n 2, 1) := by decide +kernel
theorem dX8_checkedField_15 : decode cX8_checkedField 15 = .ok (.invokevirtual 267, 3) := by decide +kernel
theorem dX8_checkedField_18 : decode cX8_checkedField 18 = .ok (.ifCond .ne 14, 3) := by decide +kernel
theorem dX8_checkedField_21 : decode cX8_checkedField 21 = .ok (.new 87, 3) := by decide +kernel
theorem dX8_checkedField_24 : decode cX8_checkedField 24 = .ok (.dup, 1) := by decide +kernel
theorem dX8_checkedField_25 : decode cX8_checkedField 25 = .ok (.ldc_w 270, 3) := by decide +kernel
theorem dX8_checkedField_28 : decode cX8_checkedField 28 = .ok (.invokespecial 91, 3) := by decide +kernel
theorem dX8_checkedField_31 : decode cX8_checkedField 31 = .ok (.athrow, 1) := by decide +kernel
theorem dX8_checkedField_32 : decode cX8_checkedField 32 = .ok (.aload_n 3, 1) := by decide +kernel
theorem dX8_checkedField_33 : decode cX8_checkedField 33 = .ok (.getfield 272, 3) := by decide +kernel
theorem dX8_checkedField_36 : decode cX8_checkedField 36 = .ok (.iload_n 2, 1) := by decide +kernel
theorem dX8_checkedField_37 : decode cX8_checkedField 37 = .ok (.invokestatic 222, 3) := by decide +kernel
theorem dX8_checkedField_40 : decode cX8_checkedField 40 = .ok (.lreturn, 1) := by decide +kernel
theorem dX8_fieldKind_0 : decode cX8_fieldKind 0 = .ok (.aload_n 0, 1) := by decide +kernel
theorem dX8_fieldKind_1 : decode cX8_fieldKind 1 = .ok (.iload_n 1, 1) := by decide +kernel
theorem dX8_fieldKind_2 : decode cX8_fieldKind 2 = .ok (.iload_n 2, 1) := by decide +kernel
theorem dX8_fieldKind_3 : decode cX8_fieldKind 3 = .ok (.invokevirtual 243, 3) := by decide +kernel
theorem dX8_fieldKind_6 : decode cX8_fieldKind 6 = .ok (.invokestatic 226, 3) := by decide +kernel
theorem dX8_fieldKind_9 : decode cX8_fieldKind 9 = .ok (.ireturn, 1) := by decide +kernel
theorem dX8_fieldValue_0 : decode cX8_fieldValue 0 = .ok (.aload_n 0, 1) := by decide +kernel
theorem dX8_fieldValue_1 : decode cX8_fieldValue 1 = .ok (.iload_n 1, 1) := by decide +kernel
theorem dX8_fieldValue_2 : decode cX8_fieldValue 2 = .ok (.iload_n 2, 1) := by decide +kernel
theorem dX8_fieldValue_3 : decode cX8_fieldValue 3 = .ok (.invokevirtual 243, 3) := by decide +kernel
theorem dX8_fieldValue_6 : decode cX8_fieldValue 6 = .ok (.invokestatic 230, 3) := by decide +kernel
theorem dX8_fieldValue_9 : decode cX8_fieldValue 9 = .ok (.ireturn, 1) := by decide +kernel
theorem dX8_things_0 : decode cX8_things 0 = .ok (.aload_n 0, 1) := by decide +kernel
theorem dX8_things_1 : decode cX8_things 1 = .ok (.getfield 40, 3) := by decide +kernel
theorem dX8_things_4 : decode cX8_things 4 = .ok (.getfield 207, 3) := by decide +kernel
theorem dX8_things_7 : decode cX8_things 7 = .ok (.ireturn, 1) := by decide +kernel
theorem dX8_collect_0 : decode cX8_collect 0 = .ok (.aload_n 0, 1) := by decide +kernel
theorem dX8_collect_1 : decode cX8_collect 1 = .ok (.getfield 33, 3) := by decide +kernel
theorem dX8_collect_4 : decode cX8_collect 4 = .ok (.astore_n 1, 1) := by decide +kernel
theorem dX8_collect_5 : decode cX8_collect 5 = .ok (.aload_n 1, 1) := by decide +kernel
theorem dX8_collect_6 : decode cX8_collect 6 = .ok (.arraylength, 1) := by decide +kernel
theorem dX8_collect_7 : decode cX8_collect 7 = .ok (.istore_n 2, 1) := by decide +kernel
theorem dX8_collect_8 : decode cX8_collect 8 = .ok (.iconst 0, 1) := by decide +kernel
theorem dX8_collect_9 : decode cX8_collect 9 = .ok (.istore_n 3, 1) := by decide +kernel
theorem dX8_collect_10 : decode cX8_collect 10 = .ok (.iload_n 3, 1) := by decide +kernel
theorem dX8_collect_11 : decode cX8_collect 11 = .ok (.iload_n 2, 1) := by decide +kernel
theorem dX8_collect_12 : decode cX8_collect 12 = .ok (.if_icmp .ge 23, 3) := by decide +kernel
theorem dX8_collect_15 : decode cX8_collect 15 = .ok (.aload_n 1, 1) := by decide +kernel
theorem dX8_collect_16 : decode cX8_collect 16 = .ok (.iload_n 3, 1) := by decide +kernel
theorem dX8_collect_17 : decode cX8_collect 17 = .ok (.laload, 1) := by decide +kernel
theorem dX8_collect_18 : decode cX8_collect 18 = .ok (.lstore 4, 2) := by decide +kernel
theorem dX8_collect_20 : decode cX8_collect 20 = .ok (.aload_n 0, 1) := by decide +kernel
theorem dX8_collect_21 : decode cX8_collect 21 = .ok (.getfield 40, 3) := by decide +kernel
theorem dX8_collect_24 : decode cX8_collect 24 = .ok (.lload 4, 2) := by decide +kernel
theorem dX8_collect_26 : decode cX8_collect 26 = .ok (.invokevirtual 247, 3) := by decide +kernel
theorem dX8_collect_29 : decode cX8_collect 29 = .ok (.iinc 3 1, 3) := by decide +kernel
theorem dX8_collect_32 : decode cX8_collect 32 = .ok (.goto (-22), 3) := by decide +kernel
theorem dX8_collect_35 : decode cX8_collect 35 = .ok (.iconst 0, 1) := by decide +kernel
theorem dX8_collect_36 : decode cX8_collect 36 = .ok (.istore_n 1, 1) := by decide +kernel
theorem dX8_collect_37 : decode cX8_collect 37 = .ok (.iload_n 1, 1) := by decide +kernel
theorem dX8_collect_38 : decode cX8_collect 38 = .ok (.aload_n 0, 1) := by decide +kernel
theorem dX8_collect_39 : decode cX8_collect 39 = .ok (.getfield 50, 3) := by decide +kernel
theorem dX8_collect_42 : decode cX8_collect 42 = .ok (.if_icmp .ge 18, 3) := by decide +kernel
theorem dX8_collect_45 : decode cX8_collect 45 = .ok (.aload_n 0, 1) := by decide +kernel
theorem dX8_collect_46 : decode cX8_collect 46 = .ok (.aload_n 0, 1) := by decide +kernel
theorem dX8_collect_47 : decode cX8_collect 47 = .ok (.iload_n 1, 1) := by decide +kernel
theorem dX8_collect_48 : decode cX8_collect 48 = .ok (.invokevirtual 251, 3) := by decide +kernel
theorem dX8_collect_51 : decode cX8_collect 51 = .ok (.invokevirtual 255, 3) := by decide +kernel
theorem dX8_collect_54 : decode cX8_collect 54 = .ok (.iinc 1 1, 3) := by decide +kernel
theorem dX8_collect_57 : decode cX8_collect 57 = .ok (.goto (-20), 3) := by decide +kernel
theorem dX8_collect_60 : decode cX8_collect 60 = .ok (.aload_n 0, 1) := by decide +kernel
theorem dX8_collect_61 : decode cX8_collect 61 = .ok (.getfield 53, 3) := by decide +kernel
theorem dX8_collect_64 : decode cX8_collect 64 = .ok (.bipush 114, 2) := by decide +kernel
theorem dX8_collect_66 : decode cX8_collect 66 = .ok (.if_icmp .ne 14, 3) := by decide +kernel
theorem dX8_collect_69 : decode cX8_collect 69 = .ok (.aload_n 0, 1) := by decide +kernel
theorem dX8_collect_70 : decode cX8_collect 70 = .ok (.getfield 40, 3) := by decide +kernel
theorem dX8_collect_73 : decode cX8_collect 73 = .ok (.aload_n 0, 1) := by decide +kernel
theorem dX8_collect_74 : decode cX8_collect 74 = .ok (.getfield 62, 3) := by decide +kernel
theorem dX8_collect_77 : decode cX8_collect 77 = .ok (.invokevirtual 247, 3) := by decide +kernel
theorem dX8_collect_80 : decode cX8_collect 80 = .ok (.aload_n 0, 1) := by decide +kernel
theorem dX8_collect_81 : decode cX8_collect 81 = .ok (.getfield 40, 3) := by decide +kernel
theorem dX8_collect_84 : decode cX8_collect 84 = .ok (.invokevirtual 259, 3) := by decide +kernel
theorem dX8_collect_87 : decode cX8_collect 87 = .ok (.aload_n 0, 1) := by decide +kernel
theorem dX8_collect_88 : decode cX8_collect 88 = .ok (.getfield 40, 3) := by decide +kernel
theorem dX8_collect_91 : decode cX8_collect 91 = .ok (.invokevirtual 262, 3) := by decide +kernel
theorem dX8_collect_94 : decode cX8_collect 94 = .ok (.ireturn, 1) := by decide +kernel
theorem dX8_begin_0 : decode cX8_begin 0 = .ok (.iload_n 1, 1) := by decide +kernel
theorem dX8_begin_1 : decode cX8_begin 1 = .ok (.bipush 8, 2) := by decide +kernel
theorem dX8_begin_3 : decode cX8_begin 3 = .ok (.invokestatic 97, 3) := by decide +kernel
theorem dX8_begin_6 : decode cX8_begin 6 = .ok (.ifCond .eq 12, 3) := by decide +kernel
theorem dX8_begin_9 : decode cX8_begin 9 = .ok (.iload_n 2, 1) := by decide +kernel
theorem dX8_begin_10 : decode cX8_begin 10 = .ok (.bipush 16, 2) := by decide +kernel
theorem dX8_begin_12 : decode cX8_begin 12 = .ok (.invokestatic 97, 3) := by decide +kernel
theorem dX8_begin_15 : decode cX8_begin 15 = .ok (.ifCond .ne 14, 3) := by decide +kernel
theorem dX8_begin_18 : decode cX8_begin 18 = .ok (.new 87, 3) := by decide +kernel
theorem dX8_begin_21 : decode cX8_begin 21 = .ok (.dup, 1) := by decide +kernel
theorem dX8_begin_22 : decode cX8_begin 22 = .ok (.ldc_w 280, 3) := by decide +kernel
theorem dX8_begin_25 : decode cX8_begin 25 = .ok (.invokespecial 91, 3) := by decide +kernel
theorem dX8_begin_28 : decode cX8_begin 28 = .ok (.athrow, 1) := by decide +kernel
theorem dX8_begin_29 : decode cX8_begin 29 = .ok (.iload_n 3, 1) := by decide +kernel
theorem dX8_begin_30 : decode cX8_begin 30 = .ok (.iconst 3, 1) := by decide +kernel
theorem dX8_begin_31 : decode cX8_begin 31 = .ok (.invokestatic 97, 3) := by decide +kernel
theorem dX8_begin_34 : decode cX8_begin 34 = .ok (.ifCond .ne 13, 3) := by decide +kernel
theorem dX8_begin_37 : decode cX8_begin 37 = .ok (.new 105, 3) := by decide +kernel
theorem dX8_begin_40 : decode cX8_begin 40 = .ok (.dup, 1) := by decide +kernel
theorem dX8_begin_41 : decode cX8_begin 41 = .ok (.ldc 138, 2) := by decide +kernel
theorem dX8_begin_43 : decode cX8_begin 43 = .ok (.invokespecial 109, 3) := by decide +kernel
theorem dX8_begin_46 : decode cX8_begin 46 = .ok (.athrow, 1) := by decide +kernel
theorem dX8_begin_47 : decode cX8_begin 47 = .ok (.aload_n 0, 1) := by decide +kernel
theorem dX8_begin_48 : decode cX8_begin 48 = .ok (.getfield 53, 3) := by decide +kernel
theorem dX8_begin_51 : decode cX8_begin 51 = .ok (.bipush 115, 2) := by decide +kernel
theorem dX8_begin_53 : decode cX8_begin 53 = .ok (.if_icmp .ne 14, 3) := by decide +kernel
theorem dX8_begin_56 : decode cX8_begin 56 = .ok (.new 113, 3) := by decide +kernel
theorem dX8_begin_59 : decode cX8_begin 59 = .ok (.dup, 1) := by decide +kernel
theorem dX8_begin_60 : decode cX8_begin 60 = .ok (.ldc_w 282, 3) := by decide +kernel
theorem dX8_begin_63 : decode cX8_begin 63 = .ok (.invokespecial 117, 3) := by decide +kernel
theorem dX8_begin_66 : decode cX8_begin 66 = .ok (.athrow, 1) := by decide +kernel
theorem dX8_begin_67 : decode cX8_begin 67 = .ok (.aload_n 0, 1) := by decide +kernel
theorem dX8_begin_68 : decode cX8_begin 68 = .ok (.getfield 33, 3) := by decide +kernel
theorem dX8_begin_71 : decode cX8_begin 71 = .ok (.iload_n 1, 1) := by decide +kernel
theorem dX8_begin_72 : decode cX8_begin 72 = .ok (.invokestatic 222, 3) := by decide +kernel
theorem dX8_begin_75 : decode cX8_begin 75 = .ok (.lstore 6, 2) := by decide +kernel
theorem dX8_begin_77 : decode cX8_begin 77 = .ok (.aload_n 0, 1) := by decide +kernel
theorem dX8_begin_78 : decode cX8_begin 78 = .ok (.aload_n 0, 1) := by decide +kernel
theorem dX8_begin_79 : decode cX8_begin 79 = .ok (.getfield 40, 3) := by decide +kernel
theorem dX8_begin_82 : decode cX8_begin 82 = .ok (.lload 6, 2) := by decide +kernel
theorem dX8_begin_84 : decode cX8_begin 84 = .ok (.invokevirtual 284, 3) := by decide +kernel
theorem dX8_begin_87 : decode cX8_begin 87 = .ok (.iload_n 2, 1) := by decide +kernel
theorem dX8_begin_88 : decode cX8_begin 88 = .ok (.invokevirtual 166, 3) := by decide +kernel
theorem dX8_begin_91 : decode cX8_begin 91 = .ok (.astore 8, 2) := by decide +kernel
theorem dX8_begin_93 : decode cX8_begin 93 = .ok (.aload 8, 2) := by decide +kernel
theorem dX8_begin_95 : decode cX8_begin 95 = .ok (.ifnull 12, 3) := by decide +kernel
theorem dX8_begin_98 : decode cX8_begin 98 = .ok (.aload 8, 2) := by decide +kernel
theorem dX8_begin_100 : decode cX8_begin 100 = .ok (.getfield 287, 3) := by decide +kernel
theorem dX8_begin_103 : decode cX8_begin 103 = .ok (.iload_n 3, 1) := by decide +kernel
theorem dX8_begin_104 : decode cX8_begin 104 = .ok (.if_icmp .eq 14, 3) := by decide +kernel
theorem dX8_begin_107 : decode cX8_begin 107 = .ok (.new 147, 3) := by decide +kernel
theorem dX8_begin_110 : decode cX8_begin 110 = .ok (.dup, 1) := by decide +kernel
theorem dX8_begin_111 : decode cX8_begin 111 = .ok (.ldc_w 290, 3) := by decide +kernel
theorem dX8_begin_114 : decode cX8_begin 114 = .ok (.invokespecial 151, 3) := by decide +kernel
theorem dX8_begin_117 : decode cX8_begin 117 = .ok (.athrow, 1) := by decide +kernel
theorem dX8_begin_118 : decode cX8_begin 118 = .ok (.aload_n 0, 1) := by decide +kernel
theorem dX8_begin_119 : decode cX8_begin 119 = .ok (.bipush 115, 2) := by decide +kernel
theorem dX8_begin_121 : decode cX8_begin 121 = .ok (.putfield 53, 3) := by decide +kernel
theorem dX8_begin_124 : decode cX8_begin 124 = .ok (.aload_n 0, 1) := by decide +kernel
theorem dX8_begin_125 : decode cX8_begin 125 = .ok (.iconst 0, 1) := by decide +kernel
theorem dX8_begin_126 : decode cX8_begin 126 = .ok (.putfield 50, 3) := by decide +kernel
theorem dX8_begin_129 : decode cX8_begin 129 = .ok (.aload_n 0, 1) := by decide +kernel
theorem dX8_begin_130 : decode cX8_begin 130 = .ok (.aload 8, 2) := by decide +kernel
theorem dX8_begin_132 : decode cX8_begin 132 = .ok (.lload 6, 2) := by decide +kernel
theorem dX8_begin_134 : decode cX8_begin 134 = .ok (.invokevirtual 292, 3) := by decide +kernel
theorem dX8_begin_137 : decode cX8_begin 137 = .ok (.astore 9, 2) := by decide +kernel
theorem dX8_begin_139 : decode cX8_begin 139 = .ok (.aload 9, 2) := by decide +kernel
theorem dX8_begin_141 : decode cX8_begin 141 = .ok (.ifnull 31, 3) := by decide +kernel
theorem dX8_begin_144 : decode cX8_begin 144 = .ok (.aload 9, 2) := by decide +kernel
theorem dX8_begin_146 : decode cX8_begin 146 = .ok (.getfield 296, 3) := by decide +kernel
theorem dX8_begin_149 : decode cX8_begin 149 = .ok (.iconst 0, 1) := by decide +kernel
theorem dX8_begin_150 : decode cX8_begin 150 = .ok (.iload 4, 2) := by decide +kernel
theorem dX8_begin_152 : decode cX8_begin 152 = .ok (.invokestatic 199, 3) := by decide +kernel
theorem dX8_begin_155 : decode cX8_begin 155 = .ok (.invokestatic 203, 3) := by decide +kernel
theorem dX8_begin_158 : decode cX8_begin 158 = .ok (.aload 9, 2) := by decide +kernel
theorem dX8_begin_160 : decode cX8_begin 160 = .ok (.getfield 296, 3) := by decide +kernel
theorem dX8_begin_163 : decode cX8_begin 163 = .ok (.iconst 1, 1) := by decide +kernel
theorem dX8_begin_164 : decode cX8_begin 164 = .ok (.iload 5, 2) := by decide +kernel
theorem dX8_begin_166 : decode cX8_begin 166 = .ok (.invokestatic 199, 3) := by decide +kernel
theorem dX8_begin_169 : decode cX8_begin 169 = .ok (.invokestatic 203, 3) := by decide +kernel
theorem dX8_begin_172 : decode cX8_begin 172 = .ok (.aload 8, 2) := by decide +kernel
theorem dX8_begin_174 : decode cX8_begin 174 = .ok (.getfield 174, 3) := by decide +kernel
theorem dX8_begin_177 : decode cX8_begin 177 = .ok (.ireturn, 1) := by decide +kernel
theorem dX8_go_0 : decode cX8_go 0 = .ok (.iload_n 1, 1) := by decide +kernel
theorem dX8_go_1 : decode cX8_go 1 = .ok (.iconst 1, 1) := by decide +kernel
theorem dX8_go_2 : decode cX8_go 2 = .ok (.if_icmp .lt 10, 3) := by decide +kernel
theorem dX8_go_5 : decode cX8_go 5 = .ok (.iload_n 1, 1) := by decide +kernel
theorem dX8_go_6 : decode cX8_go 6 = .ok (.sipush 500, 3) := by decide +kernel
theorem dX8_go_9 : decode cX8_go 9 = .ok (.if_icmp .le 13, 3) := by decide +kernel
theorem dX8_go_12 : decode cX8_go 12 = .ok (.new 105, 3) := by decide +kernel
theorem dX8_go_15 : decode cX8_go 15 = .ok (.dup, 1) := by decide +kernel
theorem dX8_go_16 : decode cX8_go 16 = .ok (.ldc 138, 2) := by decide +kernel
theorem dX8_go_18 : decode cX8_go 18 = .ok (.invokespecial 109, 3) := by decide +kernel
theorem dX8_go_21 : decode cX8_go 21 = .ok (.athrow, 1) := by decide +kernel
theorem dX8_go_22 : decode cX8_go 22 = .ok (.aload_n 0, 1) := by decide +kernel
theorem dX8_go_23 : decode cX8_go 23 = .ok (.getfield 53, 3) := by decide +kernel
theorem dX8_go_26 : decode cX8_go 26 = .ok (.bipush 115, 2) := by decide +kernel
theorem dX8_go_28 : decode cX8_go 28 = .ok (.if_icmp .eq 14, 3) := by decide +kernel
theorem dX8_go_31 : decode cX8_go 31 = .ok (.new 113, 3) := by decide +kernel
theorem dX8_go_34 : decode cX8_go 34 = .ok (.dup, 1) := by decide +kernel
theorem dX8_go_35 : decode cX8_go 35 = .ok (.ldc_w 298, 3) := by decide +kernel
theorem dX8_go_38 : decode cX8_go 38 = .ok (.invokespecial 117, 3) := by decide +kernel
theorem dX8_go_41 : decode cX8_go 41 = .ok (.athrow, 1) := by decide +kernel
theorem dX8_go_42 : decode cX8_go 42 = .ok (.iconst 0, 1) := by decide +kernel
theorem dX8_go_43 : decode cX8_go 43 = .ok (.istore_n 2, 1) := by decide +kernel
theorem dX8_go_44 : decode cX8_go 44 = .ok (.iconst 0, 1) := by decide +kernel
theorem dX8_go_45 : decode cX8_go 45 = .ok (.istore_n 3, 1) := by decide +kernel
theorem dX8_go_46 : decode cX8_go 46 = .ok (.iload_n 3, 1) := by decide +kernel
theorem dX8_go_47 : decode cX8_go 47 = .ok (.ldc_w 300, 3) := by decide +kernel
theorem dX8_go_50 : decode cX8_go 50 = .ok (.if_icmp .ge 64, 3) := by decide +kernel
theorem dX8_go_53 : decode cX8_go 53 = .ok (.aload_n 0, 1) := by decide +kernel
theorem dX8_go_54 : decode cX8_go 54 = .ok (.getfield 53, 3) := by decide +kernel
theorem dX8_go_57 : decode cX8_go 57 = .ok (.bipush 115, 2) := by decide +kernel
theorem dX8_go_59 : decode cX8_go 59 = .ok (.if_icmp .ne 55, 3) := by decide +kernel
theorem dX8_go_62 : decode cX8_go 62 = .ok (.aload_n 0, 1) := by decide +kernel
theorem dX8_go_63 : decode cX8_go 63 = .ok (.aload_n 0, 1) := by decide +kernel
theorem dX8_go_64 : decode cX8_go 64 = .ok (.getfield 50, 3) := by decide +kernel
theorem dX8_go_67 : decode cX8_go 67 = .ok (.iconst 1, 1) := by decide +kernel
theorem dX8_go_68 : decode cX8_go 68 = .ok (.isub, 1) := by decide +kernel
theorem dX8_go_69 : decode cX8_go 69 = .ok (.invokevirtual 251, 3) := by decide +kernel
theorem dX8_go_72 : decode cX8_go 72 = .ok (.astore 4, 2) := by decide +kernel
theorem dX8_go_74 : decode cX8_go 74 = .ok (.aload 4, 2) := by decide +kernel
theorem dX8_go_76 : decode cX8_go 76 = .ok (.ifnonnull 6, 3) := by decide +kernel
theorem dX8_go_79 : decode cX8_go 79 = .ok (.goto 35, 3) := by decide +kernel
theorem dX8_go_82 : decode cX8_go 82 = .ok (.aload_n 0, 1) := by decide +kernel
theorem dX8_go_83 : decode cX8_go 83 = .ok (.aload 4, 2) := by decide +kernel
theorem dX8_go_85 : decode cX8_go 85 = .ok (.invokevirtual 301, 3) := by decide +kernel
theorem dX8_go_88 : decode cX8_go 88 = .ok (.ifCond .eq 14, 3) := by decide +kernel
theorem dX8_go_91 : decode cX8_go 91 = .ok (.iload_n 2, 1) := by decide +kernel
theorem dX8_go_92 : decode cX8_go 92 = .ok (.iload_n 1, 1) := by decide +kernel
theorem dX8_go_93 : decode cX8_go 93 = .ok (.if_icmp .ne 6, 3) := by decide +kernel
theorem dX8_go_96 : decode cX8_go 96 = .ok (.goto 18, 3) := by decide +kernel
theorem dX8_go_99 : decode cX8_go 99 = .ok (.iinc 2 1, 3) := by decide +kernel
theorem dX8_go_102 : decode cX8_go 102 = .ok (.aload_n 0, 1) := by decide +kernel
theorem dX8_go_103 : decode cX8_go 103 = .ok (.aload 4, 2) := by decide +kernel
theorem dX8_go_105 : decode cX8_go 105 = .ok (.invokevirtual 305, 3) := by decide +kernel
theorem dX8_go_108 : decode cX8_go 108 = .ok (.iinc 3 1, 3) := by decide +kernel
theorem dX8_go_111 : decode cX8_go 111 = .ok (.goto (-65), 3) := by decide +kernel
theorem dX8_go_114 : decode cX8_go 114 = .ok (.aload_n 0, 1) := by decide +kernel
theorem dX8_go_115 : decode cX8_go 115 = .ok (.dup, 1) := by decide +kernel
theorem dX8_go_116 : decode cX8_go 116 = .ok (.getfield 66, 3) := by decide +kernel
theorem dX8_go_119 : decode cX8_go 119 = .ok (.iload_n 2, 1) := by decide +kernel
theorem dX8_go_120 : decode cX8_go 120 = .ok (.iadd, 1) := by decide +kernel
theorem dX8_go_121 : decode cX8_go 121 = .ok (.putfield 66, 3) := by decide +kernel
theorem dX8_go_124 : decode cX8_go 124 = .ok (.iload_n 2, 1) := by decide +kernel
theorem dX8_go_125 : decode cX8_go 125 = .ok (.ireturn, 1) := by decide +kernel
theorem dX8_end_0 : decode cX8_end 0 = .ok (.aload_n 0, 1) := by decide +kernel
theorem dX8_end_1 : decode cX8_end 1 = .ok (.getfield 50, 3) := by decide +kernel
theorem dX8_end_4 : decode cX8_end 4 = .ok (.ifCond .ne 14, 3) := by decide +kernel
theorem dX8_end_7 : decode cX8_end 7 = .ok (.new 113, 3) := by decide +kernel
theorem dX8_end_10 : decode cX8_end 10 = .ok (.dup, 1) := by decide +kernel
theorem dX8_end_11 : decode cX8_end 11 = .ok (.ldc_w 308, 3) := by decide +kernel
theorem dX8_end_14 : decode cX8_end 14 = .ok (.invokespecial 117, 3) := by decide +kernel
theorem dX8_end_17 : decode cX8_end 17 = .ok (.athrow, 1) := by decide +kernel
theorem dX8_end_18 : decode cX8_end 18 = .ok (.aload_n 0, 1) := by decide +kernel
theorem dX8_end_19 : decode cX8_end 19 = .ok (.getfield 50, 3) := by decide +kernel
theorem dX8_end_22 : decode cX8_end 22 = .ok (.istore_n 1, 1) := by decide +kernel
theorem dX8_end_23 : decode cX8_end 23 = .ok (.aload_n 0, 1) := by decide +kernel
theorem dX8_end_24 : decode cX8_end 24 = .ok (.iconst 0, 1) := by decide +kernel
theorem dX8_end_25 : decode cX8_end 25 = .ok (.putfield 50, 3) := by decide +kernel
theorem dX8_end_28 : decode cX8_end 28 = .ok (.aload_n 0, 1) := by decide +kernel
theorem dX8_end_29 : decode cX8_end 29 = .ok (.bipush 45, 2) := by decide +kernel
theorem dX8_end_31 : decode cX8_end 31 = .ok (.putfield 53, 3) := by decide +kernel
theorem dX8_end_34 : decode cX8_end 34 = .ok (.iload_n 1, 1) := by decide +kernel
theorem dX8_end_35 : decode cX8_end 35 = .ok (.ireturn, 1) := by decide +kernel
theorem dX8_state_0 : decode cX8_state 0 = .ok (.aload_n 0, 1) := by decide +kernel
theorem dX8_state_1 : decode cX8_state 1 = .ok (.getfield 53, 3) := by decide +kernel
theorem dX8_state_4 : decode cX8_state 4 = .ok (.ireturn, 1) := by decide +kernel
theorem dX8_reason_0 : decode cX8_reason 0 = .ok (.aload_n 0, 1) := by decide +kernel
theorem dX8_reason_1 : decode cX8_reason 1 = .ok (.getfield 53, 3) := by decide +kernel
theorem dX8_reason_4 : decode cX8_reason 4 = .ok (.bipush 120, 2) := by decide +kernel
theorem dX8_reason_6 : decode cX8_reason 6 = .ok (.if_icmp .eq 14, 3) := by decide +kernel
theorem dX8_reason_9 : decode cX8_reason 9 = .ok (.new 169, 3) := by decide +kernel
theorem dX8_reason_12 : decode cX8_reason 12 = .ok (.dup, 1) := by decide +kernel
theorem dX8_reason_13 : decode cX8_reason 13 = .ok (.ldc_w 310, 3) := by decide +kernel
theorem dX8_reason_16 : decode cX8_reason 16 = .ok (.invokespecial 173, 3) := by decide +kernel
theorem dX8_reason_19 : decode cX8_reason 19 = .ok (.athrow, 1) := by decide +kernel
theorem dX8_reason_20 : decode cX8_reason 20 = .ok (.aload_n 0, 1) := by decide +kernel
theorem dX8_reason_21 : decode cX8_reason 21 = .ok (.getfield 57, 3) := by decide +kernel
theorem dX8_reason_24 : decode cX8_reason 24 = .ok (.ireturn, 1) := by decide +kernel
theorem dX8_checkedAnswer_0 : decode cX8_checkedAnswer 0 = .ok (.aload_n 0, 1) := by decide +kernel
theorem dX8_checkedAnswer_1 : decode cX8_checkedAnswer 1 = .ok (.getfield 53, 3) := by decide +kernel
theorem dX8_checkedAnswer_4 : decode cX8_checkedAnswer 4 = .ok (.bipush 114, 2) := by decide +kernel
theorem dX8_checkedAnswer_6 : decode cX8_checkedAnswer 6 = .ok (.if_icmp .eq 14, 3) := by decide +kernel
theorem dX8_checkedAnswer_9 : decode cX8_checkedAnswer 9 = .ok (.new 169, 3) := by decide +kernel
theorem dX8_checkedAnswer_12 : decode cX8_checkedAnswer 12 = .ok (.dup, 1) := by decide +kernel
theorem dX8_checkedAnswer_13 : decode cX8_checkedAnswer 13 = .ok (.ldc_w 340, 3) := by decide +kernel
theorem dX8_checkedAnswer_16 : decode cX8_checkedAnswer 16 = .ok (.invokespecial 173, 3) := by decide +kernel
theorem dX8_checkedAnswer_19 : decode cX8_checkedAnswer 19 = .ok (.athrow, 1) := by decide +kernel
theorem dX8_checkedAnswer_20 : decode cX8_checkedAnswer 20 = .ok (.aload_n 0, 1) := by decide +kernel
theorem dX8_checkedAnswer_21 : decode cX8_checkedAnswer 21 = .ok (.getfield 62, 3) := by decide +kernel
theorem dX8_checkedAnswer_24 : decode cX8_checkedAnswer 24 = .ok (.lreturn, 1) := by decide +kernel
theorem dX8_answerKind_0 : decode cX8_answerKind 0 = .ok (.aload_n 0, 1) := by decide +kernel
theorem dX8_answerKind_1 : decode cX8_answerKind 1 = .ok (.invokevirtual 312, 3) := by decide +kernel
theorem dX8_answerKind_4 : decode cX8_answerKind 4 = .ok (.invokestatic 226, 3) := by decide +kernel
theorem dX8_answerKind_7 : decode cX8_answerKind 7 = .ok (.ireturn, 1) := by decide +kernel
theorem dX8_answer_0 : decode cX8_answer 0 = .ok (.aload_n 0, 1) := by decide +kernel
theorem dX8_answer_1 : decode cX8_answer 1 = .ok (.invokevirtual 312, 3) := by decide +kernel
theorem dX8_answer_4 : decode cX8_answer 4 = .ok (.invokestatic 230, 3) := by decide +kernel
theorem dX8_answer_7 : decode cX8_answer 7 = .ok (.ireturn, 1) := by decide +kernel
theorem dX8_steps_0 : decode cX8_steps 0 = .ok (.aload_n 0, 1) := by decide +kernel
theorem dX8_steps_1 : decode cX8_steps 1 = .ok (.getfield 66, 3) := by decide +kernel
theorem dX8_steps_4 : decode cX8_steps 4 = .ok (.ireturn, 1) := by decide +kernel
theorem dX8_frames_0 : decode cX8_frames 0 = .ok (.aload_n 0, 1) := by decide +kernel
theorem dX8_frames_1 : decode cX8_frames 1 = .ok (.getfield 50, 3) := by decide +kernel
theorem dX8_frames_4 : decode cX8_frames 4 = .ok (.ireturn, 1) := by decide +kernel
theorem dX8_written_0 : decode cX8_written 0 = .ok (.aload_n 0, 1) := by decide +kernel
theorem dX8_written_1 : decode cX8_written 1 = .ok (.getfield 72, 3) := by decide +kernel
theorem dX8_written_4 : decode cX8_written 4 = .ok (.getfield 336, 3) := by decide +kernel
theorem dX8_written_7 : decode cX8_written 7 = .ok (.ireturn, 1) := by decide +kernel
theorem dX8_checkedFrame_0 : decode cX8_checkedFrame 0 = .ok (.iload_n 1, 1) := by decide +kernel
theorem dX8_checkedFrame_1 : decode cX8_checkedFrame 1 = .ok (.aload_n 0, 1) := by decide +kernel
theorem dX8_checkedFrame_2 : decode cX8_checkedFrame 2 = .ok (.getfield 50, 3) := by decide +kernel
theorem dX8_checkedFrame_5 : decode cX8_checkedFrame 5 = .ok (.invokestatic 97, 3) := by decide +kernel
theorem dX8_checkedFrame_8 : decode cX8_checkedFrame 8 = .ok (.ifCond .eq 11, 3) := by decide +kernel
theorem dX8_checkedFrame_11 : decode cX8_checkedFrame 11 = .ok (.aload_n 0, 1) := by decide +kernel
theorem dX8_checkedFrame_12 : decode cX8_checkedFrame 12 = .ok (.iload_n 1, 1) := by decide +kernel
theorem dX8_checkedFrame_13 : decode cX8_checkedFrame 13 = .ok (.invokevirtual 251, 3) := by decide +kernel
theorem dX8_checkedFrame_16 : decode cX8_checkedFrame 16 = .ok (.goto 4, 3) := by decide +kernel
theorem dX8_checkedFrame_19 : decode cX8_checkedFrame 19 = .ok (.aconst_null, 1) := by decide +kernel
theorem dX8_checkedFrame_20 : decode cX8_checkedFrame 20 = .ok (.astore_n 2, 1) := by decide +kernel
theorem dX8_checkedFrame_21 : decode cX8_checkedFrame 21 = .ok (.aload_n 2, 1) := by decide +kernel
theorem dX8_checkedFrame_22 : decode cX8_checkedFrame 22 = .ok (.ifnonnull 14, 3) := by decide +kernel
theorem dX8_checkedFrame_25 : decode cX8_checkedFrame 25 = .ok (.new 87, 3) := by decide +kernel
theorem dX8_checkedFrame_28 : decode cX8_checkedFrame 28 = .ok (.dup, 1) := by decide +kernel
theorem dX8_checkedFrame_29 : decode cX8_checkedFrame 29 = .ok (.ldc_w 342, 3) := by decide +kernel
theorem dX8_checkedFrame_32 : decode cX8_checkedFrame 32 = .ok (.invokespecial 91, 3) := by decide +kernel
theorem dX8_checkedFrame_35 : decode cX8_checkedFrame 35 = .ok (.athrow, 1) := by decide +kernel
theorem dX8_checkedFrame_36 : decode cX8_checkedFrame 36 = .ok (.aload_n 2, 1) := by decide +kernel
theorem dX8_checkedFrame_37 : decode cX8_checkedFrame 37 = .ok (.areturn, 1) := by decide +kernel
theorem dX8_frame_0 : decode cX8_frame 0 = .ok (.aload_n 0, 1) := by decide +kernel
theorem dX8_frame_1 : decode cX8_frame 1 = .ok (.iload_n 1, 1) := by decide +kernel
theorem dX8_frame_2 : decode cX8_frame 2 = .ok (.invokevirtual 316, 3) := by decide +kernel
theorem dX8_frame_5 : decode cX8_frame 5 = .ok (.astore_n 3, 1) := by decide +kernel
theorem dX8_frame_6 : decode cX8_frame 6 = .ok (.iload_n 2, 1) := by decide +kernel
theorem dX8_frame_7 : decode cX8_frame 7 = .ok (.lookupswitch 61 #[(99, 41), (100, 56), (114, 51), (115, 46)], 41) := by decide +kernel
theorem dX8_frame_48 : decode cX8_frame 48 = .ok (.aload_n 3, 1) := by decide +kernel
theorem dX8_frame_49 : decode cX8_frame 49 = .ok (.invokevirtual 319, 3) := by decide +kernel
theorem dX8_frame_52 : decode cX8_frame 52 = .ok (.ireturn, 1) := by decide +kernel
theorem dX8_frame_53 : decode cX8_frame 53 = .ok (.aload_n 3, 1) := by decide +kernel
theorem dX8_frame_54 : decode cX8_frame 54 = .ok (.invokevirtual 321, 3) := by decide +kernel
theorem dX8_frame_57 : decode cX8_frame 57 = .ok (.ireturn, 1) := by decide +kernel
theorem dX8_frame_58 : decode cX8_frame 58 = .ok (.aload_n 3, 1) := by decide +kernel
theorem dX8_frame_59 : decode cX8_frame 59 = .ok (.getfield 324, 3) := by decide +kernel
theorem dX8_frame_62 : decode cX8_frame 62 = .ok (.ireturn, 1) := by decide +kernel
theorem dX8_frame_63 : decode cX8_frame 63 = .ok (.aload_n 3, 1) := by decide +kernel
theorem dX8_frame_64 : decode cX8_frame 64 = .ok (.getfield 327, 3) := by decide +kernel
theorem dX8_frame_67 : decode cX8_frame 67 = .ok (.ireturn, 1) := by decide +kernel
theorem dX8_frame_68 : decode cX8_frame 68 = .ok (.new 105, 3) := by decide +kernel
theorem dX8_frame_71 : decode cX8_frame 71 = .ok (.dup, 1) := by decide +kernel
theorem dX8_frame_72 : decode cX8_frame 72 = .ok (.ldc_w 330, 3) := by decide +kernel
theorem dX8_frame_75 : decode cX8_frame 75 = .ok (.invokespecial 109, 3) := by decide +kernel
theorem dX8_frame_78 : decode cX8_frame 78 = .ok (.athrow, 1) := by decide +kernel
theorem dX8_checkedSlot_0 : decode cX8_checkedSlot 0 = .ok (.aload_n 0, 1) := by decide +kernel
theorem dX8_checkedSlot_1 : decode cX8_checkedSlot 1 = .ok (.iload_n 1, 1) := by decide +kernel
theorem dX8_checkedSlot_2 : decode cX8_checkedSlot 2 = .ok (.invokevirtual 316, 3) := by decide +kernel
theorem dX8_checkedSlot_5 : decode cX8_checkedSlot 5 = .ok (.astore 4, 2) := by decide +kernel
theorem dX8_checkedSlot_7 : decode cX8_checkedSlot 7 = .ok (.iload_n 2, 1) := by decide +kernel
theorem dX8_checkedSlot_8 : decode cX8_checkedSlot 8 = .ok (.bipush 115, 2) := by decide +kernel
theorem dX8_checkedSlot_10 : decode cX8_checkedSlot 10 = .ok (.if_icmp .eq 31, 3) := by decide +kernel
theorem dX8_checkedSlot_13 : decode cX8_checkedSlot 13 = .ok (.iload_n 2, 1) := by decide +kernel
theorem dX8_checkedSlot_14 : decode cX8_checkedSlot 14 = .ok (.bipush 97, 2) := by decide +kernel
theorem dX8_checkedSlot_16 : decode cX8_checkedSlot 16 = .ok (.if_icmp .eq 25, 3) := by decide +kernel
theorem dX8_checkedSlot_19 : decode cX8_checkedSlot 19 = .ok (.iload_n 2, 1) := by decide +kernel
theorem dX8_checkedSlot_20 : decode cX8_checkedSlot 20 = .ok (.bipush 116, 2) := by decide +kernel
theorem dX8_checkedSlot_22 : decode cX8_checkedSlot 22 = .ok (.if_icmp .eq 19, 3) := by decide +kernel
theorem dX8_checkedSlot_25 : decode cX8_checkedSlot 25 = .ok (.iload_n 2, 1) := by decide +kernel
theorem dX8_checkedSlot_26 : decode cX8_checkedSlot 26 = .ok (.bipush 112, 2) := by decide +kernel
theorem dX8_checkedSlot_28 : decode cX8_checkedSlot 28 = .ok (.if_icmp .eq 13, 3) := by decide +kernel
theorem dX8_checkedSlot_31 : decode cX8_checkedSlot 31 = .ok (.new 105, 3) := by decide +kernel
theorem dX8_checkedSlot_34 : decode cX8_checkedSlot 34 = .ok (.dup, 1) := by decide +kernel
theorem dX8_checkedSlot_35 : decode cX8_checkedSlot 35 = .ok (.ldc 126, 2) := by decide +kernel
theorem dX8_checkedSlot_37 : decode cX8_checkedSlot 37 = .ok (.invokespecial 109, 3) := by decide +kernel
theorem dX8_checkedSlot_40 : decode cX8_checkedSlot 40 = .ok (.athrow, 1) := by decide +kernel
theorem dX8_checkedSlot_41 : decode cX8_checkedSlot 41 = .ok (.iload_n 2, 1) := by decide +kernel
theorem dX8_checkedSlot_42 : decode cX8_checkedSlot 42 = .ok (.bipush 115, 2) := by decide +kernel
theorem dX8_checkedSlot_44 : decode cX8_checkedSlot 44 = .ok (.if_icmp .ne 9, 3) := by decide +kernel
theorem dX8_checkedSlot_47 : decode cX8_checkedSlot 47 = .ok (.aload 4, 2) := by decide +kernel
theorem dX8_checkedSlot_49 : decode cX8_checkedSlot 49 = .ok (.getfield 344, 3) := by decide +kernel
theorem dX8_checkedSlot_52 : decode cX8_checkedSlot 52 = .ok (.lreturn, 1) := by decide +kernel
theorem dX8_checkedSlot_53 : decode cX8_checkedSlot 53 = .ok (.iload_n 3, 1) := by decide +kernel
theorem dX8_checkedSlot_54 : decode cX8_checkedSlot 54 = .ok (.aload 4, 2) := by decide +kernel
theorem dX8_checkedSlot_56 : decode cX8_checkedSlot 56 = .ok (.iload_n 2, 1) := by decide +kernel
theorem dX8_checkedSlot_57 : decode cX8_checkedSlot 57 = .ok (.invokevirtual 347, 3) := by decide +kernel
theorem dX8_checkedSlot_60 : decode cX8_checkedSlot 60 = .ok (.invokestatic 97, 3) := by decide +kernel
theorem dX8_checkedSlot_63 : decode cX8_checkedSlot 63 = .ok (.ifCond .ne 14, 3) := by decide +kernel
theorem dX8_checkedSlot_66 : decode cX8_checkedSlot 66 = .ok (.new 169, 3) := by decide +kernel
theorem dX8_checkedSlot_69 : decode cX8_checkedSlot 69 = .ok (.dup, 1) := by decide +kernel
theorem dX8_checkedSlot_70 : decode cX8_checkedSlot 70 = .ok (.ldc_w 351, 3) := by decide +kernel
theorem dX8_checkedSlot_73 : decode cX8_checkedSlot 73 = .ok (.invokespecial 173, 3) := by decide +kernel
theorem dX8_checkedSlot_76 : decode cX8_checkedSlot 76 = .ok (.athrow, 1) := by decide +kernel
theorem dX8_checkedSlot_77 : decode cX8_checkedSlot 77 = .ok (.aload 4, 2) := by decide +kernel
theorem dX8_checkedSlot_79 : decode cX8_checkedSlot 79 = .ok (.iload_n 2, 1) := by decide +kernel
theorem dX8_checkedSlot_80 : decode cX8_checkedSlot 80 = .ok (.iload_n 3, 1) := by decide +kernel
theorem dX8_checkedSlot_81 : decode cX8_checkedSlot 81 = .ok (.invokevirtual 353, 3) := by decide +kernel
theorem dX8_checkedSlot_84 : decode cX8_checkedSlot 84 = .ok (.lreturn, 1) := by decide +kernel
theorem dX8_slotKind_0 : decode cX8_slotKind 0 = .ok (.aload_n 0, 1) := by decide +kernel
theorem dX8_slotKind_1 : decode cX8_slotKind 1 = .ok (.iload_n 1, 1) := by decide +kernel
theorem dX8_slotKind_2 : decode cX8_slotKind 2 = .ok (.iload_n 2, 1) := by decide +kernel
theorem dX8_slotKind_3 : decode cX8_slotKind 3 = .ok (.iload_n 3, 1) := by decide +kernel
theorem dX8_slotKind_4 : decode cX8_slotKind 4 = .ok (.invokevirtual 332, 3) := by decide +kernel
theorem dX8_slotKind_7 : decode cX8_slotKind 7 = .ok (.invokestatic 226, 3) := by decide +kernel
theorem dX8_slotKind_10 : decode cX8_slotKind 10 = .ok (.ireturn, 1) := by decide +kernel
theorem dX8_slot_0 : decode cX8_slot 0 = .ok (.aload_n 0, 1) := by decide +kernel
theorem dX8_slot_1 : decode cX8_slot 1 = .ok (.iload_n 1, 1) := by decide +kernel
theorem dX8_slot_2 : decode cX8_slot 2 = .ok (.iload_n 2, 1) := by decide +kernel
theorem dX8_slot_3 : decode cX8_slot 3 = .ok (.iload_n 3, 1) := by decide +kernel
theorem dX8_slot_4 : decode cX8_slot 4 = .ok (.invokevirtual 332, 3) := by decide +kernel
theorem dX8_slot_7 : decode cX8_slot 7 = .ok (.invokestatic 230, 3) := by decide +kernel
theorem dX8_slot_10 : decode cX8_slot 10 = .ok (.ireturn, 1) := by decide +kernel
theorem dX8_checkedWritten_0 : decode cX8_checkedWritten 0 = .ok (.iload_n 1, 1) := by decide +kernel
theorem dX8_checkedWritten_1 : decode cX8_checkedWritten 1 = .ok (.aload_n 0, 1) := by decide +kernel
theorem dX8_checkedWritten_2 : decode cX8_checkedWritten 2 = .ok (.getfield 72, 3) := by decide +kernel
theorem dX8_checkedWritten_5 : decode cX8_checkedWritten 5 = .ok (.getfield 336, 3) := by decide +kernel
theorem dX8_checkedWritten_8 : decode cX8_checkedWritten 8 = .ok (.invokestatic 97, 3) := by decide +kernel
theorem dX8_checkedWritten_11 : decode cX8_checkedWritten 11 = .ok (.ifCond .ne 14, 3) := by decide +kernel
theorem dX8_checkedWritten_14 : decode cX8_checkedWritten 14 = .ok (.new 169, 3) := by decide +kernel
theorem dX8_checkedWritten_17 : decode cX8_checkedWritten 17 = .ok (.dup, 1) := by decide +kernel
theorem dX8_checkedWritten_18 : decode cX8_checkedWritten 18 = .ok (.ldc_w 351, 3) := by decide +kernel
theorem dX8_checkedWritten_21 : decode cX8_checkedWritten 21 = .ok (.invokespecial 173, 3) := by decide +kernel
theorem dX8_checkedWritten_24 : decode cX8_checkedWritten 24 = .ok (.athrow, 1) := by decide +kernel
theorem dX8_checkedWritten_25 : decode cX8_checkedWritten 25 = .ok (.aload_n 0, 1) := by decide +kernel
theorem dX8_checkedWritten_26 : decode cX8_checkedWritten 26 = .ok (.getfield 72, 3) := by decide +kernel
theorem dX8_checkedWritten_29 : decode cX8_checkedWritten 29 = .ok (.iload_n 1, 1) := by decide +kernel
theorem dX8_checkedWritten_30 : decode cX8_checkedWritten 30 = .ok (.invokevirtual 357, 3) := by decide +kernel
theorem dX8_checkedWritten_33 : decode cX8_checkedWritten 33 = .ok (.lreturn, 1) := by decide +kernel
theorem dX8_writtenKind_0 : decode cX8_writtenKind 0 = .ok (.aload_n 0, 1) := by decide +kernel
theorem dX8_writtenKind_1 : decode cX8_writtenKind 1 = .ok (.iload_n 1, 1) := by decide +kernel
theorem dX8_writtenKind_2 : decode cX8_writtenKind 2 = .ok (.invokevirtual 337, 3) := by decide +kernel
theorem dX8_writtenKind_5 : decode cX8_writtenKind 5 = .ok (.invokestatic 226, 3) := by decide +kernel
theorem dX8_writtenKind_8 : decode cX8_writtenKind 8 = .ok (.ireturn, 1) := by decide +kernel
theorem dX8_writtenValue_0 : decode cX8_writtenValue 0 = .ok (.aload_n 0, 1) := by decide +kernel
theorem dX8_writtenValue_1 : decode cX8_writtenValue 1 = .ok (.iload_n 1, 1) := by decide +kernel
theorem dX8_writtenValue_2 : decode cX8_writtenValue 2 = .ok (.invokevirtual 337, 3) := by decide +kernel
theorem dX8_writtenValue_5 : decode cX8_writtenValue 5 = .ok (.invokestatic 230, 3) := by decide +kernel
theorem dX8_writtenValue_8 : decode cX8_writtenValue 8 = .ok (.ireturn, 1) := by decide +kernel
theorem dX8_wipe_0 : decode cX8_wipe 0 = .ok (.aload_n 0, 1) := by decide +kernel
theorem dX8_wipe_1 : decode cX8_wipe 1 = .ok (.getfield 25, 3) := by decide +kernel
theorem dX8_wipe_4 : decode cX8_wipe 4 = .ok (.getfield 128, 3) := by decide +kernel
theorem dX8_wipe_7 : decode cX8_wipe 7 = .ok (.istore_n 1, 1) := by decide +kernel
theorem dX8_wipe_8 : decode cX8_wipe 8 = .ok (.aload_n 0, 1) := by decide +kernel
theorem dX8_wipe_9 : decode cX8_wipe 9 = .ok (.getfield 25, 3) := by decide +kernel
theorem dX8_wipe_12 : decode cX8_wipe 12 = .ok (.iconst 0, 1) := by decide +kernel
theorem dX8_wipe_13 : decode cX8_wipe 13 = .ok (.putfield 128, 3) := by decide +kernel
theorem dX8_wipe_16 : decode cX8_wipe 16 = .ok (.iload_n 1, 1) := by decide +kernel
theorem dX8_wipe_17 : decode cX8_wipe 17 = .ok (.ireturn, 1) := by decide +kernel
section SITES
variable {p : Program} {l : Launch} {e : Env} {R : Room} {s : State} {m : MethodId} {args : Array Value} {below : List Frame} {meth : Method} {c : Code} {H : Heap} {locs : List Loc} {cells slots : Nat} {Q : State → Prop}
variable {pc : Nat} {ls : Array Slot} {rest : List Value} {D : va_G} {ar : Nat → ClassId} {κ : Nat → Nat} {A : Nat → Prop} {a : Nat} {H0 : Heap} {G : gW} {nz nL : Nat} {cc : ByteArray}
theorem m_4_230 : (Cond.code yX8_isNumber cX8_isNumber 2 (some .boolean)) ∈ lwA := lwA_mk (ck_4 _ (List.mem_of_getElem? (i := 230) rfl)) rfl
theorem m_4_229 : (Cond.static yX8_isNumber) ∈ lwA := lwA_mk (ck_4 _ (List.mem_of_getElem? (i := 229) rfl)) rfl
theorem k_RX5_54 {args : Array Value} {s : State} {R rm : Room} (hts : ∀ w ∈ lwA, w.before args s = true) (hN : va_Nw (.methodLinkNest RX5 54 yX8_isNumber "Sendhouse") s) (hR : rm.frames + 1 ≤ R.frames ∧ 8 + (2 + 11) + rm.locals ≤ R.locals) : va_CN R s args RX5 54 yX8_isNumber "Sendhouse" cX8_isNumber 2 (some .boolean) (lwC yX8_isNumber cX8_isNumber 2 (some .boolean)) rm rm.cells rm.slots 1 ∧ (Cond.static yX8_isNumber).before args s = true ∧ True := ⟨va_cnB 1 hts (gd m_4_230) rfl rfl rfl hN (hts _ m_1_1) (by decide +kernel) hR, hts _ m_4_229, trivial⟩
theorem gf_RX5_17_9 {A9 : Nat → Prop} {H9 : Heap} {fs : List Value} {v : Value} (S : CallFix p m c cc nL s args lwA RX5) (hE : g_E D vwCl (gT ar) (EX1 κ) A9 s H9) (w : g_S D vwCl A H0 G H locs nz) (ha : G a = some (.inr (9, fs))) (hv : fs[1]? = some v) (hdg : decode cc pc = .ok (.getfield 17, 3)) (kk : W p l e R s m args below meth c H locs cells slots Q (F0 m (pc + 3) ls (v :: rest))) : W p l e R s m args below meth c H locs cells slots Q (F0 m pc ls (.ref a :: rest)) :=
  va_get (ci := 9) (C := RX5) (T := TX5) (N := 5) S.1 S.2.1 S.2.2.2.2 inA_RX5 S.2.2.2.1 hE.1 (g_1 w.1 ha) 0 rfl rfl 1 (by decide) (S.2.2.2.2 _ m_1_140) (fun _ h => h) hv hdg kk
theorem gf_RX5_24_9 {A9 : Nat → Prop} {H9 : Heap} {fs : List Value} {v : Value} (S : CallFix p m c cc nL s args lwA RX5) (hE : g_E D vwCl (gT ar) (EX1 κ) A9 s H9) (w : g_S D vwCl A H0 G H locs nz) (ha : G a = some (.inr (9, fs))) (hv : fs[3]? = some v) (hdg : decode cc pc = .ok (.getfield 24, 3)) (kk : W p l e R s m args below meth c H locs cells slots Q (F0 m (pc + 3) ls (v :: rest))) : W p l e R s m args below meth c H locs cells slots Q (F0 m pc ls (.ref a :: rest)) :=
  va_get (ci := 9) (C := RX5) (T := TX5) (N := 5) S.1 S.2.1 S.2.2.2.2 inA_RX5 S.2.2.2.1 hE.1 (g_1 w.1 ha) 0 rfl rfl 3 (by decide) (S.2.2.2.2 _ m_1_143) (fun _ h => h) hv hdg kk
theorem gf_RX4_9_8 {A9 : Nat → Prop} {H9 : Heap} {fs : List Value} {v : Value} (S : CallFix p m c cc nL s args lwA RX4) (hE : g_E D vwCl (gT ar) (EX1 κ) A9 s H9) (w : g_S D vwCl A H0 G H locs nz) (ha : G a = some (.inr (8, fs))) (hv : fs[0]? = some v) (hdg : decode cc pc = .ok (.getfield 9, 3)) (kk : W p l e R s m args below meth c H locs cells slots Q (F0 m (pc + 3) ls (v :: rest))) : W p l e R s m args below meth c H locs cells slots Q (F0 m pc ls (.ref a :: rest)) :=
  va_get (ci := 8) (C := RX4) (T := TX4) (N := 5) S.1 S.2.1 S.2.2.2.2 inA_RX4 S.2.2.2.1 hE.1 (g_1 w.1 ha) 0 rfl rfl 0 (by decide) (S.2.2.2.2 _ m_1_113) (fun _ h => h) hv hdg kk
theorem m_4_162 : (Cond.constantLong RX4 29 (502511173632)) ∈ lwA := lwA_mk (ck_4 _ (List.mem_of_getElem? (i := 162) rfl)) rfl
theorem m_4_163 : (Cond.methodLink RX4 31 yJ7_fill_d0a16) ∈ lwA := lwA_mk (ck_4 _ (List.mem_of_getElem? (i := 163) rfl)) rfl
theorem k_RX4_31 {args : Array Value} {s : State} {R rm : Room} (hts : ∀ w ∈ lwA, w.before args s = true) (hR : rm.frames + 1 ≤ R.frames ∧ 8 + (5 + 11) + rm.locals ≤ R.locals) : CallB R s args RX4 31 yJ7_fill_d0a16 cJ7_fill_d0a16 5 none (lwC yJ7_fill_d0a16 cJ7_fill_d0a16 5 none) rm rm.cells rm.slots 2 ∧ (Cond.static yJ7_fill_d0a16).before args s = true := va_cwS 2 hts (gdT m_4_163 m_1_211 m_1_10 m_1_212) rfl rfl rfl (by decide +kernel) hR
theorem gf_RX5_27_9 {A9 : Nat → Prop} {H9 : Heap} {fs : List Value} {v : Value} (S : CallFix p m c cc nL s args lwA RX5) (hE : g_E D vwCl (gT ar) (EX1 κ) A9 s H9) (w : g_S D vwCl A H0 G H locs nz) (ha : G a = some (.inr (9, fs))) (hv : fs[4]? = some v) (hdg : decode cc pc = .ok (.getfield 27, 3)) (kk : W p l e R s m args below meth c H locs cells slots Q (F0 m (pc + 3) ls (v :: rest))) : W p l e R s m args below meth c H locs cells slots Q (F0 m pc ls (.ref a :: rest)) :=
  va_get (ci := 9) (C := RX5) (T := TX5) (N := 5) S.1 S.2.1 S.2.2.2.2 inA_RX5 S.2.2.2.1 hE.1 (g_1 w.1 ha) 0 rfl rfl 4 (by decide) (S.2.2.2.2 _ m_1_144) (fun _ h => h) hv hdg kk
theorem k_RX5_31 {args : Array Value} {s : State} {R rm : Room} (hts : ∀ w ∈ lwA, w.before args s = true) (hN : va_Nw (.methodLinkNest RX5 31 yX8_isBelow "Sendhouse") s) (hR : rm.frames + 1 ≤ R.frames ∧ 8 + (2 + 11) + rm.locals ≤ R.locals) : va_CN R s args RX5 31 yX8_isBelow "Sendhouse" cX8_isBelow 2 (some .boolean) (lwC yX8_isBelow cX8_isBelow 2 (some .boolean)) rm rm.cells rm.slots 2 ∧ (Cond.static yX8_isBelow).before args s = true ∧ True := ⟨va_cnB 2 hts (gd m_2_85) rfl rfl rfl hN (hts _ m_1_1) (by decide +kernel) hR, hts _ m_2_84, trivial⟩
theorem m_4_161 : (Cond.code yX4_open cX4_open 4 none) ∈ lwA := lwA_mk (ck_4 _ (List.mem_of_getElem? (i := 161) rfl)) rfl
theorem m_4_158 : (Cond.methodLink RX5 35 yX4_open) ∈ lwA := lwA_mk (ck_4 _ (List.mem_of_getElem? (i := 158) rfl)) rfl
theorem m_4_159 : (Cond.instanceMethod yX4_open) ∈ lwA := lwA_mk (ck_4 _ (List.mem_of_getElem? (i := 159) rfl)) rfl
theorem m_4_160 : (Cond.selects RX4 yX4_open yX4_open) ∈ lwA := lwA_mk (ck_4 _ (List.mem_of_getElem? (i := 160) rfl)) rfl
theorem k_RX5_35 {args : Array Value} {s : State} {R rm : Room} (hts : ∀ w ∈ lwA, w.before args s = true) (hR : rm.frames + 1 ≤ R.frames ∧ 8 + (4 + 11) + rm.locals ≤ R.locals) : CallW R s args RX5 RX4 35 yX4_open cX4_open 4 none (lwC yX4_open cX4_open 4 none) rm rm.cells rm.slots 3 := cwV 3 hts (gdV m_4_158 m_4_159 m_4_160 m_1_5 m_4_161) rfl rfl rfl (by decide +kernel) hR
theorem m_4_152 : (Cond.code yX5_isFull cX5_isFull 1 (some .boolean)) ∈ lwA := lwA_mk (ck_4 _ (List.mem_of_getElem? (i := 152) rfl)) rfl
theorem m_4_149 : (Cond.methodLink RX8 212 yX5_isFull) ∈ lwA := lwA_mk (ck_4 _ (List.mem_of_getElem? (i := 149) rfl)) rfl
theorem m_4_150 : (Cond.instanceMethod yX5_isFull) ∈ lwA := lwA_mk (ck_4 _ (List.mem_of_getElem? (i := 150) rfl)) rfl
theorem m_4_151 : (Cond.selects RX5 yX5_isFull yX5_isFull) ∈ lwA := lwA_mk (ck_4 _ (List.mem_of_getElem? (i := 151) rfl)) rfl
theorem k_RX8_212 {args : Array Value} {s : State} {R rm : Room} (hts : ∀ w ∈ lwA, w.before args s = true) (hR : rm.frames + 1 ≤ R.frames ∧ 8 + (1 + 11) + rm.locals ≤ R.locals) : CallW R s args RX8 RX5 212 yX5_isFull cX5_isFull 1 (some .boolean) (lwC yX5_isFull cX5_isFull 1 (some .boolean)) rm rm.cells rm.slots 0 := cwV 0 hts (gdV m_4_149 m_4_150 m_4_151 m_1_4 m_4_152) rfl rfl rfl (by decide +kernel) hR
theorem m_4_157 : (Cond.code yX5_enlist cX5_enlist 5 (some .int)) ∈ lwA := lwA_mk (ck_4 _ (List.mem_of_getElem? (i := 157) rfl)) rfl
theorem m_4_154 : (Cond.methodLink RX8 218 yX5_enlist) ∈ lwA := lwA_mk (ck_4 _ (List.mem_of_getElem? (i := 154) rfl)) rfl
theorem m_4_155 : (Cond.instanceMethod yX5_enlist) ∈ lwA := lwA_mk (ck_4 _ (List.mem_of_getElem? (i := 155) rfl)) rfl
theorem m_4_156 : (Cond.selects RX5 yX5_enlist yX5_enlist) ∈ lwA := lwA_mk (ck_4 _ (List.mem_of_getElem? (i := 156) rfl)) rfl
theorem k_RX8_218 {args : Array Value} {s : State} {R rm : Room} (hts : ∀ w ∈ lwA, w.before args s = true) (hR : rm.frames + 1 ≤ R.frames ∧ 8 + (5 + 11) + rm.locals ≤ R.locals) : CallW R s args RX8 RX5 218 yX5_enlist cX5_enlist 5 (some .int) (lwC yX5_enlist cX5_enlist 5 (some .int)) rm rm.cells rm.slots 2 := cwV 2 hts (gdV m_4_154 m_4_155 m_4_156 m_1_4 m_4_157) rfl rfl rfl (by decide +kernel) hR
theorem m_4_166 : (Cond.code yX8_ofThing cX8_ofThing 1 (some .long)) ∈ lwA := lwA_mk (ck_4 _ (List.mem_of_getElem? (i := 166) rfl)) rfl
theorem m_4_164 : (Cond.methodLink RX8 219 yX8_ofThing) ∈ lwA := lwA_mk (ck_4 _ (List.mem_of_getElem? (i := 164) rfl)) rfl
theorem m_4_165 : (Cond.static yX8_ofThing) ∈ lwA := lwA_mk (ck_4 _ (List.mem_of_getElem? (i := 165) rfl)) rfl
theorem k_RX8_219 {args : Array Value} {s : State} {R rm : Room} (hts : ∀ w ∈ lwA, w.before args s = true) (hR : rm.frames + 1 ≤ R.frames ∧ 8 + (1 + 11) + rm.locals ≤ R.locals) : CallB R s args RX8 219 yX8_ofThing cX8_ofThing 1 (some .long) (lwC yX8_ofThing cX8_ofThing 1 (some .long)) rm rm.cells rm.slots 1 ∧ (Cond.static yX8_ofThing).before args s = true := cwS 1 hts (gdS m_4_164 m_4_165 m_1_1 m_4_166) rfl rfl rfl (by decide +kernel) hR
theorem m_2_82 : (Cond.code yX5_withNumber cX5_withNumber 7 (some (.object "Sendhouse$Thing"))) ∈ lwA := lwA_mk (ck_2 _ (List.mem_of_getElem? (i := 82) rfl)) rfl
theorem m_4_189 : (Cond.methodLink RX8 234 yX5_withNumber) ∈ lwA := lwA_mk (ck_4 _ (List.mem_of_getElem? (i := 189) rfl)) rfl
theorem m_2_80 : (Cond.instanceMethod yX5_withNumber) ∈ lwA := lwA_mk (ck_2 _ (List.mem_of_getElem? (i := 80) rfl)) rfl
theorem m_2_81 : (Cond.selects RX5 yX5_withNumber yX5_withNumber) ∈ lwA := lwA_mk (ck_2 _ (List.mem_of_getElem? (i := 81) rfl)) rfl
theorem k_RX8_234 {args : Array Value} {s : State} {R rm : Room} (hts : ∀ w ∈ lwA, w.before args s = true) (hR : rm.frames + 1 ≤ R.frames ∧ 8 + (7 + 11) + rm.locals ≤ R.locals) : CallW R s args RX8 RX5 234 yX5_withNumber cX5_withNumber 7 (some (.object "Sendhouse$Thing")) (lwC yX5_withNumber cX5_withNumber 7 (some (.object "Sendhouse$Thing"))) rm rm.cells rm.slots 1 := cwV 1 hts (gdV m_4_189 m_2_80 m_2_81 m_1_4 m_2_82) rfl rfl rfl (by decide +kernel) hR
theorem m_4_201 : (Cond.code yX8_checkedField cX8_checkedField 4 (some .long)) ∈ lwA := lwA_mk (ck_4 _ (List.mem_of_getElem? (i := 201) rfl)) rfl
theorem m_4_198 : (Cond.methodLink RX8 243 yX8_checkedField) ∈ lwA := lwA_mk (ck_4 _ (List.mem_of_getElem? (i := 198) rfl)) rfl
theorem m_4_200 : (Cond.instanceMethod yX8_checkedField) ∈ lwA := lwA_mk (ck_4 _ (List.mem_of_getElem? (i := 200) rfl)) rfl
theorem ms_16 : (Cond.selects RX8 yX8_checkedField yX8_checkedField) ∈ lwA := lwA_mk (List.mem_append_left _ (List.mem_of_getElem? (i := 16) rfl)) rfl
theorem k_RX8_243 {args : Array Value} {s : State} {R rm : Room} (hts : ∀ w ∈ lwA, w.before args s = true) (hR : rm.frames + 1 ≤ R.frames ∧ 8 + (4 + 11) + rm.locals ≤ R.locals) : CallW R s args RX8 RX8 243 yX8_checkedField cX8_checkedField 4 (some .long) (lwC yX8_checkedField cX8_checkedField 4 (some .long)) rm rm.cells rm.slots 2 := cwV 2 hts (gdV m_4_198 m_4_200 ms_16 m_1_1 m_4_201) rfl rfl rfl (by decide +kernel) hR
theorem m_2_65 : (Cond.code yX5_reach cX5_reach 4 none) ∈ lwA := lwA_mk (ck_2 _ (List.mem_of_getElem? (i := 65) rfl)) rfl
theorem m_2_62 : (Cond.methodLink RX8 247 yX5_reach) ∈ lwA := lwA_mk (ck_2 _ (List.mem_of_getElem? (i := 62) rfl)) rfl
theorem m_2_63 : (Cond.instanceMethod yX5_reach) ∈ lwA := lwA_mk (ck_2 _ (List.mem_of_getElem? (i := 63) rfl)) rfl
theorem m_2_64 : (Cond.selects RX5 yX5_reach yX5_reach) ∈ lwA := lwA_mk (ck_2 _ (List.mem_of_getElem? (i := 64) rfl)) rfl
theorem k_RX8_247 {args : Array Value} {s : State} {R rm : Room} (hts : ∀ w ∈ lwA, w.before args s = true) (hR : rm.frames + 1 ≤ R.frames ∧ 8 + (4 + 11) + rm.locals ≤ R.locals) : CallW R s args RX8 RX5 247 yX5_reach cX5_reach 4 none (lwC yX5_reach cX5_reach 4 none) rm rm.cells rm.slots 1 := cwV 1 hts (gdV m_2_62 m_2_63 m_2_64 m_1_4 m_2_65) rfl rfl rfl (by decide +kernel) hR
theorem gf_RX8_50_12 {A9 : Nat → Prop} {H9 : Heap} {fs : List Value} {v : Value} (S : CallFix p m c cc nL s args lwA RX8) (hE : g_E D vwCl (gT ar) (EX1 κ) A9 s H9) (w : g_S D vwCl A H0 G H locs nz) (ha : G a = some (.inr (12, fs))) (hv : fs[7]? = some v) (hdg : decode cc pc = .ok (.getfield 50, 3)) (kk : W p l e R s m args below meth c H locs cells slots Q (F0 m (pc + 3) ls (v :: rest))) : W p l e R s m args below meth c H locs cells slots Q (F0 m pc ls (.ref a :: rest)) :=
  va_get (ci := 12) (C := RX8) (T := TX8) (N := 13) S.1 S.2.1 S.2.2.2.2 inA_RX8 S.2.2.2.1 hE.1 (g_1 w.1 ha) 0 rfl rfl 7 (by decide) (S.2.2.2.2 _ m_2_13) (fun _ h => h) hv hdg kk
theorem gf_RX8_53_12 {A9 : Nat → Prop} {H9 : Heap} {fs : List Value} {v : Value} (S : CallFix p m c cc nL s args lwA RX8) (hE : g_E D vwCl (gT ar) (EX1 κ) A9 s H9) (w : g_S D vwCl A H0 G H locs nz) (ha : G a = some (.inr (12, fs))) (hv : fs[8]? = some v) (hdg : decode cc pc = .ok (.getfield 53, 3)) (kk : W p l e R s m args below meth c H locs cells slots Q (F0 m (pc + 3) ls (v :: rest))) : W p l e R s m args below meth c H locs cells slots Q (F0 m pc ls (.ref a :: rest)) :=
  va_get (ci := 12) (C := RX8) (T := TX8) (N := 13) S.1 S.2.1 S.2.2.2.2 inA_RX8 S.2.2.2.1 hE.1 (g_1 w.1 ha) 0 rfl rfl 8 (by decide) (S.2.2.2.2 _ m_2_14) (fun _ h => h) hv hdg kk
theorem m_2_117 : (Cond.code yX5_reachFields cX5_reachFields 4 none) ∈ lwA := lwA_mk (ck_2 _ (List.mem_of_getElem? (i := 117) rfl)) rfl
theorem m_2_114 : (Cond.methodLink RX8 259 yX5_reachFields) ∈ lwA := lwA_mk (ck_2 _ (List.mem_of_getElem? (i := 114) rfl)) rfl
theorem m_2_115 : (Cond.instanceMethod yX5_reachFields) ∈ lwA := lwA_mk (ck_2 _ (List.mem_of_getElem? (i := 115) rfl)) rfl
theorem m_2_116 : (Cond.selects RX5 yX5_reachFields yX5_reachFields) ∈ lwA := lwA_mk (ck_2 _ (List.mem_of_getElem? (i := 116) rfl)) rfl
theorem k_RX8_259 {args : Array Value} {s : State} {R rm : Room} (hts : ∀ w ∈ lwA, w.before args s = true) (hR : rm.frames + 1 ≤ R.frames ∧ 8 + (4 + 11) + rm.locals ≤ R.locals) : CallW R s args RX8 RX5 259 yX5_reachFields cX5_reachFields 4 none (lwC yX5_reachFields cX5_reachFields 4 none) rm rm.cells rm.slots 0 := cwV 0 hts (gdV m_2_114 m_2_115 m_2_116 m_1_4 m_2_117) rfl rfl rfl (by decide +kernel) hR
theorem m_2_123 : (Cond.code yX5_sweep cX5_sweep 5 (some .int)) ∈ lwA := lwA_mk (ck_2 _ (List.mem_of_getElem? (i := 123) rfl)) rfl
theorem m_2_120 : (Cond.methodLink RX8 262 yX5_sweep) ∈ lwA := lwA_mk (ck_2 _ (List.mem_of_getElem? (i := 120) rfl)) rfl
theorem m_2_121 : (Cond.instanceMethod yX5_sweep) ∈ lwA := lwA_mk (ck_2 _ (List.mem_of_getElem? (i := 121) rfl)) rfl
theorem m_2_122 : (Cond.selects RX5 yX5_sweep yX5_sweep) ∈ lwA := lwA_mk (ck_2 _ (List.mem_of_getElem? (i := 122) rfl)) rfl
theorem k_RX8_262 {args : Array Value} {s : State} {R rm : Room} (hts : ∀ w ∈ lwA, w.before args s = true) (hR : rm.frames + 1 ≤ R.frames ∧ 8 + (5 + 11) + rm.locals ≤ R.locals) : CallW R s args RX8 RX5 262 yX5_sweep cX5_sweep 5 (some .int) (lwC yX5_sweep cX5_sweep 5 (some .int)) rm rm.cells rm.slots 0 := cwV 0 hts (gdV m_2_120 m_2_121 m_2_122 m_1_4 m_2_123) rfl rfl rfl (by decide +kernel) hR
theorem m_4_227 : (Cond.code yX5_classOfValue cX5_classOfValue 4 (some .int)) ∈ lwA := lwA_mk (ck_4 _ (List.mem_of_getElem? (i := 227) rfl)) rfl
theorem m_4_224 : (Cond.methodLink RX8 284 yX5_classOfValue) ∈ lwA := lwA_mk (ck_4 _ (List.mem_of_getElem? (i := 224) rfl)) rfl
theorem m_4_225 : (Cond.instanceMethod yX5_classOfValue) ∈ lwA := lwA_mk (ck_4 _ (List.mem_of_getElem? (i := 225) rfl)) rfl
theorem m_4_226 : (Cond.selects RX5 yX5_classOfValue yX5_classOfValue) ∈ lwA := lwA_mk (ck_4 _ (List.mem_of_getElem? (i := 226) rfl)) rfl
theorem k_RX8_284 {args : Array Value} {s : State} {R rm : Room} (hts : ∀ w ∈ lwA, w.before args s = true) (hR : rm.frames + 1 ≤ R.frames ∧ 8 + (4 + 11) + rm.locals ≤ R.locals) : CallW R s args RX8 RX5 284 yX5_classOfValue cX5_classOfValue 4 (some .int) (lwC yX5_classOfValue cX5_classOfValue 4 (some .int)) rm rm.cells rm.slots 1 := cwV 1 hts (gdV m_4_224 m_4_225 m_4_226 m_1_4 m_4_227) rfl rfl rfl (by decide +kernel) hR
theorem m_4_13 : (Cond.classLink RX8 147 "java/lang/UnsupportedOperationException") ∈ lwA := lwA_mk (ck_4 _ (List.mem_of_getElem? (i := 13) rfl)) rfl
theorem m_1_33 : (Cond.initialized "java/lang/UnsupportedOperationException") ∈ lwA := lwA_mk (ck_1 _ (List.mem_of_getElem? (i := 33) rfl)) rfl
theorem th_RX8_147_151_1 : ∀ w ∈ (vx_atS RX8 151 "java/lang/UnsupportedOperationException" ["java/lang/RuntimeException", "java/lang/Exception"]).filter goodWord, w ∈ lwA := gA_f (by decide +kernel)
theorem th_RX8_147_151_2 : ∀ w ∈ (vx_atS RX8 151 "java/lang/UnsupportedOperationException" ["java/lang/RuntimeException", "java/lang/Exception"]).filter (fun w => !goodWord w), w ∈ lwN ∧ w.onTables = true := by decide +kernel
theorem th_RX8_147_151_3 : ∀ w ∈ Cond.classLink RX8 147 "java/lang/UnsupportedOperationException" :: Cond.initialized "java/lang/UnsupportedOperationException" :: vx_atS RX8 151 "java/lang/UnsupportedOperationException" ["java/lang/RuntimeException", "java/lang/Exception"], vx_ot w = true := by decide +kernel
theorem m_3_105 : (Cond.classLink RX8 113 "java/lang/IllegalStateException") ∈ lwA := lwA_mk (ck_3 _ (List.mem_of_getElem? (i := 105) rfl)) rfl
theorem m_1_25 : (Cond.initialized "java/lang/IllegalStateException") ∈ lwA := lwA_mk (ck_1 _ (List.mem_of_getElem? (i := 25) rfl)) rfl
theorem th_RX8_113_117_1 : ∀ w ∈ (vx_atS RX8 117 "java/lang/IllegalStateException" ["java/lang/RuntimeException", "java/lang/Exception"]).filter goodWord, w ∈ lwA := gA_f (by decide +kernel)
theorem th_RX8_113_117_2 : ∀ w ∈ (vx_atS RX8 117 "java/lang/IllegalStateException" ["java/lang/RuntimeException", "java/lang/Exception"]).filter (fun w => !goodWord w), w ∈ lwN ∧ w.onTables = true := by decide +kernel
theorem th_RX8_113_117_3 : ∀ w ∈ Cond.classLink RX8 113 "java/lang/IllegalStateException" :: Cond.initialized "java/lang/IllegalStateException" :: vx_atS RX8 117 "java/lang/IllegalStateException" ["java/lang/RuntimeException", "java/lang/Exception"], vx_ot w = true := by decide +kernel
theorem ck_5 : ∀ w ∈ tables_1_5, w ∈ lw_tbl := fun _ h => List.mem_append_right _ (List.mem_append_right _ (List.mem_append_right _ (List.mem_append_right _ (List.mem_append_right _ (List.mem_append_left _ h)))))
theorem m_5_237 : (Cond.code yX8_checkedAnswer cX8_checkedAnswer 1 (some .long)) ∈ lwA := lwA_mk (ck_5 _ (List.mem_of_getElem? (i := 237) rfl)) rfl
theorem m_5_234 : (Cond.methodLink RX8 312 yX8_checkedAnswer) ∈ lwA := lwA_mk (ck_5 _ (List.mem_of_getElem? (i := 234) rfl)) rfl
theorem m_5_236 : (Cond.instanceMethod yX8_checkedAnswer) ∈ lwA := lwA_mk (ck_5 _ (List.mem_of_getElem? (i := 236) rfl)) rfl
theorem ms_35 : (Cond.selects RX8 yX8_checkedAnswer yX8_checkedAnswer) ∈ lwA := lwA_mk (List.mem_append_left _ (List.mem_of_getElem? (i := 35) rfl)) rfl
theorem k_RX8_312 {args : Array Value} {s : State} {R rm : Room} (hts : ∀ w ∈ lwA, w.before args s = true) (hR : rm.frames + 1 ≤ R.frames ∧ 8 + (1 + 11) + rm.locals ≤ R.locals) : CallW R s args RX8 RX8 312 yX8_checkedAnswer cX8_checkedAnswer 1 (some .long) (lwC yX8_checkedAnswer cX8_checkedAnswer 1 (some .long)) rm rm.cells rm.slots 0 := cwV 0 hts (gdV m_5_234 m_5_236 ms_35 m_1_1 m_5_237) rfl rfl rfl (by decide +kernel) hR
theorem gf_RX8_66_12 {A9 : Nat → Prop} {H9 : Heap} {fs : List Value} {v : Value} (S : CallFix p m c cc nL s args lwA RX8) (hE : g_E D vwCl (gT ar) (EX1 κ) A9 s H9) (w : g_S D vwCl A H0 G H locs nz) (ha : G a = some (.inr (12, fs))) (hv : fs[11]? = some v) (hdg : decode cc pc = .ok (.getfield 66, 3)) (kk : W p l e R s m args below meth c H locs cells slots Q (F0 m (pc + 3) ls (v :: rest))) : W p l e R s m args below meth c H locs cells slots Q (F0 m pc ls (.ref a :: rest)) :=
  va_get (ci := 12) (C := RX8) (T := TX8) (N := 13) S.1 S.2.1 S.2.2.2.2 inA_RX8 S.2.2.2.1 hE.1 (g_1 w.1 ha) 0 rfl rfl 11 (by decide) (S.2.2.2.2 _ m_2_17) (fun _ h => h) hv hdg kk
theorem gf_RX8_72_12 {A9 : Nat → Prop} {H9 : Heap} {fs : List Value} {v : Value} (S : CallFix p m c cc nL s args lwA RX8) (hE : g_E D vwCl (gT ar) (EX1 κ) A9 s H9) (w : g_S D vwCl A H0 G H locs nz) (ha : G a = some (.inr (12, fs))) (hv : fs[12]? = some v) (hdg : decode cc pc = .ok (.getfield 72, 3)) (kk : W p l e R s m args below meth c H locs cells slots Q (F0 m (pc + 3) ls (v :: rest))) : W p l e R s m args below meth c H locs cells slots Q (F0 m pc ls (.ref a :: rest)) :=
  va_get (ci := 12) (C := RX8) (T := TX8) (N := 13) S.1 S.2.1 S.2.2.2.2 inA_RX8 S.2.2.2.1 hE.1 (g_1 w.1 ha) 0 rfl rfl 12 (by decide) (S.2.2.2.2 _ m_2_18) (fun _ h => h) hv hdg kk
theorem gf_RX8_336_11 {A9 : Nat → Prop} {H9 : Heap} {fs : List Value} {v : Value} (S : CallFix p m c cc nL s args lwA RX8) (hE : g_E D vwCl (gT ar) (EX1 κ) A9 s H9) (w : g_S D vwCl A H0 G H locs nz) (ha : G a = some (.inr (11, fs))) (hv : fs[1]? = some v) (hdg : decode cc pc = .ok (.getfield 336, 3)) (kk : W p l e R s m args below meth c H locs cells slots Q (F0 m (pc + 3) ls (v :: rest))) : W p l e R s m args below meth c H locs cells slots Q (F0 m pc ls (.ref a :: rest)) :=
  va_getN (ci := 11) (C := RX7) (T := TX7) (N := 4) S.1 S.2.1 S.2.2.2.2 inA_RX7 S.2.2.2.1 hE.1 (g_1 w.1 ha) 0 rfl rfl 1 (by decide) (va_Nw.use rfl (hE.2.1.1 _ (ckN_0 _ (List.mem_of_getElem? (i := 20) rfl)))) (fun _ h => h) hv hdg kk
theorem ck_6 : ∀ w ∈ tables_1_6, w ∈ lw_tbl := fun _ h => List.mem_append_right _ (List.mem_append_right _ (List.mem_append_right _ (List.mem_append_right _ (List.mem_append_right _ (List.mem_append_right _ (List.mem_append_left _ h))))))
theorem m_6_16 : (Cond.code yX8_checkedFrame cX8_checkedFrame 3 (some (.object "Sendhouse$Frame"))) ∈ lwA := lwA_mk (ck_6 _ (List.mem_of_getElem? (i := 16) rfl)) rfl
theorem m_6_13 : (Cond.methodLink RX8 316 yX8_checkedFrame) ∈ lwA := lwA_mk (ck_6 _ (List.mem_of_getElem? (i := 13) rfl)) rfl
theorem m_6_15 : (Cond.instanceMethod yX8_checkedFrame) ∈ lwA := lwA_mk (ck_6 _ (List.mem_of_getElem? (i := 15) rfl)) rfl
theorem ms_36 : (Cond.selects RX8 yX8_checkedFrame yX8_checkedFrame) ∈ lwA := lwA_mk (List.mem_append_left _ (List.mem_of_getElem? (i := 36) rfl)) rfl
theorem k_RX8_316 {args : Array Value} {s : State} {R rm : Room} (hts : ∀ w ∈ lwA, w.before args s = true) (hR : rm.frames + 1 ≤ R.frames ∧ 8 + (3 + 11) + rm.locals ≤ R.locals) : CallW R s args RX8 RX8 316 yX8_checkedFrame cX8_checkedFrame 3 (some (.object "Sendhouse$Frame")) (lwC yX8_checkedFrame cX8_checkedFrame 3 (some (.object "Sendhouse$Frame"))) rm rm.cells rm.slots 1 := cwV 1 hts (gdV m_6_13 m_6_15 ms_36 m_1_1 m_6_16) rfl rfl rfl (by decide +kernel) hR
theorem m_6_29 : (Cond.code yX8_checkedSlot cX8_checkedSlot 5 (some .long)) ∈ lwA := lwA_mk (ck_6 _ (List.mem_of_getElem? (i := 29) rfl)) rfl
theorem m_6_26 : (Cond.methodLink RX8 332 yX8_checkedSlot) ∈ lwA := lwA_mk (ck_6 _ (List.mem_of_getElem? (i := 26) rfl)) rfl
theorem m_6_28 : (Cond.instanceMethod yX8_checkedSlot) ∈ lwA := lwA_mk (ck_6 _ (List.mem_of_getElem? (i := 28) rfl)) rfl
theorem ms_37 : (Cond.selects RX8 yX8_checkedSlot yX8_checkedSlot) ∈ lwA := lwA_mk (List.mem_append_left _ (List.mem_of_getElem? (i := 37) rfl)) rfl
theorem k_RX8_332 {args : Array Value} {s : State} {R rm : Room} (hts : ∀ w ∈ lwA, w.before args s = true) (hR : rm.frames + 1 ≤ R.frames ∧ 8 + (5 + 11) + rm.locals ≤ R.locals) : CallW R s args RX8 RX8 332 yX8_checkedSlot cX8_checkedSlot 5 (some .long) (lwC yX8_checkedSlot cX8_checkedSlot 5 (some .long)) rm rm.cells rm.slots 3 := cwV 3 hts (gdV m_6_26 m_6_28 ms_37 m_1_1 m_6_29) rfl rfl rfl (by decide +kernel) hR
theorem m_6_50 : (Cond.code yX8_checkedWritten cX8_checkedWritten 2 (some .long)) ∈ lwA := lwA_mk (ck_6 _ (List.mem_of_getElem? (i := 50) rfl)) rfl
theorem m_6_47 : (Cond.methodLink RX8 337 yX8_checkedWritten) ∈ lwA := lwA_mk (ck_6 _ (List.mem_of_getElem? (i := 47) rfl)) rfl
theorem m_6_49 : (Cond.instanceMethod yX8_checkedWritten) ∈ lwA := lwA_mk (ck_6 _ (List.mem_of_getElem? (i := 49) rfl)) rfl
theorem ms_38 : (Cond.selects RX8 yX8_checkedWritten yX8_checkedWritten) ∈ lwA := lwA_mk (List.mem_append_left _ (List.mem_of_getElem? (i := 38) rfl)) rfl
theorem k_RX8_337 {args : Array Value} {s : State} {R rm : Room} (hts : ∀ w ∈ lwA, w.before args s = true) (hR : rm.frames + 1 ≤ R.frames ∧ 8 + (2 + 11) + rm.locals ≤ R.locals) : CallW R s args RX8 RX8 337 yX8_checkedWritten cX8_checkedWritten 2 (some .long) (lwC yX8_checkedWritten cX8_checkedWritten 2 (some .long)) rm rm.cells rm.slots 1 := cwV 1 hts (gdV m_6_47 m_6_49 ms_38 m_1_1 m_6_50) rfl rfl rfl (by decide +kernel) hR
theorem gf_RX8_25_12 {A9 : Nat → Prop} {H9 : Heap} {fs : List Value} {v : Value} (S : CallFix p m c cc nL s args lwA RX8) (hE : g_E D vwCl (gT ar) (EX1 κ) A9 s H9) (w : g_S D vwCl A H0 G H locs nz) (ha : G a = some (.inr (12, fs))) (hv : fs[2]? = some v) (hdg : decode cc pc = .ok (.getfield 25, 3)) (kk : W p l e R s m args below meth c H locs cells slots Q (F0 m (pc + 3) ls (v :: rest))) : W p l e R s m args below meth c H locs cells slots Q (F0 m pc ls (.ref a :: rest)) :=
  va_get (ci := 12) (C := RX8) (T := TX8) (N := 13) S.1 S.2.1 S.2.2.2.2 inA_RX8 S.2.2.2.1 hE.1 (g_1 w.1 ha) 0 rfl rfl 2 (by decide) (S.2.2.2.2 _ m_2_8) (fun _ h => h) hv hdg kk
theorem gf_RX8_128_7 {A9 : Nat → Prop} {H9 : Heap} {fs : List Value} {v : Value} (S : CallFix p m c cc nL s args lwA RX8) (hE : g_E D vwCl (gT ar) (EX1 κ) A9 s H9) (w : g_S D vwCl A H0 G H locs nz) (ha : G a = some (.inr (7, fs))) (hv : fs[5]? = some v) (hdg : decode cc pc = .ok (.getfield 128, 3)) (kk : W p l e R s m args below meth c H locs cells slots Q (F0 m (pc + 3) ls (v :: rest))) : W p l e R s m args below meth c H locs cells slots Q (F0 m pc ls (.ref a :: rest)) :=
  va_getN (ci := 7) (C := RX3) (T := TX3) (N := 7) S.1 S.2.1 S.2.2.2.2 inA_RX3 S.2.2.2.1 hE.1 (g_1 w.1 ha) 0 rfl rfl 5 (by decide) (va_Nw.use rfl (hE.2.1.1 _ (ckN_0 _ (List.mem_of_getElem? (i := 3) rfl)))) (fun _ h => h) hv hdg kk
theorem pf_RX8_128_7 {A9 : Nat → Prop} {H9 : Heap} {fs : List Value} {v : Value} (S : CallFix p m c cc nL s args lwA RX8) (hE : g_E D vwCl (gT ar) (EX1 κ) A9 s H9) (w : g_S D vwCl A H0 G H locs nz) (ha : G a = some (.inr (7, fs))) (hn : narrow .int v = v) (hfit : fits .int v = true) (hl : 5 < fs.length) {fs1 : List Value} (hfs : fs.set 5 v = fs1) (hdg : decode cc pc = .ok (.putfield 128, 3)) (kk : ∀ (H1 : Heap) (locs1 : List Loc), g_S D vwCl A H0 (g_up G a (.inr (7, fs1))) H1 locs1 nz → W p l e R s m args below meth c H1 locs1 cells slots Q (F0 m (pc + 3) ls rest)) : W p l e R s m args below meth c H locs cells slots Q (F0 m pc ls (v :: .ref a :: rest)) :=
  g_putN (ci := 7) (ty := .int) (C := RX3) (T := TX3) (N := 7) S.1 S.2.1 S.2.2.2.2 inA_RX3 tyX3 tyX3_ok nmX3 S.2.2.2.1 hE.1 w ha rfl 5 (by decide) (va_Nw.use rfl (hE.2.1.1 _ (ckN_0 _ (List.mem_of_getElem? (i := 3) rfl)))) (fun _ h => h) rfl (by decide +kernel) hn hfit hl hdg (fun H1 l1 w1 => kk H1 l1 (by rw [← hfs]; exact w1))
end SITES
def K_make (g c : Int32) : Int32 := if isB g 8 = 0 then 1 else if isB c 3 = 0 then 1 else if isPl c = 0 then 0 else 2
def K_begin (g se a : Int32) : Int32 := if isB g 8 = 0 then 1 else if isB se 16 = 0 then 1 else if isB a 3 = 0 then 2 else 4
def K_go (n : Int32) : Int32 := if n < 1 then 1 else if n ≤ 500 then 2 else 1
def K_told (c se a t : Int32) : Int32 := if isB c 3 = 0 then 1 else if isB se 16 = 0 then 1 else if isB a 3 = 0 then 2 else if isB t 5 = 0 then 2 else 3
theorem i32_le_lt {a b : Int32} (h : a ≤ b) : ¬ b < a := Int32.not_lt.mpr h
set_option maxHeartbeats 4000000 in
set_option maxRecDepth 100000 in
theorem c_X5_classOfValue (l : Launch) (D : va_G) (ar : Nat → ClassId) (κ : Nat → Nat) (G : gW) (sz : Nat) (o : Nat) (v : Int64) (a1 : Nat) (a2 : Nat) (ho : G o = some (.inr (9, [.ref a1, .ref a2, .int 0, .int 0, .int 0]))) (hn : isN v = 0) (hv : isT v = 0) : Met l yX5_classOfValue (lwC yX5_classOfValue cX5_classOfValue 4 (some .int)) (rD 4 0 0) (g_Pc D vwCl (gT ar) (EX1 κ) G sz [.ref o, .long v]) (g_Qi D vwCl (g_A G sz) (fun r u => r = 2 ∧ u = (G, sz))) 0 0 (g_A G sz) := by
  refine g_ofW (by decide +kernel) (Nat.le_of_ble_eq_true rfl) ?_
  intro p e s m below meth c ls S hr hlk hin hE w hl
  have hx := S.1
  have hb := S.2.1
  have hl : lv_has ls 4 [(0, .ref o), (1, .long v)] := hl
  have lt_ho : o < sz := g_ltn w ho
  refine lv_lload_n hx hb dX5_classOfValue_0 rfl (lv_at hl 1 rfl) ?_
  refine g_calli w (g_runSN (As := [.long v]) (rest := []) S hE w hl (c_X8_isNumber l D ar κ G sz v) (k_RX5_54 S.2.2.2.2 (hE.2.1.1 _ (ckN_1 _ (List.mem_of_getElem? (i := 23) rfl))) ⟨Nat.le_of_ble_eq_true rfl, Nat.le_of_ble_eq_true rfl⟩) rfl rfl (Nat.le_of_ble_eq_true rfl) dX5_classOfValue_1 ⟨Nat.le_of_ble_eq_true rfl, Nat.le_of_ble_eq_true rfl⟩) (fun r u H locs hp hnz w => ?_)
  obtain ⟨rfl, rfl⟩ := hp
  dsimp only at w
  refine lv_if_eq (tgt := 9) hx hb dX5_classOfValue_4 (by decide) (fun c_4 => ?_) (fun c_4 => absurd hn c_4)
  refine lv_aload_n hx hb dX5_classOfValue_9 rfl (lv_at hl 0 rfl) ?_
  refine lv_lload_n hx hb dX5_classOfValue_10 rfl (lv_at hl 1 rfl) ?_
  refine g_callq w (g_runV (As := [.long v]) (rest := []) S hE w hl (c_X5_ofValue l D ar κ G sz o v a1 a2 ho hv) (k_RX5_57 S.2.2.2.2 ⟨Nat.le_of_ble_eq_true rfl, Nat.le_of_ble_eq_true rfl⟩) ho rfl rfl rfl rfl (Nat.le_of_ble_eq_true rfl) dX5_classOfValue_11 ⟨Nat.le_of_ble_eq_true rfl, Nat.le_of_ble_eq_true rfl⟩) (fun r u H locs hp hnz w => ?_)
  obtain ⟨rfl, rfl⟩ := hp
  dsimp only at w
  refine lv_astore_nN (lv' := [(3, .null), (0, .ref o), (1, .long v)]) hx hb dX5_classOfValue_14 rfl hl (by decide) rfl (fun ls hl => ?_)
  refine lv_aload_nN hx hb dX5_classOfValue_15 rfl (lv_at hl 0 rfl) ?_
  refine lv_ifnonnullN hx hb dX5_classOfValue_16 ?_
  refine lv_iconst (v := 2) hx hb dX5_classOfValue_19 (by decide) ?_
  refine lv_goto (tgt := 27) hx hb dX5_classOfValue_20 (by decide) ?_
  exact g_iret hx hb hr hlk w (Nat.le_of_ble_eq_true rfl) (Nat.le_of_ble_eq_true rfl) dX5_classOfValue_27 ⟨rfl, rfl⟩
set_option maxHeartbeats 4000000 in
set_option maxRecDepth 100000 in
theorem c_X5_reachFields (l : Launch) (D : va_G) (ar : Nat → ClassId) (κ : Nat → Nat) (G : gW) (sz : Nat) (o : Nat) (a1 : Nat) (a2 : Nat) (g2 : Nat → Option Nat) (ho : G o = some (.inr (9, [.ref a1, .ref a2, .int 0, .int 0, .int 0]))) (h2 : G a2 = some (.inl (ar 7, 60, .inr (.inr (.inr (.inr g2)))))) : Met l yX5_reachFields (lwC yX5_reachFields cX5_reachFields 4 none) (rD 2 0 0) (g_Pc D vwCl (gT ar) (EX1 κ) G sz [.ref o]) (g_Qv D vwCl (g_A G sz) (fun u => u = (G, sz))) 0 0 (g_A G sz) := by
  refine g_ofW (by decide +kernel) (Nat.le_of_ble_eq_true rfl) ?_
  intro p e s m below meth c ls S hr hlk hin hE w hl
  have hx := S.1
  have hb := S.2.1
  have hl : lv_has ls 4 [(0, .ref o)] := hl
  have lt_ho : o < sz := g_ltn w ho
  have lt_h2 : a2 < sz := g_ltn w h2
  refine lv_iconst (v := 0) hx hb dX5_reachFields_0 (by decide) ?_
  refine lv_istore_n (lv' := [(1, .int 0), (0, .ref o)]) hx hb dX5_reachFields_1 rfl hl (by decide) rfl (fun ls hl => ?_)
  refine lv_iload_n hx hb dX5_reachFields_2 rfl (lv_at hl 0 rfl) ?_
  refine lv_aload_n hx hb dX5_reachFields_3 rfl (lv_at hl 1 rfl) ?_
  refine gf_RX5_17_9 S hE w ho rfl dX5_reachFields_4 ?_
  refine va_alen (v := 60) hx hb hE.1 (g_1 w.1 h2) 0 7 rfl rfl rfl dX5_reachFields_7 ?_
  refine lv_icmp_ge (tgt := 64) hx hb dX5_reachFields_8 (by decide) (fun c => absurd c (by decide)) (fun _ => ?_)
  refine lv_iload_n hx hb dX5_reachFields_11 rfl (lv_at hl 0 rfl) ?_
  refine lv_aload_n hx hb dX5_reachFields_12 rfl (lv_at hl 1 rfl) ?_
  refine gf_RX5_24_9 S hE w ho rfl dX5_reachFields_13 ?_
  refine lv_icmp_ge (tgt := 64) hx hb dX5_reachFields_16 (by decide) (fun _ => ?_) (fun c => absurd (by decide) c)
  exact g_vret hx hb hr hlk w (Nat.le_of_ble_eq_true rfl) (Nat.le_of_ble_eq_true rfl) dX5_reachFields_64 rfl
set_option maxHeartbeats 4000000 in
set_option maxRecDepth 100000 in
theorem c_X5_sweep (l : Launch) (D : va_G) (ar : Nat → ClassId) (κ : Nat → Nat) (G : gW) (sz : Nat) (o : Nat) (a1 : Nat) (a2 : Nat) (ho : G o = some (.inr (9, [.ref a1, .ref a2, .int 0, .int 0, .int 0]))) : Met l yX5_sweep (lwC yX5_sweep cX5_sweep 5 (some .int)) (rD 2 0 0) (g_Pc D vwCl (gT ar) (EX1 κ) G sz [.ref o]) (g_Qi D vwCl (g_A G sz) (fun r u => r = 0 ∧ u = ((g_up G o (.inr (9, [.ref a1, .ref a2, .int 0, .int 0, .int 0]))), sz))) 0 0 (g_A G sz) := by
  refine g_ofW (by decide +kernel) (Nat.le_of_ble_eq_true rfl) ?_
  intro p e s m below meth c ls S hr hlk hin hE w hl
  have hx := S.1
  have hb := S.2.1
  have hl : lv_has ls 5 [(0, .ref o)] := hl
  have lt_ho : o < sz := g_ltn w ho
  refine lv_aload_n hx hb dX5_sweep_0 rfl (lv_at hl 0 rfl) ?_
  refine gf_RX5_20_9 S hE w ho rfl dX5_sweep_1 ?_
  refine lv_istore_n (lv' := [(1, .int 0), (0, .ref o)]) hx hb dX5_sweep_4 rfl hl (by decide) rfl (fun ls hl => ?_)
  refine lv_iconst (v := 0) hx hb dX5_sweep_5 (by decide) ?_
  refine lv_istore_n (lv' := [(2, .int 0), (1, .int 0), (0, .ref o)]) hx hb dX5_sweep_6 rfl hl (by decide) rfl (fun ls hl => ?_)
  refine lv_iconst (v := 0) hx hb dX5_sweep_7 (by decide) ?_
  refine lv_istore_n (lv' := [(3, .int 0), (2, .int 0), (1, .int 0), (0, .ref o)]) hx hb dX5_sweep_8 rfl hl (by decide) rfl (fun ls hl => ?_)
  refine lv_iload_n hx hb dX5_sweep_9 rfl (lv_at hl 0 rfl) ?_
  refine lv_iload_n hx hb dX5_sweep_10 rfl (lv_at hl 2 rfl) ?_
  refine lv_icmp_ge (tgt := 84) hx hb dX5_sweep_11 (by decide) (fun _ => ?_) (fun c => absurd (by decide) c)
  refine lv_aload_n hx hb dX5_sweep_84 rfl (lv_at hl 3 rfl) ?_
  refine lv_iload_n hx hb dX5_sweep_85 rfl (lv_at hl 1 rfl) ?_
  refine pf_RX5_20_9 (fs1 := [.ref a1, .ref a2, .int 0, .int 0, .int 0]) S hE w ho rfl rfl (Nat.le_of_ble_eq_true rfl) rfl dX5_sweep_86 (fun H locs w => ?_)
  refine lv_aload_n hx hb dX5_sweep_89 rfl (lv_at hl 3 rfl) ?_
  refine lv_iconst (v := 0) hx hb dX5_sweep_90 (by decide) ?_
  refine pf_RX5_24_9 (fs1 := [.ref a1, .ref a2, .int 0, .int 0, .int 0]) S hE w g_up_s rfl rfl (Nat.le_of_ble_eq_true rfl) rfl dX5_sweep_91 (fun H locs w => ?_)
  have w := g_eqw w g_over
  refine lv_iload_n hx hb dX5_sweep_94 rfl (lv_at hl 2 rfl) ?_
  refine lv_iload_n hx hb dX5_sweep_95 rfl (lv_at hl 1 rfl) ?_
  refine lv_isub hx hb dX5_sweep_96 ?_
  rw [show (0 - 0 : Int32) = 0 by decide +kernel]
  exact g_iret hx hb hr hlk w (Nat.le_of_ble_eq_true rfl) (Nat.le_of_ble_eq_true rfl) dX5_sweep_97 ⟨rfl, rfl⟩
set_option maxHeartbeats 4000000 in
set_option maxRecDepth 100000 in
theorem c_X5_hasFieldsThere (l : Launch) (D : va_G) (ar : Nat → ClassId) (κ : Nat → Nat) (G : gW) (sz : Nat) (o : Nat) (a1 : Nat) (a2 : Nat) (ho : G o = some (.inr (9, [.ref a1, .ref a2, .int 0, .int 0, .int 0]))) : Met l yX5_hasFieldsThere (lwC yX5_hasFieldsThere cX5_hasFieldsThere 3 (some .boolean)) (rD 2 0 0) (g_Pc D vwCl (gT ar) (EX1 κ) G sz [.ref o]) (g_Qi D vwCl (g_A G sz) (fun r u => r = 1 ∧ u = (G, sz))) 0 0 (g_A G sz) := by
  refine g_ofW (by decide +kernel) (Nat.le_of_ble_eq_true rfl) ?_
  intro p e s m below meth c ls S hr hlk hin hE w hl
  have hx := S.1
  have hb := S.2.1
  have hl : lv_has ls 3 [(0, .ref o)] := hl
  have lt_ho : o < sz := g_ltn w ho
  refine lv_iconst (v := 0) hx hb dX5_hasFieldsThere_0 (by decide) ?_
  refine lv_istore_n (lv' := [(1, .int 0), (0, .ref o)]) hx hb dX5_hasFieldsThere_1 rfl hl (by decide) rfl (fun ls hl => ?_)
  refine lv_iload_n hx hb dX5_hasFieldsThere_2 rfl (lv_at hl 0 rfl) ?_
  refine lv_aload_n hx hb dX5_hasFieldsThere_3 rfl (lv_at hl 1 rfl) ?_
  refine gf_RX5_20_9 S hE w ho rfl dX5_hasFieldsThere_4 ?_
  refine lv_icmp_ge (tgt := 36) hx hb dX5_hasFieldsThere_7 (by decide) (fun _ => ?_) (fun c => absurd (by decide) c)
  refine lv_iconst (v := 1) hx hb dX5_hasFieldsThere_36 (by decide) ?_
  exact g_zret hx hb hr hlk w (Nat.le_of_ble_eq_true rfl) (Nat.le_of_ble_eq_true rfl) dX5_hasFieldsThere_37 rfl ⟨rfl, rfl⟩
set_option maxHeartbeats 4000000 in
set_option maxRecDepth 100000 in
theorem c_X4_open (l : Launch) (D : va_G) (ar : Nat → ClassId) (κ : Nat → Nat) (G : gW) (sz : Nat) (o : Nat) (n : Int32) (cl : Int32) (z : Int32) (tp : Nat) (g : Nat → Int64) (ho : G o = some (.inr (8, [.ref tp, .int 0, .int 0, .int 0, .int 0]))) (hp0 : G tp = some (.inl (ar 1, 8, .inr (.inl g)))) : Met l yX4_open (lwC yX4_open cX4_open 4 none) (rD 2 0 0) (g_Pc D vwCl (gT ar) (EX1 κ) G sz [.ref o, .int n, .int cl, .int z]) (g_Qv D vwCl (g_A G sz) (fun u => u = ((g_up (g_up G o (.inr (8, [.ref tp, .int n, .int cl, .int z, .int 0]))) tp (.inl (ar 1, 8, .inr (.inl (fillJ g 502511173632 8))))), sz))) 0 0 (g_A G sz) := by
  refine g_ofW (by decide +kernel) (Nat.le_of_ble_eq_true rfl) ?_
  intro p e s m below meth c ls S hr hlk hin hE w hl
  have hx := S.1
  have hb := S.2.1
  have hl : lv_has ls 4 [(0, .ref o), (1, .int n), (2, .int cl), (3, .int z)] := hl
  have lt_ho : o < sz := g_ltn w ho
  have lt_hp0 : tp < sz := g_ltn w hp0
  refine lv_aload_n hx hb dX4_open_0 rfl (lv_at hl 0 rfl) ?_
  refine lv_iload_n hx hb dX4_open_1 rfl (lv_at hl 1 rfl) ?_
  refine pf_RX4_15_8 (fs1 := [.ref tp, .int n, .int 0, .int 0, .int 0]) S hE w ho rfl rfl (Nat.le_of_ble_eq_true rfl) rfl dX4_open_2 (fun H locs w => ?_)
  refine lv_aload_n hx hb dX4_open_5 rfl (lv_at hl 0 rfl) ?_
  refine lv_iload_n hx hb dX4_open_6 rfl (lv_at hl 2 rfl) ?_
  refine pf_RX4_19_8 (fs1 := [.ref tp, .int n, .int cl, .int 0, .int 0]) S hE w g_up_s rfl rfl (Nat.le_of_ble_eq_true rfl) rfl dX4_open_7 (fun H locs w => ?_)
  have w := g_eqw w g_over
  refine lv_aload_n hx hb dX4_open_10 rfl (lv_at hl 0 rfl) ?_
  refine lv_iload_n hx hb dX4_open_11 rfl (lv_at hl 3 rfl) ?_
  refine pf_RX4_22_8 (fs1 := [.ref tp, .int n, .int cl, .int z, .int 0]) S hE w g_up_s rfl rfl (Nat.le_of_ble_eq_true rfl) rfl dX4_open_12 (fun H locs w => ?_)
  have w := g_eqw w g_over
  refine lv_aload_n hx hb dX4_open_15 rfl (lv_at hl 0 rfl) ?_
  refine lv_iconst (v := 0) hx hb dX4_open_16 (by decide) ?_
  refine pf_RX4_25_8 (fs1 := [.ref tp, .int n, .int cl, .int z, .int 0]) S hE w g_up_s rfl rfl (Nat.le_of_ble_eq_true rfl) rfl dX4_open_17 (fun H locs w => ?_)
  have w := g_eqw w g_over
  refine lv_aload_n hx hb dX4_open_20 rfl (lv_at hl 0 rfl) ?_
  refine gf_RX4_9_8 S hE w g_up_s rfl dX4_open_21 ?_
  refine lv_ldc2 hx hb S.2.2.2.1 (S.2.2.2.2 _ m_4_162) dX4_open_24 ?_
  refine g_callv w (g_runS (As := [.ref tp, .long 502511173632]) (rest := []) S hE w hl (c_fillJ l D ar κ (g_up G o (.inr (8, [.ref tp, .int n, .int cl, .int z, .int 0]))) sz tp 502511173632 8 g (g_up_o (g_nx hp0 ho (by simp)) hp0) (by decide)) (k_RX4_31 S.2.2.2.2 ⟨Nat.le_of_ble_eq_true rfl, Nat.le_of_ble_eq_true rfl⟩) rfl rfl (Nat.le_of_ble_eq_true rfl) dX4_open_27 ⟨Nat.le_of_ble_eq_true rfl, Nat.le_of_ble_eq_true rfl⟩) (fun u H locs hp hnz w => ?_)
  obtain rfl := hp
  dsimp only at w
  exact g_vret hx hb hr hlk w (Nat.le_of_ble_eq_true rfl) (Nat.le_of_ble_eq_true rfl) dX4_open_30 rfl
set_option maxHeartbeats 4000000 in
set_option maxRecDepth 100000 in
theorem c_X5_enlist (l : Launch) (D : va_G) (ar : Nat → ClassId) (κ : Nat → Nat) (G : gW) (sz : Nat) (o : Nat) (cl : Int32) (z : Int32) (a1 : Nat) (a2 : Nat) (t : Nat) (tp : Nat) (g : Nat → Int64) (ho : G o = some (.inr (9, [.ref a1, .ref a2, .int 0, .int 0, .int 0]))) (h1 : G a1 = some (.inl (ar 7, 60, .inr (.inr (.inr (.inr (thF t 60))))))) (ht : G t = some (.inr (8, [.ref tp, .int 0, .int 0, .int 0, .int 0]))) (hp0 : G tp = some (.inl (ar 1, 8, .inr (.inl g)))) : Met l yX5_enlist (lwC yX5_enlist cX5_enlist 5 (some .int)) (rD 3 0 0) (g_Pc D vwCl (gT ar) (EX1 κ) G sz [.ref o, .int cl, .int z]) (g_Qi D vwCl (g_A G sz) (fun r u => r = 0 ∧ u = ((g_up (g_up (g_up G t (.inr (8, [.ref tp, .int 0, .int cl, .int z, .int 0]))) tp (.inl (ar 1, 8, .inr (.inl (fillJ g 502511173632 8))))) o (.inr (9, [.ref a1, .ref a2, .int 1, .int 0, .int 1]))), sz))) 0 0 (g_A G sz) := by
  refine g_ofW (by decide +kernel) (Nat.le_of_ble_eq_true rfl) ?_
  intro p e s m below meth c ls S hr hlk hin hE w hl
  have hx := S.1
  have hb := S.2.1
  have hl : lv_has ls 5 [(0, .ref o), (1, .int cl), (2, .int z)] := hl
  have lt_ho : o < sz := g_ltn w ho
  have lt_h1 : a1 < sz := g_ltn w h1
  have lt_ht : t < sz := g_ltn w ht
  have lt_hp0 : tp < sz := g_ltn w hp0
  refine lv_aload_n hx hb dX5_enlist_0 rfl (lv_at hl 0 rfl) ?_
  refine gf_RX5_27_9 S hE w ho rfl dX5_enlist_1 ?_
  refine lv_istore_n (lv' := [(3, .int 0), (0, .ref o), (1, .int cl), (2, .int z)]) hx hb dX5_enlist_4 rfl hl (by decide) rfl (fun ls hl => ?_)
  refine lv_aload_n hx hb dX5_enlist_5 rfl (lv_at hl 1 rfl) ?_
  refine gf_RX5_20_9 S hE w ho rfl dX5_enlist_6 ?_
  refine lv_aload_n hx hb dX5_enlist_9 rfl (lv_at hl 1 rfl) ?_
  refine gf_RX5_11_9 S hE w ho rfl dX5_enlist_10 ?_
  refine va_alen (v := 60) hx hb hE.1 (g_1 w.1 h1) 0 7 rfl rfl rfl dX5_enlist_13 ?_
  refine g_calli w (g_runSN (As := [.int 0, .int 60]) (rest := []) S hE w hl (c_X8_isBelow l D ar κ G sz 0 60) (k_RX5_31 S.2.2.2.2 (hE.2.1.1 _ (ckN_0 _ (List.mem_of_getElem? (i := 31) rfl))) ⟨Nat.le_of_ble_eq_true rfl, Nat.le_of_ble_eq_true rfl⟩) rfl rfl (Nat.le_of_ble_eq_true rfl) dX5_enlist_14 ⟨Nat.le_of_ble_eq_true rfl, Nat.le_of_ble_eq_true rfl⟩) (fun r u H locs hp hnz w => ?_)
  obtain ⟨rfl, rfl⟩ := hp
  rw [show (isB 0 60 : Int32) = 1 from by decide +kernel]
  dsimp only at w
  refine lv_if_eq (tgt := 32) hx hb dX5_enlist_17 (by decide) (fun c => absurd c (by decide)) (fun _ => ?_)
  refine lv_aload_n hx hb dX5_enlist_20 rfl (lv_at hl 1 rfl) ?_
  refine gf_RX5_11_9 S hE w ho rfl dX5_enlist_21 ?_
  refine lv_aload_n hx hb dX5_enlist_24 rfl (lv_at hl 1 rfl) ?_
  refine gf_RX5_20_9 S hE w ho rfl dX5_enlist_25 ?_
  refine va_aldq hx hb hE.1 (g_1 w.1 h1) 0 7 rfl rfl (vp_in_nI (n := 0) (by decide) (by decide)) dX5_enlist_28 ?_
  rw [show (thF t 60) (Int32.toNatClampNeg 0) = some t from thF_z]
  show W p l e _ s m _ below meth c _ _ _ _ _ (F0 m 29 ls (.ref t :: _))
  refine lv_goto (tgt := 33) hx hb dX5_enlist_29 (by decide) ?_
  refine lv_astore (lv' := [(4, .ref t), (3, .int 0), (0, .ref o), (1, .int cl), (2, .int z)]) hx hb dX5_enlist_33 hl (by decide) rfl (fun ls hl => ?_)
  refine lv_aload hx hb dX5_enlist_35 (lv_at hl 0 rfl) ?_
  refine lv_ifnull hx hb dX5_enlist_37 ?_
  refine lv_aload hx hb dX5_enlist_40 (lv_at hl 0 rfl) ?_
  refine lv_iload_n hx hb dX5_enlist_42 rfl (lv_at hl 1 rfl) ?_
  refine lv_iload_n hx hb dX5_enlist_43 rfl (lv_at hl 3 rfl) ?_
  refine lv_iload_n hx hb dX5_enlist_44 rfl (lv_at hl 4 rfl) ?_
  refine g_callv w (g_runV (As := [.int 0, .int cl, .int z]) (rest := []) S hE w hl (c_X4_open l D ar κ G sz t 0 cl z tp g ht hp0) (k_RX5_35 S.2.2.2.2 ⟨Nat.le_of_ble_eq_true rfl, Nat.le_of_ble_eq_true rfl⟩) ht rfl rfl rfl rfl (Nat.le_of_ble_eq_true rfl) dX5_enlist_45 ⟨Nat.le_of_ble_eq_true rfl, Nat.le_of_ble_eq_true rfl⟩) (fun u H locs hp hnz w => ?_)
  obtain rfl := hp
  dsimp only at w
  refine lv_aload_n hx hb dX5_enlist_48 rfl (lv_at hl 2 rfl) ?_
  refine lv_dup hx hb dX5_enlist_49 rfl ?_
  refine gf_RX5_20_9 S hE w (g_up_o (g_nx ho hp0 (by simp)) (g_up_o (g_nx ho ht (by simp)) ho)) rfl dX5_enlist_50 ?_
  refine lv_iconst (v := 1) hx hb dX5_enlist_53 (by decide) ?_
  refine lv_iadd hx hb dX5_enlist_54 ?_
  rw [show (0 + 1 : Int32) = 1 by decide +kernel]
  refine pf_RX5_20_9 (fs1 := [.ref a1, .ref a2, .int 1, .int 0, .int 0]) S hE w (g_up_o (g_nx ho hp0 (by simp)) (g_up_o (g_nx ho ht (by simp)) ho)) rfl rfl (Nat.le_of_ble_eq_true rfl) rfl dX5_enlist_55 (fun H locs w => ?_)
  refine lv_aload_n hx hb dX5_enlist_58 rfl (lv_at hl 2 rfl) ?_
  refine lv_dup hx hb dX5_enlist_59 rfl ?_
  refine gf_RX5_27_9 S hE w g_up_s rfl dX5_enlist_60 ?_
  refine lv_iconst (v := 1) hx hb dX5_enlist_63 (by decide) ?_
  refine lv_iadd hx hb dX5_enlist_64 ?_
  rw [show (0 + 1 : Int32) = 1 by decide +kernel]
  refine pf_RX5_27_9 (fs1 := [.ref a1, .ref a2, .int 1, .int 0, .int 1]) S hE w g_up_s rfl rfl (Nat.le_of_ble_eq_true rfl) rfl dX5_enlist_65 (fun H locs w => ?_)
  have w := g_eqw w g_over
  refine lv_iload_n hx hb dX5_enlist_68 rfl (lv_at hl 1 rfl) ?_
  exact g_iret hx hb hr hlk w (Nat.le_of_ble_eq_true rfl) (Nat.le_of_ble_eq_true rfl) dX5_enlist_69 ⟨rfl, rfl⟩
set_option maxHeartbeats 4000000 in
set_option maxRecDepth 100000 in
theorem h_make (l : Launch) (D : va_G) (ar : Nat → ClassId) (κ : Nat → Nat) (G : gW) (sz : Nat) (x : Nat) (g : Int32) (cl : Int32) (q : Nat) (hF : FH ar κ G x q) (hlt : l.stackTraces = false) : vx_Met l yX8_make (lwC yX8_make cX8_make 4 (some .int)) (rD 8 1 6) (g_Pc D vwCl (gT ar) (EX1 κ) G sz [.ref x, .int g, .int cl]) (g_Qi D vwCl (g_A G sz) (fun r u => K_make g cl = 0 ∧ r = 0)) (gX D (g_A G sz) (fun E u => (E = "java/lang/IndexOutOfBoundsException" ∧ K_make g cl = 1) ∨ (E = "java/lang/IllegalArgumentException" ∧ K_make g cl = 2) ∨ (E = "java/lang/IllegalStateException" ∧ K_make g cl = 3))) 1 6 (g_A G sz) := by
  refine gx_ofW (by decide +kernel) (Nat.le_of_ble_eq_true rfl) ?_
  intro p e s m below meth c ls S hr hlk ht hE w hl
  have hx := S.1
  have hb := S.2.1
  have hl : lv_has ls 4 [(0, .ref x), (1, .int g), (2, .int cl)] := hl
  obtain ⟨hxq, f0, f1, f2, f3, f4, f5, f6, f7, f8, f9, f10, f11, f12, f13, f14, f15, f16, f17, f18, f19⟩ := id hF
  refine lv_iload_n hx hb dX8_make_0 rfl (lv_at hl 1 rfl) ?_
  refine lv_bipush (v := 8) hx hb dX8_make_1 (by decide) ?_
  refine g_calli w (g_runS (As := [.int g, .int 8]) (rest := []) S hE w hl (c_X8_isBelow l D ar κ G sz g 8) (k_RX8_97 S.2.2.2.2 ⟨Nat.le_of_ble_eq_true rfl, Nat.le_of_ble_eq_true rfl⟩) rfl rfl (Nat.le_of_ble_eq_true rfl) dX8_make_3 ⟨Nat.le_of_ble_eq_true rfl, Nat.le_of_ble_eq_true rfl⟩) (fun r u H locs hp hnz w => ?_)
  obtain ⟨rfl, rfl⟩ := hp
  dsimp only at w
  refine lv_if_eq (tgt := 20) hx hb dX8_make_6 (by decide) (fun c_6 => ?_) (fun c_6 => ?_)
  · exact g_throwS (names := ["java/lang/RuntimeException", "java/lang/Exception"]) hlt S hE w hl ht hlk (by decide +kernel) (by decide +kernel) m_3_69 m_1_21 (List.mem_of_getElem? (i := 11) rfl) th_RX8_87_91_1 th_RX8_87_91_2 th_RX8_87_91_3 dX8_make_20 dX8_make_23 dX8_make_24 dX8_make_26 dX8_make_29 (Nat.le_of_ble_eq_true rfl) (Nat.le_of_ble_eq_true rfl) (Nat.le_of_ble_eq_true rfl) (Nat.le_of_ble_eq_true rfl) (Nat.le_of_ble_eq_true rfl) (Nat.le_of_ble_eq_true rfl) (fun _ _ => Or.inl ⟨rfl, by simp [K_make, c_6]⟩)
  · refine lv_aload_n hx hb dX8_make_9 rfl (lv_at hl 0 rfl) ?_
    refine gf_RX8_10_12 S hE w f0 rfl dX8_make_10 ?_
    refine lv_iload_n hx hb dX8_make_13 rfl (lv_at hl 2 rfl) ?_
    refine g_calli w (g_runV (As := [.int cl]) (rest := []) S hE w hl (c_X0_has l D ar κ G sz q cl (q + 1) (q + 2) 3 f1) (k_RX8_83 S.2.2.2.2 ⟨Nat.le_of_ble_eq_true rfl, Nat.le_of_ble_eq_true rfl⟩) f1 rfl rfl rfl rfl (Nat.le_of_ble_eq_true rfl) dX8_make_14 ⟨Nat.le_of_ble_eq_true rfl, Nat.le_of_ble_eq_true rfl⟩) (fun r u H locs hp hnz w => ?_)
    obtain ⟨rfl, rfl⟩ := hp
    dsimp only at w
    refine lv_if_ne (tgt := 30) hx hb dX8_make_17 (by decide) (fun c_17 => ?_) (fun c_17 => ?_)
    · refine lv_iload_n hx hb dX8_make_30 rfl (lv_at hl 2 rfl) ?_
      refine g_calli w (g_runS (As := [.int cl]) (rest := []) S hE w hl (c_X8_isOfPlainValues l D ar κ G sz cl) (k_RX8_94 S.2.2.2.2 ⟨Nat.le_of_ble_eq_true rfl, Nat.le_of_ble_eq_true rfl⟩) rfl rfl (Nat.le_of_ble_eq_true rfl) dX8_make_31 ⟨Nat.le_of_ble_eq_true rfl, Nat.le_of_ble_eq_true rfl⟩) (fun r u H locs hp hnz w => ?_)
      obtain ⟨rfl, rfl⟩ := hp
      dsimp only at w
      refine lv_if_eq (tgt := 47) hx hb dX8_make_34 (by decide) (fun c_34 => ?_) (fun c_34 => ?_)
      · refine lv_aload_n hx hb dX8_make_47 rfl (lv_at hl 0 rfl) ?_
        refine gf_RX8_40_12 S hE w f0 rfl dX8_make_48 ?_
        refine g_calli w (g_runV (As := []) (rest := []) S hE w hl (c_X5_isFull l D ar κ G sz (q + 11) (q + 12) (q + 13) f12) (k_RX8_212 S.2.2.2.2 ⟨Nat.le_of_ble_eq_true rfl, Nat.le_of_ble_eq_true rfl⟩) f12 rfl rfl rfl rfl (Nat.le_of_ble_eq_true rfl) dX8_make_51 ⟨Nat.le_of_ble_eq_true rfl, Nat.le_of_ble_eq_true rfl⟩) (fun r u H locs hp hnz w => ?_)
        obtain ⟨rfl, rfl⟩ := hp
        dsimp only at w
        refine lv_if_eq (tgt := 67) hx hb dX8_make_54 (by decide) (fun _ => ?_) (fun c => absurd (by decide) c)
        refine lv_aload_n hx hb dX8_make_67 rfl (lv_at hl 0 rfl) ?_
        refine gf_RX8_40_12 S hE w f0 rfl dX8_make_68 ?_
        refine lv_iload_n hx hb dX8_make_71 rfl (lv_at hl 2 rfl) ?_
        refine lv_aload_n hx hb dX8_make_72 rfl (lv_at hl 0 rfl) ?_
        refine gf_RX8_10_12 S hE w f0 rfl dX8_make_73 ?_
        refine lv_iload_n hx hb dX8_make_76 rfl (lv_at hl 2 rfl) ?_
        refine g_calli w (g_runV (As := [.int cl]) (rest := [.int cl, .ref (q + 11)]) S hE w hl (c_X0_fieldsOf l D ar κ G sz q cl (q + 1) (q + 2) 3 (fun _ => 0) f1 f3) (k_RX8_101 S.2.2.2.2 ⟨Nat.le_of_ble_eq_true rfl, Nat.le_of_ble_eq_true rfl⟩) f1 rfl rfl rfl rfl (Nat.le_of_ble_eq_true rfl) dX8_make_77 ⟨Nat.le_of_ble_eq_true rfl, Nat.le_of_ble_eq_true rfl⟩) (fun r u H locs hp hnz w => ?_)
        obtain ⟨rfl, rfl⟩ := hp
        dsimp only at w
        refine g_calli w (g_runV (As := [.int cl, .int (aA (fun _ => 0) 0 cl)]) (rest := []) S hE w hl (c_X5_enlist l D ar κ G sz (q + 11) cl (aA (fun _ => 0) 0 cl) (q + 12) (q + 13) (q + 14) (q + 15) (fun _ => 0) f12 f13 f15 f16) (k_RX8_218 S.2.2.2.2 ⟨Nat.le_of_ble_eq_true rfl, Nat.le_of_ble_eq_true rfl⟩) f12 rfl rfl rfl rfl (Nat.le_of_ble_eq_true rfl) dX8_make_80 ⟨Nat.le_of_ble_eq_true rfl, Nat.le_of_ble_eq_true rfl⟩) (fun r u H locs hp hnz w => ?_)
        obtain ⟨rfl, rfl⟩ := hp
        dsimp only at w
        refine lv_istore_n (lv' := [(3, .int 0), (0, .ref x), (1, .int g), (2, .int cl)]) hx hb dX8_make_83 rfl hl (by decide) rfl (fun ls hl => ?_)
        refine lv_aload_n hx hb dX8_make_84 rfl (lv_at hl 1 rfl) ?_
        refine gf_RX8_33_12 S hE w (g_up_o (g_nx f0 f12 (by simp)) (g_up_o (g_nx f0 f16 (by simp)) (g_up_o (g_nx f0 f15 (by simp)) f0))) rfl dX8_make_85 ?_
        refine lv_iload_n hx hb dX8_make_88 rfl (lv_at hl 2 rfl) ?_
        refine lv_iload_n hx hb dX8_make_89 rfl (lv_at hl 0 rfl) ?_
        refine g_calll w (g_runS (As := [.int 0]) (rest := [.int g, .ref (q + 10)]) S hE w hl (c_X8_ofThing l D ar κ (g_up (g_up (g_up G (q + 14) (.inr (8, [.ref (q + 15), .int 0, .int cl, .int (aA (fun _ => 0) 0 cl), .int 0]))) (q + 15) (.inl (ar 1, 8, .inr (.inl (fillJ (fun _ => 0) 502511173632 8))))) (q + 11) (.inr (9, [.ref (q + 12), .ref (q + 13), .int 1, .int 0, .int 1]))) sz 0) (k_RX8_219 S.2.2.2.2 ⟨Nat.le_of_ble_eq_true rfl, Nat.le_of_ble_eq_true rfl⟩) rfl rfl (Nat.le_of_ble_eq_true rfl) dX8_make_90 ⟨Nat.le_of_ble_eq_true rfl, Nat.le_of_ble_eq_true rfl⟩) (fun r u H locs hp hnz w => ?_)
        obtain ⟨rfl, rfl⟩ := hp
        rw [show (476741369856 ||| ((0 : Int32).toInt64 &&& 4294967295) : Int64) = 476741369856 from by decide +kernel]
        dsimp only at w
        refine g_callv w (g_runS (As := [.ref (q + 10), .int g, .long 476741369856]) (rest := []) S hE w hl (c_X8_putAt l D ar κ (g_up (g_up (g_up G (q + 14) (.inr (8, [.ref (q + 15), .int 0, .int cl, .int (aA (fun _ => 0) 0 cl), .int 0]))) (q + 15) (.inl (ar 1, 8, .inr (.inl (fillJ (fun _ => 0) 502511173632 8))))) (q + 11) (.inr (9, [.ref (q + 12), .ref (q + 13), .int 1, .int 0, .int 1]))) sz (q + 10) g 476741369856 8 (fillJ (fun _ => 0) 502511173632 8) (g_up_o (g_nx f11 f12 (by simp)) (g_up_o (by omega) (g_up_o (g_nx f11 f15 (by simp)) f11))) (by decide) c_6) (k_RX8_203 S.2.2.2.2 ⟨Nat.le_of_ble_eq_true rfl, Nat.le_of_ble_eq_true rfl⟩) rfl rfl (Nat.le_of_ble_eq_true rfl) dX8_make_93 ⟨Nat.le_of_ble_eq_true rfl, Nat.le_of_ble_eq_true rfl⟩) (fun u H locs hp hnz w => ?_)
        obtain rfl := hp
        dsimp only at w
        refine lv_iload_n hx hb dX8_make_96 rfl (lv_at hl 0 rfl) ?_
        exact vx_ret (g_iret hx hb hr hlk w (Nat.le_of_ble_eq_true rfl) (Nat.le_of_ble_eq_true rfl) dX8_make_97 (by first | (simp [K_make, c_6, c_17, c_34]; done) | (simp [K_make, c_6, c_17, c_34]; decide)))
      · exact g_throwS (names := ["java/lang/RuntimeException", "java/lang/Exception"]) hlt S hE w hl ht hlk (by decide +kernel) (by decide +kernel) m_3_89 m_1_24 (List.mem_of_getElem? (i := 12) rfl) th_RX8_105_109_1 th_RX8_105_109_2 th_RX8_105_109_3 dX8_make_37 dX8_make_40 dX8_make_41 dX8_make_43 dX8_make_46 (Nat.le_of_ble_eq_true rfl) (Nat.le_of_ble_eq_true rfl) (Nat.le_of_ble_eq_true rfl) (Nat.le_of_ble_eq_true rfl) (Nat.le_of_ble_eq_true rfl) (Nat.le_of_ble_eq_true rfl) (fun _ _ => Or.inr (Or.inl ⟨rfl, by simp [K_make, c_6, c_17, c_34]⟩))
    · exact g_throwS (names := ["java/lang/RuntimeException", "java/lang/Exception"]) hlt S hE w hl ht hlk (by decide +kernel) (by decide +kernel) m_3_69 m_1_21 (List.mem_of_getElem? (i := 11) rfl) th_RX8_87_91_1 th_RX8_87_91_2 th_RX8_87_91_3 dX8_make_20 dX8_make_23 dX8_make_24 dX8_make_26 dX8_make_29 (Nat.le_of_ble_eq_true rfl) (Nat.le_of_ble_eq_true rfl) (Nat.le_of_ble_eq_true rfl) (Nat.le_of_ble_eq_true rfl) (Nat.le_of_ble_eq_true rfl) (Nat.le_of_ble_eq_true rfl) (fun _ _ => Or.inl ⟨rfl, by simp [K_make, c_6, c_17]⟩)
set_option maxHeartbeats 4000000 in
set_option maxRecDepth 100000 in
theorem h_classOf (l : Launch) (D : va_G) (ar : Nat → ClassId) (κ : Nat → Nat) (G : gW) (sz : Nat) (x : Nat) (n : Int32) (q : Nat) (hF : FH ar κ G x q) (hlt : l.stackTraces = false) : vx_Met l yX8_classOf (lwC yX8_classOf cX8_classOf 3 (some .int)) (rD 7 1 6) (g_Pc D vwCl (gT ar) (EX1 κ) G sz [.ref x, .int n]) (g_Qi D vwCl (g_A G sz) (fun r u => False)) (gX D (g_A G sz) (fun E u => (E = "java/lang/IndexOutOfBoundsException" ∧ True))) 1 6 (g_A G sz) := by
  refine gx_ofW (by decide +kernel) (Nat.le_of_ble_eq_true rfl) ?_
  intro p e s m below meth c ls S hr hlk ht hE w hl
  have hx := S.1
  have hb := S.2.1
  have hl : lv_has ls 3 [(0, .ref x), (1, .int n)] := hl
  obtain ⟨hxq, f0, f1, f2, f3, f4, f5, f6, f7, f8, f9, f10, f11, f12, f13, f14, f15, f16, f17, f18, f19⟩ := id hF
  refine lv_aload_n hx hb dX8_classOf_0 rfl (lv_at hl 0 rfl) ?_
  refine gf_RX8_40_12 S hE w f0 rfl dX8_classOf_1 ?_
  refine lv_iload_n hx hb dX8_classOf_4 rfl (lv_at hl 1 rfl) ?_
  refine g_callq w (g_runV (As := [.int n]) (rest := []) S hE w hl (c_X5_withNumber l D ar κ G sz (q + 11) n (q + 12) (q + 13) f12) (k_RX8_234 S.2.2.2.2 ⟨Nat.le_of_ble_eq_true rfl, Nat.le_of_ble_eq_true rfl⟩) f12 rfl rfl rfl rfl (Nat.le_of_ble_eq_true rfl) dX8_classOf_5 ⟨Nat.le_of_ble_eq_true rfl, Nat.le_of_ble_eq_true rfl⟩) (fun r u H locs hp hnz w => ?_)
  obtain ⟨rfl, rfl⟩ := hp
  dsimp only at w
  refine lv_astore_nN (lv' := [(2, .null), (0, .ref x), (1, .int n)]) hx hb dX8_classOf_8 rfl hl (by decide) rfl (fun ls hl => ?_)
  refine lv_aload_nN hx hb dX8_classOf_9 rfl (lv_at hl 0 rfl) ?_
  refine lv_ifnonnullN hx hb dX8_classOf_10 ?_
  exact g_throwS (names := ["java/lang/RuntimeException", "java/lang/Exception"]) hlt S hE w hl ht hlk (by decide +kernel) (by decide +kernel) m_3_69 m_1_21 (List.mem_of_getElem? (i := 14) rfl) th_RX8_87_91_1 th_RX8_87_91_2 th_RX8_87_91_3 dX8_classOf_13 dX8_classOf_16 dX8_classOf_17 dX8_classOf_19 dX8_classOf_22 (Nat.le_of_ble_eq_true rfl) (Nat.le_of_ble_eq_true rfl) (Nat.le_of_ble_eq_true rfl) (Nat.le_of_ble_eq_true rfl) (Nat.le_of_ble_eq_true rfl) (Nat.le_of_ble_eq_true rfl) (fun _ _ => ⟨rfl, by simp []⟩)
set_option maxHeartbeats 4000000 in
set_option maxRecDepth 100000 in
theorem h_checkedField (l : Launch) (D : va_G) (ar : Nat → ClassId) (κ : Nat → Nat) (G : gW) (sz : Nat) (x : Nat) (n : Int32) (k : Int32) (q : Nat) (hF : FH ar κ G x q) (hlt : l.stackTraces = false) : vx_Met l yX8_checkedField (lwC yX8_checkedField cX8_checkedField 4 (some .long)) (rD 7 1 6) (g_Pc D vwCl (gT ar) (EX1 κ) G sz [.ref x, .int n, .int k]) (g_Ql D vwCl (g_A G sz) (fun r u => False)) (gX D (g_A G sz) (fun E u => (E = "java/lang/IndexOutOfBoundsException" ∧ True))) 1 6 (g_A G sz) := by
  refine gx_ofW (by decide +kernel) (Nat.le_of_ble_eq_true rfl) ?_
  intro p e s m below meth c ls S hr hlk ht hE w hl
  have hx := S.1
  have hb := S.2.1
  have hl : lv_has ls 4 [(0, .ref x), (1, .int n), (2, .int k)] := hl
  obtain ⟨hxq, f0, f1, f2, f3, f4, f5, f6, f7, f8, f9, f10, f11, f12, f13, f14, f15, f16, f17, f18, f19⟩ := id hF
  refine lv_aload_n hx hb dX8_checkedField_0 rfl (lv_at hl 0 rfl) ?_
  refine gf_RX8_40_12 S hE w f0 rfl dX8_checkedField_1 ?_
  refine lv_iload_n hx hb dX8_checkedField_4 rfl (lv_at hl 1 rfl) ?_
  refine g_callq w (g_runV (As := [.int n]) (rest := []) S hE w hl (c_X5_withNumber l D ar κ G sz (q + 11) n (q + 12) (q + 13) f12) (k_RX8_234 S.2.2.2.2 ⟨Nat.le_of_ble_eq_true rfl, Nat.le_of_ble_eq_true rfl⟩) f12 rfl rfl rfl rfl (Nat.le_of_ble_eq_true rfl) dX8_checkedField_5 ⟨Nat.le_of_ble_eq_true rfl, Nat.le_of_ble_eq_true rfl⟩) (fun r u H locs hp hnz w => ?_)
  obtain ⟨rfl, rfl⟩ := hp
  dsimp only at w
  refine lv_astore_nN (lv' := [(3, .null), (0, .ref x), (1, .int n), (2, .int k)]) hx hb dX8_checkedField_8 rfl hl (by decide) rfl (fun ls hl => ?_)
  refine lv_aload_nN hx hb dX8_checkedField_9 rfl (lv_at hl 0 rfl) ?_
  refine lv_ifnullN (tgt := 21) hx hb dX8_checkedField_10 (by decide) ?_
  exact g_throwSW (names := ["java/lang/RuntimeException", "java/lang/Exception"]) hlt S hE w hl ht hlk (by decide +kernel) (by decide +kernel) m_3_69 m_1_21 (List.mem_of_getElem? (i := 15) rfl) th_RX8_87_91_1 th_RX8_87_91_2 th_RX8_87_91_3 dX8_checkedField_21 dX8_checkedField_24 dX8_checkedField_25 dX8_checkedField_28 dX8_checkedField_31 (Nat.le_of_ble_eq_true rfl) (Nat.le_of_ble_eq_true rfl) (Nat.le_of_ble_eq_true rfl) (Nat.le_of_ble_eq_true rfl) (Nat.le_of_ble_eq_true rfl) (Nat.le_of_ble_eq_true rfl) (fun _ _ => ⟨rfl, by simp []⟩)
set_option maxHeartbeats 4000000 in
set_option maxRecDepth 100000 in
theorem h_fieldKind (l : Launch) (D : va_G) (ar : Nat → ClassId) (κ : Nat → Nat) (G : gW) (sz : Nat) (x : Nat) (n : Int32) (k : Int32) (q : Nat) (hF : FH ar κ G x q) (hlt : l.stackTraces = false) : vx_Met l yX8_fieldKind (lwC yX8_fieldKind cX8_fieldKind 3 (some .char)) (rD 8 1 6) (g_Pc D vwCl (gT ar) (EX1 κ) G sz [.ref x, .int n, .int k]) (g_Qi D vwCl (g_A G sz) (fun r u => False)) (gX D (g_A G sz) (fun E u => (E = "java/lang/IndexOutOfBoundsException" ∧ True))) 1 6 (g_A G sz) := by
  refine gx_ofW (by decide +kernel) (Nat.le_of_ble_eq_true rfl) ?_
  intro p e s m below meth c ls S hr hlk ht hE w hl
  have hx := S.1
  have hb := S.2.1
  have hl : lv_has ls 3 [(0, .ref x), (1, .int n), (2, .int k)] := hl
  obtain ⟨hxq, f0, f1, f2, f3, f4, f5, f6, f7, f8, f9, f10, f11, f12, f13, f14, f15, f16, f17, f18, f19⟩ := id hF
  refine lv_aload_n hx hb dX8_fieldKind_0 rfl (lv_at hl 0 rfl) ?_
  refine lv_iload_n hx hb dX8_fieldKind_1 rfl (lv_at hl 1 rfl) ?_
  refine lv_iload_n hx hb dX8_fieldKind_2 rfl (lv_at hl 2 rfl) ?_
  exact gx_calll w (gx_runV (As := [.int n, .int k]) (rest := []) S hE w hl (h_checkedField l D ar κ G sz x n k q hF hlt) (k_RX8_243 S.2.2.2.2 ⟨Nat.le_of_ble_eq_true rfl, Nat.le_of_ble_eq_true rfl⟩) f0 rfl rfl rfl rfl (Nat.le_of_ble_eq_true rfl) dX8_fieldKind_3 ⟨Nat.le_of_ble_eq_true rfl, Nat.le_of_ble_eq_true rfl⟩) (fun E ce q9 u H locs hp hnz w hce hv hcl => g_pass ht hlk w hce hv hcl hp (Nat.le_of_ble_eq_true rfl) (Nat.le_of_ble_eq_true rfl)) (fun r u H locs hp hnz w => hp.elim)
set_option maxHeartbeats 4000000 in
set_option maxRecDepth 100000 in
theorem h_fieldValue (l : Launch) (D : va_G) (ar : Nat → ClassId) (κ : Nat → Nat) (G : gW) (sz : Nat) (x : Nat) (n : Int32) (k : Int32) (q : Nat) (hF : FH ar κ G x q) (hlt : l.stackTraces = false) : vx_Met l yX8_fieldValue (lwC yX8_fieldValue cX8_fieldValue 3 (some .int)) (rD 8 1 6) (g_Pc D vwCl (gT ar) (EX1 κ) G sz [.ref x, .int n, .int k]) (g_Qi D vwCl (g_A G sz) (fun r u => False)) (gX D (g_A G sz) (fun E u => (E = "java/lang/IndexOutOfBoundsException" ∧ True))) 1 6 (g_A G sz) := by
  refine gx_ofW (by decide +kernel) (Nat.le_of_ble_eq_true rfl) ?_
  intro p e s m below meth c ls S hr hlk ht hE w hl
  have hx := S.1
  have hb := S.2.1
  have hl : lv_has ls 3 [(0, .ref x), (1, .int n), (2, .int k)] := hl
  obtain ⟨hxq, f0, f1, f2, f3, f4, f5, f6, f7, f8, f9, f10, f11, f12, f13, f14, f15, f16, f17, f18, f19⟩ := id hF
  refine lv_aload_n hx hb dX8_fieldValue_0 rfl (lv_at hl 0 rfl) ?_
  refine lv_iload_n hx hb dX8_fieldValue_1 rfl (lv_at hl 1 rfl) ?_
  refine lv_iload_n hx hb dX8_fieldValue_2 rfl (lv_at hl 2 rfl) ?_
  exact gx_calll w (gx_runV (As := [.int n, .int k]) (rest := []) S hE w hl (h_checkedField l D ar κ G sz x n k q hF hlt) (k_RX8_243 S.2.2.2.2 ⟨Nat.le_of_ble_eq_true rfl, Nat.le_of_ble_eq_true rfl⟩) f0 rfl rfl rfl rfl (Nat.le_of_ble_eq_true rfl) dX8_fieldValue_3 ⟨Nat.le_of_ble_eq_true rfl, Nat.le_of_ble_eq_true rfl⟩) (fun E ce q9 u H locs hp hnz w hce hv hcl => g_pass ht hlk w hce hv hcl hp (Nat.le_of_ble_eq_true rfl) (Nat.le_of_ble_eq_true rfl)) (fun r u H locs hp hnz w => hp.elim)
set_option maxHeartbeats 4000000 in
set_option maxRecDepth 100000 in
theorem h_things (l : Launch) (D : va_G) (ar : Nat → ClassId) (κ : Nat → Nat) (G : gW) (sz : Nat) (x : Nat) (q : Nat) (hF : FH ar κ G x q) : Met l yX8_things (lwC yX8_things cX8_things 1 (some .int)) (rD 2 0 0) (g_Pc D vwCl (gT ar) (EX1 κ) G sz [.ref x]) (g_Qi D vwCl (g_A G sz) (fun r u => r = 0)) 0 0 (g_A G sz) := by
  refine g_ofW (by decide +kernel) (Nat.le_of_ble_eq_true rfl) ?_
  intro p e s m below meth c ls S hr hlk hin hE w hl
  have hx := S.1
  have hb := S.2.1
  have hl : lv_has ls 1 [(0, .ref x)] := hl
  obtain ⟨hxq, f0, f1, f2, f3, f4, f5, f6, f7, f8, f9, f10, f11, f12, f13, f14, f15, f16, f17, f18, f19⟩ := id hF
  refine lv_aload_n hx hb dX8_things_0 rfl (lv_at hl 0 rfl) ?_
  refine gf_RX8_40_12 S hE w f0 rfl dX8_things_1 ?_
  refine gf_RX8_207_9 S hE w f12 rfl dX8_things_4 ?_
  exact g_iret hx hb hr hlk w (Nat.le_of_ble_eq_true rfl) (Nat.le_of_ble_eq_true rfl) dX8_things_7 rfl
set_option maxHeartbeats 4000000 in
set_option maxRecDepth 100000 in
theorem h_collect (l : Launch) (D : va_G) (ar : Nat → ClassId) (κ : Nat → Nat) (G : gW) (sz : Nat) (x : Nat) (q : Nat) (hF : FH ar κ G x q) : Met l yX8_collect (lwC yX8_collect cX8_collect 6 (some .int)) (rD 6 0 0) (g_Pc D vwCl (gT ar) (EX1 κ) G sz [.ref x]) (g_Qi D vwCl (g_A G sz) (fun r u => r = 0)) 0 0 (g_A G sz) := by
  refine g_ofW (by decide +kernel) (Nat.le_of_ble_eq_true rfl) ?_
  intro p e s m below meth c ls S hr hlk hin hE w hl
  have hx := S.1
  have hb := S.2.1
  have hl : lv_has ls 6 [(0, .ref x)] := hl
  obtain ⟨hxq, f0, f1, f2, f3, f4, f5, f6, f7, f8, f9, f10, f11, f12, f13, f14, f15, f16, f17, f18, f19⟩ := id hF
  refine lv_aload_n hx hb dX8_collect_0 rfl (lv_at hl 0 rfl) ?_
  refine gf_RX8_33_12 S hE w f0 rfl dX8_collect_1 ?_
  refine lv_astore_n (lv' := [(1, .ref (q + 10)), (0, .ref x)]) hx hb dX8_collect_4 rfl hl (by decide) rfl (fun ls hl => ?_)
  refine lv_aload_n hx hb dX8_collect_5 rfl (lv_at hl 0 rfl) ?_
  refine va_alen (v := 8) hx hb hE.1 (g_1 w.1 f11) 0 1 rfl rfl rfl dX8_collect_6 ?_
  refine lv_istore_n (lv' := [(2, .int 8), (1, .ref (q + 10)), (0, .ref x)]) hx hb dX8_collect_7 rfl hl (by decide) rfl (fun ls hl => ?_)
  refine lv_iconst (v := 0) hx hb dX8_collect_8 (by decide) ?_
  refine lv_istore_n (lv' := [(3, .int 0), (2, .int 8), (1, .ref (q + 10)), (0, .ref x)]) hx hb dX8_collect_9 rfl hl (by decide) rfl (fun ls hl => ?_)
  refine lv_iload_n hx hb dX8_collect_10 rfl (lv_at hl 0 rfl) ?_
  refine lv_iload_n hx hb dX8_collect_11 rfl (lv_at hl 1 rfl) ?_
  refine lv_icmp_ge (tgt := 35) hx hb dX8_collect_12 (by decide) (fun c => absurd c (by decide)) (fun _ => ?_)
  refine lv_aload_n hx hb dX8_collect_15 rfl (lv_at hl 2 rfl) ?_
  refine lv_iload_n hx hb dX8_collect_16 rfl (lv_at hl 0 rfl) ?_
  refine va_lald hx hb hE.1 (g_1 w.1 f11) 0 1 rfl rfl (vp_in_nI (n := 0) (by decide) (by decide)) dX8_collect_17 ?_
  rw [show (fillJ (fun _ => 0) 502511173632 8) (Int32.toNatClampNeg 0) = 502511173632 from (by decide +kernel)]
  refine lv_lstore (lv' := [(4, .long 502511173632), (3, .int 0), (2, .int 8), (1, .ref (q + 10)), (0, .ref x)]) hx hb dX8_collect_18 hl (by decide) rfl (fun ls hl => ?_)
  refine lv_aload_n hx hb dX8_collect_20 rfl (lv_at hl 4 rfl) ?_
  refine gf_RX8_40_12 S hE w f0 rfl dX8_collect_21 ?_
  refine lv_lload hx hb dX8_collect_24 (lv_at hl 0 rfl) ?_
  refine g_callv w (g_runV (As := [.long 502511173632]) (rest := []) S hE w hl (c_X5_reach l D ar κ G sz (q + 11) 502511173632 (q + 12) (q + 13) f12 (by decide +kernel)) (k_RX8_247 S.2.2.2.2 ⟨Nat.le_of_ble_eq_true rfl, Nat.le_of_ble_eq_true rfl⟩) f12 rfl rfl rfl rfl (Nat.le_of_ble_eq_true rfl) dX8_collect_26 ⟨Nat.le_of_ble_eq_true rfl, Nat.le_of_ble_eq_true rfl⟩) (fun u H locs hp hnz w => ?_)
  obtain rfl := hp
  dsimp only at w
  refine lv_iinc (v := 1) (lv' := [(3, .int 1), (4, .long 502511173632), (2, .int 8), (1, .ref (q + 10)), (0, .ref x)]) hx hb dX8_collect_29 hl (k := 1) rfl (by decide) (by decide) rfl (fun ls hl => ?_)
  refine lv_goto (tgt := 10) hx hb dX8_collect_32 (by decide) ?_
  refine lv_iload_n hx hb dX8_collect_10 rfl (lv_at hl 0 rfl) ?_
  refine lv_iload_n hx hb dX8_collect_11 rfl (lv_at hl 2 rfl) ?_
  refine lv_icmp_ge (tgt := 35) hx hb dX8_collect_12 (by decide) (fun c => absurd c (by decide)) (fun _ => ?_)
  refine lv_aload_n hx hb dX8_collect_15 rfl (lv_at hl 3 rfl) ?_
  refine lv_iload_n hx hb dX8_collect_16 rfl (lv_at hl 0 rfl) ?_
  refine va_lald hx hb hE.1 (g_1 w.1 f11) 0 1 rfl rfl (vp_in_nI (n := 1) (by decide) (by decide)) dX8_collect_17 ?_
  rw [show (fillJ (fun _ => 0) 502511173632 8) (Int32.toNatClampNeg 1) = 502511173632 from (by decide +kernel)]
  refine lv_lstore (lv' := [(4, .long 502511173632), (3, .int 1), (2, .int 8), (1, .ref (q + 10)), (0, .ref x)]) hx hb dX8_collect_18 hl (by decide) rfl (fun ls hl => ?_)
  refine lv_aload_n hx hb dX8_collect_20 rfl (lv_at hl 4 rfl) ?_
  refine gf_RX8_40_12 S hE w f0 rfl dX8_collect_21 ?_
  refine lv_lload hx hb dX8_collect_24 (lv_at hl 0 rfl) ?_
  refine g_callv w (g_runV (As := [.long 502511173632]) (rest := []) S hE w hl (c_X5_reach l D ar κ G sz (q + 11) 502511173632 (q + 12) (q + 13) f12 (by decide +kernel)) (k_RX8_247 S.2.2.2.2 ⟨Nat.le_of_ble_eq_true rfl, Nat.le_of_ble_eq_true rfl⟩) f12 rfl rfl rfl rfl (Nat.le_of_ble_eq_true rfl) dX8_collect_26 ⟨Nat.le_of_ble_eq_true rfl, Nat.le_of_ble_eq_true rfl⟩) (fun u H locs hp hnz w => ?_)
  obtain rfl := hp
  dsimp only at w
  refine lv_iinc (v := 2) (lv' := [(3, .int 2), (4, .long 502511173632), (2, .int 8), (1, .ref (q + 10)), (0, .ref x)]) hx hb dX8_collect_29 hl (k := 1) rfl (by decide) (by decide) rfl (fun ls hl => ?_)
  refine lv_goto (tgt := 10) hx hb dX8_collect_32 (by decide) ?_
  refine lv_iload_n hx hb dX8_collect_10 rfl (lv_at hl 0 rfl) ?_
  refine lv_iload_n hx hb dX8_collect_11 rfl (lv_at hl 2 rfl) ?_
  refine lv_icmp_ge (tgt := 35) hx hb dX8_collect_12 (by decide) (fun c => absurd c (by decide)) (fun _ => ?_)
  refine lv_aload_n hx hb dX8_collect_15 rfl (lv_at hl 3 rfl) ?_
  refine lv_iload_n hx hb dX8_collect_16 rfl (lv_at hl 0 rfl) ?_
  refine va_lald hx hb hE.1 (g_1 w.1 f11) 0 1 rfl rfl (vp_in_nI (n := 2) (by decide) (by decide)) dX8_collect_17 ?_
  rw [show (fillJ (fun _ => 0) 502511173632 8) (Int32.toNatClampNeg 2) = 502511173632 from (by decide +kernel)]
  refine lv_lstore (lv' := [(4, .long 502511173632), (3, .int 2), (2, .int 8), (1, .ref (q + 10)), (0, .ref x)]) hx hb dX8_collect_18 hl (by decide) rfl (fun ls hl => ?_)
  refine lv_aload_n hx hb dX8_collect_20 rfl (lv_at hl 4 rfl) ?_
  refine gf_RX8_40_12 S hE w f0 rfl dX8_collect_21 ?_
  refine lv_lload hx hb dX8_collect_24 (lv_at hl 0 rfl) ?_
  refine g_callv w (g_runV (As := [.long 502511173632]) (rest := []) S hE w hl (c_X5_reach l D ar κ G sz (q + 11) 502511173632 (q + 12) (q + 13) f12 (by decide +kernel)) (k_RX8_247 S.2.2.2.2 ⟨Nat.le_of_ble_eq_true rfl, Nat.le_of_ble_eq_true rfl⟩) f12 rfl rfl rfl rfl (Nat.le_of_ble_eq_true rfl) dX8_collect_26 ⟨Nat.le_of_ble_eq_true rfl, Nat.le_of_ble_eq_true rfl⟩) (fun u H locs hp hnz w => ?_)
  obtain rfl := hp
  dsimp only at w
  refine lv_iinc (v := 3) (lv' := [(3, .int 3), (4, .long 502511173632), (2, .int 8), (1, .ref (q + 10)), (0, .ref x)]) hx hb dX8_collect_29 hl (k := 1) rfl (by decide) (by decide) rfl (fun ls hl => ?_)
  refine lv_goto (tgt := 10) hx hb dX8_collect_32 (by decide) ?_
  refine lv_iload_n hx hb dX8_collect_10 rfl (lv_at hl 0 rfl) ?_
  refine lv_iload_n hx hb dX8_collect_11 rfl (lv_at hl 2 rfl) ?_
  refine lv_icmp_ge (tgt := 35) hx hb dX8_collect_12 (by decide) (fun c => absurd c (by decide)) (fun _ => ?_)
  refine lv_aload_n hx hb dX8_collect_15 rfl (lv_at hl 3 rfl) ?_
  refine lv_iload_n hx hb dX8_collect_16 rfl (lv_at hl 0 rfl) ?_
  refine va_lald hx hb hE.1 (g_1 w.1 f11) 0 1 rfl rfl (vp_in_nI (n := 3) (by decide) (by decide)) dX8_collect_17 ?_
  rw [show (fillJ (fun _ => 0) 502511173632 8) (Int32.toNatClampNeg 3) = 502511173632 from (by decide +kernel)]
  refine lv_lstore (lv' := [(4, .long 502511173632), (3, .int 3), (2, .int 8), (1, .ref (q + 10)), (0, .ref x)]) hx hb dX8_collect_18 hl (by decide) rfl (fun ls hl => ?_)
  refine lv_aload_n hx hb dX8_collect_20 rfl (lv_at hl 4 rfl) ?_
  refine gf_RX8_40_12 S hE w f0 rfl dX8_collect_21 ?_
  refine lv_lload hx hb dX8_collect_24 (lv_at hl 0 rfl) ?_
  refine g_callv w (g_runV (As := [.long 502511173632]) (rest := []) S hE w hl (c_X5_reach l D ar κ G sz (q + 11) 502511173632 (q + 12) (q + 13) f12 (by decide +kernel)) (k_RX8_247 S.2.2.2.2 ⟨Nat.le_of_ble_eq_true rfl, Nat.le_of_ble_eq_true rfl⟩) f12 rfl rfl rfl rfl (Nat.le_of_ble_eq_true rfl) dX8_collect_26 ⟨Nat.le_of_ble_eq_true rfl, Nat.le_of_ble_eq_true rfl⟩) (fun u H locs hp hnz w => ?_)
  obtain rfl := hp
  dsimp only at w
  refine lv_iinc (v := 4) (lv' := [(3, .int 4), (4, .long 502511173632), (2, .int 8), (1, .ref (q + 10)), (0, .ref x)]) hx hb dX8_collect_29 hl (k := 1) rfl (by decide) (by decide) rfl (fun ls hl => ?_)
  refine lv_goto (tgt := 10) hx hb dX8_collect_32 (by decide) ?_
  refine lv_iload_n hx hb dX8_collect_10 rfl (lv_at hl 0 rfl) ?_
  refine lv_iload_n hx hb dX8_collect_11 rfl (lv_at hl 2 rfl) ?_
  refine lv_icmp_ge (tgt := 35) hx hb dX8_collect_12 (by decide) (fun c => absurd c (by decide)) (fun _ => ?_)
  refine lv_aload_n hx hb dX8_collect_15 rfl (lv_at hl 3 rfl) ?_
  refine lv_iload_n hx hb dX8_collect_16 rfl (lv_at hl 0 rfl) ?_
  refine va_lald hx hb hE.1 (g_1 w.1 f11) 0 1 rfl rfl (vp_in_nI (n := 4) (by decide) (by decide)) dX8_collect_17 ?_
  rw [show (fillJ (fun _ => 0) 502511173632 8) (Int32.toNatClampNeg 4) = 502511173632 from (by decide +kernel)]
  refine lv_lstore (lv' := [(4, .long 502511173632), (3, .int 4), (2, .int 8), (1, .ref (q + 10)), (0, .ref x)]) hx hb dX8_collect_18 hl (by decide) rfl (fun ls hl => ?_)
  refine lv_aload_n hx hb dX8_collect_20 rfl (lv_at hl 4 rfl) ?_
  refine gf_RX8_40_12 S hE w f0 rfl dX8_collect_21 ?_
  refine lv_lload hx hb dX8_collect_24 (lv_at hl 0 rfl) ?_
  refine g_callv w (g_runV (As := [.long 502511173632]) (rest := []) S hE w hl (c_X5_reach l D ar κ G sz (q + 11) 502511173632 (q + 12) (q + 13) f12 (by decide +kernel)) (k_RX8_247 S.2.2.2.2 ⟨Nat.le_of_ble_eq_true rfl, Nat.le_of_ble_eq_true rfl⟩) f12 rfl rfl rfl rfl (Nat.le_of_ble_eq_true rfl) dX8_collect_26 ⟨Nat.le_of_ble_eq_true rfl, Nat.le_of_ble_eq_true rfl⟩) (fun u H locs hp hnz w => ?_)
  obtain rfl := hp
  dsimp only at w
  refine lv_iinc (v := 5) (lv' := [(3, .int 5), (4, .long 502511173632), (2, .int 8), (1, .ref (q + 10)), (0, .ref x)]) hx hb dX8_collect_29 hl (k := 1) rfl (by decide) (by decide) rfl (fun ls hl => ?_)
  refine lv_goto (tgt := 10) hx hb dX8_collect_32 (by decide) ?_
  refine lv_iload_n hx hb dX8_collect_10 rfl (lv_at hl 0 rfl) ?_
  refine lv_iload_n hx hb dX8_collect_11 rfl (lv_at hl 2 rfl) ?_
  refine lv_icmp_ge (tgt := 35) hx hb dX8_collect_12 (by decide) (fun c => absurd c (by decide)) (fun _ => ?_)
  refine lv_aload_n hx hb dX8_collect_15 rfl (lv_at hl 3 rfl) ?_
  refine lv_iload_n hx hb dX8_collect_16 rfl (lv_at hl 0 rfl) ?_
  refine va_lald hx hb hE.1 (g_1 w.1 f11) 0 1 rfl rfl (vp_in_nI (n := 5) (by decide) (by decide)) dX8_collect_17 ?_
  rw [show (fillJ (fun _ => 0) 502511173632 8) (Int32.toNatClampNeg 5) = 502511173632 from (by decide +kernel)]
  refine lv_lstore (lv' := [(4, .long 502511173632), (3, .int 5), (2, .int 8), (1, .ref (q + 10)), (0, .ref x)]) hx hb dX8_collect_18 hl (by decide) rfl (fun ls hl => ?_)
  refine lv_aload_n hx hb dX8_collect_20 rfl (lv_at hl 4 rfl) ?_
  refine gf_RX8_40_12 S hE w f0 rfl dX8_collect_21 ?_
  refine lv_lload hx hb dX8_collect_24 (lv_at hl 0 rfl) ?_
  refine g_callv w (g_runV (As := [.long 502511173632]) (rest := []) S hE w hl (c_X5_reach l D ar κ G sz (q + 11) 502511173632 (q + 12) (q + 13) f12 (by decide +kernel)) (k_RX8_247 S.2.2.2.2 ⟨Nat.le_of_ble_eq_true rfl, Nat.le_of_ble_eq_true rfl⟩) f12 rfl rfl rfl rfl (Nat.le_of_ble_eq_true rfl) dX8_collect_26 ⟨Nat.le_of_ble_eq_true rfl, Nat.le_of_ble_eq_true rfl⟩) (fun u H locs hp hnz w => ?_)
  obtain rfl := hp
  dsimp only at w
  refine lv_iinc (v := 6) (lv' := [(3, .int 6), (4, .long 502511173632), (2, .int 8), (1, .ref (q + 10)), (0, .ref x)]) hx hb dX8_collect_29 hl (k := 1) rfl (by decide) (by decide) rfl (fun ls hl => ?_)
  refine lv_goto (tgt := 10) hx hb dX8_collect_32 (by decide) ?_
  refine lv_iload_n hx hb dX8_collect_10 rfl (lv_at hl 0 rfl) ?_
  refine lv_iload_n hx hb dX8_collect_11 rfl (lv_at hl 2 rfl) ?_
  refine lv_icmp_ge (tgt := 35) hx hb dX8_collect_12 (by decide) (fun c => absurd c (by decide)) (fun _ => ?_)
  refine lv_aload_n hx hb dX8_collect_15 rfl (lv_at hl 3 rfl) ?_
  refine lv_iload_n hx hb dX8_collect_16 rfl (lv_at hl 0 rfl) ?_
  refine va_lald hx hb hE.1 (g_1 w.1 f11) 0 1 rfl rfl (vp_in_nI (n := 6) (by decide) (by decide)) dX8_collect_17 ?_
  rw [show (fillJ (fun _ => 0) 502511173632 8) (Int32.toNatClampNeg 6) = 502511173632 from (by decide +kernel)]
  refine lv_lstore (lv' := [(4, .long 502511173632), (3, .int 6), (2, .int 8), (1, .ref (q + 10)), (0, .ref x)]) hx hb dX8_collect_18 hl (by decide) rfl (fun ls hl => ?_)
  refine lv_aload_n hx hb dX8_collect_20 rfl (lv_at hl 4 rfl) ?_
  refine gf_RX8_40_12 S hE w f0 rfl dX8_collect_21 ?_
  refine lv_lload hx hb dX8_collect_24 (lv_at hl 0 rfl) ?_
  refine g_callv w (g_runV (As := [.long 502511173632]) (rest := []) S hE w hl (c_X5_reach l D ar κ G sz (q + 11) 502511173632 (q + 12) (q + 13) f12 (by decide +kernel)) (k_RX8_247 S.2.2.2.2 ⟨Nat.le_of_ble_eq_true rfl, Nat.le_of_ble_eq_true rfl⟩) f12 rfl rfl rfl rfl (Nat.le_of_ble_eq_true rfl) dX8_collect_26 ⟨Nat.le_of_ble_eq_true rfl, Nat.le_of_ble_eq_true rfl⟩) (fun u H locs hp hnz w => ?_)
  obtain rfl := hp
  dsimp only at w
  refine lv_iinc (v := 7) (lv' := [(3, .int 7), (4, .long 502511173632), (2, .int 8), (1, .ref (q + 10)), (0, .ref x)]) hx hb dX8_collect_29 hl (k := 1) rfl (by decide) (by decide) rfl (fun ls hl => ?_)
  refine lv_goto (tgt := 10) hx hb dX8_collect_32 (by decide) ?_
  refine lv_iload_n hx hb dX8_collect_10 rfl (lv_at hl 0 rfl) ?_
  refine lv_iload_n hx hb dX8_collect_11 rfl (lv_at hl 2 rfl) ?_
  refine lv_icmp_ge (tgt := 35) hx hb dX8_collect_12 (by decide) (fun c => absurd c (by decide)) (fun _ => ?_)
  refine lv_aload_n hx hb dX8_collect_15 rfl (lv_at hl 3 rfl) ?_
  refine lv_iload_n hx hb dX8_collect_16 rfl (lv_at hl 0 rfl) ?_
  refine va_lald hx hb hE.1 (g_1 w.1 f11) 0 1 rfl rfl (vp_in_nI (n := 7) (by decide) (by decide)) dX8_collect_17 ?_
  rw [show (fillJ (fun _ => 0) 502511173632 8) (Int32.toNatClampNeg 7) = 502511173632 from (by decide +kernel)]
  refine lv_lstore (lv' := [(4, .long 502511173632), (3, .int 7), (2, .int 8), (1, .ref (q + 10)), (0, .ref x)]) hx hb dX8_collect_18 hl (by decide) rfl (fun ls hl => ?_)
  refine lv_aload_n hx hb dX8_collect_20 rfl (lv_at hl 4 rfl) ?_
  refine gf_RX8_40_12 S hE w f0 rfl dX8_collect_21 ?_
  refine lv_lload hx hb dX8_collect_24 (lv_at hl 0 rfl) ?_
  refine g_callv w (g_runV (As := [.long 502511173632]) (rest := []) S hE w hl (c_X5_reach l D ar κ G sz (q + 11) 502511173632 (q + 12) (q + 13) f12 (by decide +kernel)) (k_RX8_247 S.2.2.2.2 ⟨Nat.le_of_ble_eq_true rfl, Nat.le_of_ble_eq_true rfl⟩) f12 rfl rfl rfl rfl (Nat.le_of_ble_eq_true rfl) dX8_collect_26 ⟨Nat.le_of_ble_eq_true rfl, Nat.le_of_ble_eq_true rfl⟩) (fun u H locs hp hnz w => ?_)
  obtain rfl := hp
  dsimp only at w
  refine lv_iinc (v := 8) (lv' := [(3, .int 8), (4, .long 502511173632), (2, .int 8), (1, .ref (q + 10)), (0, .ref x)]) hx hb dX8_collect_29 hl (k := 1) rfl (by decide) (by decide) rfl (fun ls hl => ?_)
  refine lv_goto (tgt := 10) hx hb dX8_collect_32 (by decide) ?_
  refine lv_iload_n hx hb dX8_collect_10 rfl (lv_at hl 0 rfl) ?_
  refine lv_iload_n hx hb dX8_collect_11 rfl (lv_at hl 2 rfl) ?_
  refine lv_icmp_ge (tgt := 35) hx hb dX8_collect_12 (by decide) (fun _ => ?_) (fun c => absurd (by decide) c)
  refine lv_iconst (v := 0) hx hb dX8_collect_35 (by decide) ?_
  refine lv_istore_n (lv' := [(1, .int 0), (3, .int 8), (4, .long 502511173632), (2, .int 8), (0, .ref x)]) hx hb dX8_collect_36 rfl hl (by decide) rfl (fun ls hl => ?_)
  refine lv_iload_n hx hb dX8_collect_37 rfl (lv_at hl 0 rfl) ?_
  refine lv_aload_n hx hb dX8_collect_38 rfl (lv_at hl 4 rfl) ?_
  refine gf_RX8_50_12 S hE w f0 rfl dX8_collect_39 ?_
  refine lv_icmp_ge (tgt := 60) hx hb dX8_collect_42 (by decide) (fun _ => ?_) (fun c => absurd (by decide) c)
  refine lv_aload_n hx hb dX8_collect_60 rfl (lv_at hl 4 rfl) ?_
  refine gf_RX8_53_12 S hE w f0 rfl dX8_collect_61 ?_
  refine lv_bipush (v := 114) hx hb dX8_collect_64 (by decide) ?_
  refine lv_icmp_ne (tgt := 80) hx hb dX8_collect_66 (by decide) (fun _ => ?_) (fun c => absurd c (by decide))
  refine lv_aload_n hx hb dX8_collect_80 rfl (lv_at hl 4 rfl) ?_
  refine gf_RX8_40_12 S hE w f0 rfl dX8_collect_81 ?_
  refine g_callv w (g_runV (As := []) (rest := []) S hE w hl (c_X5_reachFields l D ar κ G sz (q + 11) (q + 12) (q + 13) (fun _ => none) f12 f14) (k_RX8_259 S.2.2.2.2 ⟨Nat.le_of_ble_eq_true rfl, Nat.le_of_ble_eq_true rfl⟩) f12 rfl rfl rfl rfl (Nat.le_of_ble_eq_true rfl) dX8_collect_84 ⟨Nat.le_of_ble_eq_true rfl, Nat.le_of_ble_eq_true rfl⟩) (fun u H locs hp hnz w => ?_)
  obtain rfl := hp
  dsimp only at w
  refine lv_aload_n hx hb dX8_collect_87 rfl (lv_at hl 4 rfl) ?_
  refine gf_RX8_40_12 S hE w f0 rfl dX8_collect_88 ?_
  refine g_calli w (g_runV (As := []) (rest := []) S hE w hl (c_X5_sweep l D ar κ G sz (q + 11) (q + 12) (q + 13) f12) (k_RX8_262 S.2.2.2.2 ⟨Nat.le_of_ble_eq_true rfl, Nat.le_of_ble_eq_true rfl⟩) f12 rfl rfl rfl rfl (Nat.le_of_ble_eq_true rfl) dX8_collect_91 ⟨Nat.le_of_ble_eq_true rfl, Nat.le_of_ble_eq_true rfl⟩) (fun r u H locs hp hnz w => ?_)
  obtain ⟨rfl, rfl⟩ := hp
  dsimp only at w
  exact g_iret hx hb hr hlk w (Nat.le_of_ble_eq_true rfl) (Nat.le_of_ble_eq_true rfl) dX8_collect_94 rfl
set_option maxHeartbeats 4000000 in
set_option maxRecDepth 100000 in
theorem h_begin (l : Launch) (D : va_G) (ar : Nat → ClassId) (κ : Nat → Nat) (G : gW) (sz : Nat) (x : Nat) (g : Int32) (se : Int32) (a : Int32) (x1 : Int32) (y1 : Int32) (q : Nat) (hF : FH ar κ G x q) (hlt : l.stackTraces = false) : vx_Met l yX8_begin (lwC yX8_begin cX8_begin 10 (some .int)) (rD 8 1 6) (g_Pc D vwCl (gT ar) (EX1 κ) G sz [.ref x, .int g, .int se, .int a, .int x1, .int y1]) (g_Qi D vwCl (g_A G sz) (fun r u => False)) (gX D (g_A G sz) (fun E u => (E = "java/lang/IndexOutOfBoundsException" ∧ K_begin g se a = 1) ∨ (E = "java/lang/IllegalArgumentException" ∧ K_begin g se a = 2) ∨ (E = "java/lang/IllegalStateException" ∧ K_begin g se a = 3) ∨ (E = "java/lang/UnsupportedOperationException" ∧ K_begin g se a = 4))) 1 6 (g_A G sz) := by
  refine gx_ofW (by decide +kernel) (Nat.le_of_ble_eq_true rfl) ?_
  intro p e s m below meth c ls S hr hlk ht hE w hl
  have hx := S.1
  have hb := S.2.1
  have hl : lv_has ls 10 [(0, .ref x), (1, .int g), (2, .int se), (3, .int a), (4, .int x1), (5, .int y1)] := hl
  obtain ⟨hxq, f0, f1, f2, f3, f4, f5, f6, f7, f8, f9, f10, f11, f12, f13, f14, f15, f16, f17, f18, f19⟩ := id hF
  refine lv_iload_n hx hb dX8_begin_0 rfl (lv_at hl 1 rfl) ?_
  refine lv_bipush (v := 8) hx hb dX8_begin_1 (by decide) ?_
  refine g_calli w (g_runS (As := [.int g, .int 8]) (rest := []) S hE w hl (c_X8_isBelow l D ar κ G sz g 8) (k_RX8_97 S.2.2.2.2 ⟨Nat.le_of_ble_eq_true rfl, Nat.le_of_ble_eq_true rfl⟩) rfl rfl (Nat.le_of_ble_eq_true rfl) dX8_begin_3 ⟨Nat.le_of_ble_eq_true rfl, Nat.le_of_ble_eq_true rfl⟩) (fun r u H locs hp hnz w => ?_)
  obtain ⟨rfl, rfl⟩ := hp
  dsimp only at w
  refine lv_if_eq (tgt := 18) hx hb dX8_begin_6 (by decide) (fun c_6 => ?_) (fun c_6 => ?_)
  · exact g_throwSW (names := ["java/lang/RuntimeException", "java/lang/Exception"]) hlt S hE w hl ht hlk (by decide +kernel) (by decide +kernel) m_3_69 m_1_21 (List.mem_of_getElem? (i := 16) rfl) th_RX8_87_91_1 th_RX8_87_91_2 th_RX8_87_91_3 dX8_begin_18 dX8_begin_21 dX8_begin_22 dX8_begin_25 dX8_begin_28 (Nat.le_of_ble_eq_true rfl) (Nat.le_of_ble_eq_true rfl) (Nat.le_of_ble_eq_true rfl) (Nat.le_of_ble_eq_true rfl) (Nat.le_of_ble_eq_true rfl) (Nat.le_of_ble_eq_true rfl) (fun _ _ => Or.inl ⟨rfl, by simp [K_begin, c_6]⟩)
  · refine lv_iload_n hx hb dX8_begin_9 rfl (lv_at hl 2 rfl) ?_
    refine lv_bipush (v := 16) hx hb dX8_begin_10 (by decide) ?_
    refine g_calli w (g_runS (As := [.int se, .int 16]) (rest := []) S hE w hl (c_X8_isBelow l D ar κ G sz se 16) (k_RX8_97 S.2.2.2.2 ⟨Nat.le_of_ble_eq_true rfl, Nat.le_of_ble_eq_true rfl⟩) rfl rfl (Nat.le_of_ble_eq_true rfl) dX8_begin_12 ⟨Nat.le_of_ble_eq_true rfl, Nat.le_of_ble_eq_true rfl⟩) (fun r u H locs hp hnz w => ?_)
    obtain ⟨rfl, rfl⟩ := hp
    dsimp only at w
    refine lv_if_ne (tgt := 29) hx hb dX8_begin_15 (by decide) (fun c_15 => ?_) (fun c_15 => ?_)
    · refine lv_iload_n hx hb dX8_begin_29 rfl (lv_at hl 3 rfl) ?_
      refine lv_iconst (v := 3) hx hb dX8_begin_30 (by decide) ?_
      refine g_calli w (g_runS (As := [.int a, .int 3]) (rest := []) S hE w hl (c_X8_isBelow l D ar κ G sz a 3) (k_RX8_97 S.2.2.2.2 ⟨Nat.le_of_ble_eq_true rfl, Nat.le_of_ble_eq_true rfl⟩) rfl rfl (Nat.le_of_ble_eq_true rfl) dX8_begin_31 ⟨Nat.le_of_ble_eq_true rfl, Nat.le_of_ble_eq_true rfl⟩) (fun r u H locs hp hnz w => ?_)
      obtain ⟨rfl, rfl⟩ := hp
      dsimp only at w
      refine lv_if_ne (tgt := 47) hx hb dX8_begin_34 (by decide) (fun c_34 => ?_) (fun c_34 => ?_)
      · refine lv_aload_n hx hb dX8_begin_47 rfl (lv_at hl 0 rfl) ?_
        refine gf_RX8_53_12 S hE w f0 rfl dX8_begin_48 ?_
        refine lv_bipush (v := 115) hx hb dX8_begin_51 (by decide) ?_
        refine lv_icmp_ne (tgt := 67) hx hb dX8_begin_53 (by decide) (fun _ => ?_) (fun c => absurd c (by decide))
        refine lv_aload_n hx hb dX8_begin_67 rfl (lv_at hl 0 rfl) ?_
        refine gf_RX8_33_12 S hE w f0 rfl dX8_begin_68 ?_
        refine lv_iload_n hx hb dX8_begin_71 rfl (lv_at hl 1 rfl) ?_
        refine g_calll w (g_runS (As := [.ref (q + 10), .int g]) (rest := []) S hE w hl (c_X8_placeAt l D ar κ G sz (q + 10) g 8 (fillJ (fun _ => 0) 502511173632 8) f11 (by decide)) (k_RX8_222 S.2.2.2.2 ⟨Nat.le_of_ble_eq_true rfl, Nat.le_of_ble_eq_true rfl⟩) rfl rfl (Nat.le_of_ble_eq_true rfl) dX8_begin_72 ⟨Nat.le_of_ble_eq_true rfl, Nat.le_of_ble_eq_true rfl⟩) (fun r u H locs hp hnz w => ?_)
        obtain ⟨rfl, rfl⟩ := hp
        rw [show pA (fillJ (fun _ => 0) 502511173632 8) (Int32.ofNat 8) g = 502511173632 from pA_nt]
        dsimp only at w
        refine lv_lstore (lv' := [(6, .long 502511173632), (0, .ref x), (1, .int g), (2, .int se), (3, .int a), (4, .int x1), (5, .int y1)]) hx hb dX8_begin_75 hl (by decide) rfl (fun ls hl => ?_)
        refine lv_aload_n hx hb dX8_begin_77 rfl (lv_at hl 1 rfl) ?_
        refine lv_aload_n hx hb dX8_begin_78 rfl (lv_at hl 1 rfl) ?_
        refine gf_RX8_40_12 S hE w f0 rfl dX8_begin_79 ?_
        refine lv_lload hx hb dX8_begin_82 (lv_at hl 0 rfl) ?_
        refine g_calli w (g_runV (As := [.long 502511173632]) (rest := [.ref x]) S hE w hl (c_X5_classOfValue l D ar κ G sz (q + 11) 502511173632 (q + 12) (q + 13) f12 (by decide +kernel) (by decide +kernel)) (k_RX8_284 S.2.2.2.2 ⟨Nat.le_of_ble_eq_true rfl, Nat.le_of_ble_eq_true rfl⟩) f12 rfl rfl rfl rfl (Nat.le_of_ble_eq_true rfl) dX8_begin_84 ⟨Nat.le_of_ble_eq_true rfl, Nat.le_of_ble_eq_true rfl⟩) (fun r u H locs hp hnz w => ?_)
        obtain ⟨rfl, rfl⟩ := hp
        dsimp only at w
        refine lv_iload_n hx hb dX8_begin_87 rfl (lv_at hl 3 rfl) ?_
        refine g_callq w (g_runV (As := [.int 2, .int se]) (rest := []) S hE w hl (h_lookUp l D ar κ G sz x 2 se q hF) (k_RX8_166 S.2.2.2.2 ⟨Nat.le_of_ble_eq_true rfl, Nat.le_of_ble_eq_true rfl⟩) f0 rfl rfl rfl rfl (Nat.le_of_ble_eq_true rfl) dX8_begin_88 ⟨Nat.le_of_ble_eq_true rfl, Nat.le_of_ble_eq_true rfl⟩) (fun r u H locs hp hnz w => ?_)
        obtain ⟨rfl, rfl⟩ := hp
        show W p l e _ s m _ below meth c _ _ _ _ _ (F0 m _ ls (.null :: _))
        dsimp only at w
        refine lv_astoreN (lv' := [(8, .null), (6, .long 502511173632), (0, .ref x), (1, .int g), (2, .int se), (3, .int a), (4, .int x1), (5, .int y1)]) hx hb dX8_begin_91 hl (by decide) rfl (fun ls hl => ?_)
        refine lv_aloadN hx hb dX8_begin_93 (lv_at hl 0 rfl) ?_
        refine lv_ifnullN (tgt := 107) hx hb dX8_begin_95 (by decide) ?_
        exact g_throwSW (names := ["java/lang/RuntimeException", "java/lang/Exception"]) hlt S hE w hl ht hlk (by decide +kernel) (by decide +kernel) m_4_13 m_1_33 (List.mem_of_getElem? (i := 18) rfl) th_RX8_147_151_1 th_RX8_147_151_2 th_RX8_147_151_3 dX8_begin_107 dX8_begin_110 dX8_begin_111 dX8_begin_114 dX8_begin_117 (Nat.le_of_ble_eq_true rfl) (Nat.le_of_ble_eq_true rfl) (Nat.le_of_ble_eq_true rfl) (Nat.le_of_ble_eq_true rfl) (Nat.le_of_ble_eq_true rfl) (Nat.le_of_ble_eq_true rfl) (fun _ _ => Or.inr (Or.inr (Or.inr ⟨rfl, by simp [K_begin, c_6, c_15, c_34]⟩)))
      · exact g_throwS (names := ["java/lang/RuntimeException", "java/lang/Exception"]) hlt S hE w hl ht hlk (by decide +kernel) (by decide +kernel) m_3_89 m_1_24 (List.mem_of_getElem? (i := 6) rfl) th_RX8_105_109_1 th_RX8_105_109_2 th_RX8_105_109_3 dX8_begin_37 dX8_begin_40 dX8_begin_41 dX8_begin_43 dX8_begin_46 (Nat.le_of_ble_eq_true rfl) (Nat.le_of_ble_eq_true rfl) (Nat.le_of_ble_eq_true rfl) (Nat.le_of_ble_eq_true rfl) (Nat.le_of_ble_eq_true rfl) (Nat.le_of_ble_eq_true rfl) (fun _ _ => Or.inr (Or.inl ⟨rfl, by simp [K_begin, c_6, c_15, c_34]⟩))
    · exact g_throwSW (names := ["java/lang/RuntimeException", "java/lang/Exception"]) hlt S hE w hl ht hlk (by decide +kernel) (by decide +kernel) m_3_69 m_1_21 (List.mem_of_getElem? (i := 16) rfl) th_RX8_87_91_1 th_RX8_87_91_2 th_RX8_87_91_3 dX8_begin_18 dX8_begin_21 dX8_begin_22 dX8_begin_25 dX8_begin_28 (Nat.le_of_ble_eq_true rfl) (Nat.le_of_ble_eq_true rfl) (Nat.le_of_ble_eq_true rfl) (Nat.le_of_ble_eq_true rfl) (Nat.le_of_ble_eq_true rfl) (Nat.le_of_ble_eq_true rfl) (fun _ _ => Or.inl ⟨rfl, by simp [K_begin, c_6, c_15]⟩)
set_option maxHeartbeats 4000000 in
set_option maxRecDepth 100000 in
theorem h_go (l : Launch) (D : va_G) (ar : Nat → ClassId) (κ : Nat → Nat) (G : gW) (sz : Nat) (x : Nat) (n : Int32) (q : Nat) (hF : FH ar κ G x q) (hlt : l.stackTraces = false) : vx_Met l yX8_go (lwC yX8_go cX8_go 5 (some .int)) (rD 8 1 6) (g_Pc D vwCl (gT ar) (EX1 κ) G sz [.ref x, .int n]) (g_Qi D vwCl (g_A G sz) (fun r u => False)) (gX D (g_A G sz) (fun E u => (E = "java/lang/IllegalArgumentException" ∧ K_go n = 1) ∨ (E = "java/lang/IllegalStateException" ∧ K_go n = 2))) 1 6 (g_A G sz) := by
  refine gx_ofW (by decide +kernel) (Nat.le_of_ble_eq_true rfl) ?_
  intro p e s m below meth c ls S hr hlk ht hE w hl
  have hx := S.1
  have hb := S.2.1
  have hl : lv_has ls 5 [(0, .ref x), (1, .int n)] := hl
  obtain ⟨hxq, f0, f1, f2, f3, f4, f5, f6, f7, f8, f9, f10, f11, f12, f13, f14, f15, f16, f17, f18, f19⟩ := id hF
  refine lv_iload_n hx hb dX8_go_0 rfl (lv_at hl 1 rfl) ?_
  refine lv_iconst (v := 1) hx hb dX8_go_1 (by decide) ?_
  refine lv_icmp_lt (tgt := 12) hx hb dX8_go_2 (by decide) (fun c_2 => ?_) (fun c_2 => ?_)
  · exact g_throwS (names := ["java/lang/RuntimeException", "java/lang/Exception"]) hlt S hE w hl ht hlk (by decide +kernel) (by decide +kernel) m_3_89 m_1_24 (List.mem_of_getElem? (i := 6) rfl) th_RX8_105_109_1 th_RX8_105_109_2 th_RX8_105_109_3 dX8_go_12 dX8_go_15 dX8_go_16 dX8_go_18 dX8_go_21 (Nat.le_of_ble_eq_true rfl) (Nat.le_of_ble_eq_true rfl) (Nat.le_of_ble_eq_true rfl) (Nat.le_of_ble_eq_true rfl) (Nat.le_of_ble_eq_true rfl) (Nat.le_of_ble_eq_true rfl) (fun _ _ => Or.inl ⟨rfl, by simp [K_go, c_2]⟩)
  · refine lv_iload_n hx hb dX8_go_5 rfl (lv_at hl 1 rfl) ?_
    refine lv_sipush (v := 500) hx hb dX8_go_6 (by decide) ?_
    refine lv_icmp_le (tgt := 22) hx hb dX8_go_9 (by decide) (fun c_9 => ?_) (fun c_9 => ?_)
    · refine lv_aload_n hx hb dX8_go_22 rfl (lv_at hl 0 rfl) ?_
      refine gf_RX8_53_12 S hE w f0 rfl dX8_go_23 ?_
      refine lv_bipush (v := 115) hx hb dX8_go_26 (by decide) ?_
      refine lv_icmp_eq (tgt := 42) hx hb dX8_go_28 (by decide) (fun c => absurd c (by decide)) (fun _ => ?_)
      exact g_throwSW (names := ["java/lang/RuntimeException", "java/lang/Exception"]) hlt S hE w hl ht hlk (by decide +kernel) (by decide +kernel) m_3_105 m_1_25 (List.mem_of_getElem? (i := 19) rfl) th_RX8_113_117_1 th_RX8_113_117_2 th_RX8_113_117_3 dX8_go_31 dX8_go_34 dX8_go_35 dX8_go_38 dX8_go_41 (Nat.le_of_ble_eq_true rfl) (Nat.le_of_ble_eq_true rfl) (Nat.le_of_ble_eq_true rfl) (Nat.le_of_ble_eq_true rfl) (Nat.le_of_ble_eq_true rfl) (Nat.le_of_ble_eq_true rfl) (fun _ _ => Or.inr ⟨rfl, by simp [K_go, c_2, c_9]⟩)
    · exact g_throwS (names := ["java/lang/RuntimeException", "java/lang/Exception"]) hlt S hE w hl ht hlk (by decide +kernel) (by decide +kernel) m_3_89 m_1_24 (List.mem_of_getElem? (i := 6) rfl) th_RX8_105_109_1 th_RX8_105_109_2 th_RX8_105_109_3 dX8_go_12 dX8_go_15 dX8_go_16 dX8_go_18 dX8_go_21 (Nat.le_of_ble_eq_true rfl) (Nat.le_of_ble_eq_true rfl) (Nat.le_of_ble_eq_true rfl) (Nat.le_of_ble_eq_true rfl) (Nat.le_of_ble_eq_true rfl) (Nat.le_of_ble_eq_true rfl) (fun _ _ => Or.inl ⟨rfl, by simp [K_go, c_2, c_9]⟩)
set_option maxHeartbeats 4000000 in
set_option maxRecDepth 100000 in
theorem h_end (l : Launch) (D : va_G) (ar : Nat → ClassId) (κ : Nat → Nat) (G : gW) (sz : Nat) (x : Nat) (q : Nat) (hF : FH ar κ G x q) (hlt : l.stackTraces = false) : vx_Met l yX8_end (lwC yX8_end cX8_end 2 (some .int)) (rD 8 1 6) (g_Pc D vwCl (gT ar) (EX1 κ) G sz [.ref x]) (g_Qi D vwCl (g_A G sz) (fun r u => False)) (gX D (g_A G sz) (fun E u => (E = "java/lang/IllegalStateException" ∧ True))) 1 6 (g_A G sz) := by
  refine gx_ofW (by decide +kernel) (Nat.le_of_ble_eq_true rfl) ?_
  intro p e s m below meth c ls S hr hlk ht hE w hl
  have hx := S.1
  have hb := S.2.1
  have hl : lv_has ls 2 [(0, .ref x)] := hl
  obtain ⟨hxq, f0, f1, f2, f3, f4, f5, f6, f7, f8, f9, f10, f11, f12, f13, f14, f15, f16, f17, f18, f19⟩ := id hF
  refine lv_aload_n hx hb dX8_end_0 rfl (lv_at hl 0 rfl) ?_
  refine gf_RX8_50_12 S hE w f0 rfl dX8_end_1 ?_
  refine lv_if_ne (tgt := 18) hx hb dX8_end_4 (by decide) (fun c => absurd (by decide) c) (fun _ => ?_)
  exact g_throwSW (names := ["java/lang/RuntimeException", "java/lang/Exception"]) hlt S hE w hl ht hlk (by decide +kernel) (by decide +kernel) m_3_105 m_1_25 (List.mem_of_getElem? (i := 20) rfl) th_RX8_113_117_1 th_RX8_113_117_2 th_RX8_113_117_3 dX8_end_7 dX8_end_10 dX8_end_11 dX8_end_14 dX8_end_17 (Nat.le_of_ble_eq_true rfl) (Nat.le_of_ble_eq_true rfl) (Nat.le_of_ble_eq_true rfl) (Nat.le_of_ble_eq_true rfl) (Nat.le_of_ble_eq_true rfl) (Nat.le_of_ble_eq_true rfl) (fun _ _ => ⟨rfl, by simp []⟩)
set_option maxHeartbeats 4000000 in
set_option maxRecDepth 100000 in
theorem h_state (l : Launch) (D : va_G) (ar : Nat → ClassId) (κ : Nat → Nat) (G : gW) (sz : Nat) (x : Nat) (q : Nat) (hF : FH ar κ G x q) : Met l yX8_state (lwC yX8_state cX8_state 1 (some .char)) (rD 2 0 0) (g_Pc D vwCl (gT ar) (EX1 κ) G sz [.ref x]) (g_Qi D vwCl (g_A G sz) (fun r u => r = 45)) 0 0 (g_A G sz) := by
  refine g_ofW (by decide +kernel) (Nat.le_of_ble_eq_true rfl) ?_
  intro p e s m below meth c ls S hr hlk hin hE w hl
  have hx := S.1
  have hb := S.2.1
  have hl : lv_has ls 1 [(0, .ref x)] := hl
  obtain ⟨hxq, f0, f1, f2, f3, f4, f5, f6, f7, f8, f9, f10, f11, f12, f13, f14, f15, f16, f17, f18, f19⟩ := id hF
  refine lv_aload_n hx hb dX8_state_0 rfl (lv_at hl 0 rfl) ?_
  refine gf_RX8_53_12 S hE w f0 rfl dX8_state_1 ?_
  exact g_zret hx hb hr hlk w (Nat.le_of_ble_eq_true rfl) (Nat.le_of_ble_eq_true rfl) dX8_state_4 rfl rfl
set_option maxHeartbeats 4000000 in
set_option maxRecDepth 100000 in
theorem h_reason (l : Launch) (D : va_G) (ar : Nat → ClassId) (κ : Nat → Nat) (G : gW) (sz : Nat) (x : Nat) (q : Nat) (hF : FH ar κ G x q) (hlt : l.stackTraces = false) : vx_Met l yX8_reason (lwC yX8_reason cX8_reason 1 (some .char)) (rD 8 1 6) (g_Pc D vwCl (gT ar) (EX1 κ) G sz [.ref x]) (g_Qi D vwCl (g_A G sz) (fun r u => False)) (gX D (g_A G sz) (fun E u => (E = "java/util/NoSuchElementException" ∧ True))) 1 6 (g_A G sz) := by
  refine gx_ofW (by decide +kernel) (Nat.le_of_ble_eq_true rfl) ?_
  intro p e s m below meth c ls S hr hlk ht hE w hl
  have hx := S.1
  have hb := S.2.1
  have hl : lv_has ls 1 [(0, .ref x)] := hl
  obtain ⟨hxq, f0, f1, f2, f3, f4, f5, f6, f7, f8, f9, f10, f11, f12, f13, f14, f15, f16, f17, f18, f19⟩ := id hF
  refine lv_aload_n hx hb dX8_reason_0 rfl (lv_at hl 0 rfl) ?_
  refine gf_RX8_53_12 S hE w f0 rfl dX8_reason_1 ?_
  refine lv_bipush (v := 120) hx hb dX8_reason_4 (by decide) ?_
  refine lv_icmp_eq (tgt := 20) hx hb dX8_reason_6 (by decide) (fun c => absurd c (by decide)) (fun _ => ?_)
  exact g_throwNW (Y := "java/lang/RuntimeException") (r := ["java/lang/Exception"]) hlt S hE w hl ht hlk (by decide +kernel) (by decide +kernel) (by decide +kernel) m_4_49 m_1_35 (List.mem_of_getElem? (i := 21) rfl) nse_1 nse_2 nse_3 dX8_reason_9 dX8_reason_12 dX8_reason_13 dX8_reason_16 dX8_reason_19 (Nat.le_of_ble_eq_true rfl) (Nat.le_of_ble_eq_true rfl) (Nat.le_of_ble_eq_true rfl) (Nat.le_of_ble_eq_true rfl) (Nat.le_of_ble_eq_true rfl) (Nat.le_of_ble_eq_true rfl) (fun _ _ => ⟨rfl, by simp []⟩)
set_option maxHeartbeats 4000000 in
set_option maxRecDepth 100000 in
theorem h_checkedAnswer (l : Launch) (D : va_G) (ar : Nat → ClassId) (κ : Nat → Nat) (G : gW) (sz : Nat) (x : Nat) (q : Nat) (hF : FH ar κ G x q) (hlt : l.stackTraces = false) : vx_Met l yX8_checkedAnswer (lwC yX8_checkedAnswer cX8_checkedAnswer 1 (some .long)) (rD 7 1 6) (g_Pc D vwCl (gT ar) (EX1 κ) G sz [.ref x]) (g_Ql D vwCl (g_A G sz) (fun r u => False)) (gX D (g_A G sz) (fun E u => (E = "java/util/NoSuchElementException" ∧ True))) 1 6 (g_A G sz) := by
  refine gx_ofW (by decide +kernel) (Nat.le_of_ble_eq_true rfl) ?_
  intro p e s m below meth c ls S hr hlk ht hE w hl
  have hx := S.1
  have hb := S.2.1
  have hl : lv_has ls 1 [(0, .ref x)] := hl
  obtain ⟨hxq, f0, f1, f2, f3, f4, f5, f6, f7, f8, f9, f10, f11, f12, f13, f14, f15, f16, f17, f18, f19⟩ := id hF
  refine lv_aload_n hx hb dX8_checkedAnswer_0 rfl (lv_at hl 0 rfl) ?_
  refine gf_RX8_53_12 S hE w f0 rfl dX8_checkedAnswer_1 ?_
  refine lv_bipush (v := 114) hx hb dX8_checkedAnswer_4 (by decide) ?_
  refine lv_icmp_eq (tgt := 20) hx hb dX8_checkedAnswer_6 (by decide) (fun c => absurd c (by decide)) (fun _ => ?_)
  exact g_throwNW (Y := "java/lang/RuntimeException") (r := ["java/lang/Exception"]) hlt S hE w hl ht hlk (by decide +kernel) (by decide +kernel) (by decide +kernel) m_4_49 m_1_35 (List.mem_of_getElem? (i := 22) rfl) nse_1 nse_2 nse_3 dX8_checkedAnswer_9 dX8_checkedAnswer_12 dX8_checkedAnswer_13 dX8_checkedAnswer_16 dX8_checkedAnswer_19 (Nat.le_of_ble_eq_true rfl) (Nat.le_of_ble_eq_true rfl) (Nat.le_of_ble_eq_true rfl) (Nat.le_of_ble_eq_true rfl) (Nat.le_of_ble_eq_true rfl) (Nat.le_of_ble_eq_true rfl) (fun _ _ => ⟨rfl, by simp []⟩)
set_option maxHeartbeats 4000000 in
set_option maxRecDepth 100000 in
theorem h_answerKind (l : Launch) (D : va_G) (ar : Nat → ClassId) (κ : Nat → Nat) (G : gW) (sz : Nat) (x : Nat) (q : Nat) (hF : FH ar κ G x q) (hlt : l.stackTraces = false) : vx_Met l yX8_answerKind (lwC yX8_answerKind cX8_answerKind 1 (some .char)) (rD 8 1 6) (g_Pc D vwCl (gT ar) (EX1 κ) G sz [.ref x]) (g_Qi D vwCl (g_A G sz) (fun r u => False)) (gX D (g_A G sz) (fun E u => (E = "java/util/NoSuchElementException" ∧ True))) 1 6 (g_A G sz) := by
  refine gx_ofW (by decide +kernel) (Nat.le_of_ble_eq_true rfl) ?_
  intro p e s m below meth c ls S hr hlk ht hE w hl
  have hx := S.1
  have hb := S.2.1
  have hl : lv_has ls 1 [(0, .ref x)] := hl
  obtain ⟨hxq, f0, f1, f2, f3, f4, f5, f6, f7, f8, f9, f10, f11, f12, f13, f14, f15, f16, f17, f18, f19⟩ := id hF
  refine lv_aload_n hx hb dX8_answerKind_0 rfl (lv_at hl 0 rfl) ?_
  exact gx_calll w (gx_runV (As := []) (rest := []) S hE w hl (h_checkedAnswer l D ar κ G sz x q hF hlt) (k_RX8_312 S.2.2.2.2 ⟨Nat.le_of_ble_eq_true rfl, Nat.le_of_ble_eq_true rfl⟩) f0 rfl rfl rfl rfl (Nat.le_of_ble_eq_true rfl) dX8_answerKind_1 ⟨Nat.le_of_ble_eq_true rfl, Nat.le_of_ble_eq_true rfl⟩) (fun E ce q9 u H locs hp hnz w hce hv hcl => g_pass ht hlk w hce hv hcl hp (Nat.le_of_ble_eq_true rfl) (Nat.le_of_ble_eq_true rfl)) (fun r u H locs hp hnz w => hp.elim)
set_option maxHeartbeats 4000000 in
set_option maxRecDepth 100000 in
theorem h_answer (l : Launch) (D : va_G) (ar : Nat → ClassId) (κ : Nat → Nat) (G : gW) (sz : Nat) (x : Nat) (q : Nat) (hF : FH ar κ G x q) (hlt : l.stackTraces = false) : vx_Met l yX8_answer (lwC yX8_answer cX8_answer 1 (some .int)) (rD 8 1 6) (g_Pc D vwCl (gT ar) (EX1 κ) G sz [.ref x]) (g_Qi D vwCl (g_A G sz) (fun r u => False)) (gX D (g_A G sz) (fun E u => (E = "java/util/NoSuchElementException" ∧ True))) 1 6 (g_A G sz) := by
  refine gx_ofW (by decide +kernel) (Nat.le_of_ble_eq_true rfl) ?_
  intro p e s m below meth c ls S hr hlk ht hE w hl
  have hx := S.1
  have hb := S.2.1
  have hl : lv_has ls 1 [(0, .ref x)] := hl
  obtain ⟨hxq, f0, f1, f2, f3, f4, f5, f6, f7, f8, f9, f10, f11, f12, f13, f14, f15, f16, f17, f18, f19⟩ := id hF
  refine lv_aload_n hx hb dX8_answer_0 rfl (lv_at hl 0 rfl) ?_
  exact gx_calll w (gx_runV (As := []) (rest := []) S hE w hl (h_checkedAnswer l D ar κ G sz x q hF hlt) (k_RX8_312 S.2.2.2.2 ⟨Nat.le_of_ble_eq_true rfl, Nat.le_of_ble_eq_true rfl⟩) f0 rfl rfl rfl rfl (Nat.le_of_ble_eq_true rfl) dX8_answer_1 ⟨Nat.le_of_ble_eq_true rfl, Nat.le_of_ble_eq_true rfl⟩) (fun E ce q9 u H locs hp hnz w hce hv hcl => g_pass ht hlk w hce hv hcl hp (Nat.le_of_ble_eq_true rfl) (Nat.le_of_ble_eq_true rfl)) (fun r u H locs hp hnz w => hp.elim)
set_option maxHeartbeats 4000000 in
set_option maxRecDepth 100000 in
theorem h_steps (l : Launch) (D : va_G) (ar : Nat → ClassId) (κ : Nat → Nat) (G : gW) (sz : Nat) (x : Nat) (q : Nat) (hF : FH ar κ G x q) : Met l yX8_steps (lwC yX8_steps cX8_steps 1 (some .int)) (rD 2 0 0) (g_Pc D vwCl (gT ar) (EX1 κ) G sz [.ref x]) (g_Qi D vwCl (g_A G sz) (fun r u => r = 0)) 0 0 (g_A G sz) := by
  refine g_ofW (by decide +kernel) (Nat.le_of_ble_eq_true rfl) ?_
  intro p e s m below meth c ls S hr hlk hin hE w hl
  have hx := S.1
  have hb := S.2.1
  have hl : lv_has ls 1 [(0, .ref x)] := hl
  obtain ⟨hxq, f0, f1, f2, f3, f4, f5, f6, f7, f8, f9, f10, f11, f12, f13, f14, f15, f16, f17, f18, f19⟩ := id hF
  refine lv_aload_n hx hb dX8_steps_0 rfl (lv_at hl 0 rfl) ?_
  refine gf_RX8_66_12 S hE w f0 rfl dX8_steps_1 ?_
  exact g_iret hx hb hr hlk w (Nat.le_of_ble_eq_true rfl) (Nat.le_of_ble_eq_true rfl) dX8_steps_4 rfl
set_option maxHeartbeats 4000000 in
set_option maxRecDepth 100000 in
theorem h_frames (l : Launch) (D : va_G) (ar : Nat → ClassId) (κ : Nat → Nat) (G : gW) (sz : Nat) (x : Nat) (q : Nat) (hF : FH ar κ G x q) : Met l yX8_frames (lwC yX8_frames cX8_frames 1 (some .int)) (rD 2 0 0) (g_Pc D vwCl (gT ar) (EX1 κ) G sz [.ref x]) (g_Qi D vwCl (g_A G sz) (fun r u => r = 0)) 0 0 (g_A G sz) := by
  refine g_ofW (by decide +kernel) (Nat.le_of_ble_eq_true rfl) ?_
  intro p e s m below meth c ls S hr hlk hin hE w hl
  have hx := S.1
  have hb := S.2.1
  have hl : lv_has ls 1 [(0, .ref x)] := hl
  obtain ⟨hxq, f0, f1, f2, f3, f4, f5, f6, f7, f8, f9, f10, f11, f12, f13, f14, f15, f16, f17, f18, f19⟩ := id hF
  refine lv_aload_n hx hb dX8_frames_0 rfl (lv_at hl 0 rfl) ?_
  refine gf_RX8_50_12 S hE w f0 rfl dX8_frames_1 ?_
  exact g_iret hx hb hr hlk w (Nat.le_of_ble_eq_true rfl) (Nat.le_of_ble_eq_true rfl) dX8_frames_4 rfl
set_option maxHeartbeats 4000000 in
set_option maxRecDepth 100000 in
theorem h_written (l : Launch) (D : va_G) (ar : Nat → ClassId) (κ : Nat → Nat) (G : gW) (sz : Nat) (x : Nat) (q : Nat) (hF : FH ar κ G x q) : Met l yX8_written (lwC yX8_written cX8_written 1 (some .int)) (rD 2 0 0) (g_Pc D vwCl (gT ar) (EX1 κ) G sz [.ref x]) (g_Qi D vwCl (g_A G sz) (fun r u => r = 0)) 0 0 (g_A G sz) := by
  refine g_ofW (by decide +kernel) (Nat.le_of_ble_eq_true rfl) ?_
  intro p e s m below meth c ls S hr hlk hin hE w hl
  have hx := S.1
  have hb := S.2.1
  have hl : lv_has ls 1 [(0, .ref x)] := hl
  obtain ⟨hxq, f0, f1, f2, f3, f4, f5, f6, f7, f8, f9, f10, f11, f12, f13, f14, f15, f16, f17, f18, f19⟩ := id hF
  refine lv_aload_n hx hb dX8_written_0 rfl (lv_at hl 0 rfl) ?_
  refine gf_RX8_72_12 S hE w f0 rfl dX8_written_1 ?_
  refine gf_RX8_336_11 S hE w f18 rfl dX8_written_4 ?_
  exact g_iret hx hb hr hlk w (Nat.le_of_ble_eq_true rfl) (Nat.le_of_ble_eq_true rfl) dX8_written_7 rfl
set_option maxHeartbeats 4000000 in
set_option maxRecDepth 100000 in
theorem h_checkedFrame (l : Launch) (D : va_G) (ar : Nat → ClassId) (κ : Nat → Nat) (G : gW) (sz : Nat) (x : Nat) (n : Int32) (q : Nat) (hF : FH ar κ G x q) (hlt : l.stackTraces = false) : vx_Met l yX8_checkedFrame (lwC yX8_checkedFrame cX8_checkedFrame 3 (some (.object "Sendhouse$Frame"))) (rD 7 1 6) (g_Pc D vwCl (gT ar) (EX1 κ) G sz [.ref x, .int n]) (g_Qq D vwCl (g_A G sz) (fun r u => False)) (gX D (g_A G sz) (fun E u => (E = "java/lang/IndexOutOfBoundsException" ∧ True))) 1 6 (g_A G sz) := by
  refine gx_ofW (by decide +kernel) (Nat.le_of_ble_eq_true rfl) ?_
  intro p e s m below meth c ls S hr hlk ht hE w hl
  have hx := S.1
  have hb := S.2.1
  have hl : lv_has ls 3 [(0, .ref x), (1, .int n)] := hl
  obtain ⟨hxq, f0, f1, f2, f3, f4, f5, f6, f7, f8, f9, f10, f11, f12, f13, f14, f15, f16, f17, f18, f19⟩ := id hF
  refine lv_iload_n hx hb dX8_checkedFrame_0 rfl (lv_at hl 1 rfl) ?_
  refine lv_aload_n hx hb dX8_checkedFrame_1 rfl (lv_at hl 0 rfl) ?_
  refine gf_RX8_50_12 S hE w f0 rfl dX8_checkedFrame_2 ?_
  refine g_calli w (g_runS (As := [.int n, .int 0]) (rest := []) S hE w hl (c_X8_isBelow l D ar κ G sz n 0) (k_RX8_97 S.2.2.2.2 ⟨Nat.le_of_ble_eq_true rfl, Nat.le_of_ble_eq_true rfl⟩) rfl rfl (Nat.le_of_ble_eq_true rfl) dX8_checkedFrame_5 ⟨Nat.le_of_ble_eq_true rfl, Nat.le_of_ble_eq_true rfl⟩) (fun r u H locs hp hnz w => ?_)
  obtain ⟨rfl, rfl⟩ := hp
  rw [show (isB n 0 : Int32) = 0 from isB_z]
  dsimp only at w
  refine lv_if_eq (tgt := 19) hx hb dX8_checkedFrame_8 (by decide) (fun _ => ?_) (fun c => absurd (by decide) c)
  refine lv_null hx hb dX8_checkedFrame_19 ?_
  refine lv_astore_nN (lv' := [(2, .null), (0, .ref x), (1, .int n)]) hx hb dX8_checkedFrame_20 rfl hl (by decide) rfl (fun ls hl => ?_)
  refine lv_aload_nN hx hb dX8_checkedFrame_21 rfl (lv_at hl 0 rfl) ?_
  refine lv_ifnonnullN hx hb dX8_checkedFrame_22 ?_
  exact g_throwSW (names := ["java/lang/RuntimeException", "java/lang/Exception"]) hlt S hE w hl ht hlk (by decide +kernel) (by decide +kernel) m_3_69 m_1_21 (List.mem_of_getElem? (i := 23) rfl) th_RX8_87_91_1 th_RX8_87_91_2 th_RX8_87_91_3 dX8_checkedFrame_25 dX8_checkedFrame_28 dX8_checkedFrame_29 dX8_checkedFrame_32 dX8_checkedFrame_35 (Nat.le_of_ble_eq_true rfl) (Nat.le_of_ble_eq_true rfl) (Nat.le_of_ble_eq_true rfl) (Nat.le_of_ble_eq_true rfl) (Nat.le_of_ble_eq_true rfl) (Nat.le_of_ble_eq_true rfl) (fun _ _ => ⟨rfl, by simp []⟩)
set_option maxHeartbeats 4000000 in
set_option maxRecDepth 100000 in
theorem h_frame (l : Launch) (D : va_G) (ar : Nat → ClassId) (κ : Nat → Nat) (G : gW) (sz : Nat) (x : Nat) (n : Int32) (wh : Int32) (q : Nat) (hF : FH ar κ G x q) (hlt : l.stackTraces = false) : vx_Met l yX8_frame (lwC yX8_frame cX8_frame 4 (some .int)) (rD 8 1 6) (g_Pc D vwCl (gT ar) (EX1 κ) G sz [.ref x, .int n, .int wh]) (g_Qi D vwCl (g_A G sz) (fun r u => False)) (gX D (g_A G sz) (fun E u => (E = "java/lang/IndexOutOfBoundsException" ∧ True))) 1 6 (g_A G sz) := by
  refine gx_ofW (by decide +kernel) (Nat.le_of_ble_eq_true rfl) ?_
  intro p e s m below meth c ls S hr hlk ht hE w hl
  have hx := S.1
  have hb := S.2.1
  have hl : lv_has ls 4 [(0, .ref x), (1, .int n), (2, .int wh)] := hl
  obtain ⟨hxq, f0, f1, f2, f3, f4, f5, f6, f7, f8, f9, f10, f11, f12, f13, f14, f15, f16, f17, f18, f19⟩ := id hF
  refine lv_aload_n hx hb dX8_frame_0 rfl (lv_at hl 0 rfl) ?_
  refine lv_iload_n hx hb dX8_frame_1 rfl (lv_at hl 1 rfl) ?_
  exact gx_callq w (gx_runV (As := [.int n]) (rest := []) S hE w hl (h_checkedFrame l D ar κ G sz x n q hF hlt) (k_RX8_316 S.2.2.2.2 ⟨Nat.le_of_ble_eq_true rfl, Nat.le_of_ble_eq_true rfl⟩) f0 rfl rfl rfl rfl (Nat.le_of_ble_eq_true rfl) dX8_frame_2 ⟨Nat.le_of_ble_eq_true rfl, Nat.le_of_ble_eq_true rfl⟩) (fun E ce q9 u H locs hp hnz w hce hv hcl => g_pass ht hlk w hce hv hcl hp (Nat.le_of_ble_eq_true rfl) (Nat.le_of_ble_eq_true rfl)) (fun r u H locs hp hnz w => hp.elim)
set_option maxHeartbeats 4000000 in
set_option maxRecDepth 100000 in
theorem h_checkedSlot (l : Launch) (D : va_G) (ar : Nat → ClassId) (κ : Nat → Nat) (G : gW) (sz : Nat) (x : Nat) (n : Int32) (wh : Int32) (k : Int32) (q : Nat) (hF : FH ar κ G x q) (hlt : l.stackTraces = false) : vx_Met l yX8_checkedSlot (lwC yX8_checkedSlot cX8_checkedSlot 5 (some .long)) (rD 8 1 6) (g_Pc D vwCl (gT ar) (EX1 κ) G sz [.ref x, .int n, .int wh, .int k]) (g_Ql D vwCl (g_A G sz) (fun r u => False)) (gX D (g_A G sz) (fun E u => (E = "java/lang/IndexOutOfBoundsException" ∧ True))) 1 6 (g_A G sz) := by
  refine gx_ofW (by decide +kernel) (Nat.le_of_ble_eq_true rfl) ?_
  intro p e s m below meth c ls S hr hlk ht hE w hl
  have hx := S.1
  have hb := S.2.1
  have hl : lv_has ls 5 [(0, .ref x), (1, .int n), (2, .int wh), (3, .int k)] := hl
  obtain ⟨hxq, f0, f1, f2, f3, f4, f5, f6, f7, f8, f9, f10, f11, f12, f13, f14, f15, f16, f17, f18, f19⟩ := id hF
  refine lv_aload_n hx hb dX8_checkedSlot_0 rfl (lv_at hl 0 rfl) ?_
  refine lv_iload_n hx hb dX8_checkedSlot_1 rfl (lv_at hl 1 rfl) ?_
  exact gx_callq w (gx_runV (As := [.int n]) (rest := []) S hE w hl (h_checkedFrame l D ar κ G sz x n q hF hlt) (k_RX8_316 S.2.2.2.2 ⟨Nat.le_of_ble_eq_true rfl, Nat.le_of_ble_eq_true rfl⟩) f0 rfl rfl rfl rfl (Nat.le_of_ble_eq_true rfl) dX8_checkedSlot_2 ⟨Nat.le_of_ble_eq_true rfl, Nat.le_of_ble_eq_true rfl⟩) (fun E ce q9 u H locs hp hnz w hce hv hcl => g_pass ht hlk w hce hv hcl hp (Nat.le_of_ble_eq_true rfl) (Nat.le_of_ble_eq_true rfl)) (fun r u H locs hp hnz w => hp.elim)
set_option maxHeartbeats 4000000 in
set_option maxRecDepth 100000 in
theorem h_slotKind (l : Launch) (D : va_G) (ar : Nat → ClassId) (κ : Nat → Nat) (G : gW) (sz : Nat) (x : Nat) (n : Int32) (wh : Int32) (k : Int32) (q : Nat) (hF : FH ar κ G x q) (hlt : l.stackTraces = false) : vx_Met l yX8_slotKind (lwC yX8_slotKind cX8_slotKind 4 (some .char)) (rD 9 1 6) (g_Pc D vwCl (gT ar) (EX1 κ) G sz [.ref x, .int n, .int wh, .int k]) (g_Qi D vwCl (g_A G sz) (fun r u => False)) (gX D (g_A G sz) (fun E u => (E = "java/lang/IndexOutOfBoundsException" ∧ True))) 1 6 (g_A G sz) := by
  refine gx_ofW (by decide +kernel) (Nat.le_of_ble_eq_true rfl) ?_
  intro p e s m below meth c ls S hr hlk ht hE w hl
  have hx := S.1
  have hb := S.2.1
  have hl : lv_has ls 4 [(0, .ref x), (1, .int n), (2, .int wh), (3, .int k)] := hl
  obtain ⟨hxq, f0, f1, f2, f3, f4, f5, f6, f7, f8, f9, f10, f11, f12, f13, f14, f15, f16, f17, f18, f19⟩ := id hF
  refine lv_aload_n hx hb dX8_slotKind_0 rfl (lv_at hl 0 rfl) ?_
  refine lv_iload_n hx hb dX8_slotKind_1 rfl (lv_at hl 1 rfl) ?_
  refine lv_iload_n hx hb dX8_slotKind_2 rfl (lv_at hl 2 rfl) ?_
  refine lv_iload_n hx hb dX8_slotKind_3 rfl (lv_at hl 3 rfl) ?_
  exact gx_calll w (gx_runV (As := [.int n, .int wh, .int k]) (rest := []) S hE w hl (h_checkedSlot l D ar κ G sz x n wh k q hF hlt) (k_RX8_332 S.2.2.2.2 ⟨Nat.le_of_ble_eq_true rfl, Nat.le_of_ble_eq_true rfl⟩) f0 rfl rfl rfl rfl (Nat.le_of_ble_eq_true rfl) dX8_slotKind_4 ⟨Nat.le_of_ble_eq_true rfl, Nat.le_of_ble_eq_true rfl⟩) (fun E ce q9 u H locs hp hnz w hce hv hcl => g_pass ht hlk w hce hv hcl hp (Nat.le_of_ble_eq_true rfl) (Nat.le_of_ble_eq_true rfl)) (fun r u H locs hp hnz w => hp.elim)
set_option maxHeartbeats 4000000 in
set_option maxRecDepth 100000 in
theorem h_slot (l : Launch) (D : va_G) (ar : Nat → ClassId) (κ : Nat → Nat) (G : gW) (sz : Nat) (x : Nat) (n : Int32) (wh : Int32) (k : Int32) (q : Nat) (hF : FH ar κ G x q) (hlt : l.stackTraces = false) : vx_Met l yX8_slot (lwC yX8_slot cX8_slot 4 (some .int)) (rD 9 1 6) (g_Pc D vwCl (gT ar) (EX1 κ) G sz [.ref x, .int n, .int wh, .int k]) (g_Qi D vwCl (g_A G sz) (fun r u => False)) (gX D (g_A G sz) (fun E u => (E = "java/lang/IndexOutOfBoundsException" ∧ True))) 1 6 (g_A G sz) := by
  refine gx_ofW (by decide +kernel) (Nat.le_of_ble_eq_true rfl) ?_
  intro p e s m below meth c ls S hr hlk ht hE w hl
  have hx := S.1
  have hb := S.2.1
  have hl : lv_has ls 4 [(0, .ref x), (1, .int n), (2, .int wh), (3, .int k)] := hl
  obtain ⟨hxq, f0, f1, f2, f3, f4, f5, f6, f7, f8, f9, f10, f11, f12, f13, f14, f15, f16, f17, f18, f19⟩ := id hF
  refine lv_aload_n hx hb dX8_slot_0 rfl (lv_at hl 0 rfl) ?_
  refine lv_iload_n hx hb dX8_slot_1 rfl (lv_at hl 1 rfl) ?_
  refine lv_iload_n hx hb dX8_slot_2 rfl (lv_at hl 2 rfl) ?_
  refine lv_iload_n hx hb dX8_slot_3 rfl (lv_at hl 3 rfl) ?_
  exact gx_calll w (gx_runV (As := [.int n, .int wh, .int k]) (rest := []) S hE w hl (h_checkedSlot l D ar κ G sz x n wh k q hF hlt) (k_RX8_332 S.2.2.2.2 ⟨Nat.le_of_ble_eq_true rfl, Nat.le_of_ble_eq_true rfl⟩) f0 rfl rfl rfl rfl (Nat.le_of_ble_eq_true rfl) dX8_slot_4 ⟨Nat.le_of_ble_eq_true rfl, Nat.le_of_ble_eq_true rfl⟩) (fun E ce q9 u H locs hp hnz w hce hv hcl => g_pass ht hlk w hce hv hcl hp (Nat.le_of_ble_eq_true rfl) (Nat.le_of_ble_eq_true rfl)) (fun r u H locs hp hnz w => hp.elim)
set_option maxHeartbeats 4000000 in
set_option maxRecDepth 100000 in
theorem h_checkedWritten (l : Launch) (D : va_G) (ar : Nat → ClassId) (κ : Nat → Nat) (G : gW) (sz : Nat) (x : Nat) (n : Int32) (q : Nat) (hF : FH ar κ G x q) (hlt : l.stackTraces = false) : vx_Met l yX8_checkedWritten (lwC yX8_checkedWritten cX8_checkedWritten 2 (some .long)) (rD 7 1 6) (g_Pc D vwCl (gT ar) (EX1 κ) G sz [.ref x, .int n]) (g_Ql D vwCl (g_A G sz) (fun r u => False)) (gX D (g_A G sz) (fun E u => (E = "java/util/NoSuchElementException" ∧ True))) 1 6 (g_A G sz) := by
  refine gx_ofW (by decide +kernel) (Nat.le_of_ble_eq_true rfl) ?_
  intro p e s m below meth c ls S hr hlk ht hE w hl
  have hx := S.1
  have hb := S.2.1
  have hl : lv_has ls 2 [(0, .ref x), (1, .int n)] := hl
  obtain ⟨hxq, f0, f1, f2, f3, f4, f5, f6, f7, f8, f9, f10, f11, f12, f13, f14, f15, f16, f17, f18, f19⟩ := id hF
  refine lv_iload_n hx hb dX8_checkedWritten_0 rfl (lv_at hl 1 rfl) ?_
  refine lv_aload_n hx hb dX8_checkedWritten_1 rfl (lv_at hl 0 rfl) ?_
  refine gf_RX8_72_12 S hE w f0 rfl dX8_checkedWritten_2 ?_
  refine gf_RX8_336_11 S hE w f18 rfl dX8_checkedWritten_5 ?_
  refine g_calli w (g_runS (As := [.int n, .int 0]) (rest := []) S hE w hl (c_X8_isBelow l D ar κ G sz n 0) (k_RX8_97 S.2.2.2.2 ⟨Nat.le_of_ble_eq_true rfl, Nat.le_of_ble_eq_true rfl⟩) rfl rfl (Nat.le_of_ble_eq_true rfl) dX8_checkedWritten_8 ⟨Nat.le_of_ble_eq_true rfl, Nat.le_of_ble_eq_true rfl⟩) (fun r u H locs hp hnz w => ?_)
  obtain ⟨rfl, rfl⟩ := hp
  rw [show (isB n 0 : Int32) = 0 from isB_z]
  dsimp only at w
  refine lv_if_ne (tgt := 25) hx hb dX8_checkedWritten_11 (by decide) (fun c => absurd (by decide) c) (fun _ => ?_)
  exact g_throwNW (Y := "java/lang/RuntimeException") (r := ["java/lang/Exception"]) hlt S hE w hl ht hlk (by decide +kernel) (by decide +kernel) (by decide +kernel) m_4_49 m_1_35 (List.mem_of_getElem? (i := 25) rfl) nse_1 nse_2 nse_3 dX8_checkedWritten_14 dX8_checkedWritten_17 dX8_checkedWritten_18 dX8_checkedWritten_21 dX8_checkedWritten_24 (Nat.le_of_ble_eq_true rfl) (Nat.le_of_ble_eq_true rfl) (Nat.le_of_ble_eq_true rfl) (Nat.le_of_ble_eq_true rfl) (Nat.le_of_ble_eq_true rfl) (Nat.le_of_ble_eq_true rfl) (fun _ _ => ⟨rfl, by simp []⟩)
set_option maxHeartbeats 4000000 in
set_option maxRecDepth 100000 in
theorem h_writtenKind (l : Launch) (D : va_G) (ar : Nat → ClassId) (κ : Nat → Nat) (G : gW) (sz : Nat) (x : Nat) (n : Int32) (q : Nat) (hF : FH ar κ G x q) (hlt : l.stackTraces = false) : vx_Met l yX8_writtenKind (lwC yX8_writtenKind cX8_writtenKind 2 (some .char)) (rD 8 1 6) (g_Pc D vwCl (gT ar) (EX1 κ) G sz [.ref x, .int n]) (g_Qi D vwCl (g_A G sz) (fun r u => False)) (gX D (g_A G sz) (fun E u => (E = "java/util/NoSuchElementException" ∧ True))) 1 6 (g_A G sz) := by
  refine gx_ofW (by decide +kernel) (Nat.le_of_ble_eq_true rfl) ?_
  intro p e s m below meth c ls S hr hlk ht hE w hl
  have hx := S.1
  have hb := S.2.1
  have hl : lv_has ls 2 [(0, .ref x), (1, .int n)] := hl
  obtain ⟨hxq, f0, f1, f2, f3, f4, f5, f6, f7, f8, f9, f10, f11, f12, f13, f14, f15, f16, f17, f18, f19⟩ := id hF
  refine lv_aload_n hx hb dX8_writtenKind_0 rfl (lv_at hl 0 rfl) ?_
  refine lv_iload_n hx hb dX8_writtenKind_1 rfl (lv_at hl 1 rfl) ?_
  exact gx_calll w (gx_runV (As := [.int n]) (rest := []) S hE w hl (h_checkedWritten l D ar κ G sz x n q hF hlt) (k_RX8_337 S.2.2.2.2 ⟨Nat.le_of_ble_eq_true rfl, Nat.le_of_ble_eq_true rfl⟩) f0 rfl rfl rfl rfl (Nat.le_of_ble_eq_true rfl) dX8_writtenKind_2 ⟨Nat.le_of_ble_eq_true rfl, Nat.le_of_ble_eq_true rfl⟩) (fun E ce q9 u H locs hp hnz w hce hv hcl => g_pass ht hlk w hce hv hcl hp (Nat.le_of_ble_eq_true rfl) (Nat.le_of_ble_eq_true rfl)) (fun r u H locs hp hnz w => hp.elim)
set_option maxHeartbeats 4000000 in
set_option maxRecDepth 100000 in
theorem h_writtenValue (l : Launch) (D : va_G) (ar : Nat → ClassId) (κ : Nat → Nat) (G : gW) (sz : Nat) (x : Nat) (n : Int32) (q : Nat) (hF : FH ar κ G x q) (hlt : l.stackTraces = false) : vx_Met l yX8_writtenValue (lwC yX8_writtenValue cX8_writtenValue 2 (some .int)) (rD 8 1 6) (g_Pc D vwCl (gT ar) (EX1 κ) G sz [.ref x, .int n]) (g_Qi D vwCl (g_A G sz) (fun r u => False)) (gX D (g_A G sz) (fun E u => (E = "java/util/NoSuchElementException" ∧ True))) 1 6 (g_A G sz) := by
  refine gx_ofW (by decide +kernel) (Nat.le_of_ble_eq_true rfl) ?_
  intro p e s m below meth c ls S hr hlk ht hE w hl
  have hx := S.1
  have hb := S.2.1
  have hl : lv_has ls 2 [(0, .ref x), (1, .int n)] := hl
  obtain ⟨hxq, f0, f1, f2, f3, f4, f5, f6, f7, f8, f9, f10, f11, f12, f13, f14, f15, f16, f17, f18, f19⟩ := id hF
  refine lv_aload_n hx hb dX8_writtenValue_0 rfl (lv_at hl 0 rfl) ?_
  refine lv_iload_n hx hb dX8_writtenValue_1 rfl (lv_at hl 1 rfl) ?_
  exact gx_calll w (gx_runV (As := [.int n]) (rest := []) S hE w hl (h_checkedWritten l D ar κ G sz x n q hF hlt) (k_RX8_337 S.2.2.2.2 ⟨Nat.le_of_ble_eq_true rfl, Nat.le_of_ble_eq_true rfl⟩) f0 rfl rfl rfl rfl (Nat.le_of_ble_eq_true rfl) dX8_writtenValue_2 ⟨Nat.le_of_ble_eq_true rfl, Nat.le_of_ble_eq_true rfl⟩) (fun E ce q9 u H locs hp hnz w hce hv hcl => g_pass ht hlk w hce hv hcl hp (Nat.le_of_ble_eq_true rfl) (Nat.le_of_ble_eq_true rfl)) (fun r u H locs hp hnz w => hp.elim)
set_option maxHeartbeats 4000000 in
set_option maxRecDepth 100000 in
theorem h_wipe (l : Launch) (D : va_G) (ar : Nat → ClassId) (κ : Nat → Nat) (G : gW) (sz : Nat) (x : Nat) (q : Nat) (hF : FH ar κ G x q) : Met l yX8_wipe (lwC yX8_wipe cX8_wipe 2 (some .int)) (rD 2 0 0) (g_Pc D vwCl (gT ar) (EX1 κ) G sz [.ref x]) (g_Qi D vwCl (g_A G sz) (fun r u => r = 0)) 0 0 (g_A G sz) := by
  refine g_ofW (by decide +kernel) (Nat.le_of_ble_eq_true rfl) ?_
  intro p e s m below meth c ls S hr hlk hin hE w hl
  have hx := S.1
  have hb := S.2.1
  have hl : lv_has ls 2 [(0, .ref x)] := hl
  obtain ⟨hxq, f0, f1, f2, f3, f4, f5, f6, f7, f8, f9, f10, f11, f12, f13, f14, f15, f16, f17, f18, f19⟩ := id hF
  refine lv_aload_n hx hb dX8_wipe_0 rfl (lv_at hl 0 rfl) ?_
  refine gf_RX8_25_12 S hE w f0 rfl dX8_wipe_1 ?_
  refine gf_RX8_128_7 S hE w f5 rfl dX8_wipe_4 ?_
  refine lv_istore_n (lv' := [(1, .int 0), (0, .ref x)]) hx hb dX8_wipe_7 rfl hl (by decide) rfl (fun ls hl => ?_)
  refine lv_aload_n hx hb dX8_wipe_8 rfl (lv_at hl 1 rfl) ?_
  refine gf_RX8_25_12 S hE w f0 rfl dX8_wipe_9 ?_
  refine lv_iconst (v := 0) hx hb dX8_wipe_12 (by decide) ?_
  refine pf_RX8_128_7 (fs1 := [.ref (q + 5), .ref (q + 6), .ref (q + 7), .ref (q + 8), .ref (q + 9), .int 0, .int 0]) S hE w f5 rfl rfl (Nat.le_of_ble_eq_true rfl) rfl dX8_wipe_13 (fun H locs w => ?_)
  refine lv_iload_n hx hb dX8_wipe_16 rfl (lv_at hl 0 rfl) ?_
  exact g_iret hx hb hr hlk w (Nat.le_of_ble_eq_true rfl) (Nat.le_of_ble_eq_true rfl) dX8_wipe_17 rfl
