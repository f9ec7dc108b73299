theorem dJ3_checkIndex_8e157_0 : decode cJ3_checkIndex_8e157 0 = .ok (.iload_n 0, 1) := by decide +kernel
theorem dJ3_checkIndex_8e157_1 : decode cJ3_checkIndex_8e157 1 = .ok (.ifCond .lt 8, 3) := by decide +kernel
theorem dJ3_checkIndex_8e157_4 : decode cJ3_checkIndex_8e157 4 = .ok (.iload_n 0, 1) := by decide +kernel
theorem dJ3_checkIndex_8e157_5 : decode cJ3_checkIndex_8e157 5 = .ok (.iload_n 1, 1) := by decide +kernel
theorem dJ3_checkIndex_8e157_6 : decode cJ3_checkIndex_8e157 6 = .ok (.if_icmp .lt 10, 3) := by decide +kernel
theorem dJ3_checkIndex_8e157_9 : decode cJ3_checkIndex_8e157 9 = .ok (.aload_n 2, 1) := by decide +kernel
theorem dJ3_checkIndex_8e157_10 : decode cJ3_checkIndex_8e157 10 = .ok (.iload_n 0, 1) := by decide +kernel
theorem dJ3_checkIndex_8e157_11 : decode cJ3_checkIndex_8e157 11 = .ok (.iload_n 1, 1) := by decide +kernel
theorem dJ3_checkIndex_8e157_12 : decode cJ3_checkIndex_8e157 12 = .ok (.invokestatic 95, 3) := by decide +kernel
theorem dJ3_checkIndex_8e157_15 : decode cJ3_checkIndex_8e157 15 = .ok (.athrow, 1) := by decide +kernel
theorem dJ3_checkIndex_8e157_16 : decode cJ3_checkIndex_8e157 16 = .ok (.iload_n 0, 1) := by decide +kernel
theorem dJ3_checkIndex_8e157_17 : decode cJ3_checkIndex_8e157 17 = .ok (.ireturn, 1) := by decide +kernel
theorem dJ15_checkIndex_7cf53_0 : decode cJ15_checkIndex_7cf53 0 = .ok (.iload_n 0, 1) := by decide +kernel
theorem dJ15_checkIndex_7cf53_1 : decode cJ15_checkIndex_7cf53 1 = .ok (.iload_n 1, 1) := by decide +kernel
theorem dJ15_checkIndex_7cf53_2 : decode cJ15_checkIndex_7cf53 2 = .ok (.aconst_null, 1) := by decide +kernel
theorem dJ15_checkIndex_7cf53_3 : decode cJ15_checkIndex_7cf53 3 = .ok (.invokestatic 105, 3) := by decide +kernel
theorem dJ15_checkIndex_7cf53_6 : decode cJ15_checkIndex_7cf53 6 = .ok (.ireturn, 1) := by decide +kernel
theorem dJx4a65c_size_8abf5_0 : decode cJx4a65c_size_8abf5 0 = .ok (.aload_n 0, 1) := by decide +kernel
theorem dJx4a65c_size_8abf5_1 : decode cJx4a65c_size_8abf5 1 = .ok (.getfield 48, 3) := by decide +kernel
theorem dJx4a65c_size_8abf5_4 : decode cJx4a65c_size_8abf5 4 = .ok (.ireturn, 1) := by decide +kernel
theorem dJx4a65c_elementData_915e3_0 : decode cJx4a65c_elementData_915e3 0 = .ok (.aload_n 0, 1) := by decide +kernel
theorem dJx4a65c_elementData_915e3_1 : decode cJx4a65c_elementData_915e3 1 = .ok (.getfield 9, 3) := by decide +kernel
theorem dJx4a65c_elementData_915e3_4 : decode cJx4a65c_elementData_915e3 4 = .ok (.iload_n 1, 1) := by decide +kernel
theorem dJx4a65c_elementData_915e3_5 : decode cJx4a65c_elementData_915e3 5 = .ok (.aaload, 1) := by decide +kernel
theorem dJx4a65c_elementData_915e3_6 : decode cJx4a65c_elementData_915e3 6 = .ok (.areturn, 1) := by decide +kernel
theorem dJx4a65c_get_915e3_0 : decode cJx4a65c_get_915e3 0 = .ok (.iload_n 1, 1) := by decide +kernel
theorem dJx4a65c_get_915e3_1 : decode cJx4a65c_get_915e3 1 = .ok (.aload_n 0, 1) := by decide +kernel
theorem dJx4a65c_get_915e3_2 : decode cJx4a65c_get_915e3 2 = .ok (.getfield 48, 3) := by decide +kernel
theorem dJx4a65c_get_915e3_5 : decode cJx4a65c_get_915e3 5 = .ok (.invokestatic 118, 3) := by decide +kernel
theorem dJx4a65c_get_915e3_8 : decode cJx4a65c_get_915e3 8 = .ok (.pop, 1) := by decide +kernel
theorem dJx4a65c_get_915e3_9 : decode cJx4a65c_get_915e3 9 = .ok (.aload_n 0, 1) := by decide +kernel
theorem dJx4a65c_get_915e3_10 : decode cJx4a65c_get_915e3 10 = .ok (.iload_n 1, 1) := by decide +kernel
theorem dJx4a65c_get_915e3_11 : decode cJx4a65c_get_915e3 11 = .ok (.invokevirtual 123, 3) := by decide +kernel
theorem dJx4a65c_get_915e3_14 : decode cJx4a65c_get_915e3 14 = .ok (.areturn, 1) := by decide +kernel
theorem dJx4a65c_add_72be8_0 : decode cJx4a65c_add_72be8 0 = .ok (.iload_n 3, 1) := by decide +kernel
theorem dJx4a65c_add_72be8_1 : decode cJx4a65c_add_72be8 1 = .ok (.aload_n 2, 1) := by decide +kernel
theorem dJx4a65c_add_72be8_2 : decode cJx4a65c_add_72be8 2 = .ok (.arraylength, 1) := by decide +kernel
theorem dJx4a65c_add_72be8_3 : decode cJx4a65c_add_72be8 3 = .ok (.if_icmp .ne 8, 3) := by decide +kernel
theorem dJx4a65c_add_72be8_6 : decode cJx4a65c_add_72be8 6 = .ok (.aload_n 0, 1) := by decide +kernel
theorem dJx4a65c_add_72be8_7 : decode cJx4a65c_add_72be8 7 = .ok (.invokevirtual 129, 3) := by decide +kernel
theorem dJx4a65c_add_72be8_10 : decode cJx4a65c_add_72be8 10 = .ok (.astore_n 2, 1) := by decide +kernel
theorem dJx4a65c_add_72be8_11 : decode cJx4a65c_add_72be8 11 = .ok (.aload_n 2, 1) := by decide +kernel
theorem dJx4a65c_add_72be8_12 : decode cJx4a65c_add_72be8 12 = .ok (.iload_n 3, 1) := by decide +kernel
theorem dJx4a65c_add_72be8_13 : decode cJx4a65c_add_72be8 13 = .ok (.aload_n 1, 1) := by decide +kernel
theorem dJx4a65c_add_72be8_14 : decode cJx4a65c_add_72be8 14 = .ok (.aastore, 1) := by decide +kernel
theorem dJx4a65c_add_72be8_15 : decode cJx4a65c_add_72be8 15 = .ok (.aload_n 0, 1) := by decide +kernel
theorem dJx4a65c_add_72be8_16 : decode cJx4a65c_add_72be8 16 = .ok (.iload_n 3, 1) := by decide +kernel
theorem dJx4a65c_add_72be8_17 : decode cJx4a65c_add_72be8 17 = .ok (.iconst 1, 1) := by decide +kernel
theorem dJx4a65c_add_72be8_18 : decode cJx4a65c_add_72be8 18 = .ok (.iadd, 1) := by decide +kernel
theorem dJx4a65c_add_72be8_19 : decode cJx4a65c_add_72be8 19 = .ok (.putfield 48, 3) := by decide +kernel
theorem dJx4a65c_add_72be8_22 : decode cJx4a65c_add_72be8 22 = .ok (.return_, 1) := by decide +kernel
theorem dJx4a65c_add_9ea2d_0 : decode cJx4a65c_add_9ea2d 0 = .ok (.aload_n 0, 1) := by decide +kernel
theorem dJx4a65c_add_9ea2d_1 : decode cJx4a65c_add_9ea2d 1 = .ok (.dup, 1) := by decide +kernel
theorem dJx4a65c_add_9ea2d_2 : decode cJx4a65c_add_9ea2d 2 = .ok (.getfield 63, 3) := by decide +kernel
theorem dJx4a65c_add_9ea2d_5 : decode cJx4a65c_add_9ea2d 5 = .ok (.iconst 1, 1) := by decide +kernel
theorem dJx4a65c_add_9ea2d_6 : decode cJx4a65c_add_9ea2d 6 = .ok (.iadd, 1) := by decide +kernel
theorem dJx4a65c_add_9ea2d_7 : decode cJx4a65c_add_9ea2d 7 = .ok (.putfield 63, 3) := by decide +kernel
theorem dJx4a65c_add_9ea2d_10 : decode cJx4a65c_add_9ea2d 10 = .ok (.aload_n 0, 1) := by decide +kernel
theorem dJx4a65c_add_9ea2d_11 : decode cJx4a65c_add_9ea2d 11 = .ok (.aload_n 1, 1) := by decide +kernel
theorem dJx4a65c_add_9ea2d_12 : decode cJx4a65c_add_9ea2d 12 = .ok (.aload_n 0, 1) := by decide +kernel
theorem dJx4a65c_add_9ea2d_13 : decode cJx4a65c_add_9ea2d 13 = .ok (.getfield 9, 3) := by decide +kernel
theorem dJx4a65c_add_9ea2d_16 : decode cJx4a65c_add_9ea2d 16 = .ok (.aload_n 0, 1) := by decide +kernel
theorem dJx4a65c_add_9ea2d_17 : decode cJx4a65c_add_9ea2d 17 = .ok (.getfield 48, 3) := by decide +kernel
theorem dJx4a65c_add_9ea2d_20 : decode cJx4a65c_add_9ea2d 20 = .ok (.invokevirtual 131, 3) := by decide +kernel
theorem dJx4a65c_add_9ea2d_23 : decode cJx4a65c_add_9ea2d 23 = .ok (.iconst 1, 1) := by decide +kernel
theorem dJx4a65c_add_9ea2d_24 : decode cJx4a65c_add_9ea2d 24 = .ok (.ireturn, 1) := by decide +kernel
theorem dJx4a65c_grow_92f84_0 : decode cJx4a65c_grow_92f84 0 = .ok (.aload_n 0, 1) := by decide +kernel
theorem dJx4a65c_grow_92f84_1 : decode cJx4a65c_grow_92f84 1 = .ok (.getfield 9, 3) := by decide +kernel
theorem dJx4a65c_grow_92f84_4 : decode cJx4a65c_grow_92f84 4 = .ok (.arraylength, 1) := by decide +kernel
theorem dJx4a65c_grow_92f84_5 : decode cJx4a65c_grow_92f84 5 = .ok (.istore_n 2, 1) := by decide +kernel
theorem dJx4a65c_grow_92f84_6 : decode cJx4a65c_grow_92f84 6 = .ok (.iload_n 2, 1) := by decide +kernel
theorem dJx4a65c_grow_92f84_7 : decode cJx4a65c_grow_92f84 7 = .ok (.ifCond .gt 13, 3) := by decide +kernel
theorem dJx4a65c_grow_92f84_10 : decode cJx4a65c_grow_92f84 10 = .ok (.aload_n 0, 1) := by decide +kernel
theorem dJx4a65c_grow_92f84_11 : decode cJx4a65c_grow_92f84 11 = .ok (.getfield 9, 3) := by decide +kernel
theorem dJx4a65c_grow_92f84_14 : decode cJx4a65c_grow_92f84 14 = .ok (.getstatic 39, 3) := by decide +kernel
theorem dJx4a65c_grow_92f84_17 : decode cJx4a65c_grow_92f84 17 = .ok (.if_acmp .eq 28, 3) := by decide +kernel
theorem dJx4a65c_grow_92f84_20 : decode cJx4a65c_grow_92f84 20 = .ok (.iload_n 2, 1) := by decide +kernel
theorem dJx4a65c_grow_92f84_21 : decode cJx4a65c_grow_92f84 21 = .ok (.iload_n 1, 1) := by decide +kernel
theorem dJx4a65c_grow_92f84_22 : decode cJx4a65c_grow_92f84 22 = .ok (.iload_n 2, 1) := by decide +kernel
theorem dJx4a65c_grow_92f84_23 : decode cJx4a65c_grow_92f84 23 = .ok (.isub, 1) := by decide +kernel
theorem dJx4a65c_grow_92f84_24 : decode cJx4a65c_grow_92f84 24 = .ok (.iload_n 2, 1) := by decide +kernel
theorem dJx4a65c_grow_92f84_25 : decode cJx4a65c_grow_92f84 25 = .ok (.iconst 1, 1) := by decide +kernel
theorem dJx4a65c_grow_92f84_26 : decode cJx4a65c_grow_92f84 26 = .ok (.ishr, 1) := by decide +kernel
theorem dJx4a65c_grow_92f84_27 : decode cJx4a65c_grow_92f84 27 = .ok (.invokestatic 73, 3) := by decide +kernel
theorem dJx4a65c_grow_92f84_30 : decode cJx4a65c_grow_92f84 30 = .ok (.istore_n 3, 1) := by decide +kernel
theorem dJx4a65c_grow_92f84_31 : decode cJx4a65c_grow_92f84 31 = .ok (.aload_n 0, 1) := by decide +kernel
theorem dJx4a65c_grow_92f84_32 : decode cJx4a65c_grow_92f84 32 = .ok (.aload_n 0, 1) := by decide +kernel
theorem dJx4a65c_grow_92f84_33 : decode cJx4a65c_grow_92f84 33 = .ok (.getfield 9, 3) := by decide +kernel
theorem dJx4a65c_grow_92f84_36 : decode cJx4a65c_grow_92f84 36 = .ok (.iload_n 3, 1) := by decide +kernel
theorem dJx4a65c_grow_92f84_37 : decode cJx4a65c_grow_92f84 37 = .ok (.invokestatic 66, 3) := by decide +kernel
theorem dJx4a65c_grow_92f84_40 : decode cJx4a65c_grow_92f84 40 = .ok (.dup_x1, 1) := by decide +kernel
theorem dJx4a65c_grow_92f84_41 : decode cJx4a65c_grow_92f84 41 = .ok (.putfield 9, 3) := by decide +kernel
theorem dJx4a65c_grow_92f84_44 : decode cJx4a65c_grow_92f84 44 = .ok (.areturn, 1) := by decide +kernel
theorem dJx4a65c_grow_92f84_45 : decode cJx4a65c_grow_92f84 45 = .ok (.aload_n 0, 1) := by decide +kernel
theorem dJx4a65c_grow_92f84_46 : decode cJx4a65c_grow_92f84 46 = .ok (.bipush 10, 2) := by decide +kernel
theorem dJx4a65c_grow_92f84_48 : decode cJx4a65c_grow_92f84 48 = .ok (.iload_n 1, 1) := by decide +kernel
theorem dJx4a65c_grow_92f84_49 : decode cJx4a65c_grow_92f84 49 = .ok (.invokestatic 79, 3) := by decide +kernel
theorem dJx4a65c_grow_92f84_52 : decode cJx4a65c_grow_92f84 52 = .ok (.anewarray 7, 3) := by decide +kernel
theorem dJx4a65c_grow_92f84_55 : decode cJx4a65c_grow_92f84 55 = .ok (.dup_x1, 1) := by decide +kernel
theorem dJx4a65c_grow_92f84_56 : decode cJx4a65c_grow_92f84 56 = .ok (.putfield 9, 3) := by decide +kernel
theorem dJx4a65c_grow_92f84_59 : decode cJx4a65c_grow_92f84 59 = .ok (.areturn, 1) := by decide +kernel
theorem dJx4a65c_grow_d5877_0 : decode cJx4a65c_grow_d5877 0 = .ok (.aload_n 0, 1) := by decide +kernel
theorem dJx4a65c_grow_d5877_1 : decode cJx4a65c_grow_d5877 1 = .ok (.aload_n 0, 1) := by decide +kernel
theorem dJx4a65c_grow_d5877_2 : decode cJx4a65c_grow_d5877 2 = .ok (.getfield 48, 3) := by decide +kernel
theorem dJx4a65c_grow_d5877_5 : decode cJx4a65c_grow_d5877 5 = .ok (.iconst 1, 1) := by decide +kernel
theorem dJx4a65c_grow_d5877_6 : decode cJx4a65c_grow_d5877 6 = .ok (.iadd, 1) := by decide +kernel
theorem dJx4a65c_grow_d5877_7 : decode cJx4a65c_grow_d5877 7 = .ok (.invokevirtual 69, 3) := by decide +kernel
theorem dJx4a65c_grow_d5877_10 : decode cJx4a65c_grow_d5877 10 = .ok (.areturn, 1) := by decide +kernel
theorem dX2_init_0 : decode cX2_init 0 = .ok (.aload_n 0, 1) := by decide +kernel
theorem dX2_init_1 : decode cX2_init 1 = .ok (.invokespecial 3, 3) := by decide +kernel
theorem dX2_init_4 : decode cX2_init 4 = .ok (.aload_n 0, 1) := by decide +kernel
theorem dX2_init_5 : decode cX2_init 5 = .ok (.sipush 512, 3) := by decide +kernel
theorem dX2_init_8 : decode cX2_init 8 = .ok (.newarray .long, 2) := by decide +kernel
theorem dX2_init_10 : decode cX2_init 10 = .ok (.putfield 9, 3) := by decide +kernel
theorem dX2_init_13 : decode cX2_init 13 = .ok (.return_, 1) := by decide +kernel
theorem dX7_pageAt_0 : decode cX7_pageAt 0 = .ok (.iload_n 1, 1) := by decide +kernel
theorem dX7_pageAt_1 : decode cX7_pageAt 1 = .ok (.aload_n 0, 1) := by decide +kernel
theorem dX7_pageAt_2 : decode cX7_pageAt 2 = .ok (.getfield 12, 3) := by decide +kernel
theorem dX7_pageAt_5 : decode cX7_pageAt 5 = .ok (.invokevirtual 29, 3) := by decide +kernel
theorem dX7_pageAt_8 : decode cX7_pageAt 8 = .ok (.invokestatic 64, 3) := by decide +kernel
theorem dX7_pageAt_11 : decode cX7_pageAt 11 = .ok (.ifCond .eq 17, 3) := by decide +kernel
theorem dX7_pageAt_14 : decode cX7_pageAt 14 = .ok (.aload_n 0, 1) := by decide +kernel
theorem dX7_pageAt_15 : decode cX7_pageAt 15 = .ok (.getfield 12, 3) := by decide +kernel
theorem dX7_pageAt_18 : decode cX7_pageAt 18 = .ok (.iload_n 1, 1) := by decide +kernel
theorem dX7_pageAt_19 : decode cX7_pageAt 19 = .ok (.invokevirtual 68, 3) := by decide +kernel
theorem dX7_pageAt_22 : decode cX7_pageAt 22 = .ok (.checkcast 33, 3) := by decide +kernel
theorem dX7_pageAt_25 : decode cX7_pageAt 25 = .ok (.goto 4, 3) := by decide +kernel
theorem dX7_pageAt_28 : decode cX7_pageAt 28 = .ok (.aconst_null, 1) := by decide +kernel
theorem dX7_pageAt_29 : decode cX7_pageAt 29 = .ok (.areturn, 1) := by decide +kernel
theorem dX7_enlist_0 : decode cX7_enlist 0 = .ok (.aload_n 0, 1) := by decide +kernel
theorem dX7_enlist_1 : decode cX7_enlist 1 = .ok (.getfield 18, 3) := by decide +kernel
theorem dX7_enlist_4 : decode cX7_enlist 4 = .ok (.sipush 512, 3) := by decide +kernel
theorem dX7_enlist_7 : decode cX7_enlist 7 = .ok (.idiv, 1) := by decide +kernel
theorem dX7_enlist_8 : decode cX7_enlist 8 = .ok (.istore_n 3, 1) := by decide +kernel
theorem dX7_enlist_9 : decode cX7_enlist 9 = .ok (.iload_n 3, 1) := by decide +kernel
theorem dX7_enlist_10 : decode cX7_enlist 10 = .ok (.sipush 6400, 3) := by decide +kernel
theorem dX7_enlist_13 : decode cX7_enlist 13 = .ok (.if_icmp .lt 4, 3) := by decide +kernel
theorem dX7_enlist_16 : decode cX7_enlist 16 = .ok (.return_, 1) := by decide +kernel
theorem dX7_enlist_17 : decode cX7_enlist 17 = .ok (.iload_n 3, 1) := by decide +kernel
theorem dX7_enlist_18 : decode cX7_enlist 18 = .ok (.aload_n 0, 1) := by decide +kernel
theorem dX7_enlist_19 : decode cX7_enlist 19 = .ok (.getfield 12, 3) := by decide +kernel
theorem dX7_enlist_22 : decode cX7_enlist 22 = .ok (.invokevirtual 29, 3) := by decide +kernel
theorem dX7_enlist_25 : decode cX7_enlist 25 = .ok (.if_icmp .lt 18, 3) := by decide +kernel
theorem dX7_enlist_28 : decode cX7_enlist 28 = .ok (.aload_n 0, 1) := by decide +kernel
theorem dX7_enlist_29 : decode cX7_enlist 29 = .ok (.getfield 12, 3) := by decide +kernel
theorem dX7_enlist_32 : decode cX7_enlist 32 = .ok (.new 33, 3) := by decide +kernel
theorem dX7_enlist_35 : decode cX7_enlist 35 = .ok (.dup, 1) := by decide +kernel
theorem dX7_enlist_36 : decode cX7_enlist 36 = .ok (.invokespecial 35, 3) := by decide +kernel
theorem dX7_enlist_39 : decode cX7_enlist 39 = .ok (.invokevirtual 36, 3) := by decide +kernel
theorem dX7_enlist_42 : decode cX7_enlist 42 = .ok (.pop, 1) := by decide +kernel
theorem dX7_enlist_43 : decode cX7_enlist 43 = .ok (.aload_n 0, 1) := by decide +kernel
theorem dX7_enlist_44 : decode cX7_enlist 44 = .ok (.iload_n 3, 1) := by decide +kernel
theorem dX7_enlist_45 : decode cX7_enlist 45 = .ok (.invokevirtual 40, 3) := by decide +kernel
theorem dX7_enlist_48 : decode cX7_enlist 48 = .ok (.astore 4, 2) := by decide +kernel
theorem dX7_enlist_50 : decode cX7_enlist 50 = .ok (.aload 4, 2) := by decide +kernel
theorem dX7_enlist_52 : decode cX7_enlist 52 = .ok (.ifnull 58, 3) := by decide +kernel
theorem dX7_enlist_55 : decode cX7_enlist 55 = .ok (.aload 4, 2) := by decide +kernel
theorem dX7_enlist_57 : decode cX7_enlist 57 = .ok (.getfield 44, 3) := by decide +kernel
theorem dX7_enlist_60 : decode cX7_enlist 60 = .ok (.aload_n 0, 1) := by decide +kernel
theorem dX7_enlist_61 : decode cX7_enlist 61 = .ok (.getfield 18, 3) := by decide +kernel
theorem dX7_enlist_64 : decode cX7_enlist 64 = .ok (.sipush 512, 3) := by decide +kernel
theorem dX7_enlist_67 : decode cX7_enlist 67 = .ok (.irem, 1) := by decide +kernel
theorem dX7_enlist_68 : decode cX7_enlist 68 = .ok (.lload_n 1, 1) := by decide +kernel
theorem dX7_enlist_69 : decode cX7_enlist 69 = .ok (.invokestatic 48, 3) := by decide +kernel
theorem dX7_enlist_72 : decode cX7_enlist 72 = .ok (.aload_n 0, 1) := by decide +kernel
theorem dX7_enlist_73 : decode cX7_enlist 73 = .ok (.dup, 1) := by decide +kernel
theorem dX7_enlist_74 : decode cX7_enlist 74 = .ok (.getfield 18, 3) := by decide +kernel
theorem dX7_enlist_77 : decode cX7_enlist 77 = .ok (.iconst 1, 1) := by decide +kernel
theorem dX7_enlist_78 : decode cX7_enlist 78 = .ok (.iadd, 1) := by decide +kernel
theorem dX7_enlist_79 : decode cX7_enlist 79 = .ok (.putfield 18, 3) := by decide +kernel
theorem dX7_enlist_82 : decode cX7_enlist 82 = .ok (.aload_n 0, 1) := by decide +kernel
theorem dX7_enlist_83 : decode cX7_enlist 83 = .ok (.aload_n 0, 1) := by decide +kernel
theorem dX7_enlist_84 : decode cX7_enlist 84 = .ok (.getfield 22, 3) := by decide +kernel
theorem dX7_enlist_87 : decode cX7_enlist 87 = .ok (.lload_n 1, 1) := by decide +kernel
theorem dX7_enlist_88 : decode cX7_enlist 88 = .ok (.invokestatic 52, 3) := by decide +kernel
theorem dX7_enlist_91 : decode cX7_enlist 91 = .ok (.putfield 22, 3) := by decide +kernel
theorem dX7_enlist_94 : decode cX7_enlist 94 = .ok (.aload_n 0, 1) := by decide +kernel
theorem dX7_enlist_95 : decode cX7_enlist 95 = .ok (.aload_n 0, 1) := by decide +kernel
theorem dX7_enlist_96 : decode cX7_enlist 96 = .ok (.getfield 26, 3) := by decide +kernel
theorem dX7_enlist_99 : decode cX7_enlist 99 = .ok (.ldc2_w 56, 3) := by decide +kernel
theorem dX7_enlist_102 : decode cX7_enlist 102 = .ok (.lmul, 1) := by decide +kernel
theorem dX7_enlist_103 : decode cX7_enlist 103 = .ok (.ldc2_w 56, 3) := by decide +kernel
theorem dX7_enlist_106 : decode cX7_enlist 106 = .ok (.lmul, 1) := by decide +kernel
theorem dX7_enlist_107 : decode cX7_enlist 107 = .ok (.putfield 26, 3) := by decide +kernel
theorem dX7_enlist_110 : decode cX7_enlist 110 = .ok (.return_, 1) := by decide +kernel
section SITES
variable {p : Program} {l : Launch} {e : Env} {R : Room} {s : State} {m : MethodId} {args : Array Value} {below : List Frame} {meth : Method} {c : Code} {H : Heap} {locs : List Loc} {cells slots : Nat} {Q : State → Prop}
variable {pc : Nat} {ls : Array Slot} {rest : List Value} {D : va_G} {ar : Nat → ClassId} {κ : Nat → Nat} {A : Nat → Prop} {a : Nat} {H0 : Heap} {G : gW} {nz nL : Nat} {cc : ByteArray}
theorem m_4_121 : (Cond.code yJ3_checkIndex_8e157 cJ3_checkIndex_8e157 3 (some .int)) ∈ lwA := lwA_mk (ck_4 _ (List.mem_of_getElem? (i := 121) rfl)) rfl
theorem m_1_26 : (Cond.initialized RJ3) ∈ lwA := lwA_mk (ck_1 _ (List.mem_of_getElem? (i := 26) rfl)) rfl
theorem m_4_119 : (Cond.methodLink RJ15 105 yJ3_checkIndex_8e157) ∈ lwA := lwA_mk (ck_4 _ (List.mem_of_getElem? (i := 119) rfl)) rfl
theorem m_4_120 : (Cond.static yJ3_checkIndex_8e157) ∈ lwA := lwA_mk (ck_4 _ (List.mem_of_getElem? (i := 120) rfl)) rfl
theorem k_RJ15_105 {args : Array Value} {s : State} {R rm : Room} (hts : ∀ w ∈ lwA, w.before args s = true) (hR : rm.frames + 1 ≤ R.frames ∧ 8 + (3 + 11) + rm.locals ≤ R.locals) : CallB R s args RJ15 105 yJ3_checkIndex_8e157 cJ3_checkIndex_8e157 3 (some .int) (lwC yJ3_checkIndex_8e157 cJ3_checkIndex_8e157 3 (some .int)) rm rm.cells rm.slots 3 ∧ (Cond.static yJ3_checkIndex_8e157).before args s = true := va_cwS 3 hts (gdT m_4_119 m_4_120 m_1_26 m_4_121) rfl rfl rfl (by decide +kernel) hR
theorem m_1_180 : (Cond.fieldLink RJx4a65c 48 "java/util/ArrayList" "size" "I") ∈ lwA := lwA_mk (ck_1 _ (List.mem_of_getElem? (i := 180) rfl)) rfl
theorem gf_RJx4a65c_48_5 {A9 : Nat → Prop} {H9 : Heap} {fs : List Value} {v : Value} (S : CallFix p m c cc nL s args lwA RJx4a65c) (hE : g_E D vwCl (gT ar) (EX1 κ) A9 s H9) (w : g_S D vwCl A H0 G H locs nz) (ha : G a = some (.inr (5, fs))) (hv : fs[2]? = some v) (hdg : decode cc pc = .ok (.getfield 48, 3)) (kk : W p l e R s m args below meth c H locs cells slots Q (F0 m (pc + 3) ls (v :: rest))) : W p l e R s m args below meth c H locs cells slots Q (F0 m pc ls (.ref a :: rest)) :=
  va_get (ci := 5) (C := RJx4a65c) (T := TJx4a65c) (N := 3) S.1 S.2.1 S.2.2.2.2 inA_RJx4a65c S.2.2.2.1 hE.1 (g_1 w.1 ha) 0 rfl rfl 2 (by decide) (S.2.2.2.2 _ m_1_180) (fun _ h => h) hv hdg kk
theorem gf_RJx4a65c_9_5 {A9 : Nat → Prop} {H9 : Heap} {fs : List Value} {v : Value} (S : CallFix p m c cc nL s args lwA RJx4a65c) (hE : g_E D vwCl (gT ar) (EX1 κ) A9 s H9) (w : g_S D vwCl A H0 G H locs nz) (ha : G a = some (.inr (5, fs))) (hv : fs[1]? = some v) (hdg : decode cc pc = .ok (.getfield 9, 3)) (kk : W p l e R s m args below meth c H locs cells slots Q (F0 m (pc + 3) ls (v :: rest))) : W p l e R s m args below meth c H locs cells slots Q (F0 m pc ls (.ref a :: rest)) :=
  va_get (ci := 5) (C := RJx4a65c) (T := TJx4a65c) (N := 3) S.1 S.2.1 S.2.2.2.2 inA_RJx4a65c S.2.2.2.1 hE.1 (g_1 w.1 ha) 0 rfl rfl 1 (by decide) (S.2.2.2.2 _ m_1_178) (fun _ h => h) hv hdg kk
theorem m_4_118 : (Cond.code yJ15_checkIndex_7cf53 cJ15_checkIndex_7cf53 2 (some .int)) ∈ lwA := lwA_mk (ck_4 _ (List.mem_of_getElem? (i := 118) rfl)) rfl
theorem m_1_31 : (Cond.initialized RJ15) ∈ lwA := lwA_mk (ck_1 _ (List.mem_of_getElem? (i := 31) rfl)) rfl
theorem m_4_116 : (Cond.methodLink RJx4a65c 118 yJ15_checkIndex_7cf53) ∈ lwA := lwA_mk (ck_4 _ (List.mem_of_getElem? (i := 116) rfl)) rfl
theorem m_4_117 : (Cond.static yJ15_checkIndex_7cf53) ∈ lwA := lwA_mk (ck_4 _ (List.mem_of_getElem? (i := 117) rfl)) rfl
theorem k_RJx4a65c_118 {args : Array Value} {s : State} {R rm : Room} (hts : ∀ w ∈ lwA, w.before args s = true) (hR : rm.frames + 1 ≤ R.frames ∧ 8 + (2 + 11) + rm.locals ≤ R.locals) : CallB R s args RJx4a65c 118 yJ15_checkIndex_7cf53 cJ15_checkIndex_7cf53 2 (some .int) (lwC yJ15_checkIndex_7cf53 cJ15_checkIndex_7cf53 2 (some .int)) rm rm.cells rm.slots 2 ∧ (Cond.static yJ15_checkIndex_7cf53).before args s = true := va_cwS 2 hts (gdT m_4_116 m_4_117 m_1_31 m_4_118) rfl rfl rfl (by decide +kernel) hR
theorem m_4_125 : (Cond.code yJx4a65c_elementData_915e3 cJx4a65c_elementData_915e3 2 (some (.object "java/lang/Object"))) ∈ lwA := lwA_mk (ck_4 _ (List.mem_of_getElem? (i := 125) rfl)) rfl
theorem m_4_122 : (Cond.methodLink RJx4a65c 123 yJx4a65c_elementData_915e3) ∈ lwA := lwA_mk (ck_4 _ (List.mem_of_getElem? (i := 122) rfl)) rfl
theorem m_4_123 : (Cond.instanceMethod yJx4a65c_elementData_915e3) ∈ lwA := lwA_mk (ck_4 _ (List.mem_of_getElem? (i := 123) rfl)) rfl
theorem m_4_124 : (Cond.selects RJx4a65c yJx4a65c_elementData_915e3 yJx4a65c_elementData_915e3) ∈ lwA := lwA_mk (ck_4 _ (List.mem_of_getElem? (i := 124) rfl)) rfl
theorem k_RJx4a65c_123 {args : Array Value} {s : State} {R rm : Room} (hts : ∀ w ∈ lwA, w.before args s = true) (hR : rm.frames + 1 ≤ R.frames ∧ 8 + (2 + 11) + rm.locals ≤ R.locals) : CallW R s args RJx4a65c RJx4a65c 123 yJx4a65c_elementData_915e3 cJx4a65c_elementData_915e3 2 (some (.object "java/lang/Object")) (lwC yJx4a65c_elementData_915e3 cJx4a65c_elementData_915e3 2 (some (.object "java/lang/Object"))) rm rm.cells rm.slots 1 := cwV 1 hts (gdV m_4_122 m_4_123 m_4_124 m_1_9 m_4_125) rfl rfl rfl (by decide +kernel) hR
theorem pf_RJx4a65c_48_5 {A9 : Nat → Prop} {H9 : Heap} {fs : List Value} {v : Value} (S : CallFix p m c cc nL s args lwA RJx4a65c) (hE : g_E D vwCl (gT ar) (EX1 κ) A9 s H9) (w : g_S D vwCl A H0 G H locs nz) (ha : G a = some (.inr (5, fs))) (hn : narrow .int v = v) (hfit : fits .int v = true) (hl : 2 < fs.length) {fs1 : List Value} (hfs : fs.set 2 v = fs1) (hdg : decode cc pc = .ok (.putfield 48, 3)) (kk : ∀ (H1 : Heap) (locs1 : List Loc), g_S D vwCl A H0 (g_up G a (.inr (5, fs1))) H1 locs1 nz → W p l e R s m args below meth c H1 locs1 cells slots Q (F0 m (pc + 3) ls rest)) : W p l e R s m args below meth c H locs cells slots Q (F0 m pc ls (v :: .ref a :: rest)) :=
  g_put (ci := 5) (ty := .int) (C := RJx4a65c) (T := TJx4a65c) (N := 3) S.1 S.2.1 S.2.2.2.2 inA_RJx4a65c tyJx4a65c tyJx4a65c_ok nmJx4a65c S.2.2.2.1 hE.1 w ha rfl 2 (by decide) (S.2.2.2.2 _ m_1_180) (fun _ h => h) rfl (by decide +kernel) hn hfit hl hdg (fun H1 l1 w1 => kk H1 l1 (by rw [← hfs]; exact w1))
theorem m_1_186 : (Cond.fieldLink RJx4a65c 63 "java/util/ArrayList" "modCount" "I") ∈ lwA := lwA_mk (ck_1 _ (List.mem_of_getElem? (i := 186) rfl)) rfl
theorem m_1_183 : (Cond.sameField "java/util/ArrayList" "java/util/AbstractList" "modCount" "I") ∈ lwA := lwA_mk (ck_1 _ (List.mem_of_getElem? (i := 183) rfl)) rfl
theorem gf_RJx4a65c_63_5 {A9 : Nat → Prop} {H9 : Heap} {fs : List Value} {v : Value} (S : CallFix p m c cc nL s args lwA RJx4a65c) (hE : g_E D vwCl (gT ar) (EX1 κ) A9 s H9) (w : g_S D vwCl A H0 G H locs nz) (ha : G a = some (.inr (5, fs))) (hv : fs[0]? = some v) (hdg : decode cc pc = .ok (.getfield 63, 3)) (kk : W p l e R s m args below meth c H locs cells slots Q (F0 m (pc + 3) ls (v :: rest))) : W p l e R s m args below meth c H locs cells slots Q (F0 m pc ls (.ref a :: rest)) :=
  va_get (ci := 5) (C := RJx4a65c) (T := TJx4a65c) (N := 3) S.1 S.2.1 S.2.2.2.2 inA_RJx4a65c S.2.2.2.1 hE.1 (g_1 w.1 ha) 0 rfl rfl 0 (by decide) (S.2.2.2.2 _ m_1_186) (fun x9 h9 => u_same (S.2.2.2.2 _ m_1_183) x9 h9) hv hdg kk
theorem pf_RJx4a65c_63_5 {A9 : Nat → Prop} {H9 : Heap} {fs : List Value} {v : Value} (S : CallFix p m c cc nL s args lwA RJx4a65c) (hE : g_E D vwCl (gT ar) (EX1 κ) A9 s H9) (w : g_S D vwCl A H0 G H locs nz) (ha : G a = some (.inr (5, fs))) (hn : narrow .int v = v) (hfit : fits .int v = true) (hl : 0 < fs.length) {fs1 : List Value} (hfs : fs.set 0 v = fs1) (hdg : decode cc pc = .ok (.putfield 63, 3)) (kk : ∀ (H1 : Heap) (locs1 : List Loc), g_S D vwCl A H0 (g_up G a (.inr (5, fs1))) H1 locs1 nz → W p l e R s m args below meth c H1 locs1 cells slots Q (F0 m (pc + 3) ls rest)) : W p l e R s m args below meth c H locs cells slots Q (F0 m pc ls (v :: .ref a :: rest)) :=
  g_put (ci := 5) (ty := .int) (C := RJx4a65c) (T := TJx4a65c) (N := 3) S.1 S.2.1 S.2.2.2.2 inA_RJx4a65c tyJx4a65c tyJx4a65c_ok nmJx4a65c S.2.2.2.1 hE.1 w ha rfl 0 (by decide) (S.2.2.2.2 _ m_1_186) (fun x9 h9 => u_same (S.2.2.2.2 _ m_1_183) x9 h9) rfl (by decide +kernel) hn hfit hl hdg (fun H1 l1 w1 => kk H1 l1 (by rw [← hfs]; exact w1))
theorem m_4_46 : (Cond.code yJx4a65c_add_72be8 cJx4a65c_add_72be8 4 none) ∈ lwA := lwA_mk (ck_4 _ (List.mem_of_getElem? (i := 46) rfl)) rfl
theorem m_4_43 : (Cond.methodLink RJx4a65c 131 yJx4a65c_add_72be8) ∈ lwA := lwA_mk (ck_4 _ (List.mem_of_getElem? (i := 43) rfl)) rfl
theorem m_4_45 : (Cond.instanceMethod yJx4a65c_add_72be8) ∈ lwA := lwA_mk (ck_4 _ (List.mem_of_getElem? (i := 45) rfl)) rfl
theorem ms_21 : (Cond.selects RJx4a65c yJx4a65c_add_72be8 yJx4a65c_add_72be8) ∈ lwA := lwA_mk (List.mem_append_left _ (List.mem_of_getElem? (i := 21) rfl)) rfl
theorem k_RJx4a65c_131 {args : Array Value} {s : State} {R rm : Room} (hts : ∀ w ∈ lwA, w.before args s = true) (hR : rm.frames + 1 ≤ R.frames ∧ 8 + (4 + 11) + rm.locals ≤ R.locals) : CallW R s args RJx4a65c RJx4a65c 131 yJx4a65c_add_72be8 cJx4a65c_add_72be8 4 none (lwC yJx4a65c_add_72be8 cJx4a65c_add_72be8 4 none) rm rm.cells rm.slots 3 := cwV 3 hts (gdV m_4_43 m_4_45 ms_21 m_1_9 m_4_46) rfl rfl rfl (by decide +kernel) hR
theorem m_4_60 : (Cond.code yJ9_max_7cf53 cJ9_max_7cf53 2 (some .int)) ∈ lwA := lwA_mk (ck_4 _ (List.mem_of_getElem? (i := 60) rfl)) rfl
theorem m_4_105 : (Cond.methodLink RJx4a65c 79 yJ9_max_7cf53) ∈ lwA := lwA_mk (ck_4 _ (List.mem_of_getElem? (i := 105) rfl)) rfl
theorem m_4_59 : (Cond.static yJ9_max_7cf53) ∈ lwA := lwA_mk (ck_4 _ (List.mem_of_getElem? (i := 59) rfl)) rfl
theorem m_1_24 : (Cond.initialized "java/lang/Math") ∈ lwA := lwA_mk (ck_1 _ (List.mem_of_getElem? (i := 24) rfl)) rfl
theorem m_4_106 : (Cond.classLink RJx4a65c 7 "java/lang/Object") ∈ lwA := lwA_mk (ck_4 _ (List.mem_of_getElem? (i := 106) rfl)) rfl
theorem m_4_54 : (Cond.code yJx4a65c_grow_92f84 cJx4a65c_grow_92f84 4 (some (.array (.object "java/lang/Object")))) ∈ lwA := lwA_mk (ck_4 _ (List.mem_of_getElem? (i := 54) rfl)) rfl
theorem m_4_51 : (Cond.methodLink RJx4a65c 69 yJx4a65c_grow_92f84) ∈ lwA := lwA_mk (ck_4 _ (List.mem_of_getElem? (i := 51) rfl)) rfl
theorem m_4_53 : (Cond.instanceMethod yJx4a65c_grow_92f84) ∈ lwA := lwA_mk (ck_4 _ (List.mem_of_getElem? (i := 53) rfl)) rfl
theorem ms_23 : (Cond.selects RJx4a65c yJx4a65c_grow_92f84 yJx4a65c_grow_92f84) ∈ lwA := lwA_mk (List.mem_append_left _ (List.mem_of_getElem? (i := 23) rfl)) rfl
theorem k_RJx4a65c_69 {args : Array Value} {s : State} {R rm : Room} (hts : ∀ w ∈ lwA, w.before args s = true) (hR : rm.frames + 1 ≤ R.frames ∧ 8 + (4 + 11) + rm.locals ≤ R.locals) : CallW R s args RJx4a65c RJx4a65c 69 yJx4a65c_grow_92f84 cJx4a65c_grow_92f84 4 (some (.array (.object "java/lang/Object"))) (lwC yJx4a65c_grow_92f84 cJx4a65c_grow_92f84 4 (some (.array (.object "java/lang/Object")))) rm rm.cells rm.slots 1 := cwV 1 hts (gdV m_4_51 m_4_53 ms_23 m_1_9 m_4_54) rfl rfl rfl (by decide +kernel) hR
theorem m_4_50 : (Cond.code yJx4a65c_grow_d5877 cJx4a65c_grow_d5877 1 (some (.array (.object "java/lang/Object")))) ∈ lwA := lwA_mk (ck_4 _ (List.mem_of_getElem? (i := 50) rfl)) rfl
theorem m_4_47 : (Cond.methodLink RJx4a65c 129 yJx4a65c_grow_d5877) ∈ lwA := lwA_mk (ck_4 _ (List.mem_of_getElem? (i := 47) rfl)) rfl
theorem m_4_49 : (Cond.instanceMethod yJx4a65c_grow_d5877) ∈ lwA := lwA_mk (ck_4 _ (List.mem_of_getElem? (i := 49) rfl)) rfl
theorem ms_22 : (Cond.selects RJx4a65c yJx4a65c_grow_d5877 yJx4a65c_grow_d5877) ∈ lwA := lwA_mk (List.mem_append_left _ (List.mem_of_getElem? (i := 22) rfl)) rfl
theorem k_RJx4a65c_129 {args : Array Value} {s : State} {R rm : Room} (hts : ∀ w ∈ lwA, w.before args s = true) (hR : rm.frames + 1 ≤ R.frames ∧ 8 + (1 + 11) + rm.locals ≤ R.locals) : CallW R s args RJx4a65c RJx4a65c 129 yJx4a65c_grow_d5877 cJx4a65c_grow_d5877 1 (some (.array (.object "java/lang/Object"))) (lwC yJx4a65c_grow_d5877 cJx4a65c_grow_d5877 1 (some (.array (.object "java/lang/Object")))) rm rm.cells rm.slots 0 := cwV 0 hts (gdV m_4_47 m_4_49 ms_22 m_1_9 m_4_50) rfl rfl rfl (by decide +kernel) hR
theorem m_4_33 : (Cond.methodLink RX2 3 objectInit) ∈ lwA := lwA_mk (ck_4 _ (List.mem_of_getElem? (i := 33) rfl)) rfl
theorem inA_RX2 : ∀ w ∈ u_ws RX2 TX2 1, w ∈ lwA := gA_r _ [797] (by decide +kernel) (by decide +kernel)
theorem m_4_34 : (Cond.fieldLink RX2 9 "Sendhouse$Page" "values" "[J") ∈ lwA := lwA_mk (ck_4 _ (List.mem_of_getElem? (i := 34) rfl)) rfl
theorem pf_RX2_9_8 {A9 : Nat → Prop} {H9 : Heap} {fs : List Value} {v : Value} (S : CallFix p m c cc nL s args lwA RX2) (hE : g_E D vwCl (gT ar) (EX1 κ) A9 s H9) (hin : meth.name = "<init>") (w : g_S D vwCl A H0 G H locs nz) (ha : G a = some (.inr (8, fs))) (hn : narrow (.array .long) v = v) (hfit : fits (.array .long) v = true) (hl : 0 < fs.length) {fs1 : List Value} (hfs : fs.set 0 v = fs1) (hdg : decode cc pc = .ok (.putfield 9, 3)) (kk : ∀ (H1 : Heap) (locs1 : List Loc), g_S D vwCl A H0 (g_up G a (.inr (8, fs1))) H1 locs1 nz → W p l e R s m args below meth c H1 locs1 cells slots Q (F0 m (pc + 3) ls rest)) : W p l e R s m args below meth c H locs cells slots Q (F0 m pc ls (v :: .ref a :: rest)) :=
  g_putF (ci := 8) (ty := (.array .long)) (C := RX2) (T := TX2) (N := 1) S.1 S.2.1 S.2.2.2.2 inA_RX2 tyX2 tyX2_ok nmX2 S.2.2.2.1 hE.1 w ha rfl 0 (by decide) (S.2.2.2.2 _ m_4_34) (fun _ h => h) rfl hin rfl (by decide +kernel) hn hfit hl hdg (fun H1 l1 w1 => kk H1 l1 (by rw [← hfs]; exact w1))
theorem gf_RX7_12_13 {A9 : Nat → Prop} {H9 : Heap} {fs : List Value} {v : Value} (S : CallFix p m c cc nL s args lwA RX7) (hE : g_E D vwCl (gT ar) (EX1 κ) A9 s H9) (w : g_S D vwCl A H0 G H locs nz) (ha : G a = some (.inr (13, fs))) (hv : fs[0]? = some v) (hdg : decode cc pc = .ok (.getfield 12, 3)) (kk : W p l e R s m args below meth c H locs cells slots Q (F0 m (pc + 3) ls (v :: rest))) : W p l e R s m args below meth c H locs cells slots Q (F0 m pc ls (.ref a :: rest)) :=
  va_get (ci := 13) (C := RX7) (T := TX7) (N := 4) S.1 S.2.1 S.2.2.2.2 inA_RX7 S.2.2.2.1 hE.1 (g_1 w.1 ha) 0 rfl rfl 0 (by decide) (S.2.2.2.2 _ m_1_194) (fun _ h => h) hv hdg kk
theorem m_4_27 : (Cond.code yJx4a65c_size_8abf5 cJx4a65c_size_8abf5 1 (some .int)) ∈ lwA := lwA_mk (ck_4 _ (List.mem_of_getElem? (i := 27) rfl)) rfl
theorem m_4_24 : (Cond.methodLink RX7 29 yJx4a65c_size_8abf5) ∈ lwA := lwA_mk (ck_4 _ (List.mem_of_getElem? (i := 24) rfl)) rfl
theorem m_4_25 : (Cond.instanceMethod yJx4a65c_size_8abf5) ∈ lwA := lwA_mk (ck_4 _ (List.mem_of_getElem? (i := 25) rfl)) rfl
theorem m_4_26 : (Cond.selects RJx4a65c yJx4a65c_size_8abf5 yJx4a65c_size_8abf5) ∈ lwA := lwA_mk (ck_4 _ (List.mem_of_getElem? (i := 26) rfl)) rfl
theorem k_RX7_29 {args : Array Value} {s : State} {R rm : Room} (hts : ∀ w ∈ lwA, w.before args s = true) (hR : rm.frames + 1 ≤ R.frames ∧ 8 + (1 + 11) + rm.locals ≤ R.locals) : CallW R s args RX7 RJx4a65c 29 yJx4a65c_size_8abf5 cJx4a65c_size_8abf5 1 (some .int) (lwC yJx4a65c_size_8abf5 cJx4a65c_size_8abf5 1 (some .int)) rm rm.cells rm.slots 0 := cwV 0 hts (gdV m_4_24 m_4_25 m_4_26 m_1_9 m_4_27) rfl rfl rfl (by decide +kernel) hR
theorem k_RX7_64 {args : Array Value} {s : State} {R rm : Room} (hts : ∀ w ∈ lwA, w.before args s = true) (hN : va_Nw (.methodLinkNest RX7 64 yX8_isBelow "Sendhouse") s) (hR : rm.frames + 1 ≤ R.frames ∧ 8 + (2 + 11) + rm.locals ≤ R.locals) : va_CN R s args RX7 64 yX8_isBelow "Sendhouse" cX8_isBelow 2 (some .boolean) (lwC yX8_isBelow cX8_isBelow 2 (some .boolean)) rm rm.cells rm.slots 2 ∧ (Cond.static yX8_isBelow).before args s = true ∧ True := ⟨va_cnB 2 hts (gd m_2_157) rfl rfl rfl hN (hts _ m_1_1) (by decide +kernel) hR, hts _ m_2_156, trivial⟩
theorem m_4_115 : (Cond.code yJx4a65c_get_915e3 cJx4a65c_get_915e3 2 (some (.object "java/lang/Object"))) ∈ lwA := lwA_mk (ck_4 _ (List.mem_of_getElem? (i := 115) rfl)) rfl
theorem m_4_112 : (Cond.methodLink RX7 68 yJx4a65c_get_915e3) ∈ lwA := lwA_mk (ck_4 _ (List.mem_of_getElem? (i := 112) rfl)) rfl
theorem m_4_113 : (Cond.instanceMethod yJx4a65c_get_915e3) ∈ lwA := lwA_mk (ck_4 _ (List.mem_of_getElem? (i := 113) rfl)) rfl
theorem m_4_114 : (Cond.selects RJx4a65c yJx4a65c_get_915e3 yJx4a65c_get_915e3) ∈ lwA := lwA_mk (ck_4 _ (List.mem_of_getElem? (i := 114) rfl)) rfl
theorem k_RX7_68 {args : Array Value} {s : State} {R rm : Room} (hts : ∀ w ∈ lwA, w.before args s = true) (hR : rm.frames + 1 ≤ R.frames ∧ 8 + (2 + 11) + rm.locals ≤ R.locals) : CallW R s args RX7 RJx4a65c 68 yJx4a65c_get_915e3 cJx4a65c_get_915e3 2 (some (.object "java/lang/Object")) (lwC yJx4a65c_get_915e3 cJx4a65c_get_915e3 2 (some (.object "java/lang/Object"))) rm rm.cells rm.slots 1 := cwV 1 hts (gdV m_4_112 m_4_113 m_4_114 m_1_9 m_4_115) rfl rfl rfl (by decide +kernel) hR
theorem m_4_28 : (Cond.classLink RX7 33 RX2) ∈ lwA := lwA_mk (ck_4 _ (List.mem_of_getElem? (i := 28) rfl)) rfl
theorem gf_RX7_18_13 {A9 : Nat → Prop} {H9 : Heap} {fs : List Value} {v : Value} (S : CallFix p m c cc nL s args lwA RX7) (hE : g_E D vwCl (gT ar) (EX1 κ) A9 s H9) (w : g_S D vwCl A H0 G H locs nz) (ha : G a = some (.inr (13, fs))) (hv : fs[1]? = some v) (hdg : decode cc pc = .ok (.getfield 18, 3)) (kk : W p l e R s m args below meth c H locs cells slots Q (F0 m (pc + 3) ls (v :: rest))) : W p l e R s m args below meth c H locs cells slots Q (F0 m pc ls (.ref a :: rest)) :=
  va_get (ci := 13) (C := RX7) (T := TX7) (N := 4) S.1 S.2.1 S.2.2.2.2 inA_RX7 S.2.2.2.1 hE.1 (g_1 w.1 ha) 0 rfl rfl 1 (by decide) (S.2.2.2.2 _ m_1_195) (fun _ h => h) hv hdg kk
theorem m_4_110 : (Cond.code yX7_pageAt cX7_pageAt 2 (some (.object "Sendhouse$Page"))) ∈ lwA := lwA_mk (ck_4 _ (List.mem_of_getElem? (i := 110) rfl)) rfl
theorem m_4_107 : (Cond.methodLink RX7 40 yX7_pageAt) ∈ lwA := lwA_mk (ck_4 _ (List.mem_of_getElem? (i := 107) rfl)) rfl
theorem m_4_109 : (Cond.instanceMethod yX7_pageAt) ∈ lwA := lwA_mk (ck_4 _ (List.mem_of_getElem? (i := 109) rfl)) rfl
theorem ms_24 : (Cond.selects RX7 yX7_pageAt yX7_pageAt) ∈ lwA := lwA_mk (List.mem_append_left _ (List.mem_of_getElem? (i := 24) rfl)) rfl
theorem k_RX7_40 {args : Array Value} {s : State} {R rm : Room} (hts : ∀ w ∈ lwA, w.before args s = true) (hR : rm.frames + 1 ≤ R.frames ∧ 8 + (2 + 11) + rm.locals ≤ R.locals) : CallW R s args RX7 RX7 40 yX7_pageAt cX7_pageAt 2 (some (.object "Sendhouse$Page")) (lwC yX7_pageAt cX7_pageAt 2 (some (.object "Sendhouse$Page"))) rm rm.cells rm.slots 1 := cwV 1 hts (gdV m_4_107 m_4_109 ms_24 m_1_6 m_4_110) rfl rfl rfl (by decide +kernel) hR
theorem gf_RX7_44_8 {A9 : Nat → Prop} {H9 : Heap} {fs : List Value} {v : Value} (S : CallFix p m c cc nL s args lwA RX7) (hE : g_E D vwCl (gT ar) (EX1 κ) A9 s H9) (w : g_S D vwCl A H0 G H locs nz) (ha : G a = some (.inr (8, fs))) (hv : fs[0]? = some v) (hdg : decode cc pc = .ok (.getfield 44, 3)) (kk : W p l e R s m args below meth c H locs cells slots Q (F0 m (pc + 3) ls (v :: rest))) : W p l e R s m args below meth c H locs cells slots Q (F0 m pc ls (.ref a :: rest)) :=
  va_getN (ci := 8) (C := RX2) (T := TX2) (N := 1) S.1 S.2.1 S.2.2.2.2 inA_RX2 S.2.2.2.1 hE.1 (g_1 w.1 ha) 0 rfl rfl 0 (by decide) (va_Nw.use rfl (hE.2.1.1 _ (ckN_1 _ (List.mem_of_getElem? (i := 12) rfl)))) (fun _ h => h) hv hdg kk
theorem k_RX7_48 {args : Array Value} {s : State} {R rm : Room} (hts : ∀ w ∈ lwA, w.before args s = true) (hN : va_Nw (.methodLinkNest RX7 48 yX8_putAt "Sendhouse") s) (hR : rm.frames + 1 ≤ R.frames ∧ 8 + (4 + 11) + rm.locals ≤ R.locals) : va_CN R s args RX7 48 yX8_putAt "Sendhouse" cX8_putAt 4 none (lwC yX8_putAt cX8_putAt 4 none) rm rm.cells rm.slots 3 ∧ (Cond.static yX8_putAt).before args s = true ∧ True := ⟨va_cnB 3 hts (gd m_3_126) rfl rfl rfl hN (hts _ m_1_1) (by decide +kernel) hR, hts _ m_3_125, trivial⟩
theorem gf_RX7_22_13 {A9 : Nat → Prop} {H9 : Heap} {fs : List Value} {v : Value} (S : CallFix p m c cc nL s args lwA RX7) (hE : g_E D vwCl (gT ar) (EX1 κ) A9 s H9) (w : g_S D vwCl A H0 G H locs nz) (ha : G a = some (.inr (13, fs))) (hv : fs[2]? = some v) (hdg : decode cc pc = .ok (.getfield 22, 3)) (kk : W p l e R s m args below meth c H locs cells slots Q (F0 m (pc + 3) ls (v :: rest))) : W p l e R s m args below meth c H locs cells slots Q (F0 m pc ls (.ref a :: rest)) :=
  va_get (ci := 13) (C := RX7) (T := TX7) (N := 4) S.1 S.2.1 S.2.2.2.2 inA_RX7 S.2.2.2.1 hE.1 (g_1 w.1 ha) 0 rfl rfl 2 (by decide) (S.2.2.2.2 _ m_1_196) (fun _ h => h) hv hdg kk
theorem k_RX7_52 {args : Array Value} {s : State} {R rm : Room} (hts : ∀ w ∈ lwA, w.before args s = true) (hN : va_Nw (.methodLinkNest RX7 52 yX8_plusValue "Sendhouse") s) (hR : rm.frames + 1 ≤ R.frames ∧ 8 + (4 + 11) + rm.locals ≤ R.locals) : va_CN R s args RX7 52 yX8_plusValue "Sendhouse" cX8_plusValue 4 (some .long) (lwC yX8_plusValue cX8_plusValue 4 (some .long)) rm rm.cells rm.slots 2 ∧ (Cond.static yX8_plusValue).before args s = true ∧ True := ⟨va_cnB 2 hts (gd m_4_129) rfl rfl rfl hN (hts _ m_1_1) (by decide +kernel) hR, hts _ m_4_128, trivial⟩
theorem gf_RX7_26_13 {A9 : Nat → Prop} {H9 : Heap} {fs : List Value} {v : Value} (S : CallFix p m c cc nL s args lwA RX7) (hE : g_E D vwCl (gT ar) (EX1 κ) A9 s H9) (w : g_S D vwCl A H0 G H locs nz) (ha : G a = some (.inr (13, fs))) (hv : fs[3]? = some v) (hdg : decode cc pc = .ok (.getfield 26, 3)) (kk : W p l e R s m args below meth c H locs cells slots Q (F0 m (pc + 3) ls (v :: rest))) : W p l e R s m args below meth c H locs cells slots Q (F0 m pc ls (.ref a :: rest)) :=
  va_get (ci := 13) (C := RX7) (T := TX7) (N := 4) S.1 S.2.1 S.2.2.2.2 inA_RX7 S.2.2.2.1 hE.1 (g_1 w.1 ha) 0 rfl rfl 3 (by decide) (S.2.2.2.2 _ m_1_198) (fun _ h => h) hv hdg kk
theorem m_4_134 : (Cond.constantLong RX7 56 (31)) ∈ lwA := lwA_mk (ck_4 _ (List.mem_of_getElem? (i := 134) rfl)) rfl
theorem m_4_29 : (Cond.instantiable RX2 1) ∈ lwA := lwA_mk (ck_4 _ (List.mem_of_getElem? (i := 29) rfl)) rfl
theorem m_1_39 : (Cond.initialized RX2) ∈ lwA := lwA_mk (ck_1 _ (List.mem_of_getElem? (i := 39) rfl)) rfl
theorem nw_RX7_33 {A9 : Nat → Prop} {H9 : Heap} (S : CallFix p m c cc nL s args lwA RX7) (hE : g_E D vwCl (gT ar) (EX1 κ) A9 s H9) (w : g_S D vwCl A H0 G H locs nz) (hcells : cells + 1 ≤ R.cells) (hslots : slots + 1 ≤ R.slots) (hdg : decode cc pc = .ok (.new 33, 3)) (kk : ∀ (H1 : Heap), g_S D vwCl A H0 (g_up G nz (.inr (8, [.null]))) H1 locs (nz + 1) → W p l e R s m args below meth c H1 locs (cells + 1) (slots + 1) Q (F0 m (pc + 3) ls (.ref nz :: rest))) : W p l e R s m args below meth c H locs cells slots Q (F0 m pc ls rest) :=
  g_new (ci := 8) (fs := [.null]) (C := RX2) (T := TX2) (N := 1) S.1 S.2.1 S.2.2.2.2 inA_RX2 tyX2 tyX2_ok S.2.2.2.1 (S.2.2.2.2 _ m_4_28) (S.2.2.2.2 _ m_4_29) (S.2.2.2.2 _ m_1_39) hE.1 w rfl (fun j hj => by rcases (show j = 0 by omega) with rfl <;> rfl) hcells hslots hdg kk
theorem m_4_32 : (Cond.code yX2_init cX2_init 1 none) ∈ lwA := lwA_mk (ck_4 _ (List.mem_of_getElem? (i := 32) rfl)) rfl
theorem m_4_31 : (Cond.instanceMethod yX2_init) ∈ lwA := lwA_mk (ck_4 _ (List.mem_of_getElem? (i := 31) rfl)) rfl
theorem k_RX7_35 {args : Array Value} {s : State} {R rm : Room} (hts : ∀ w ∈ lwA, w.before args s = true) (hN : va_Nw (.methodLinkNest RX7 35 yX2_init "Sendhouse") s) (hR : rm.frames + 1 ≤ R.frames ∧ 8 + (1 + 11) + rm.locals ≤ R.locals) : va_CN R s args RX7 35 yX2_init "Sendhouse" cX2_init 1 none (lwC yX2_init cX2_init 1 none) rm rm.cells rm.slots 0 ∧ yX2_init.name = "<init>" ∧ (Cond.instanceMethod yX2_init).before args s = true := ⟨va_cnB 0 hts (gd m_4_32) rfl rfl rfl hN (hts _ m_1_39) (by decide +kernel) hR, rfl, hts _ m_4_31⟩
theorem m_4_42 : (Cond.code yJx4a65c_add_9ea2d cJx4a65c_add_9ea2d 2 (some .boolean)) ∈ lwA := lwA_mk (ck_4 _ (List.mem_of_getElem? (i := 42) rfl)) rfl
theorem m_4_39 : (Cond.methodLink RX7 36 yJx4a65c_add_9ea2d) ∈ lwA := lwA_mk (ck_4 _ (List.mem_of_getElem? (i := 39) rfl)) rfl
theorem m_4_40 : (Cond.instanceMethod yJx4a65c_add_9ea2d) ∈ lwA := lwA_mk (ck_4 _ (List.mem_of_getElem? (i := 40) rfl)) rfl
theorem m_4_41 : (Cond.selects RJx4a65c yJx4a65c_add_9ea2d yJx4a65c_add_9ea2d) ∈ lwA := lwA_mk (ck_4 _ (List.mem_of_getElem? (i := 41) rfl)) rfl
theorem k_RX7_36 {args : Array Value} {s : State} {R rm : Room} (hts : ∀ w ∈ lwA, w.before args s = true) (hR : rm.frames + 1 ≤ R.frames ∧ 8 + (2 + 11) + rm.locals ≤ R.locals) : CallW R s args RX7 RJx4a65c 36 yJx4a65c_add_9ea2d cJx4a65c_add_9ea2d 2 (some .boolean) (lwC yJx4a65c_add_9ea2d cJx4a65c_add_9ea2d 2 (some .boolean)) rm rm.cells rm.slots 1 := cwV 1 hts (gdV m_4_39 m_4_40 m_4_41 m_1_9 m_4_42) rfl rfl rfl (by decide +kernel) hR
end SITES
/-- a value put into a sum, twice -/
def pV (u v : Int64) : Int64 := 31 * (31 * u + (kf v).toInt64) + (nf v).toInt64
set_option maxHeartbeats 4000000 in
set_option maxRecDepth 100000 in
theorem c_X8_plus (l : Launch) (D : va_G) (ar : Nat → ClassId) (κ : Nat → Nat) (G : gW) (sz : Nat) (u0 : Int64) (v0 : Int64) : Met l yX8_plus (lwC yX8_plus cX8_plus 4 (some .long)) (rD 1 0 0) (g_Pc D vwCl (gT ar) (EX1 κ) G sz [.long u0, .long v0]) (g_Ql D vwCl (g_A G sz) (fun r u => r = 31 * u0 + v0 ∧ u = (G, sz))) 0 0 (g_A G sz) := by
  refine g_ofW (by decide +kernel) (Nat.le_of_ble_eq_true rfl) ?_
  intro p e s m below meth c ls S hr hlk hin hE w hl
  have hx := S.1
  have hb := S.2.1
  have hl : lv_has ls 4 [(0, .long u0), (2, .long v0)] := hl
  refine lv_ldc2 hx hb S.2.2.2.1 (S.2.2.2.2 _ m_4_133) dX8_plus_0 ?_
  refine lv_lload_n hx hb dX8_plus_3 rfl (lv_at hl 0 rfl) ?_
  refine lv_lmul hx hb dX8_plus_4 ?_
  refine lv_lload_n hx hb dX8_plus_5 rfl (lv_at hl 1 rfl) ?_
  refine lv_ladd hx hb dX8_plus_6 ?_
  exact g_lret hx hb hr hlk w (Nat.le_of_ble_eq_true rfl) (Nat.le_of_ble_eq_true rfl) dX8_plus_7 ⟨rfl, rfl⟩
set_option maxHeartbeats 4000000 in
set_option maxRecDepth 100000 in
theorem c_X8_plusValue (l : Launch) (D : va_G) (ar : Nat → ClassId) (κ : Nat → Nat) (G : gW) (sz : Nat) (u0 : Int64) (v0 : Int64) : Met l yX8_plusValue (lwC yX8_plusValue cX8_plusValue 4 (some .long)) (rD 3 0 0) (g_Pc D vwCl (gT ar) (EX1 κ) G sz [.long u0, .long v0]) (g_Ql D vwCl (g_A G sz) (fun r u => r = pV u0 v0 ∧ u = (G, sz))) 0 0 (g_A G sz) := by
  refine g_ofW (by decide +kernel) (Nat.le_of_ble_eq_true rfl) ?_
  intro p e s m below meth c ls S hr hlk hin hE w hl
  have hx := S.1
  have hb := S.2.1
  have hl : lv_has ls 4 [(0, .long u0), (2, .long v0)] := hl
  refine lv_lload_n hx hb dX8_plusValue_0 rfl (lv_at hl 0 rfl) ?_
  refine lv_lload_n hx hb dX8_plusValue_1 rfl (lv_at hl 1 rfl) ?_
  refine g_calli w (g_runS (As := [.long v0]) (rest := [.long u0]) S hE w hl (c_X8_kindOf l D ar κ G sz v0) (k_RX8_226 S.2.2.2.2 ⟨Nat.le_of_ble_eq_true rfl, Nat.le_of_ble_eq_true rfl⟩) rfl rfl (Nat.le_of_ble_eq_true rfl) dX8_plusValue_2 ⟨Nat.le_of_ble_eq_true rfl, Nat.le_of_ble_eq_true rfl⟩) (fun r u H locs hp hnz w => ?_)
  obtain ⟨rfl, rfl⟩ := hp
  dsimp only at w
  refine lv_i2l hx hb dX8_plusValue_5 rfl ?_
  refine g_calll w (g_runS (As := [.long u0, .long ((kf v0).toInt64)]) (rest := []) S hE w hl (c_X8_plus l D ar κ G sz u0 ((kf v0).toInt64)) (k_RX8_453 S.2.2.2.2 ⟨Nat.le_of_ble_eq_true rfl, Nat.le_of_ble_eq_true rfl⟩) rfl rfl (Nat.le_of_ble_eq_true rfl) dX8_plusValue_6 ⟨Nat.le_of_ble_eq_true rfl, Nat.le_of_ble_eq_true rfl⟩) (fun r u H locs hp hnz w => ?_)
  obtain ⟨rfl, rfl⟩ := hp
  dsimp only at w
  refine lv_lload_n hx hb dX8_plusValue_9 rfl (lv_at hl 1 rfl) ?_
  refine g_calli w (g_runS (As := [.long v0]) (rest := [.long (31 * u0 + ((kf v0).toInt64))]) S hE w hl (c_X8_numberOf l D ar κ G sz v0) (k_RX8_230 S.2.2.2.2 ⟨Nat.le_of_ble_eq_true rfl, Nat.le_of_ble_eq_true rfl⟩) rfl rfl (Nat.le_of_ble_eq_true rfl) dX8_plusValue_10 ⟨Nat.le_of_ble_eq_true rfl, Nat.le_of_ble_eq_true rfl⟩) (fun r u H locs hp hnz w => ?_)
  obtain ⟨rfl, rfl⟩ := hp
  dsimp only at w
  refine lv_i2l hx hb dX8_plusValue_13 rfl ?_
  refine g_calll w (g_runS (As := [.long (31 * u0 + ((kf v0).toInt64)), .long ((nf v0).toInt64)]) (rest := []) S hE w hl (c_X8_plus l D ar κ G sz (31 * u0 + ((kf v0).toInt64)) ((nf v0).toInt64)) (k_RX8_453 S.2.2.2.2 ⟨Nat.le_of_ble_eq_true rfl, Nat.le_of_ble_eq_true rfl⟩) rfl rfl (Nat.le_of_ble_eq_true rfl) dX8_plusValue_14 ⟨Nat.le_of_ble_eq_true rfl, Nat.le_of_ble_eq_true rfl⟩) (fun r u H locs hp hnz w => ?_)
  obtain ⟨rfl, rfl⟩ := hp
  dsimp only at w
  exact g_lret hx hb hr hlk w (Nat.le_of_ble_eq_true rfl) (Nat.le_of_ble_eq_true rfl) dX8_plusValue_17 ⟨rfl, rfl⟩
set_option maxHeartbeats 4000000 in
set_option maxRecDepth 100000 in
theorem c_checkIndex3 (l : Launch) (D : va_G) (ar : Nat → ClassId) (κ : Nat → Nat) (G : gW) (sz : Nat) (i : Int32) (n : Int32) (hbi : ¬ isB i n = 0) : Met l yJ3_checkIndex_8e157 (lwC yJ3_checkIndex_8e157 cJ3_checkIndex_8e157 3 (some .int)) (rD 1 0 0) (g_Pc D vwCl (gT ar) (EX1 κ) G sz [.int i, .int n, .null]) (g_Qi D vwCl (g_A G sz) (fun r u => r = i ∧ u = (G, sz))) 0 0 (g_A G sz) := by
  refine g_ofW (by decide +kernel) (Nat.le_of_ble_eq_true rfl) ?_
  intro p e s m below meth c ls S hr hlk hin hE w hl
  have hx := S.1
  have hb := S.2.1
  have hl : lv_has ls 3 [(0, .int i), (1, .int n), (2, .null)] := hl
  refine lv_iload_n hx hb dJ3_checkIndex_8e157_0 rfl (lv_at hl 0 rfl) ?_
  refine lv_if_lt (tgt := 9) hx hb dJ3_checkIndex_8e157_1 (by decide) (fun c_1 => absurd c_1 (isB_n.mp hbi).1) (fun c_1 => ?_)
  refine lv_iload_n hx hb dJ3_checkIndex_8e157_4 rfl (lv_at hl 0 rfl) ?_
  refine lv_iload_n hx hb dJ3_checkIndex_8e157_5 rfl (lv_at hl 1 rfl) ?_
  refine lv_icmp_lt (tgt := 16) hx hb dJ3_checkIndex_8e157_6 (by decide) (fun c_6 => ?_) (fun c_6 => absurd (Int32.not_le.mp (isB_n.mp hbi).2) c_6)
  refine lv_iload_n hx hb dJ3_checkIndex_8e157_16 rfl (lv_at hl 0 rfl) ?_
  exact g_iret hx hb hr hlk w (Nat.le_of_ble_eq_true rfl) (Nat.le_of_ble_eq_true rfl) dJ3_checkIndex_8e157_17 ⟨rfl, rfl⟩
set_option maxHeartbeats 4000000 in
set_option maxRecDepth 100000 in
theorem c_checkIndex2 (l : Launch) (D : va_G) (ar : Nat → ClassId) (κ : Nat → Nat) (G : gW) (sz : Nat) (i : Int32) (n : Int32) (hbi : ¬ isB i n = 0) : Met l yJ15_checkIndex_7cf53 (lwC yJ15_checkIndex_7cf53 cJ15_checkIndex_7cf53 2 (some .int)) (rD 2 0 0) (g_Pc D vwCl (gT ar) (EX1 κ) G sz [.int i, .int n]) (g_Qi D vwCl (g_A G sz) (fun r u => r = i ∧ u = (G, sz))) 0 0 (g_A G sz) := by
  refine g_ofW (by decide +kernel) (Nat.le_of_ble_eq_true rfl) ?_
  intro p e s m below meth c ls S hr hlk hin hE w hl
  have hx := S.1
  have hb := S.2.1
  have hl : lv_has ls 2 [(0, .int i), (1, .int n)] := hl
  refine lv_iload_n hx hb dJ15_checkIndex_7cf53_0 rfl (lv_at hl 0 rfl) ?_
  refine lv_iload_n hx hb dJ15_checkIndex_7cf53_1 rfl (lv_at hl 1 rfl) ?_
  refine lv_null hx hb dJ15_checkIndex_7cf53_2 ?_
  refine g_calli w (g_runS (As := [.int i, .int n, .null]) (rest := []) S hE w hl (c_checkIndex3 l D ar κ G sz i n hbi) (k_RJ15_105 S.2.2.2.2 ⟨Nat.le_of_ble_eq_true rfl, Nat.le_of_ble_eq_true rfl⟩) rfl rfl (Nat.le_of_ble_eq_true rfl) dJ15_checkIndex_7cf53_3 ⟨Nat.le_of_ble_eq_true rfl, Nat.le_of_ble_eq_true rfl⟩) (fun r u H locs hp hnz w => ?_)
  obtain ⟨hr9, rfl⟩ := hp
  have hr9 := hr9.symm
  subst hr9
  dsimp only at w
  exact g_iret hx hb hr hlk w (Nat.le_of_ble_eq_true rfl) (Nat.le_of_ble_eq_true rfl) dJ15_checkIndex_7cf53_6 ⟨rfl, rfl⟩
set_option maxHeartbeats 4000000 in
set_option maxRecDepth 100000 in
theorem c_AL_size (l : Launch) (D : va_G) (ar : Nat → ClassId) (κ : Nat → Nat) (G : gW) (sz : Nat) (o : Nat) (mc0 : Int32) (ed0 : Nat) (k0 : Int32) (ho : G o = some (.inr (5, [.int mc0, .ref ed0, .int k0]))) : Met l yJx4a65c_size_8abf5 (lwC yJx4a65c_size_8abf5 cJx4a65c_size_8abf5 1 (some .int)) (rD 1 0 0) (g_Pc D vwCl (gT ar) (EX1 κ) G sz [.ref o]) (g_Qi D vwCl (g_A G sz) (fun r u => r = k0 ∧ u = (G, sz))) 0 0 (g_A G sz) := by
  refine g_ofW (by decide +kernel) (Nat.le_of_ble_eq_true rfl) ?_
  intro p e s m below meth c ls S hr hlk hin hE w hl
  have hx := S.1
  have hb := S.2.1
  have hl : lv_has ls 1 [(0, .ref o)] := hl
  refine lv_aload_n hx hb dJx4a65c_size_8abf5_0 rfl (lv_at hl 0 rfl) ?_
  refine gf_RJx4a65c_48_5 S hE w ho rfl dJx4a65c_size_8abf5_1 ?_
  exact g_iret hx hb hr hlk w (Nat.le_of_ble_eq_true rfl) (Nat.le_of_ble_eq_true rfl) dJx4a65c_size_8abf5_4 ⟨rfl, rfl⟩
set_option maxHeartbeats 4000000 in
set_option maxRecDepth 100000 in
theorem c_AL_elem (l : Launch) (D : va_G) (ar : Nat → ClassId) (κ : Nat → Nat) (G : gW) (sz : Nat) (o : Nat) (i : Int32) (mc0 : Int32) (ed0 : Nat) (k0 : Int32) (f0 : Nat → Option Nat) (pg0 : Nat) (ho : G o = some (.inr (5, [.int mc0, .ref ed0, .int k0]))) (hel : G ed0 = some (.inl (ar 8, 10, .inr (.inr (.inr (.inr f0)))))) (hni : vp_in i 10) (hpf : f0 (Int32.toNatClampNeg i) = some pg0) : Met l yJx4a65c_elementData_915e3 (lwC yJx4a65c_elementData_915e3 cJx4a65c_elementData_915e3 2 (some (.object "java/lang/Object"))) (rD 1 0 0) (g_Pc D vwCl (gT ar) (EX1 κ) G sz [.ref o, .int i]) (g_Qq D vwCl (g_A G sz) (fun r u => r = some pg0 ∧ u = (G, sz))) 0 0 (g_A G sz) := by
  refine g_ofW (by decide +kernel) (Nat.le_of_ble_eq_true rfl) ?_
  intro p e s m below meth c ls S hr hlk hin hE w hl
  have hx := S.1
  have hb := S.2.1
  have hl : lv_has ls 2 [(0, .ref o), (1, .int i)] := hl
  refine lv_aload_n hx hb dJx4a65c_elementData_915e3_0 rfl (lv_at hl 0 rfl) ?_
  refine gf_RJx4a65c_9_5 S hE w ho rfl dJx4a65c_elementData_915e3_1 ?_
  refine lv_iload_n hx hb dJx4a65c_elementData_915e3_4 rfl (lv_at hl 1 rfl) ?_
  refine va_aldq hx hb hE.1 (g_1 w.1 hel) 0 8 rfl rfl hni dJx4a65c_elementData_915e3_5 ?_
  rw [show f0 (Int32.toNatClampNeg i) = some pg0 from hpf]
  show W p l e _ s m _ below meth c _ _ _ _ _ (F0 m 6 ls (.ref pg0 :: _))
  exact g_qret (r := (some pg0)) hx hb hr (Or.inl ⟨_, rfl⟩) hlk w (Nat.le_of_ble_eq_true rfl) (Nat.le_of_ble_eq_true rfl) dJx4a65c_elementData_915e3_6 ⟨rfl, rfl⟩
set_option maxHeartbeats 4000000 in
set_option maxRecDepth 100000 in
theorem c_AL_get (l : Launch) (D : va_G) (ar : Nat → ClassId) (κ : Nat → Nat) (G : gW) (sz : Nat) (o : Nat) (i : Int32) (mc0 : Int32) (ed0 : Nat) (k0 : Int32) (f0 : Nat → Option Nat) (pg0 : Nat) (ho : G o = some (.inr (5, [.int mc0, .ref ed0, .int k0]))) (hel : G ed0 = some (.inl (ar 8, 10, .inr (.inr (.inr (.inr f0)))))) (hbi : ¬ isB i k0 = 0) (hni : vp_in i 10) (hpf : f0 (Int32.toNatClampNeg i) = some pg0) : Met l yJx4a65c_get_915e3 (lwC yJx4a65c_get_915e3 cJx4a65c_get_915e3 2 (some (.object "java/lang/Object"))) (rD 3 0 0) (g_Pc D vwCl (gT ar) (EX1 κ) G sz [.ref o, .int i]) (g_Qq D vwCl (g_A G sz) (fun r u => r = some pg0 ∧ u = (G, sz))) 0 0 (g_A G sz) := by
  refine g_ofW (by decide +kernel) (Nat.le_of_ble_eq_true rfl) ?_
  intro p e s m below meth c ls S hr hlk hin hE w hl
  have hx := S.1
  have hb := S.2.1
  have hl : lv_has ls 2 [(0, .ref o), (1, .int i)] := hl
  refine lv_iload_n hx hb dJx4a65c_get_915e3_0 rfl (lv_at hl 1 rfl) ?_
  refine lv_aload_n hx hb dJx4a65c_get_915e3_1 rfl (lv_at hl 0 rfl) ?_
  refine gf_RJx4a65c_48_5 S hE w ho rfl dJx4a65c_get_915e3_2 ?_
  refine g_calli w (g_runS (As := [.int i, .int k0]) (rest := []) S hE w hl (c_checkIndex2 l D ar κ G sz i k0 hbi) (k_RJx4a65c_118 S.2.2.2.2 ⟨Nat.le_of_ble_eq_true rfl, Nat.le_of_ble_eq_true rfl⟩) rfl rfl (Nat.le_of_ble_eq_true rfl) dJx4a65c_get_915e3_5 ⟨Nat.le_of_ble_eq_true rfl, Nat.le_of_ble_eq_true rfl⟩) (fun r u H locs hp hnz w => ?_)
  obtain ⟨hr9, rfl⟩ := hp
  have hr9 := hr9.symm
  subst hr9
  dsimp only at w
  refine lv_pop hx hb dJx4a65c_get_915e3_8 rfl ?_
  refine lv_aload_n hx hb dJx4a65c_get_915e3_9 rfl (lv_at hl 0 rfl) ?_
  refine lv_iload_n hx hb dJx4a65c_get_915e3_10 rfl (lv_at hl 1 rfl) ?_
  refine g_callq w (g_runV (As := [.int i]) (rest := []) S hE w hl (c_AL_elem l D ar κ G sz o i mc0 ed0 k0 f0 pg0 ho hel hni hpf) (k_RJx4a65c_123 S.2.2.2.2 ⟨Nat.le_of_ble_eq_true rfl, Nat.le_of_ble_eq_true rfl⟩) ho rfl rfl rfl rfl (Nat.le_of_ble_eq_true rfl) dJx4a65c_get_915e3_11 ⟨Nat.le_of_ble_eq_true rfl, Nat.le_of_ble_eq_true rfl⟩) (fun r u H locs hp hnz w => ?_)
  obtain ⟨rfl, rfl⟩ := hp
  dsimp only at w
  exact g_qret (r := (some pg0)) hx hb hr (Or.inl ⟨_, rfl⟩) hlk w (Nat.le_of_ble_eq_true rfl) (Nat.le_of_ble_eq_true rfl) dJx4a65c_get_915e3_14 ⟨rfl, rfl⟩
set_option maxHeartbeats 4000000 in
set_option maxRecDepth 100000 in
theorem c_AL_add3 (l : Launch) (D : va_G) (ar : Nat → ClassId) (κ : Nat → Nat) (G : gW) (sz : Nat) (o : Nat) (q : Nat) (ed0 : Nat) (k0 : Int32) (mc0 : Int32) (f0 : Nat → Option Nat) (pv0 : Nat) (ho : G o = some (.inr (5, [.int mc0, .ref ed0, .int k0]))) (hel : G ed0 = some (.inl (ar 8, 10, .inr (.inr (.inr (.inr f0)))))) (hq : G q = some (.inr (8, [.ref pv0]))) (hk10 : ¬ k0 = 10) (hni : vp_in k0 10) : Met l yJx4a65c_add_72be8 (lwC yJx4a65c_add_72be8 cJx4a65c_add_72be8 4 none) (rD 1 0 0) (g_Pc D vwCl (gT ar) (EX1 κ) G sz [.ref o, .ref q, .ref ed0, .int k0]) (g_Qv D vwCl (g_A G sz) (fun u => u = ((g_up (g_up G ed0 (.inl (ar 8, 10, .inr (.inr (.inr (.inr (va_up f0 (Int32.toNatClampNeg k0) (some q)))))))) o (.inr (5, [.int mc0, .ref ed0, .int (k0 + 1)]))), sz))) 0 0 (g_A G sz) := by
  refine g_ofW (by decide +kernel) (Nat.le_of_ble_eq_true rfl) ?_
  intro p e s m below meth c ls S hr hlk hin hE w hl
  have hx := S.1
  have hb := S.2.1
  have hl : lv_has ls 4 [(0, .ref o), (1, .ref q), (2, .ref ed0), (3, .int k0)] := hl
  refine lv_iload_n hx hb dJx4a65c_add_72be8_0 rfl (lv_at hl 3 rfl) ?_
  refine lv_aload_n hx hb dJx4a65c_add_72be8_1 rfl (lv_at hl 2 rfl) ?_
  refine va_alen (v := 10) hx hb hE.1 (g_1 w.1 hel) 0 8 rfl rfl rfl dJx4a65c_add_72be8_2 ?_
  refine lv_icmp_ne (tgt := 11) hx hb dJx4a65c_add_72be8_3 (by decide) (fun c_3 => ?_) (fun c_3 => absurd c_3 hk10)
  refine lv_aload_n hx hb dJx4a65c_add_72be8_11 rfl (lv_at hl 2 rfl) ?_
  refine lv_iload_n hx hb dJx4a65c_add_72be8_12 rfl (lv_at hl 3 rfl) ?_
  refine lv_aload_n hx hb dJx4a65c_add_72be8_13 rfl (lv_at hl 1 rfl) ?_
  refine g_astqO (r := (RX2, TX2, 1)) hx hb hE.1 w 8 8 hel rfl (hE.2.1.1 _ (ckN_2 _ (List.mem_of_getElem? (i := 21) rfl))) hq rfl hni dJx4a65c_add_72be8_14 (fun H locs w => ?_)
  refine lv_aload_n hx hb dJx4a65c_add_72be8_15 rfl (lv_at hl 0 rfl) ?_
  refine lv_iload_n hx hb dJx4a65c_add_72be8_16 rfl (lv_at hl 3 rfl) ?_
  refine lv_iconst (v := 1) hx hb dJx4a65c_add_72be8_17 (by decide) ?_
  refine lv_iadd hx hb dJx4a65c_add_72be8_18 ?_
  refine pf_RJx4a65c_48_5 (fs1 := [.int mc0, .ref ed0, .int (k0 + 1)]) S hE w (g_up_o (g_nx ho hel (by simp)) ho) rfl rfl (Nat.le_of_ble_eq_true rfl) rfl dJx4a65c_add_72be8_19 (fun H locs w => ?_)
  exact g_vret hx hb hr hlk w (Nat.le_of_ble_eq_true rfl) (Nat.le_of_ble_eq_true rfl) dJx4a65c_add_72be8_22 rfl
set_option maxHeartbeats 4000000 in
set_option maxRecDepth 100000 in
theorem c_AL_add (l : Launch) (D : va_G) (ar : Nat → ClassId) (κ : Nat → Nat) (G : gW) (sz : Nat) (o : Nat) (q : Nat) (mc0 : Int32) (ed0 : Nat) (k0 : Int32) (f0 : Nat → Option Nat) (pv0 : Nat) (ho : G o = some (.inr (5, [.int mc0, .ref ed0, .int k0]))) (hel : G ed0 = some (.inl (ar 8, 10, .inr (.inr (.inr (.inr f0)))))) (hq : G q = some (.inr (8, [.ref pv0]))) (hk10 : ¬ k0 = 10) (hni : vp_in k0 10) : Met l yJx4a65c_add_9ea2d (lwC yJx4a65c_add_9ea2d cJx4a65c_add_9ea2d 2 (some .boolean)) (rD 2 0 0) (g_Pc D vwCl (gT ar) (EX1 κ) G sz [.ref o, .ref q]) (g_Qi D vwCl (g_A G sz) (fun r u => r = 1 ∧ u = ((g_up (g_up G o (.inr (5, [.int (mc0 + 1), .ref ed0, .int (k0 + 1)]))) ed0 (.inl (ar 8, 10, .inr (.inr (.inr (.inr (va_up f0 (Int32.toNatClampNeg k0) (some q)))))))), sz))) 0 0 (g_A G sz) := by
  refine g_ofW (by decide +kernel) (Nat.le_of_ble_eq_true rfl) ?_
  intro p e s m below meth c ls S hr hlk hin hE w hl
  have hx := S.1
  have hb := S.2.1
  have hl : lv_has ls 2 [(0, .ref o), (1, .ref q)] := hl
  refine lv_aload_n hx hb dJx4a65c_add_9ea2d_0 rfl (lv_at hl 0 rfl) ?_
  refine lv_dup hx hb dJx4a65c_add_9ea2d_1 rfl ?_
  refine gf_RJx4a65c_63_5 S hE w ho rfl dJx4a65c_add_9ea2d_2 ?_
  refine lv_iconst (v := 1) hx hb dJx4a65c_add_9ea2d_5 (by decide) ?_
  refine lv_iadd hx hb dJx4a65c_add_9ea2d_6 ?_
  refine pf_RJx4a65c_63_5 (fs1 := [.int (mc0 + 1), .ref ed0, .int k0]) S hE w ho rfl rfl (Nat.le_of_ble_eq_true rfl) rfl dJx4a65c_add_9ea2d_7 (fun H locs w => ?_)
  refine lv_aload_n hx hb dJx4a65c_add_9ea2d_10 rfl (lv_at hl 0 rfl) ?_
  refine lv_aload_n hx hb dJx4a65c_add_9ea2d_11 rfl (lv_at hl 1 rfl) ?_
  refine lv_aload_n hx hb dJx4a65c_add_9ea2d_12 rfl (lv_at hl 0 rfl) ?_
  refine gf_RJx4a65c_9_5 S hE w g_up_s rfl dJx4a65c_add_9ea2d_13 ?_
  refine lv_aload_n hx hb dJx4a65c_add_9ea2d_16 rfl (lv_at hl 0 rfl) ?_
  refine gf_RJx4a65c_48_5 S hE w g_up_s rfl dJx4a65c_add_9ea2d_17 ?_
  refine g_callv w (g_runV (As := [.ref q, .ref ed0, .int k0]) (rest := []) S hE w hl (c_AL_add3 l D ar κ (g_up G o (.inr (5, [.int (mc0 + 1), .ref ed0, .int k0]))) sz o q ed0 k0 (mc0 + 1) f0 pv0 g_up_s (g_up_o (g_nx hel ho (by simp)) hel) (g_up_o (g_nx hq ho (by simp)) hq) hk10 hni) (k_RJx4a65c_131 S.2.2.2.2 ⟨Nat.le_of_ble_eq_true rfl, Nat.le_of_ble_eq_true rfl⟩) g_up_s rfl rfl rfl rfl (Nat.le_of_ble_eq_true rfl) dJx4a65c_add_9ea2d_20 ⟨Nat.le_of_ble_eq_true rfl, Nat.le_of_ble_eq_true rfl⟩) (fun u H locs hp hnz w => ?_)
  obtain rfl := hp
  dsimp only at w
  have w := g_eqw w (g_inn g_over (g_nx ho hel (by simp)))
  refine lv_iconst (v := 1) hx hb dJx4a65c_add_9ea2d_23 (by decide) ?_
  exact g_zret hx hb hr hlk w (Nat.le_of_ble_eq_true rfl) (Nat.le_of_ble_eq_true rfl) dJx4a65c_add_9ea2d_24 rfl ⟨rfl, rfl⟩
set_option maxHeartbeats 4000000 in
set_option maxRecDepth 100000 in
theorem c_AL_grow1 (l : Launch) (D : va_G) (ar : Nat → ClassId) (κ : Nat → Nat) (G : gW) (sz : Nat) (o : Nat) (mc0 : Int32) (ho : G o = some (.inr (5, [.int mc0, .ref (κ 0), .int 0]))) : Met l yJx4a65c_grow_92f84 (lwC yJx4a65c_grow_92f84 cJx4a65c_grow_92f84 4 (some (.array (.object "java/lang/Object")))) (rD 1 1 10) (g_Pc D vwCl (gT ar) (EX1 κ) G sz [.ref o, .int 1]) (g_Qq D vwCl (g_A G sz) (fun r u => r = some sz ∧ u = ((g_up (g_up G sz (.inl (ar 8, 10, .inr (.inr (.inr (.inr (fun _ => none))))))) o (.inr (5, [.int mc0, .ref sz, .int 0]))), sz + 1))) 1 10 (g_A G sz) := by
  refine g_ofW (by decide +kernel) (Nat.le_of_ble_eq_true rfl) ?_
  intro p e s m below meth c ls S hr hlk hin hE w hl
  have hx := S.1
  have hb := S.2.1
  have hl : lv_has ls 4 [(0, .ref o), (1, .int 1)] := hl
  have lt_ho : o < sz := g_ltn w ho
  refine lv_aload_n hx hb dJx4a65c_grow_92f84_0 rfl (lv_at hl 0 rfl) ?_
  refine gf_RJx4a65c_9_5 S hE w ho rfl dJx4a65c_grow_92f84_1 ?_
  refine va_tlen hx hb hE.2.2.2.2.1.2.1 w.2.2.1 rfl dJx4a65c_grow_92f84_4 ?_
  show W p l e _ s m _ below meth c _ _ _ _ _ (F0 m _ ls (.int 0 :: _))
  refine lv_istore_n (lv' := [(2, .int 0), (0, .ref o), (1, .int 1)]) hx hb dJx4a65c_grow_92f84_5 rfl hl (by decide) rfl (fun ls hl => ?_)
  refine lv_iload_n hx hb dJx4a65c_grow_92f84_6 rfl (lv_at hl 0 rfl) ?_
  refine lv_if_gt (tgt := 20) hx hb dJx4a65c_grow_92f84_7 (by decide) (fun c => absurd c (by decide)) (fun _ => ?_)
  refine lv_aload_n hx hb dJx4a65c_grow_92f84_10 rfl (lv_at hl 1 rfl) ?_
  refine gf_RJx4a65c_9_5 S hE w ho rfl dJx4a65c_grow_92f84_11 ?_
  refine va_gets hx hb hE.2.2.2.2.1.1 w.2.2.1 S.2.2.2.1 (S.2.2.2.2 _ m_1_176) (fun _ h => h) dJx4a65c_grow_92f84_14 ?_
  refine lv_acmp_eq (rx := some (κ 0)) (ry := some (κ 0)) (tgt := 45) hx hb dJx4a65c_grow_92f84_17 (by decide) (fun _ => ?_) (fun c => absurd rfl c)
  refine lv_aload_n hx hb dJx4a65c_grow_92f84_45 rfl (lv_at hl 1 rfl) ?_
  refine lv_bipush (v := 10) hx hb dJx4a65c_grow_92f84_46 (by decide) ?_
  refine lv_iload_n hx hb dJx4a65c_grow_92f84_48 rfl (lv_at hl 2 rfl) ?_
  refine va_mmax hx hb (hl.1.trans S.2.2.1.symm).symm S.2.2.2.1 (S.2.2.2.2 _ m_4_105) (S.2.2.2.2 _ m_4_59) (S.2.2.2.2 _ m_1_24) (S.2.2.2.2 _ m_4_60) (Nat.le_of_ble_eq_true rfl) (Nat.le_of_ble_eq_true rfl) (Nat.le_of_ble_eq_true rfl) (Nat.le_of_ble_eq_true rfl) dJx4a65c_grow_92f84_49 ?_
  rw [show (if (10 : Int32) < 1 then (1 : Int32) else 10) = 10 from by decide]
  refine g_newq (N' := 10) hx hb S.2.2.2.1 (S.2.2.2.2 _ m_4_106) (va_AO.use (C := "java/lang/Object") (hE.2.1.1 _ (ckN_1 _ (List.mem_of_getElem? (i := 13) rfl)))) hE.1 w 8 rfl (by decide) rfl (Nat.le_of_ble_eq_true rfl) (Nat.le_of_ble_eq_true rfl) (Nat.le_of_ble_eq_true rfl) dJx4a65c_grow_92f84_52 (fun H w => ?_)
  refine lv_dup_x1 hx hb dJx4a65c_grow_92f84_55 rfl rfl ?_
  refine pf_RJx4a65c_9_5 (fs1 := [.int mc0, .ref sz, .int 0]) S hE w (g_up_o (by omega) ho) rfl rfl (Nat.le_of_ble_eq_true rfl) rfl dJx4a65c_grow_92f84_56 (fun H locs w => ?_)
  exact g_qret (r := (some sz)) hx hb hr (Or.inr ⟨_, rfl⟩) hlk w (Nat.le_of_ble_eq_true rfl) (Nat.le_of_ble_eq_true rfl) dJx4a65c_grow_92f84_59 ⟨rfl, rfl⟩
set_option maxHeartbeats 4000000 in
set_option maxRecDepth 100000 in
theorem c_AL_grow (l : Launch) (D : va_G) (ar : Nat → ClassId) (κ : Nat → Nat) (G : gW) (sz : Nat) (o : Nat) (mc0 : Int32) (ho : G o = some (.inr (5, [.int mc0, .ref (κ 0), .int 0]))) : Met l yJx4a65c_grow_d5877 (lwC yJx4a65c_grow_d5877 cJx4a65c_grow_d5877 1 (some (.array (.object "java/lang/Object")))) (rD 2 1 10) (g_Pc D vwCl (gT ar) (EX1 κ) G sz [.ref o]) (g_Qq D vwCl (g_A G sz) (fun r u => r = some sz ∧ u = ((g_up (g_up G sz (.inl (ar 8, 10, .inr (.inr (.inr (.inr (fun _ => none))))))) o (.inr (5, [.int mc0, .ref sz, .int 0]))), sz + 1))) 1 10 (g_A G sz) := by
  refine g_ofW (by decide +kernel) (Nat.le_of_ble_eq_true rfl) ?_
  intro p e s m below meth c ls S hr hlk hin hE w hl
  have hx := S.1
  have hb := S.2.1
  have hl : lv_has ls 1 [(0, .ref o)] := hl
  have lt_ho : o < sz := g_ltn w ho
  refine lv_aload_n hx hb dJx4a65c_grow_d5877_0 rfl (lv_at hl 0 rfl) ?_
  refine lv_aload_n hx hb dJx4a65c_grow_d5877_1 rfl (lv_at hl 0 rfl) ?_
  refine gf_RJx4a65c_48_5 S hE w ho rfl dJx4a65c_grow_d5877_2 ?_
  refine lv_iconst (v := 1) hx hb dJx4a65c_grow_d5877_5 (by decide) ?_
  refine lv_iadd hx hb dJx4a65c_grow_d5877_6 ?_
  rw [show (0 + 1 : Int32) = 1 by decide +kernel]
  refine g_callq w (g_runV (As := [.int 1]) (rest := []) S hE w hl (c_AL_grow1 l D ar κ G sz o mc0 ho) (k_RJx4a65c_69 S.2.2.2.2 ⟨Nat.le_of_ble_eq_true rfl, Nat.le_of_ble_eq_true rfl⟩) ho rfl rfl rfl rfl (Nat.le_of_ble_eq_true rfl) dJx4a65c_grow_d5877_7 ⟨Nat.le_of_ble_eq_true rfl, Nat.le_of_ble_eq_true rfl⟩) (fun r u H locs hp hnz w => ?_)
  obtain ⟨rfl, rfl⟩ := hp
  dsimp only at w
  exact g_qret (r := (some sz)) hx hb hr (Or.inr ⟨_, rfl⟩) hlk w (Nat.le_of_ble_eq_true rfl) (Nat.le_of_ble_eq_true rfl) dJx4a65c_grow_d5877_10 ⟨rfl, rfl⟩
set_option maxHeartbeats 4000000 in
set_option maxRecDepth 100000 in
theorem c_AL_add3_0 (l : Launch) (D : va_G) (ar : Nat → ClassId) (κ : Nat → Nat) (G : gW) (sz : Nat) (o : Nat) (q : Nat) (mc0 : Int32) (pv0 : Nat) (ho : G o = some (.inr (5, [.int mc0, .ref (κ 0), .int 0]))) (hq : G q = some (.inr (8, [.ref pv0]))) : Met l yJx4a65c_add_72be8 (lwC yJx4a65c_add_72be8 cJx4a65c_add_72be8 4 none) (rD 3 1 10) (g_Pc D vwCl (gT ar) (EX1 κ) G sz [.ref o, .ref q, .ref (κ 0), .int 0]) (g_Qv D vwCl (g_A G sz) (fun u => u = ((g_up (g_up G sz (.inl (ar 8, 10, .inr (.inr (.inr (.inr (va_up (fun _ => none) (Int32.toNatClampNeg 0) (some q)))))))) o (.inr (5, [.int mc0, .ref sz, .int 1]))), sz + 1))) 1 10 (g_A G sz) := by
  refine g_ofW (by decide +kernel) (Nat.le_of_ble_eq_true rfl) ?_
  intro p e s m below meth c ls S hr hlk hin hE w hl
  have hx := S.1
  have hb := S.2.1
  have hl : lv_has ls 4 [(0, .ref o), (1, .ref q), (2, .ref (κ 0)), (3, .int 0)] := hl
  have lt_ho : o < sz := g_ltn w ho
  have lt_hq : q < sz := g_ltn w hq
  refine lv_iload_n hx hb dJx4a65c_add_72be8_0 rfl (lv_at hl 3 rfl) ?_
  refine lv_aload_n hx hb dJx4a65c_add_72be8_1 rfl (lv_at hl 2 rfl) ?_
  refine va_tlen hx hb hE.2.2.2.2.1.2.1 w.2.2.1 rfl dJx4a65c_add_72be8_2 ?_
  show W p l e _ s m _ below meth c _ _ _ _ _ (F0 m _ ls (.int 0 :: _))
  refine lv_icmp_ne (tgt := 11) hx hb dJx4a65c_add_72be8_3 (by decide) (fun c => absurd (by decide) c) (fun _ => ?_)
  refine lv_aload_n hx hb dJx4a65c_add_72be8_6 rfl (lv_at hl 0 rfl) ?_
  refine g_callq w (g_runV (As := []) (rest := []) S hE w hl (c_AL_grow l D ar κ G sz o mc0 ho) (k_RJx4a65c_129 S.2.2.2.2 ⟨Nat.le_of_ble_eq_true rfl, Nat.le_of_ble_eq_true rfl⟩) ho rfl rfl rfl rfl (Nat.le_of_ble_eq_true rfl) dJx4a65c_add_72be8_7 ⟨Nat.le_of_ble_eq_true rfl, Nat.le_of_ble_eq_true rfl⟩) (fun r u H locs hp hnz w => ?_)
  obtain ⟨rfl, rfl⟩ := hp
  dsimp only at w
  refine lv_astore_n (lv' := [(2, .ref sz), (0, .ref o), (1, .ref q), (3, .int 0)]) hx hb dJx4a65c_add_72be8_10 rfl hl (by decide) rfl (fun ls hl => ?_)
  refine lv_aload_n hx hb dJx4a65c_add_72be8_11 rfl (lv_at hl 0 rfl) ?_
  refine lv_iload_n hx hb dJx4a65c_add_72be8_12 rfl (lv_at hl 3 rfl) ?_
  refine lv_aload_n hx hb dJx4a65c_add_72be8_13 rfl (lv_at hl 2 rfl) ?_
  refine g_astqO (r := (RX2, TX2, 1)) hx hb hE.1 w 8 8 (g_up_o (by omega) g_up_s) rfl (hE.2.1.1 _ (ckN_2 _ (List.mem_of_getElem? (i := 21) rfl))) (g_up_o (g_nx hq ho (by simp)) (g_up_o (by omega) hq)) rfl (vp_in_nI (n := 0) (by decide) (by decide)) dJx4a65c_add_72be8_14 (fun H locs w => ?_)
  have w := g_eqw w (g_inn g_over (by omega))
  refine lv_aload_n hx hb dJx4a65c_add_72be8_15 rfl (lv_at hl 1 rfl) ?_
  refine lv_iload_n hx hb dJx4a65c_add_72be8_16 rfl (lv_at hl 3 rfl) ?_
  refine lv_iconst (v := 1) hx hb dJx4a65c_add_72be8_17 (by decide) ?_
  refine lv_iadd hx hb dJx4a65c_add_72be8_18 ?_
  rw [show (0 + 1 : Int32) = 1 by decide +kernel]
  refine pf_RJx4a65c_48_5 (fs1 := [.int mc0, .ref sz, .int 1]) S hE w g_up_s rfl rfl (Nat.le_of_ble_eq_true rfl) rfl dJx4a65c_add_72be8_19 (fun H locs w => ?_)
  have w := g_eqw w g_over
  exact g_vret hx hb hr hlk w (Nat.le_of_ble_eq_true rfl) (Nat.le_of_ble_eq_true rfl) dJx4a65c_add_72be8_22 rfl
set_option maxHeartbeats 4000000 in
set_option maxRecDepth 100000 in
theorem c_AL_add_0 (l : Launch) (D : va_G) (ar : Nat → ClassId) (κ : Nat → Nat) (G : gW) (sz : Nat) (o : Nat) (q : Nat) (mc0 : Int32) (pv0 : Nat) (ho : G o = some (.inr (5, [.int mc0, .ref (κ 0), .int 0]))) (hq : G q = some (.inr (8, [.ref pv0]))) : Met l yJx4a65c_add_9ea2d (lwC yJx4a65c_add_9ea2d cJx4a65c_add_9ea2d 2 (some .boolean)) (rD 4 1 10) (g_Pc D vwCl (gT ar) (EX1 κ) G sz [.ref o, .ref q]) (g_Qi D vwCl (g_A G sz) (fun r u => r = 1 ∧ u = ((g_up (g_up G o (.inr (5, [.int (mc0 + 1), .ref sz, .int 1]))) sz (.inl (ar 8, 10, .inr (.inr (.inr (.inr (va_up (fun _ => none) (Int32.toNatClampNeg 0) (some q)))))))), sz + 1))) 1 10 (g_A G sz) := by
  refine g_ofW (by decide +kernel) (Nat.le_of_ble_eq_true rfl) ?_
  intro p e s m below meth c ls S hr hlk hin hE w hl
  have hx := S.1
  have hb := S.2.1
  have hl : lv_has ls 2 [(0, .ref o), (1, .ref q)] := hl
  have lt_ho : o < sz := g_ltn w ho
  have lt_hq : q < sz := g_ltn w hq
  refine lv_aload_n hx hb dJx4a65c_add_9ea2d_0 rfl (lv_at hl 0 rfl) ?_
  refine lv_dup hx hb dJx4a65c_add_9ea2d_1 rfl ?_
  refine gf_RJx4a65c_63_5 S hE w ho rfl dJx4a65c_add_9ea2d_2 ?_
  refine lv_iconst (v := 1) hx hb dJx4a65c_add_9ea2d_5 (by decide) ?_
  refine lv_iadd hx hb dJx4a65c_add_9ea2d_6 ?_
  refine pf_RJx4a65c_63_5 (fs1 := [.int (mc0 + 1), .ref (κ 0), .int 0]) S hE w ho rfl rfl (Nat.le_of_ble_eq_true rfl) rfl dJx4a65c_add_9ea2d_7 (fun H locs w => ?_)
  refine lv_aload_n hx hb dJx4a65c_add_9ea2d_10 rfl (lv_at hl 0 rfl) ?_
  refine lv_aload_n hx hb dJx4a65c_add_9ea2d_11 rfl (lv_at hl 1 rfl) ?_
  refine lv_aload_n hx hb dJx4a65c_add_9ea2d_12 rfl (lv_at hl 0 rfl) ?_
  refine gf_RJx4a65c_9_5 S hE w g_up_s rfl dJx4a65c_add_9ea2d_13 ?_
  refine lv_aload_n hx hb dJx4a65c_add_9ea2d_16 rfl (lv_at hl 0 rfl) ?_
  refine gf_RJx4a65c_48_5 S hE w g_up_s rfl dJx4a65c_add_9ea2d_17 ?_
  refine g_callv w (g_runV (As := [.ref q, .ref (κ 0), .int 0]) (rest := []) S hE w hl (c_AL_add3_0 l D ar κ (g_up G o (.inr (5, [.int (mc0 + 1), .ref (κ 0), .int 0]))) sz o q (mc0 + 1) pv0 g_up_s (g_up_o (g_nx hq ho (by simp)) hq)) (k_RJx4a65c_131 S.2.2.2.2 ⟨Nat.le_of_ble_eq_true rfl, Nat.le_of_ble_eq_true rfl⟩) g_up_s rfl rfl rfl rfl (Nat.le_of_ble_eq_true rfl) dJx4a65c_add_9ea2d_20 ⟨Nat.le_of_ble_eq_true rfl, Nat.le_of_ble_eq_true rfl⟩) (fun u H locs hp hnz w => ?_)
  obtain rfl := hp
  dsimp only at w
  have w := g_eqw w (g_inn g_over (by omega))
  refine lv_iconst (v := 1) hx hb dJx4a65c_add_9ea2d_23 (by decide) ?_
  exact g_zret hx hb hr hlk w (Nat.le_of_ble_eq_true rfl) (Nat.le_of_ble_eq_true rfl) dJx4a65c_add_9ea2d_24 rfl ⟨rfl, rfl⟩
set_option maxHeartbeats 4000000 in
set_option maxRecDepth 100000 in
theorem c_X2_init (l : Launch) (D : va_G) (ar : Nat → ClassId) (κ : Nat → Nat) (G : gW) (sz : Nat) (o : Nat) (ho : G o = some (.inr (8, [.null]))) : Met l yX2_init (lwC yX2_init cX2_init 1 none) (rD 2 1 512) (g_Pc D vwCl (gT ar) (EX1 κ) G sz [.ref o]) (g_Qv D vwCl (g_A G sz) (fun u => u = ((g_up (g_up G sz (.inl (ar 1, 512, .inr (.inl (fun _ => 0))))) o (.inr (8, [.ref sz]))), sz + 1))) 1 512 (g_A G sz) := by
  refine g_ofW (by decide +kernel) (Nat.le_of_ble_eq_true rfl) ?_
  intro p e s m below meth c ls S hr hlk hin hE w hl
  have hx := S.1
  have hb := S.2.1
  have hl : lv_has ls 1 [(0, .ref o)] := hl
  have lt_ho : o < sz := g_ltn w ho
  refine lv_aload_n hx hb dX2_init_0 rfl (lv_at hl 0 rfl) ?_
  refine W.objInit hx hb S.2.2.2.1 (S.2.2.2.2 _ m_4_33) (S.2.2.2.2 _ m_1_46) (S.2.2.2.2 _ m_obj) rfl (by rw [S.2.2.1]; exact hl.1) rfl dX2_init_1 (Nat.le_of_ble_eq_true rfl) (Nat.le_of_ble_eq_true rfl) ?_
  refine W.eq (g2 := F0 m 4 ls []) rfl ?_
  refine lv_aload_n hx hb dX2_init_4 rfl (lv_at hl 0 rfl) ?_
  refine lv_sipush (v := 512) hx hb dX2_init_5 (by decide) ?_
  refine g_newa (atype := .long) (a0 := (512, .inr (.inl (fun _ => 0)))) hx hb (S.2.2.2.2 _ m_1_137) rfl hE.1 w 1 rfl rfl (by decide) rfl (Nat.le_of_ble_eq_true rfl) (Nat.le_of_ble_eq_true rfl) (Nat.le_of_ble_eq_true rfl) dX2_init_8 (fun H w => ?_)
  refine pf_RX2_9_8 (fs1 := [.ref sz]) S hE hin w (g_up_o (by omega) ho) rfl rfl (Nat.le_of_ble_eq_true rfl) rfl dX2_init_10 (fun H locs w => ?_)
  exact g_vret hx hb hr hlk w (Nat.le_of_ble_eq_true rfl) (Nat.le_of_ble_eq_true rfl) dX2_init_13 rfl
set_option maxHeartbeats 4000000 in
set_option maxRecDepth 100000 in
theorem c_X7_pageAt (l : Launch) (D : va_G) (ar : Nat → ClassId) (κ : Nat → Nat) (G : gW) (sz : Nat) (o : Nat) (i : Int32) (pl0 : Nat) (wc0 : Int32) (ws0 : Int64) (wp0 : Int64) (mc0 : Int32) (ed0 : Nat) (k0 : Int32) (f0 : Nat → Option Nat) (pg0 : Nat) (pv0 : Nat) (ho : G o = some (.inr (13, [.ref pl0, .int wc0, .long ws0, .long wp0]))) (hpl : G pl0 = some (.inr (5, [.int mc0, .ref ed0, .int k0]))) (hel : G ed0 = some (.inl (ar 8, 10, .inr (.inr (.inr (.inr f0)))))) (hpg : G pg0 = some (.inr (8, [.ref pv0]))) (hbi : ¬ isB i k0 = 0) (hni : vp_in i 10) (hpf : f0 (Int32.toNatClampNeg i) = some pg0) : Met l yX7_pageAt (lwC yX7_pageAt cX7_pageAt 2 (some (.object "Sendhouse$Page"))) (rD 4 0 0) (g_Pc D vwCl (gT ar) (EX1 κ) G sz [.ref o, .int i]) (g_Qq D vwCl (g_A G sz) (fun r u => r = some pg0 ∧ u = (G, sz))) 0 0 (g_A G sz) := by
  refine g_ofW (by decide +kernel) (Nat.le_of_ble_eq_true rfl) ?_
  intro p e s m below meth c ls S hr hlk hin hE w hl
  have hx := S.1
  have hb := S.2.1
  have hl : lv_has ls 2 [(0, .ref o), (1, .int i)] := hl
  refine lv_iload_n hx hb dX7_pageAt_0 rfl (lv_at hl 1 rfl) ?_
  refine lv_aload_n hx hb dX7_pageAt_1 rfl (lv_at hl 0 rfl) ?_
  refine gf_RX7_12_13 S hE w ho rfl dX7_pageAt_2 ?_
  refine g_calli w (g_runV (As := []) (rest := [.int i]) S hE w hl (c_AL_size l D ar κ G sz pl0 mc0 ed0 k0 hpl) (k_RX7_29 S.2.2.2.2 ⟨Nat.le_of_ble_eq_true rfl, Nat.le_of_ble_eq_true rfl⟩) hpl rfl rfl rfl rfl (Nat.le_of_ble_eq_true rfl) dX7_pageAt_5 ⟨Nat.le_of_ble_eq_true rfl, Nat.le_of_ble_eq_true rfl⟩) (fun r u H locs hp hnz w => ?_)
  obtain ⟨hr9, rfl⟩ := hp
  rw [hr9]
  clear hr9
  dsimp only at w
  refine g_calli w (g_runSN (As := [.int i, .int k0]) (rest := []) S hE w hl (c_X8_isBelow l D ar κ G sz i k0) (k_RX7_64 S.2.2.2.2 (hE.2.1.1 _ (ckN_1 _ (List.mem_of_getElem? (i := 14) rfl))) ⟨Nat.le_of_ble_eq_true rfl, Nat.le_of_ble_eq_true rfl⟩) rfl rfl (Nat.le_of_ble_eq_true rfl) dX7_pageAt_8 ⟨Nat.le_of_ble_eq_true rfl, Nat.le_of_ble_eq_true rfl⟩) (fun r u H locs hp hnz w => ?_)
  obtain ⟨rfl, rfl⟩ := hp
  dsimp only at w
  refine lv_if_eq (tgt := 28) hx hb dX7_pageAt_11 (by decide) (fun c_11 => absurd c_11 hbi) (fun c_11 => ?_)
  refine lv_aload_n hx hb dX7_pageAt_14 rfl (lv_at hl 0 rfl) ?_
  refine gf_RX7_12_13 S hE w ho rfl dX7_pageAt_15 ?_
  refine lv_iload_n hx hb dX7_pageAt_18 rfl (lv_at hl 1 rfl) ?_
  refine g_callq w (g_runV (As := [.int i]) (rest := []) S hE w hl (c_AL_get l D ar κ G sz pl0 i mc0 ed0 k0 f0 pg0 hpl hel hbi hni hpf) (k_RX7_68 S.2.2.2.2 ⟨Nat.le_of_ble_eq_true rfl, Nat.le_of_ble_eq_true rfl⟩) hpl rfl rfl rfl rfl (Nat.le_of_ble_eq_true rfl) dX7_pageAt_19 ⟨Nat.le_of_ble_eq_true rfl, Nat.le_of_ble_eq_true rfl⟩) (fun r u H locs hp hnz w => ?_)
  obtain ⟨rfl, rfl⟩ := hp
  dsimp only at w
  refine g_castS S hE w m_4_28 hpg rfl rfl dX7_pageAt_22 ?_
  refine lv_goto (tgt := 29) hx hb dX7_pageAt_25 (by decide) ?_
  exact g_qret (r := (some pg0)) hx hb hr (Or.inl ⟨_, rfl⟩) hlk w (Nat.le_of_ble_eq_true rfl) (Nat.le_of_ble_eq_true rfl) dX7_pageAt_29 ⟨rfl, rfl⟩
set_option maxHeartbeats 4000000 in
set_option maxRecDepth 100000 in
theorem c_X7_en1 (l : Launch) (D : va_G) (ar : Nat → ClassId) (κ : Nat → Nat) (G : gW) (sz : Nat) (o : Nat) (v : Int64) (pl0 : Nat) (wc0 : Int32) (ws0 : Int64) (wp0 : Int64) (mc0 : Int32) (ed0 : Nat) (k0 : Int32) (f0 : Nat → Option Nat) (pg0 : Nat) (pv0 : Nat) (g0 : Nat → Int64) (ho : G o = some (.inr (13, [.ref pl0, .int wc0, .long ws0, .long wp0]))) (hpl : G pl0 = some (.inr (5, [.int mc0, .ref ed0, .int k0]))) (hel : G ed0 = some (.inl (ar 8, 10, .inr (.inr (.inr (.inr f0)))))) (hpg : G pg0 = some (.inr (8, [.ref pv0]))) (hpv : G pv0 = some (.inl (ar 1, 512, .inr (.inl g0)))) (h1 : (wc0 / 512) < 6400) (h2 : (wc0 / 512) < k0) (hbi : ¬ isB (wc0 / 512) k0 = 0) (hni : vp_in (wc0 / 512) 10) (hpf : f0 (Int32.toNatClampNeg (wc0 / 512)) = some pg0) : Met l yX7_enlist (lwC yX7_enlist cX7_enlist 5 none) (rD 5 0 0) (g_Pc D vwCl (gT ar) (EX1 κ) G sz [.ref o, .long v]) (g_Qv D vwCl (g_A G sz) (fun u => u = ((g_up (g_up G pv0 (.inl (ar 1, 512, .inr (.inl (pU g0 512 (wc0 - wc0 / 512 * 512) v))))) o (.inr (13, [.ref pl0, .int (wc0 + 1), .long (pV ws0 v), .long ((wp0 * 31) * 31)]))), sz))) 0 0 (g_A G sz) := by
  refine g_ofW (by decide +kernel) (Nat.le_of_ble_eq_true rfl) ?_
  intro p e s m below meth c ls S hr hlk hin hE w hl
  have hx := S.1
  have hb := S.2.1
  have hl : lv_has ls 5 [(0, .ref o), (1, .long v)] := hl
  refine lv_aload_n hx hb dX7_enlist_0 rfl (lv_at hl 0 rfl) ?_
  refine gf_RX7_18_13 S hE w ho rfl dX7_enlist_1 ?_
  refine lv_sipush (v := 512) hx hb dX7_enlist_4 (by decide) ?_
  refine lv_idiv hx hb dX7_enlist_7 (by decide) ?_
  refine lv_istore_n (lv' := [(3, .int (wc0 / 512)), (0, .ref o), (1, .long v)]) hx hb dX7_enlist_8 rfl hl (by decide) rfl (fun ls hl => ?_)
  refine lv_iload_n hx hb dX7_enlist_9 rfl (lv_at hl 0 rfl) ?_
  refine lv_sipush (v := 6400) hx hb dX7_enlist_10 (by decide) ?_
  refine lv_icmp_lt (tgt := 17) hx hb dX7_enlist_13 (by decide) (fun c_13 => ?_) (fun c_13 => absurd h1 c_13)
  refine lv_iload_n hx hb dX7_enlist_17 rfl (lv_at hl 0 rfl) ?_
  refine lv_aload_n hx hb dX7_enlist_18 rfl (lv_at hl 1 rfl) ?_
  refine gf_RX7_12_13 S hE w ho rfl dX7_enlist_19 ?_
  refine g_calli w (g_runV (As := []) (rest := [.int (wc0 / 512)]) S hE w hl (c_AL_size l D ar κ G sz pl0 mc0 ed0 k0 hpl) (k_RX7_29 S.2.2.2.2 ⟨Nat.le_of_ble_eq_true rfl, Nat.le_of_ble_eq_true rfl⟩) hpl rfl rfl rfl rfl (Nat.le_of_ble_eq_true rfl) dX7_enlist_22 ⟨Nat.le_of_ble_eq_true rfl, Nat.le_of_ble_eq_true rfl⟩) (fun r u H locs hp hnz w => ?_)
  obtain ⟨hr9, rfl⟩ := hp
  rw [hr9]
  clear hr9
  dsimp only at w
  refine lv_icmp_lt (tgt := 43) hx hb dX7_enlist_25 (by decide) (fun c_25 => ?_) (fun c_25 => absurd h2 c_25)
  refine lv_aload_n hx hb dX7_enlist_43 rfl (lv_at hl 1 rfl) ?_
  refine lv_iload_n hx hb dX7_enlist_44 rfl (lv_at hl 0 rfl) ?_
  refine g_callq w (g_runV (As := [.int (wc0 / 512)]) (rest := []) S hE w hl (c_X7_pageAt l D ar κ G sz o (wc0 / 512) pl0 wc0 ws0 wp0 mc0 ed0 k0 f0 pg0 pv0 ho hpl hel hpg hbi hni hpf) (k_RX7_40 S.2.2.2.2 ⟨Nat.le_of_ble_eq_true rfl, Nat.le_of_ble_eq_true rfl⟩) ho rfl rfl rfl rfl (Nat.le_of_ble_eq_true rfl) dX7_enlist_45 ⟨Nat.le_of_ble_eq_true rfl, Nat.le_of_ble_eq_true rfl⟩) (fun r u H locs hp hnz w => ?_)
  obtain ⟨rfl, rfl⟩ := hp
  dsimp only at w
  refine lv_astore (lv' := [(4, .ref pg0), (3, .int (wc0 / 512)), (0, .ref o), (1, .long v)]) hx hb dX7_enlist_48 hl (by decide) rfl (fun ls hl => ?_)
  refine lv_aload hx hb dX7_enlist_50 (lv_at hl 0 rfl) ?_
  refine lv_ifnull hx hb dX7_enlist_52 ?_
  refine lv_aload hx hb dX7_enlist_55 (lv_at hl 0 rfl) ?_
  refine gf_RX7_44_8 S hE w hpg rfl dX7_enlist_57 ?_
  refine lv_aload_n hx hb dX7_enlist_60 rfl (lv_at hl 2 rfl) ?_
  refine gf_RX7_18_13 S hE w ho rfl dX7_enlist_61 ?_
  refine lv_sipush (v := 512) hx hb dX7_enlist_64 (by decide) ?_
  refine lv_irem hx hb dX7_enlist_67 (by decide) ?_
  refine lv_lload_n hx hb dX7_enlist_68 rfl (lv_at hl 3 rfl) ?_
  refine g_callv w (g_runSN (As := [.ref pv0, .int (wc0 - wc0 / 512 * 512), .long v]) (rest := []) S hE w hl (c_putAt l D ar κ G sz pv0 (wc0 - wc0 / 512 * 512) v 512 g0 hpv (by decide)) (k_RX7_48 S.2.2.2.2 (hE.2.1.1 _ (ckN_1 _ (List.mem_of_getElem? (i := 15) rfl))) ⟨Nat.le_of_ble_eq_true rfl, Nat.le_of_ble_eq_true rfl⟩) rfl rfl (Nat.le_of_ble_eq_true rfl) dX7_enlist_69 ⟨Nat.le_of_ble_eq_true rfl, Nat.le_of_ble_eq_true rfl⟩) (fun u H locs hp hnz w => ?_)
  obtain rfl := hp
  dsimp only at w
  refine lv_aload_n hx hb dX7_enlist_72 rfl (lv_at hl 2 rfl) ?_
  refine lv_dup hx hb dX7_enlist_73 rfl ?_
  refine gf_RX7_18_13 S hE w (g_up_o (g_nx ho hpv (by simp)) ho) rfl dX7_enlist_74 ?_
  refine lv_iconst (v := 1) hx hb dX7_enlist_77 (by decide) ?_
  refine lv_iadd hx hb dX7_enlist_78 ?_
  refine pf_RX7_18_13 (fs1 := [.ref pl0, .int (wc0 + 1), .long ws0, .long wp0]) S hE w (g_up_o (g_nx ho hpv (by simp)) ho) rfl rfl (Nat.le_of_ble_eq_true rfl) rfl dX7_enlist_79 (fun H locs w => ?_)
  refine lv_aload_n hx hb dX7_enlist_82 rfl (lv_at hl 2 rfl) ?_
  refine lv_aload_n hx hb dX7_enlist_83 rfl (lv_at hl 2 rfl) ?_
  refine gf_RX7_22_13 S hE w g_up_s rfl dX7_enlist_84 ?_
  refine lv_lload_n hx hb dX7_enlist_87 rfl (lv_at hl 3 rfl) ?_
  refine g_calll w (g_runSN (As := [.long ws0, .long v]) (rest := [.ref o]) S hE w hl (c_X8_plusValue l D ar κ (g_up (g_up G pv0 (.inl (ar 1, 512, .inr (.inl (pU g0 512 (wc0 - wc0 / 512 * 512) v))))) o (.inr (13, [.ref pl0, .int (wc0 + 1), .long ws0, .long wp0]))) sz ws0 v) (k_RX7_52 S.2.2.2.2 (hE.2.1.1 _ (ckN_1 _ (List.mem_of_getElem? (i := 16) rfl))) ⟨Nat.le_of_ble_eq_true rfl, Nat.le_of_ble_eq_true rfl⟩) rfl rfl (Nat.le_of_ble_eq_true rfl) dX7_enlist_88 ⟨Nat.le_of_ble_eq_true rfl, Nat.le_of_ble_eq_true rfl⟩) (fun r u H locs hp hnz w => ?_)
  obtain ⟨rfl, rfl⟩ := hp
  dsimp only at w
  refine pf_RX7_22_13 (fs1 := [.ref pl0, .int (wc0 + 1), .long (pV ws0 v), .long wp0]) S hE w g_up_s rfl rfl (Nat.le_of_ble_eq_true rfl) rfl dX7_enlist_91 (fun H locs w => ?_)
  have w := g_eqw w g_over
  refine lv_aload_n hx hb dX7_enlist_94 rfl (lv_at hl 2 rfl) ?_
  refine lv_aload_n hx hb dX7_enlist_95 rfl (lv_at hl 2 rfl) ?_
  refine gf_RX7_26_13 S hE w g_up_s rfl dX7_enlist_96 ?_
  refine lv_ldc2 hx hb S.2.2.2.1 (S.2.2.2.2 _ m_4_134) dX7_enlist_99 ?_
  refine lv_lmul hx hb dX7_enlist_102 ?_
  refine lv_ldc2 hx hb S.2.2.2.1 (S.2.2.2.2 _ m_4_134) dX7_enlist_103 ?_
  refine lv_lmul hx hb dX7_enlist_106 ?_
  refine pf_RX7_26_13 (fs1 := [.ref pl0, .int (wc0 + 1), .long (pV ws0 v), .long ((wp0 * 31) * 31)]) S hE w g_up_s rfl rfl (Nat.le_of_ble_eq_true rfl) rfl dX7_enlist_107 (fun H locs w => ?_)
  have w := g_eqw w g_over
  exact g_vret hx hb hr hlk w (Nat.le_of_ble_eq_true rfl) (Nat.le_of_ble_eq_true rfl) dX7_enlist_110 rfl
set_option maxHeartbeats 4000000 in
set_option maxRecDepth 100000 in
theorem c_X7_en2 (l : Launch) (D : va_G) (ar : Nat → ClassId) (κ : Nat → Nat) (G : gW) (sz : Nat) (o : Nat) (v : Int64) (pl0 : Nat) (wc0 : Int32) (ws0 : Int64) (wp0 : Int64) (mc0 : Int32) (ed0 : Nat) (k0 : Int32) (f0 : Nat → Option Nat) (ho : G o = some (.inr (13, [.ref pl0, .int wc0, .long ws0, .long wp0]))) (hpl : G pl0 = some (.inr (5, [.int mc0, .ref ed0, .int k0]))) (hel : G ed0 = some (.inl (ar 8, 10, .inr (.inr (.inr (.inr f0)))))) (h1 : (wc0 / 512) < 6400) (h2 : (wc0 / 512) = k0) (h3 : ¬ k0 < k0) (hk10 : ¬ k0 = 10) (hni : vp_in k0 10) (hbi : ¬ isB (wc0 / 512) (k0 + 1) = 0) (hni2 : vp_in (wc0 / 512) 10) : Met l yX7_enlist (lwC yX7_enlist cX7_enlist 5 none) (rD 5 3 523) (g_Pc D vwCl (gT ar) (EX1 κ) G sz [.ref o, .long v]) (g_Qv D vwCl (g_A G sz) (fun u => u = ((g_up (g_up (g_up (g_up (g_up G sz (.inr (8, [.ref (sz + 1)]))) (sz + 1) (.inl (ar 1, 512, .inr (.inl (pU (fun _ => 0) 512 (wc0 - wc0 / 512 * 512) v))))) pl0 (.inr (5, [.int (mc0 + 1), .ref ed0, .int (k0 + 1)]))) ed0 (.inl (ar 8, 10, .inr (.inr (.inr (.inr (va_up f0 (Int32.toNatClampNeg k0) (some sz)))))))) o (.inr (13, [.ref pl0, .int (wc0 + 1), .long (pV ws0 v), .long ((wp0 * 31) * 31)]))), sz + 2))) 3 523 (g_A G sz) := by
  refine g_ofW (by decide +kernel) (Nat.le_of_ble_eq_true rfl) ?_
  intro p e s m below meth c ls S hr hlk hin hE w hl
  have hx := S.1
  have hb := S.2.1
  have hl : lv_has ls 5 [(0, .ref o), (1, .long v)] := hl
  have lt_ho : o < sz := g_ltn w ho
  have lt_hpl : pl0 < sz := g_ltn w hpl
  have lt_hel : ed0 < sz := g_ltn w hel
  refine lv_aload_n hx hb dX7_enlist_0 rfl (lv_at hl 0 rfl) ?_
  refine gf_RX7_18_13 S hE w ho rfl dX7_enlist_1 ?_
  refine lv_sipush (v := 512) hx hb dX7_enlist_4 (by decide) ?_
  refine lv_idiv hx hb dX7_enlist_7 (by decide) ?_
  refine lv_istore_n (lv' := [(3, .int (wc0 / 512)), (0, .ref o), (1, .long v)]) hx hb dX7_enlist_8 rfl hl (by decide) rfl (fun ls hl => ?_)
  refine lv_iload_n hx hb dX7_enlist_9 rfl (lv_at hl 0 rfl) ?_
  refine lv_sipush (v := 6400) hx hb dX7_enlist_10 (by decide) ?_
  refine lv_icmp_lt (tgt := 17) hx hb dX7_enlist_13 (by decide) (fun c_13 => ?_) (fun c_13 => absurd h1 c_13)
  refine lv_iload_n hx hb dX7_enlist_17 rfl (lv_at hl 0 rfl) ?_
  refine lv_aload_n hx hb dX7_enlist_18 rfl (lv_at hl 1 rfl) ?_
  refine gf_RX7_12_13 S hE w ho rfl dX7_enlist_19 ?_
  refine g_calli w (g_runV (As := []) (rest := [.int (wc0 / 512)]) S hE w hl (c_AL_size l D ar κ G sz pl0 mc0 ed0 k0 hpl) (k_RX7_29 S.2.2.2.2 ⟨Nat.le_of_ble_eq_true rfl, Nat.le_of_ble_eq_true rfl⟩) hpl rfl rfl rfl rfl (Nat.le_of_ble_eq_true rfl) dX7_enlist_22 ⟨Nat.le_of_ble_eq_true rfl, Nat.le_of_ble_eq_true rfl⟩) (fun r u H locs hp hnz w => ?_)
  obtain ⟨hr9, rfl⟩ := hp
  rw [hr9]
  clear hr9
  dsimp only at w
  refine lv_icmp_lt (tgt := 43) hx hb dX7_enlist_25 (by decide) (fun c_25 => absurd c_25 (by rw [h2]; exact h3)) (fun c_25 => ?_)
  refine lv_aload_n hx hb dX7_enlist_28 rfl (lv_at hl 1 rfl) ?_
  refine gf_RX7_12_13 S hE w ho rfl dX7_enlist_29 ?_
  refine nw_RX7_33 S hE w (Nat.le_of_ble_eq_true rfl) (Nat.le_of_ble_eq_true rfl) dX7_enlist_32 (fun H w => ?_)
  refine lv_dup hx hb dX7_enlist_35 rfl ?_
  refine g_callv w (g_runIN (As := []) (rest := [.ref sz, .ref pl0]) S hE w hl (c_X2_init l D ar κ (g_up G sz (.inr (8, [.null]))) (sz + 1) sz g_up_s) (k_RX7_35 S.2.2.2.2 (hE.2.1.1 _ (ckN_1 _ (List.mem_of_getElem? (i := 11) rfl))) ⟨Nat.le_of_ble_eq_true rfl, Nat.le_of_ble_eq_true rfl⟩) rfl rfl (Nat.le_of_ble_eq_true rfl) dX7_enlist_36 ⟨Nat.le_of_ble_eq_true rfl, Nat.le_of_ble_eq_true rfl⟩) (fun u H locs hp hnz w => ?_)
  obtain rfl := hp
  dsimp only at w
  have w := g_eqw w (g_inn g_over (by omega))
  refine g_calli w (g_runV (As := [.ref sz]) (rest := []) S hE w hl (c_AL_add l D ar κ (g_up (g_up G sz (.inr (8, [.ref (sz + 1)]))) (sz + 1) (.inl (ar 1, 512, .inr (.inl (fun _ => 0))))) (sz + 2) pl0 sz mc0 ed0 k0 f0 (sz + 1) (g_up_o (by omega) (g_up_o (by omega) hpl)) (g_up_o (by omega) (g_up_o (by omega) hel)) (g_up_o (by omega) g_up_s) hk10 hni) (k_RX7_36 S.2.2.2.2 ⟨Nat.le_of_ble_eq_true rfl, Nat.le_of_ble_eq_true rfl⟩) (g_up_o (by omega) (g_up_o (by omega) hpl)) rfl rfl rfl rfl (Nat.le_of_ble_eq_true rfl) dX7_enlist_39 ⟨Nat.le_of_ble_eq_true rfl, Nat.le_of_ble_eq_true rfl⟩) (fun r u H locs hp hnz w => ?_)
  obtain ⟨rfl, rfl⟩ := hp
  dsimp only at w
  refine lv_pop hx hb dX7_enlist_42 rfl ?_
  refine lv_aload_n hx hb dX7_enlist_43 rfl (lv_at hl 1 rfl) ?_
  refine lv_iload_n hx hb dX7_enlist_44 rfl (lv_at hl 0 rfl) ?_
  refine g_callq w (g_runV (As := [.int (wc0 / 512)]) (rest := []) S hE w hl (c_X7_pageAt l D ar κ (g_up (g_up (g_up (g_up G sz (.inr (8, [.ref (sz + 1)]))) (sz + 1) (.inl (ar 1, 512, .inr (.inl (fun _ => 0))))) pl0 (.inr (5, [.int (mc0 + 1), .ref ed0, .int (k0 + 1)]))) ed0 (.inl (ar 8, 10, .inr (.inr (.inr (.inr (va_up f0 (Int32.toNatClampNeg k0) (some sz)))))))) (sz + 2) o (wc0 / 512) pl0 wc0 ws0 wp0 (mc0 + 1) ed0 (k0 + 1) (va_up f0 (Int32.toNatClampNeg k0) (some sz)) sz (sz + 1) (g_up_o (g_nx ho hel (by simp)) (g_up_o (g_nx ho hpl (by simp)) (g_up_o (by omega) (g_up_o (by omega) ho)))) (g_up_o (g_nx hpl hel (by simp)) g_up_s) g_up_s (g_up_o (by omega) (g_up_o (by omega) (g_up_o (by omega) g_up_s))) hbi hni2 (by rw [h2]; exact if_pos rfl)) (k_RX7_40 S.2.2.2.2 ⟨Nat.le_of_ble_eq_true rfl, Nat.le_of_ble_eq_true rfl⟩) (g_up_o (g_nx ho hel (by simp)) (g_up_o (g_nx ho hpl (by simp)) (g_up_o (by omega) (g_up_o (by omega) ho)))) rfl rfl rfl rfl (Nat.le_of_ble_eq_true rfl) dX7_enlist_45 ⟨Nat.le_of_ble_eq_true rfl, Nat.le_of_ble_eq_true rfl⟩) (fun r u H locs hp hnz w => ?_)
  obtain ⟨rfl, rfl⟩ := hp
  dsimp only at w
  refine lv_astore (lv' := [(4, .ref sz), (3, .int (wc0 / 512)), (0, .ref o), (1, .long v)]) hx hb dX7_enlist_48 hl (by decide) rfl (fun ls hl => ?_)
  refine lv_aload hx hb dX7_enlist_50 (lv_at hl 0 rfl) ?_
  refine lv_ifnull hx hb dX7_enlist_52 ?_
  refine lv_aload hx hb dX7_enlist_55 (lv_at hl 0 rfl) ?_
  refine gf_RX7_44_8 S hE w (g_up_o (by omega) (g_up_o (by omega) (g_up_o (by omega) g_up_s))) rfl dX7_enlist_57 ?_
  refine lv_aload_n hx hb dX7_enlist_60 rfl (lv_at hl 2 rfl) ?_
  refine gf_RX7_18_13 S hE w (g_up_o (g_nx ho hel (by simp)) (g_up_o (g_nx ho hpl (by simp)) (g_up_o (by omega) (g_up_o (by omega) ho)))) rfl dX7_enlist_61 ?_
  refine lv_sipush (v := 512) hx hb dX7_enlist_64 (by decide) ?_
  refine lv_irem hx hb dX7_enlist_67 (by decide) ?_
  refine lv_lload_n hx hb dX7_enlist_68 rfl (lv_at hl 3 rfl) ?_
  refine g_callv w (g_runSN (As := [.ref (sz + 1), .int (wc0 - wc0 / 512 * 512), .long v]) (rest := []) S hE w hl (c_putAt l D ar κ (g_up (g_up (g_up (g_up G sz (.inr (8, [.ref (sz + 1)]))) (sz + 1) (.inl (ar 1, 512, .inr (.inl (fun _ => 0))))) pl0 (.inr (5, [.int (mc0 + 1), .ref ed0, .int (k0 + 1)]))) ed0 (.inl (ar 8, 10, .inr (.inr (.inr (.inr (va_up f0 (Int32.toNatClampNeg k0) (some sz)))))))) (sz + 2) (sz + 1) (wc0 - wc0 / 512 * 512) v 512 (fun _ => 0) (g_up_o (by omega) (g_up_o (by omega) g_up_s)) (by decide)) (k_RX7_48 S.2.2.2.2 (hE.2.1.1 _ (ckN_1 _ (List.mem_of_getElem? (i := 15) rfl))) ⟨Nat.le_of_ble_eq_true rfl, Nat.le_of_ble_eq_true rfl⟩) rfl rfl (Nat.le_of_ble_eq_true rfl) dX7_enlist_69 ⟨Nat.le_of_ble_eq_true rfl, Nat.le_of_ble_eq_true rfl⟩) (fun u H locs hp hnz w => ?_)
  obtain rfl := hp
  dsimp only at w
  have w := g_eqw w (g_inn (g_inn g_over (by omega)) (by omega))
  refine lv_aload_n hx hb dX7_enlist_72 rfl (lv_at hl 2 rfl) ?_
  refine lv_dup hx hb dX7_enlist_73 rfl ?_
  refine gf_RX7_18_13 S hE w (g_up_o (g_nx ho hel (by simp)) (g_up_o (g_nx ho hpl (by simp)) (g_up_o (by omega) (g_up_o (by omega) ho)))) rfl dX7_enlist_74 ?_
  refine lv_iconst (v := 1) hx hb dX7_enlist_77 (by decide) ?_
  refine lv_iadd hx hb dX7_enlist_78 ?_
  refine pf_RX7_18_13 (fs1 := [.ref pl0, .int (wc0 + 1), .long ws0, .long wp0]) S hE w (g_up_o (g_nx ho hel (by simp)) (g_up_o (g_nx ho hpl (by simp)) (g_up_o (by omega) (g_up_o (by omega) ho)))) rfl rfl (Nat.le_of_ble_eq_true rfl) rfl dX7_enlist_79 (fun H locs w => ?_)
  refine lv_aload_n hx hb dX7_enlist_82 rfl (lv_at hl 2 rfl) ?_
  refine lv_aload_n hx hb dX7_enlist_83 rfl (lv_at hl 2 rfl) ?_
  refine gf_RX7_22_13 S hE w g_up_s rfl dX7_enlist_84 ?_
  refine lv_lload_n hx hb dX7_enlist_87 rfl (lv_at hl 3 rfl) ?_
  refine g_calll w (g_runSN (As := [.long ws0, .long v]) (rest := [.ref o]) S hE w hl (c_X8_plusValue l D ar κ (g_up (g_up (g_up (g_up (g_up G sz (.inr (8, [.ref (sz + 1)]))) (sz + 1) (.inl (ar 1, 512, .inr (.inl (pU (fun _ => 0) 512 (wc0 - wc0 / 512 * 512) v))))) pl0 (.inr (5, [.int (mc0 + 1), .ref ed0, .int (k0 + 1)]))) ed0 (.inl (ar 8, 10, .inr (.inr (.inr (.inr (va_up f0 (Int32.toNatClampNeg k0) (some sz)))))))) o (.inr (13, [.ref pl0, .int (wc0 + 1), .long ws0, .long wp0]))) (sz + 2) ws0 v) (k_RX7_52 S.2.2.2.2 (hE.2.1.1 _ (ckN_1 _ (List.mem_of_getElem? (i := 16) rfl))) ⟨Nat.le_of_ble_eq_true rfl, Nat.le_of_ble_eq_true rfl⟩) rfl rfl (Nat.le_of_ble_eq_true rfl) dX7_enlist_88 ⟨Nat.le_of_ble_eq_true rfl, Nat.le_of_ble_eq_true rfl⟩) (fun r u H locs hp hnz w => ?_)
  obtain ⟨rfl, rfl⟩ := hp
  dsimp only at w
  refine pf_RX7_22_13 (fs1 := [.ref pl0, .int (wc0 + 1), .long (pV ws0 v), .long wp0]) S hE w g_up_s rfl rfl (Nat.le_of_ble_eq_true rfl) rfl dX7_enlist_91 (fun H locs w => ?_)
  have w := g_eqw w g_over
  refine lv_aload_n hx hb dX7_enlist_94 rfl (lv_at hl 2 rfl) ?_
  refine lv_aload_n hx hb dX7_enlist_95 rfl (lv_at hl 2 rfl) ?_
  refine gf_RX7_26_13 S hE w g_up_s rfl dX7_enlist_96 ?_
  refine lv_ldc2 hx hb S.2.2.2.1 (S.2.2.2.2 _ m_4_134) dX7_enlist_99 ?_
  refine lv_lmul hx hb dX7_enlist_102 ?_
  refine lv_ldc2 hx hb S.2.2.2.1 (S.2.2.2.2 _ m_4_134) dX7_enlist_103 ?_
  refine lv_lmul hx hb dX7_enlist_106 ?_
  refine pf_RX7_26_13 (fs1 := [.ref pl0, .int (wc0 + 1), .long (pV ws0 v), .long ((wp0 * 31) * 31)]) S hE w g_up_s rfl rfl (Nat.le_of_ble_eq_true rfl) rfl dX7_enlist_107 (fun H locs w => ?_)
  have w := g_eqw w g_over
  exact g_vret hx hb hr hlk w (Nat.le_of_ble_eq_true rfl) (Nat.le_of_ble_eq_true rfl) dX7_enlist_110 rfl
set_option maxHeartbeats 4000000 in
set_option maxRecDepth 100000 in
theorem c_X7_en3 (l : Launch) (D : va_G) (ar : Nat → ClassId) (κ : Nat → Nat) (G : gW) (sz : Nat) (o : Nat) (v : Int64) (pl0 : Nat) (ws0 : Int64) (wp0 : Int64) (mc0 : Int32) (ho : G o = some (.inr (13, [.ref pl0, .int 0, .long ws0, .long wp0]))) (hpl : G pl0 = some (.inr (5, [.int mc0, .ref (κ 0), .int 0]))) : Met l yX7_enlist (lwC yX7_enlist cX7_enlist 5 none) (rD 5 3 523) (g_Pc D vwCl (gT ar) (EX1 κ) G sz [.ref o, .long v]) (g_Qv D vwCl (g_A G sz) (fun u => u = ((g_up (g_up (g_up (g_up (g_up G sz (.inr (8, [.ref (sz + 1)]))) (sz + 1) (.inl (ar 1, 512, .inr (.inl (pU (fun _ => 0) 512 0 v))))) pl0 (.inr (5, [.int (mc0 + 1), .ref (sz + 2), .int 1]))) (sz + 2) (.inl (ar 8, 10, .inr (.inr (.inr (.inr (va_up (fun _ => none) (Int32.toNatClampNeg 0) (some sz)))))))) o (.inr (13, [.ref pl0, .int 1, .long (pV ws0 v), .long ((wp0 * 31) * 31)]))), sz + 3))) 3 523 (g_A G sz) := by
  refine g_ofW (by decide +kernel) (Nat.le_of_ble_eq_true rfl) ?_
  intro p e s m below meth c ls S hr hlk hin hE w hl
  have hx := S.1
  have hb := S.2.1
  have hl : lv_has ls 5 [(0, .ref o), (1, .long v)] := hl
  have lt_ho : o < sz := g_ltn w ho
  have lt_hpl : pl0 < sz := g_ltn w hpl
  refine lv_aload_n hx hb dX7_enlist_0 rfl (lv_at hl 0 rfl) ?_
  refine gf_RX7_18_13 S hE w ho rfl dX7_enlist_1 ?_
  refine lv_sipush (v := 512) hx hb dX7_enlist_4 (by decide) ?_
  refine lv_idiv hx hb dX7_enlist_7 (by decide) ?_
  rw [show (0 / 512 : Int32) = 0 from by decide]
  refine lv_istore_n (lv' := [(3, .int 0), (0, .ref o), (1, .long v)]) hx hb dX7_enlist_8 rfl hl (by decide) rfl (fun ls hl => ?_)
  refine lv_iload_n hx hb dX7_enlist_9 rfl (lv_at hl 0 rfl) ?_
  refine lv_sipush (v := 6400) hx hb dX7_enlist_10 (by decide) ?_
  refine lv_icmp_lt (tgt := 17) hx hb dX7_enlist_13 (by decide) (fun _ => ?_) (fun c => absurd (by decide) c)
  refine lv_iload_n hx hb dX7_enlist_17 rfl (lv_at hl 0 rfl) ?_
  refine lv_aload_n hx hb dX7_enlist_18 rfl (lv_at hl 1 rfl) ?_
  refine gf_RX7_12_13 S hE w ho rfl dX7_enlist_19 ?_
  refine g_calli w (g_runV (As := []) (rest := [.int 0]) S hE w hl (c_AL_size l D ar κ G sz pl0 mc0 (κ 0) 0 hpl) (k_RX7_29 S.2.2.2.2 ⟨Nat.le_of_ble_eq_true rfl, Nat.le_of_ble_eq_true rfl⟩) hpl rfl rfl rfl rfl (Nat.le_of_ble_eq_true rfl) dX7_enlist_22 ⟨Nat.le_of_ble_eq_true rfl, Nat.le_of_ble_eq_true rfl⟩) (fun r u H locs hp hnz w => ?_)
  obtain ⟨hr9, rfl⟩ := hp
  rw [hr9]
  clear hr9
  dsimp only at w
  refine lv_icmp_lt (tgt := 43) hx hb dX7_enlist_25 (by decide) (fun c => absurd c (by decide)) (fun _ => ?_)
  refine lv_aload_n hx hb dX7_enlist_28 rfl (lv_at hl 1 rfl) ?_
  refine gf_RX7_12_13 S hE w ho rfl dX7_enlist_29 ?_
  refine nw_RX7_33 S hE w (Nat.le_of_ble_eq_true rfl) (Nat.le_of_ble_eq_true rfl) dX7_enlist_32 (fun H w => ?_)
  refine lv_dup hx hb dX7_enlist_35 rfl ?_
  refine g_callv w (g_runIN (As := []) (rest := [.ref sz, .ref pl0]) S hE w hl (c_X2_init l D ar κ (g_up G sz (.inr (8, [.null]))) (sz + 1) sz g_up_s) (k_RX7_35 S.2.2.2.2 (hE.2.1.1 _ (ckN_1 _ (List.mem_of_getElem? (i := 11) rfl))) ⟨Nat.le_of_ble_eq_true rfl, Nat.le_of_ble_eq_true rfl⟩) rfl rfl (Nat.le_of_ble_eq_true rfl) dX7_enlist_36 ⟨Nat.le_of_ble_eq_true rfl, Nat.le_of_ble_eq_true rfl⟩) (fun u H locs hp hnz w => ?_)
  obtain rfl := hp
  dsimp only at w
  have w := g_eqw w (g_inn g_over (by omega))
  refine g_calli w (g_runV (As := [.ref sz]) (rest := []) S hE w hl (c_AL_add_0 l D ar κ (g_up (g_up G sz (.inr (8, [.ref (sz + 1)]))) (sz + 1) (.inl (ar 1, 512, .inr (.inl (fun _ => 0))))) (sz + 2) pl0 sz mc0 (sz + 1) (g_up_o (by omega) (g_up_o (by omega) hpl)) (g_up_o (by omega) g_up_s)) (k_RX7_36 S.2.2.2.2 ⟨Nat.le_of_ble_eq_true rfl, Nat.le_of_ble_eq_true rfl⟩) (g_up_o (by omega) (g_up_o (by omega) hpl)) rfl rfl rfl rfl (Nat.le_of_ble_eq_true rfl) dX7_enlist_39 ⟨Nat.le_of_ble_eq_true rfl, Nat.le_of_ble_eq_true rfl⟩) (fun r u H locs hp hnz w => ?_)
  obtain ⟨rfl, rfl⟩ := hp
  dsimp only at w
  refine lv_pop hx hb dX7_enlist_42 rfl ?_
  refine lv_aload_n hx hb dX7_enlist_43 rfl (lv_at hl 1 rfl) ?_
  refine lv_iload_n hx hb dX7_enlist_44 rfl (lv_at hl 0 rfl) ?_
  refine g_callq w (g_runV (As := [.int 0]) (rest := []) S hE w hl (c_X7_pageAt l D ar κ (g_up (g_up (g_up (g_up G sz (.inr (8, [.ref (sz + 1)]))) (sz + 1) (.inl (ar 1, 512, .inr (.inl (fun _ => 0))))) pl0 (.inr (5, [.int (mc0 + 1), .ref (sz + 2), .int 1]))) (sz + 2) (.inl (ar 8, 10, .inr (.inr (.inr (.inr (va_up (fun _ => none) (Int32.toNatClampNeg 0) (some sz)))))))) (sz + 3) o 0 pl0 0 ws0 wp0 (mc0 + 1) (sz + 2) 1 (va_up (fun _ => none) (Int32.toNatClampNeg 0) (some sz)) sz (sz + 1) (g_up_o (by omega) (g_up_o (g_nx ho hpl (by simp)) (g_up_o (by omega) (g_up_o (by omega) ho)))) (g_up_o (by omega) g_up_s) g_up_s (g_up_o (by omega) (g_up_o (by omega) (g_up_o (by omega) g_up_s))) (by decide) (vp_in_nI (n := 0) (by decide) (by decide)) (if_pos rfl)) (k_RX7_40 S.2.2.2.2 ⟨Nat.le_of_ble_eq_true rfl, Nat.le_of_ble_eq_true rfl⟩) (g_up_o (by omega) (g_up_o (g_nx ho hpl (by simp)) (g_up_o (by omega) (g_up_o (by omega) ho)))) rfl rfl rfl rfl (Nat.le_of_ble_eq_true rfl) dX7_enlist_45 ⟨Nat.le_of_ble_eq_true rfl, Nat.le_of_ble_eq_true rfl⟩) (fun r u H locs hp hnz w => ?_)
  obtain ⟨rfl, rfl⟩ := hp
  dsimp only at w
  refine lv_astore (lv' := [(4, .ref sz), (3, .int 0), (0, .ref o), (1, .long v)]) hx hb dX7_enlist_48 hl (by decide) rfl (fun ls hl => ?_)
  refine lv_aload hx hb dX7_enlist_50 (lv_at hl 0 rfl) ?_
  refine lv_ifnull hx hb dX7_enlist_52 ?_
  refine lv_aload hx hb dX7_enlist_55 (lv_at hl 0 rfl) ?_
  refine gf_RX7_44_8 S hE w (g_up_o (by omega) (g_up_o (by omega) (g_up_o (by omega) g_up_s))) rfl dX7_enlist_57 ?_
  refine lv_aload_n hx hb dX7_enlist_60 rfl (lv_at hl 2 rfl) ?_
  refine gf_RX7_18_13 S hE w (g_up_o (by omega) (g_up_o (g_nx ho hpl (by simp)) (g_up_o (by omega) (g_up_o (by omega) ho)))) rfl dX7_enlist_61 ?_
  refine lv_sipush (v := 512) hx hb dX7_enlist_64 (by decide) ?_
  refine lv_irem hx hb dX7_enlist_67 (by decide) ?_
  rw [show (0 - 0 / 512 * 512 : Int32) = 0 from by decide]
  refine lv_lload_n hx hb dX7_enlist_68 rfl (lv_at hl 3 rfl) ?_
  refine g_callv w (g_runSN (As := [.ref (sz + 1), .int 0, .long v]) (rest := []) S hE w hl (c_putAt l D ar κ (g_up (g_up (g_up (g_up G sz (.inr (8, [.ref (sz + 1)]))) (sz + 1) (.inl (ar 1, 512, .inr (.inl (fun _ => 0))))) pl0 (.inr (5, [.int (mc0 + 1), .ref (sz + 2), .int 1]))) (sz + 2) (.inl (ar 8, 10, .inr (.inr (.inr (.inr (va_up (fun _ => none) (Int32.toNatClampNeg 0) (some sz)))))))) (sz + 3) (sz + 1) 0 v 512 (fun _ => 0) (g_up_o (by omega) (g_up_o (by omega) g_up_s)) (by decide)) (k_RX7_48 S.2.2.2.2 (hE.2.1.1 _ (ckN_1 _ (List.mem_of_getElem? (i := 15) rfl))) ⟨Nat.le_of_ble_eq_true rfl, Nat.le_of_ble_eq_true rfl⟩) rfl rfl (Nat.le_of_ble_eq_true rfl) dX7_enlist_69 ⟨Nat.le_of_ble_eq_true rfl, Nat.le_of_ble_eq_true rfl⟩) (fun u H locs hp hnz w => ?_)
  obtain rfl := hp
  dsimp only at w
  have w := g_eqw w (g_inn (g_inn g_over (by omega)) (by omega))
  refine lv_aload_n hx hb dX7_enlist_72 rfl (lv_at hl 2 rfl) ?_
  refine lv_dup hx hb dX7_enlist_73 rfl ?_
  refine gf_RX7_18_13 S hE w (g_up_o (by omega) (g_up_o (g_nx ho hpl (by simp)) (g_up_o (by omega) (g_up_o (by omega) ho)))) rfl dX7_enlist_74 ?_
  refine lv_iconst (v := 1) hx hb dX7_enlist_77 (by decide) ?_
  refine lv_iadd hx hb dX7_enlist_78 ?_
  rw [show (0 + 1 : Int32) = 1 by decide +kernel]
  refine pf_RX7_18_13 (fs1 := [.ref pl0, .int 1, .long ws0, .long wp0]) S hE w (g_up_o (by omega) (g_up_o (g_nx ho hpl (by simp)) (g_up_o (by omega) (g_up_o (by omega) ho)))) rfl rfl (Nat.le_of_ble_eq_true rfl) rfl dX7_enlist_79 (fun H locs w => ?_)
  refine lv_aload_n hx hb dX7_enlist_82 rfl (lv_at hl 2 rfl) ?_
  refine lv_aload_n hx hb dX7_enlist_83 rfl (lv_at hl 2 rfl) ?_
  refine gf_RX7_22_13 S hE w g_up_s rfl dX7_enlist_84 ?_
  refine lv_lload_n hx hb dX7_enlist_87 rfl (lv_at hl 3 rfl) ?_
  refine g_calll w (g_runSN (As := [.long ws0, .long v]) (rest := [.ref o]) S hE w hl (c_X8_plusValue l D ar κ (g_up (g_up (g_up (g_up (g_up G sz (.inr (8, [.ref (sz + 1)]))) (sz + 1) (.inl (ar 1, 512, .inr (.inl (pU (fun _ => 0) 512 0 v))))) pl0 (.inr (5, [.int (mc0 + 1), .ref (sz + 2), .int 1]))) (sz + 2) (.inl (ar 8, 10, .inr (.inr (.inr (.inr (va_up (fun _ => none) (Int32.toNatClampNeg 0) (some sz)))))))) o (.inr (13, [.ref pl0, .int 1, .long ws0, .long wp0]))) (sz + 3) ws0 v) (k_RX7_52 S.2.2.2.2 (hE.2.1.1 _ (ckN_1 _ (List.mem_of_getElem? (i := 16) rfl))) ⟨Nat.le_of_ble_eq_true rfl, Nat.le_of_ble_eq_true rfl⟩) rfl rfl (Nat.le_of_ble_eq_true rfl) dX7_enlist_88 ⟨Nat.le_of_ble_eq_true rfl, Nat.le_of_ble_eq_true rfl⟩) (fun r u H locs hp hnz w => ?_)
  obtain ⟨rfl, rfl⟩ := hp
  dsimp only at w
  refine pf_RX7_22_13 (fs1 := [.ref pl0, .int 1, .long (pV ws0 v), .long wp0]) S hE w g_up_s rfl rfl (Nat.le_of_ble_eq_true rfl) rfl dX7_enlist_91 (fun H locs w => ?_)
  have w := g_eqw w g_over
  refine lv_aload_n hx hb dX7_enlist_94 rfl (lv_at hl 2 rfl) ?_
  refine lv_aload_n hx hb dX7_enlist_95 rfl (lv_at hl 2 rfl) ?_
  refine gf_RX7_26_13 S hE w g_up_s rfl dX7_enlist_96 ?_
  refine lv_ldc2 hx hb S.2.2.2.1 (S.2.2.2.2 _ m_4_134) dX7_enlist_99 ?_
  refine lv_lmul hx hb dX7_enlist_102 ?_
  refine lv_ldc2 hx hb S.2.2.2.1 (S.2.2.2.2 _ m_4_134) dX7_enlist_103 ?_
  refine lv_lmul hx hb dX7_enlist_106 ?_
  refine pf_RX7_26_13 (fs1 := [.ref pl0, .int 1, .long (pV ws0 v), .long ((wp0 * 31) * 31)]) S hE w g_up_s rfl rfl (Nat.le_of_ble_eq_true rfl) rfl dX7_enlist_107 (fun H locs w => ?_)
  have w := g_eqw w g_over
  exact g_vret hx hb hr hlk w (Nat.le_of_ble_eq_true rfl) (Nat.le_of_ble_eq_true rfl) dX7_enlist_110 rfl
