theorem dJ8_newLength_cabcc_0 : decode cJ8_newLength_cabcc 0 = .ok (.iload_n 0, 1) := by decide +kernel
theorem dJ8_newLength_cabcc_1 : decode cJ8_newLength_cabcc 1 = .ok (.iload_n 1, 1) := by decide +kernel
theorem dJ8_newLength_cabcc_2 : decode cJ8_newLength_cabcc 2 = .ok (.iload_n 2, 1) := by decide +kernel
theorem dJ8_newLength_cabcc_3 : decode cJ8_newLength_cabcc 3 = .ok (.invokestatic 194, 3) := by decide +kernel
theorem dJ8_newLength_cabcc_6 : decode cJ8_newLength_cabcc 6 = .ok (.iadd, 1) := by decide +kernel
theorem dJ8_newLength_cabcc_7 : decode cJ8_newLength_cabcc 7 = .ok (.istore_n 3, 1) := by decide +kernel
theorem dJ8_newLength_cabcc_8 : decode cJ8_newLength_cabcc 8 = .ok (.iconst 0, 1) := by decide +kernel
theorem dJ8_newLength_cabcc_9 : decode cJ8_newLength_cabcc 9 = .ok (.iload_n 3, 1) := by decide +kernel
theorem dJ8_newLength_cabcc_10 : decode cJ8_newLength_cabcc 10 = .ok (.if_icmp .ge 11, 3) := by decide +kernel
theorem dJ8_newLength_cabcc_13 : decode cJ8_newLength_cabcc 13 = .ok (.iload_n 3, 1) := by decide +kernel
theorem dJ8_newLength_cabcc_14 : decode cJ8_newLength_cabcc 14 = .ok (.ldc 200, 2) := by decide +kernel
theorem dJ8_newLength_cabcc_16 : decode cJ8_newLength_cabcc 16 = .ok (.if_icmp .gt 5, 3) := by decide +kernel
theorem dJ8_newLength_cabcc_19 : decode cJ8_newLength_cabcc 19 = .ok (.iload_n 3, 1) := by decide +kernel
theorem dJ8_newLength_cabcc_20 : decode cJ8_newLength_cabcc 20 = .ok (.ireturn, 1) := by decide +kernel
theorem dJ8_newLength_cabcc_21 : decode cJ8_newLength_cabcc 21 = .ok (.iload_n 0, 1) := by decide +kernel
theorem dJ8_newLength_cabcc_22 : decode cJ8_newLength_cabcc 22 = .ok (.iload_n 1, 1) := by decide +kernel
theorem dJ8_newLength_cabcc_23 : decode cJ8_newLength_cabcc 23 = .ok (.invokestatic 201, 3) := by decide +kernel
theorem dJ8_newLength_cabcc_26 : decode cJ8_newLength_cabcc 26 = .ok (.ireturn, 1) := by decide +kernel
theorem dJ5_newCapacity_0f7a4_0 : decode cJ5_newCapacity_0f7a4 0 = .ok (.aload_n 0, 1) := by decide +kernel
theorem dJ5_newCapacity_0f7a4_1 : decode cJ5_newCapacity_0f7a4 1 = .ok (.getfield 15, 3) := by decide +kernel
theorem dJ5_newCapacity_0f7a4_4 : decode cJ5_newCapacity_0f7a4 4 = .ok (.arraylength, 1) := by decide +kernel
theorem dJ5_newCapacity_0f7a4_5 : decode cJ5_newCapacity_0f7a4 5 = .ok (.istore_n 2, 1) := by decide +kernel
theorem dJ5_newCapacity_0f7a4_6 : decode cJ5_newCapacity_0f7a4 6 = .ok (.iload_n 1, 1) := by decide +kernel
theorem dJ5_newCapacity_0f7a4_7 : decode cJ5_newCapacity_0f7a4 7 = .ok (.aload_n 0, 1) := by decide +kernel
theorem dJ5_newCapacity_0f7a4_8 : decode cJ5_newCapacity_0f7a4 8 = .ok (.getfield 22, 3) := by decide +kernel
theorem dJ5_newCapacity_0f7a4_11 : decode cJ5_newCapacity_0f7a4 11 = .ok (.ishl, 1) := by decide +kernel
theorem dJ5_newCapacity_0f7a4_12 : decode cJ5_newCapacity_0f7a4 12 = .ok (.istore_n 3, 1) := by decide +kernel
theorem dJ5_newCapacity_0f7a4_13 : decode cJ5_newCapacity_0f7a4 13 = .ok (.iload_n 3, 1) := by decide +kernel
theorem dJ5_newCapacity_0f7a4_14 : decode cJ5_newCapacity_0f7a4 14 = .ok (.iload_n 2, 1) := by decide +kernel
theorem dJ5_newCapacity_0f7a4_15 : decode cJ5_newCapacity_0f7a4 15 = .ok (.isub, 1) := by decide +kernel
theorem dJ5_newCapacity_0f7a4_16 : decode cJ5_newCapacity_0f7a4 16 = .ok (.istore 4, 2) := by decide +kernel
theorem dJ5_newCapacity_0f7a4_18 : decode cJ5_newCapacity_0f7a4 18 = .ok (.iload_n 2, 1) := by decide +kernel
theorem dJ5_newCapacity_0f7a4_19 : decode cJ5_newCapacity_0f7a4 19 = .ok (.iload 4, 2) := by decide +kernel
theorem dJ5_newCapacity_0f7a4_21 : decode cJ5_newCapacity_0f7a4 21 = .ok (.iload_n 2, 1) := by decide +kernel
theorem dJ5_newCapacity_0f7a4_22 : decode cJ5_newCapacity_0f7a4 22 = .ok (.iconst 2, 1) := by decide +kernel
theorem dJ5_newCapacity_0f7a4_23 : decode cJ5_newCapacity_0f7a4 23 = .ok (.aload_n 0, 1) := by decide +kernel
theorem dJ5_newCapacity_0f7a4_24 : decode cJ5_newCapacity_0f7a4 24 = .ok (.getfield 22, 3) := by decide +kernel
theorem dJ5_newCapacity_0f7a4_27 : decode cJ5_newCapacity_0f7a4 27 = .ok (.ishl, 1) := by decide +kernel
theorem dJ5_newCapacity_0f7a4_28 : decode cJ5_newCapacity_0f7a4 28 = .ok (.iadd, 1) := by decide +kernel
theorem dJ5_newCapacity_0f7a4_29 : decode cJ5_newCapacity_0f7a4 29 = .ok (.invokestatic 114, 3) := by decide +kernel
theorem dJ5_newCapacity_0f7a4_32 : decode cJ5_newCapacity_0f7a4 32 = .ok (.istore 5, 2) := by decide +kernel
theorem dJ5_newCapacity_0f7a4_34 : decode cJ5_newCapacity_0f7a4 34 = .ok (.iload 5, 2) := by decide +kernel
theorem dJ5_newCapacity_0f7a4_36 : decode cJ5_newCapacity_0f7a4 36 = .ok (.ldc 39, 2) := by decide +kernel
theorem dJ5_newCapacity_0f7a4_38 : decode cJ5_newCapacity_0f7a4 38 = .ok (.if_icmp .ne 13, 3) := by decide +kernel
theorem dJ5_newCapacity_0f7a4_41 : decode cJ5_newCapacity_0f7a4 41 = .ok (.new 120, 3) := by decide +kernel
theorem dJ5_newCapacity_0f7a4_44 : decode cJ5_newCapacity_0f7a4 44 = .ok (.dup, 1) := by decide +kernel
theorem dJ5_newCapacity_0f7a4_45 : decode cJ5_newCapacity_0f7a4 45 = .ok (.ldc 122, 2) := by decide +kernel
theorem dJ5_newCapacity_0f7a4_47 : decode cJ5_newCapacity_0f7a4 47 = .ok (.invokespecial 124, 3) := by decide +kernel
theorem dJ5_newCapacity_0f7a4_50 : decode cJ5_newCapacity_0f7a4 50 = .ok (.athrow, 1) := by decide +kernel
theorem dJ5_newCapacity_0f7a4_51 : decode cJ5_newCapacity_0f7a4 51 = .ok (.iload 5, 2) := by decide +kernel
theorem dJ5_newCapacity_0f7a4_53 : decode cJ5_newCapacity_0f7a4 53 = .ok (.aload_n 0, 1) := by decide +kernel
theorem dJ5_newCapacity_0f7a4_54 : decode cJ5_newCapacity_0f7a4 54 = .ok (.getfield 22, 3) := by decide +kernel
theorem dJ5_newCapacity_0f7a4_57 : decode cJ5_newCapacity_0f7a4 57 = .ok (.ishr, 1) := by decide +kernel
theorem dJ5_newCapacity_0f7a4_58 : decode cJ5_newCapacity_0f7a4 58 = .ok (.ireturn, 1) := by decide +kernel
theorem dJ7_copyOf_9075b_0 : decode cJ7_copyOf_9075b 0 = .ok (.iload_n 1, 1) := by decide +kernel
theorem dJ7_copyOf_9075b_1 : decode cJ7_copyOf_9075b 1 = .ok (.aload_n 0, 1) := by decide +kernel
theorem dJ7_copyOf_9075b_2 : decode cJ7_copyOf_9075b 2 = .ok (.arraylength, 1) := by decide +kernel
theorem dJ7_copyOf_9075b_3 : decode cJ7_copyOf_9075b 3 = .ok (.if_icmp .ne 11, 3) := by decide +kernel
theorem dJ7_copyOf_9075b_6 : decode cJ7_copyOf_9075b 6 = .ok (.aload_n 0, 1) := by decide +kernel
theorem dJ7_copyOf_9075b_7 : decode cJ7_copyOf_9075b 7 = .ok (.invokevirtual 310, 3) := by decide +kernel
theorem dJ7_copyOf_9075b_10 : decode cJ7_copyOf_9075b 10 = .ok (.checkcast 311, 3) := by decide +kernel
theorem dJ7_copyOf_9075b_13 : decode cJ7_copyOf_9075b 13 = .ok (.areturn, 1) := by decide +kernel
theorem dJ7_copyOf_9075b_14 : decode cJ7_copyOf_9075b 14 = .ok (.iload_n 1, 1) := by decide +kernel
theorem dJ7_copyOf_9075b_15 : decode cJ7_copyOf_9075b 15 = .ok (.newarray .byte, 2) := by decide +kernel
theorem dJ7_copyOf_9075b_17 : decode cJ7_copyOf_9075b 17 = .ok (.astore_n 2, 1) := by decide +kernel
theorem dJ7_copyOf_9075b_18 : decode cJ7_copyOf_9075b 18 = .ok (.aload_n 0, 1) := by decide +kernel
theorem dJ7_copyOf_9075b_19 : decode cJ7_copyOf_9075b 19 = .ok (.iconst 0, 1) := by decide +kernel
theorem dJ7_copyOf_9075b_20 : decode cJ7_copyOf_9075b 20 = .ok (.aload_n 2, 1) := by decide +kernel
theorem dJ7_copyOf_9075b_21 : decode cJ7_copyOf_9075b 21 = .ok (.iconst 0, 1) := by decide +kernel
theorem dJ7_copyOf_9075b_22 : decode cJ7_copyOf_9075b 22 = .ok (.aload_n 0, 1) := by decide +kernel
theorem dJ7_copyOf_9075b_23 : decode cJ7_copyOf_9075b 23 = .ok (.arraylength, 1) := by decide +kernel
theorem dJ7_copyOf_9075b_24 : decode cJ7_copyOf_9075b 24 = .ok (.iload_n 1, 1) := by decide +kernel
theorem dJ7_copyOf_9075b_25 : decode cJ7_copyOf_9075b 25 = .ok (.invokestatic 304, 3) := by decide +kernel
theorem dJ7_copyOf_9075b_28 : decode cJ7_copyOf_9075b 28 = .ok (.invokestatic 150, 3) := by decide +kernel
theorem dJ7_copyOf_9075b_31 : decode cJ7_copyOf_9075b 31 = .ok (.aload_n 2, 1) := by decide +kernel
theorem dJ7_copyOf_9075b_32 : decode cJ7_copyOf_9075b 32 = .ok (.areturn, 1) := by decide +kernel
theorem dJ5_ensureCapacityInternal_d00df_0 : decode cJ5_ensureCapacityInternal_d00df 0 = .ok (.aload_n 0, 1) := by decide +kernel
theorem dJ5_ensureCapacityInternal_d00df_1 : decode cJ5_ensureCapacityInternal_d00df 1 = .ok (.getfield 15, 3) := by decide +kernel
theorem dJ5_ensureCapacityInternal_d00df_4 : decode cJ5_ensureCapacityInternal_d00df 4 = .ok (.arraylength, 1) := by decide +kernel
theorem dJ5_ensureCapacityInternal_d00df_5 : decode cJ5_ensureCapacityInternal_d00df 5 = .ok (.aload_n 0, 1) := by decide +kernel
theorem dJ5_ensureCapacityInternal_d00df_6 : decode cJ5_ensureCapacityInternal_d00df 6 = .ok (.getfield 22, 3) := by decide +kernel
theorem dJ5_ensureCapacityInternal_d00df_9 : decode cJ5_ensureCapacityInternal_d00df 9 = .ok (.ishr, 1) := by decide +kernel
theorem dJ5_ensureCapacityInternal_d00df_10 : decode cJ5_ensureCapacityInternal_d00df 10 = .ok (.istore_n 2, 1) := by decide +kernel
theorem dJ5_ensureCapacityInternal_d00df_11 : decode cJ5_ensureCapacityInternal_d00df 11 = .ok (.iload_n 1, 1) := by decide +kernel
theorem dJ5_ensureCapacityInternal_d00df_12 : decode cJ5_ensureCapacityInternal_d00df 12 = .ok (.iload_n 2, 1) := by decide +kernel
theorem dJ5_ensureCapacityInternal_d00df_13 : decode cJ5_ensureCapacityInternal_d00df 13 = .ok (.isub, 1) := by decide +kernel
theorem dJ5_ensureCapacityInternal_d00df_14 : decode cJ5_ensureCapacityInternal_d00df 14 = .ok (.ifCond .le 24, 3) := by decide +kernel
theorem dJ5_ensureCapacityInternal_d00df_17 : decode cJ5_ensureCapacityInternal_d00df 17 = .ok (.aload_n 0, 1) := by decide +kernel
theorem dJ5_ensureCapacityInternal_d00df_18 : decode cJ5_ensureCapacityInternal_d00df 18 = .ok (.aload_n 0, 1) := by decide +kernel
theorem dJ5_ensureCapacityInternal_d00df_19 : decode cJ5_ensureCapacityInternal_d00df 19 = .ok (.getfield 15, 3) := by decide +kernel
theorem dJ5_ensureCapacityInternal_d00df_22 : decode cJ5_ensureCapacityInternal_d00df 22 = .ok (.aload_n 0, 1) := by decide +kernel
theorem dJ5_ensureCapacityInternal_d00df_23 : decode cJ5_ensureCapacityInternal_d00df 23 = .ok (.iload_n 1, 1) := by decide +kernel
theorem dJ5_ensureCapacityInternal_d00df_24 : decode cJ5_ensureCapacityInternal_d00df 24 = .ok (.invokevirtual 104, 3) := by decide +kernel
theorem dJ5_ensureCapacityInternal_d00df_27 : decode cJ5_ensureCapacityInternal_d00df 27 = .ok (.aload_n 0, 1) := by decide +kernel
theorem dJ5_ensureCapacityInternal_d00df_28 : decode cJ5_ensureCapacityInternal_d00df 28 = .ok (.getfield 22, 3) := by decide +kernel
theorem dJ5_ensureCapacityInternal_d00df_31 : decode cJ5_ensureCapacityInternal_d00df 31 = .ok (.ishl, 1) := by decide +kernel
theorem dJ5_ensureCapacityInternal_d00df_32 : decode cJ5_ensureCapacityInternal_d00df 32 = .ok (.invokestatic 108, 3) := by decide +kernel
theorem dJ5_ensureCapacityInternal_d00df_35 : decode cJ5_ensureCapacityInternal_d00df 35 = .ok (.putfield 15, 3) := by decide +kernel
theorem dJ5_ensureCapacityInternal_d00df_38 : decode cJ5_ensureCapacityInternal_d00df 38 = .ok (.return_, 1) := by decide +kernel
theorem dJ5_inflateIfNeededFor_a7421_0 : decode cJ5_inflateIfNeededFor_a7421 0 = .ok (.getstatic 18, 3) := by decide +kernel
theorem dJ5_inflateIfNeededFor_a7421_3 : decode cJ5_inflateIfNeededFor_a7421 3 = .ok (.ifCond .eq 18, 3) := by decide +kernel
theorem dJ5_inflateIfNeededFor_a7421_6 : decode cJ5_inflateIfNeededFor_a7421 6 = .ok (.aload_n 0, 1) := by decide +kernel
theorem dJ5_inflateIfNeededFor_a7421_7 : decode cJ5_inflateIfNeededFor_a7421 7 = .ok (.getfield 22, 3) := by decide +kernel
theorem dJ5_inflateIfNeededFor_a7421_10 : decode cJ5_inflateIfNeededFor_a7421 10 = .ok (.aload_n 1, 1) := by decide +kernel
theorem dJ5_inflateIfNeededFor_a7421_11 : decode cJ5_inflateIfNeededFor_a7421 11 = .ok (.invokevirtual 40, 3) := by decide +kernel
theorem dJ5_inflateIfNeededFor_a7421_14 : decode cJ5_inflateIfNeededFor_a7421 14 = .ok (.if_icmp .eq 7, 3) := by decide +kernel
theorem dJ5_inflateIfNeededFor_a7421_17 : decode cJ5_inflateIfNeededFor_a7421 17 = .ok (.aload_n 0, 1) := by decide +kernel
theorem dJ5_inflateIfNeededFor_a7421_18 : decode cJ5_inflateIfNeededFor_a7421 18 = .ok (.invokevirtual 195, 3) := by decide +kernel
theorem dJ5_inflateIfNeededFor_a7421_21 : decode cJ5_inflateIfNeededFor_a7421 21 = .ok (.return_, 1) := by decide +kernel
theorem dJ0_getBytes_840e7_0 : decode cJ0_getBytes_840e7 0 = .ok (.aload_n 0, 1) := by decide +kernel
theorem dJ0_getBytes_840e7_1 : decode cJ0_getBytes_840e7 1 = .ok (.invokevirtual 335, 3) := by decide +kernel
theorem dJ0_getBytes_840e7_4 : decode cJ0_getBytes_840e7 4 = .ok (.iload_n 3, 1) := by decide +kernel
theorem dJ0_getBytes_840e7_5 : decode cJ0_getBytes_840e7 5 = .ok (.if_icmp .ne 23, 3) := by decide +kernel
theorem dJ0_getBytes_840e7_8 : decode cJ0_getBytes_840e7 8 = .ok (.aload_n 0, 1) := by decide +kernel
theorem dJ0_getBytes_840e7_9 : decode cJ0_getBytes_840e7 9 = .ok (.getfield 9, 3) := by decide +kernel
theorem dJ0_getBytes_840e7_12 : decode cJ0_getBytes_840e7 12 = .ok (.iconst 0, 1) := by decide +kernel
theorem dJ0_getBytes_840e7_13 : decode cJ0_getBytes_840e7 13 = .ok (.aload_n 1, 1) := by decide +kernel
theorem dJ0_getBytes_840e7_14 : decode cJ0_getBytes_840e7 14 = .ok (.iload_n 2, 1) := by decide +kernel
theorem dJ0_getBytes_840e7_15 : decode cJ0_getBytes_840e7 15 = .ok (.iload_n 3, 1) := by decide +kernel
theorem dJ0_getBytes_840e7_16 : decode cJ0_getBytes_840e7 16 = .ok (.ishl, 1) := by decide +kernel
theorem dJ0_getBytes_840e7_17 : decode cJ0_getBytes_840e7 17 = .ok (.aload_n 0, 1) := by decide +kernel
theorem dJ0_getBytes_840e7_18 : decode cJ0_getBytes_840e7 18 = .ok (.getfield 9, 3) := by decide +kernel
theorem dJ0_getBytes_840e7_21 : decode cJ0_getBytes_840e7 21 = .ok (.arraylength, 1) := by decide +kernel
theorem dJ0_getBytes_840e7_22 : decode cJ0_getBytes_840e7 22 = .ok (.invokestatic 212, 3) := by decide +kernel
theorem dJ0_getBytes_840e7_25 : decode cJ0_getBytes_840e7 25 = .ok (.goto 18, 3) := by decide +kernel
theorem dJ0_getBytes_840e7_28 : decode cJ0_getBytes_840e7 28 = .ok (.aload_n 0, 1) := by decide +kernel
theorem dJ0_getBytes_840e7_29 : decode cJ0_getBytes_840e7 29 = .ok (.getfield 9, 3) := by decide +kernel
theorem dJ0_getBytes_840e7_32 : decode cJ0_getBytes_840e7 32 = .ok (.iconst 0, 1) := by decide +kernel
theorem dJ0_getBytes_840e7_33 : decode cJ0_getBytes_840e7 33 = .ok (.aload_n 1, 1) := by decide +kernel
theorem dJ0_getBytes_840e7_34 : decode cJ0_getBytes_840e7 34 = .ok (.iload_n 2, 1) := by decide +kernel
theorem dJ0_getBytes_840e7_35 : decode cJ0_getBytes_840e7 35 = .ok (.aload_n 0, 1) := by decide +kernel
theorem dJ0_getBytes_840e7_36 : decode cJ0_getBytes_840e7 36 = .ok (.getfield 9, 3) := by decide +kernel
theorem dJ0_getBytes_840e7_39 : decode cJ0_getBytes_840e7 39 = .ok (.arraylength, 1) := by decide +kernel
theorem dJ0_getBytes_840e7_40 : decode cJ0_getBytes_840e7 40 = .ok (.invokestatic 106, 3) := by decide +kernel
theorem dJ0_getBytes_840e7_43 : decode cJ0_getBytes_840e7 43 = .ok (.return_, 1) := by decide +kernel
theorem dJ5_putStringAt_47b60_0 : decode cJ5_putStringAt_47b60 0 = .ok (.aload_n 0, 1) := by decide +kernel
theorem dJ5_putStringAt_47b60_1 : decode cJ5_putStringAt_47b60 1 = .ok (.aload_n 2, 1) := by decide +kernel
theorem dJ5_putStringAt_47b60_2 : decode cJ5_putStringAt_47b60 2 = .ok (.invokevirtual 397, 3) := by decide +kernel
theorem dJ5_putStringAt_47b60_5 : decode cJ5_putStringAt_47b60 5 = .ok (.aload_n 2, 1) := by decide +kernel
theorem dJ5_putStringAt_47b60_6 : decode cJ5_putStringAt_47b60 6 = .ok (.aload_n 0, 1) := by decide +kernel
theorem dJ5_putStringAt_47b60_7 : decode cJ5_putStringAt_47b60 7 = .ok (.getfield 15, 3) := by decide +kernel
theorem dJ5_putStringAt_47b60_10 : decode cJ5_putStringAt_47b60 10 = .ok (.iload_n 1, 1) := by decide +kernel
theorem dJ5_putStringAt_47b60_11 : decode cJ5_putStringAt_47b60 11 = .ok (.aload_n 0, 1) := by decide +kernel
theorem dJ5_putStringAt_47b60_12 : decode cJ5_putStringAt_47b60 12 = .ok (.getfield 22, 3) := by decide +kernel
theorem dJ5_putStringAt_47b60_15 : decode cJ5_putStringAt_47b60 15 = .ok (.invokevirtual 399, 3) := by decide +kernel
theorem dJ5_putStringAt_47b60_18 : decode cJ5_putStringAt_47b60 18 = .ok (.return_, 1) := by decide +kernel
theorem dJ5_append_cf1ce_0 : decode cJ5_append_cf1ce 0 = .ok (.aload_n 1, 1) := by decide +kernel
theorem dJ5_append_cf1ce_1 : decode cJ5_append_cf1ce 1 = .ok (.ifnonnull 8, 3) := by decide +kernel
theorem dJ5_append_cf1ce_4 : decode cJ5_append_cf1ce 4 = .ok (.aload_n 0, 1) := by decide +kernel
theorem dJ5_append_cf1ce_5 : decode cJ5_append_cf1ce 5 = .ok (.invokevirtual 204, 3) := by decide +kernel
theorem dJ5_append_cf1ce_8 : decode cJ5_append_cf1ce 8 = .ok (.areturn, 1) := by decide +kernel
theorem dJ5_append_cf1ce_9 : decode cJ5_append_cf1ce 9 = .ok (.aload_n 1, 1) := by decide +kernel
theorem dJ5_append_cf1ce_10 : decode cJ5_append_cf1ce 10 = .ok (.invokevirtual 32, 3) := by decide +kernel
theorem dJ5_append_cf1ce_13 : decode cJ5_append_cf1ce 13 = .ok (.istore_n 2, 1) := by decide +kernel
theorem dJ5_append_cf1ce_14 : decode cJ5_append_cf1ce 14 = .ok (.aload_n 0, 1) := by decide +kernel
theorem dJ5_append_cf1ce_15 : decode cJ5_append_cf1ce 15 = .ok (.aload_n 0, 1) := by decide +kernel
theorem dJ5_append_cf1ce_16 : decode cJ5_append_cf1ce 16 = .ok (.getfield 79, 3) := by decide +kernel
theorem dJ5_append_cf1ce_19 : decode cJ5_append_cf1ce 19 = .ok (.iload_n 2, 1) := by decide +kernel
theorem dJ5_append_cf1ce_20 : decode cJ5_append_cf1ce 20 = .ok (.iadd, 1) := by decide +kernel
theorem dJ5_append_cf1ce_21 : decode cJ5_append_cf1ce 21 = .ok (.invokevirtual 100, 3) := by decide +kernel
theorem dJ5_append_cf1ce_24 : decode cJ5_append_cf1ce 24 = .ok (.aload_n 0, 1) := by decide +kernel
theorem dJ5_append_cf1ce_25 : decode cJ5_append_cf1ce 25 = .ok (.aload_n 0, 1) := by decide +kernel
theorem dJ5_append_cf1ce_26 : decode cJ5_append_cf1ce 26 = .ok (.getfield 79, 3) := by decide +kernel
theorem dJ5_append_cf1ce_29 : decode cJ5_append_cf1ce 29 = .ok (.aload_n 1, 1) := by decide +kernel
theorem dJ5_append_cf1ce_30 : decode cJ5_append_cf1ce 30 = .ok (.invokevirtual 208, 3) := by decide +kernel
theorem dJ5_append_cf1ce_33 : decode cJ5_append_cf1ce 33 = .ok (.aload_n 0, 1) := by decide +kernel
theorem dJ5_append_cf1ce_34 : decode cJ5_append_cf1ce 34 = .ok (.dup, 1) := by decide +kernel
theorem dJ5_append_cf1ce_35 : decode cJ5_append_cf1ce 35 = .ok (.getfield 79, 3) := by decide +kernel
theorem dJ5_append_cf1ce_38 : decode cJ5_append_cf1ce 38 = .ok (.iload_n 2, 1) := by decide +kernel
theorem dJ5_append_cf1ce_39 : decode cJ5_append_cf1ce 39 = .ok (.iadd, 1) := by decide +kernel
theorem dJ5_append_cf1ce_40 : decode cJ5_append_cf1ce 40 = .ok (.putfield 79, 3) := by decide +kernel
theorem dJ5_append_cf1ce_43 : decode cJ5_append_cf1ce 43 = .ok (.aload_n 0, 1) := by decide +kernel
theorem dJ5_append_cf1ce_44 : decode cJ5_append_cf1ce 44 = .ok (.areturn, 1) := by decide +kernel
section SITES
variable {p : Program} {l : Launch} {e : Env} {R : Room} {s : State} {m : MethodId} {args : Array Value} {below : List Frame} {meth : Method} {c : Code} {H : Heap} {locs : List Loc} {cells slots : Nat} {Q : State → Prop}
variable {pc : Nat} {ls : Array Slot} {rest : List Value} {D : va_G} {ar : Nat → ClassId} {κ : Nat → Nat} {A : Nat → Prop} {a : Nat} {H0 : Heap} {G : gW} {nz nL : Nat} {cc : ByteArray}
theorem m_4_58 : (Cond.methodLink RJ8 194 yJ9_max_7cf53) ∈ lwA := lwA_mk (ck_4 _ (List.mem_of_getElem? (i := 58) rfl)) rfl
theorem m_4_61 : (Cond.constant RJ8 200 (2147483639)) ∈ lwA := lwA_mk (ck_4 _ (List.mem_of_getElem? (i := 61) rfl)) rfl
theorem inA_RJ4 : ∀ w ∈ u_ws RJ4 TJ4 4, w ∈ lwA := gA_r _ [933, 935, 937, 939] (by decide +kernel) (by decide +kernel)
theorem m_4_168 : (Cond.fieldLink RJ5 15 "java/lang/AbstractStringBuilder" "value" "[B") ∈ lwA := lwA_mk (ck_4 _ (List.mem_of_getElem? (i := 168) rfl)) rfl
theorem gf_RJ5_15_1 {A9 : Nat → Prop} {H9 : Heap} {fs : List Value} {v : Value} (S : CallFix p m c cc nL s args lwA RJ5) (hE : g_E D vwCl (gT ar) (EX1 κ) A9 s H9) (w : g_S D vwCl A H0 G H locs nz) (ha : G a = some (.inr (1, fs))) (hv : fs[0]? = some v) (hdg : decode cc pc = .ok (.getfield 15, 3)) (kk : W p l e R s m args below meth c H locs cells slots Q (F0 m (pc + 3) ls (v :: rest))) : W p l e R s m args below meth c H locs cells slots Q (F0 m pc ls (.ref a :: rest)) :=
  va_get (ci := 1) (C := RJ4) (T := TJ4) (N := 4) S.1 S.2.1 S.2.2.2.2 inA_RJ4 S.2.2.2.1 hE.1 (g_1 w.1 ha) 0 rfl rfl 0 (by decide) (S.2.2.2.2 _ m_4_168) (fun _ h => h) hv hdg kk
theorem m_4_169 : (Cond.fieldLink RJ5 22 "java/lang/AbstractStringBuilder" "coder" "B") ∈ lwA := lwA_mk (ck_4 _ (List.mem_of_getElem? (i := 169) rfl)) rfl
theorem gf_RJ5_22_1 {A9 : Nat → Prop} {H9 : Heap} {fs : List Value} {v : Value} (S : CallFix p m c cc nL s args lwA RJ5) (hE : g_E D vwCl (gT ar) (EX1 κ) A9 s H9) (w : g_S D vwCl A H0 G H locs nz) (ha : G a = some (.inr (1, fs))) (hv : fs[1]? = some v) (hdg : decode cc pc = .ok (.getfield 22, 3)) (kk : W p l e R s m args below meth c H locs cells slots Q (F0 m (pc + 3) ls (v :: rest))) : W p l e R s m args below meth c H locs cells slots Q (F0 m pc ls (.ref a :: rest)) :=
  va_get (ci := 1) (C := RJ4) (T := TJ4) (N := 4) S.1 S.2.1 S.2.2.2.2 inA_RJ4 S.2.2.2.1 hE.1 (g_1 w.1 ha) 0 rfl rfl 1 (by decide) (S.2.2.2.2 _ m_4_169) (fun _ h => h) hv hdg kk
theorem m_4_57 : (Cond.code yJ8_newLength_cabcc cJ8_newLength_cabcc 4 (some .int)) ∈ lwA := lwA_mk (ck_4 _ (List.mem_of_getElem? (i := 57) rfl)) rfl
theorem m_1_23 : (Cond.initialized RJ8) ∈ lwA := lwA_mk (ck_1 _ (List.mem_of_getElem? (i := 23) rfl)) rfl
theorem m_4_201 : (Cond.methodLink RJ5 114 yJ8_newLength_cabcc) ∈ lwA := lwA_mk (ck_4 _ (List.mem_of_getElem? (i := 201) rfl)) rfl
theorem m_4_56 : (Cond.static yJ8_newLength_cabcc) ∈ lwA := lwA_mk (ck_4 _ (List.mem_of_getElem? (i := 56) rfl)) rfl
theorem k_RJ5_114 {args : Array Value} {s : State} {R rm : Room} (hts : ∀ w ∈ lwA, w.before args s = true) (hR : rm.frames + 1 ≤ R.frames ∧ 8 + (4 + 11) + rm.locals ≤ R.locals) : CallB R s args RJ5 114 yJ8_newLength_cabcc cJ8_newLength_cabcc 4 (some .int) (lwC yJ8_newLength_cabcc cJ8_newLength_cabcc 4 (some .int)) rm rm.cells rm.slots 3 ∧ (Cond.static yJ8_newLength_cabcc).before args s = true := va_cwS 3 hts (gdT m_4_201 m_4_56 m_1_23 m_4_57) rfl rfl rfl (by decide +kernel) hR
theorem m_4_202 : (Cond.constant RJ5 39 (2147483647)) ∈ lwA := lwA_mk (ck_4 _ (List.mem_of_getElem? (i := 202) rfl)) rfl
theorem m_4_200 : (Cond.code yJ5_newCapacity_0f7a4 cJ5_newCapacity_0f7a4 6 (some .int)) ∈ lwA := lwA_mk (ck_4 _ (List.mem_of_getElem? (i := 200) rfl)) rfl
theorem m_1_20 : (Cond.initialized RJ5) ∈ lwA := lwA_mk (ck_1 _ (List.mem_of_getElem? (i := 20) rfl)) rfl
theorem m_4_197 : (Cond.methodLink RJ5 104 ⟨"java/lang/AbstractStringBuilder", "newCapacity", "(I)I"⟩) ∈ lwA := lwA_mk (ck_4 _ (List.mem_of_getElem? (i := 197) rfl)) rfl
theorem m_4_199 : (Cond.instanceMethod yJ5_newCapacity_0f7a4) ∈ lwA := lwA_mk (ck_4 _ (List.mem_of_getElem? (i := 199) rfl)) rfl
theorem m_8_89 : (Cond.sameMethod "java/lang/AbstractStringBuilder" "java/lang/AbstractStringBuilder" "newCapacity" "(I)I") ∈ lwA := lwA_mk (ck_8 _ (List.mem_of_getElem? (i := 89) rfl)) rfl
theorem m_4_216 : (Cond.selects RJ4 ⟨"java/lang/AbstractStringBuilder", "isLatin1", "()Z"⟩ yJ5_isLatin1_aae02) ∈ lwA := lwA_mk (ck_4 _ (List.mem_of_getElem? (i := 216) rfl)) rfl
theorem kU_RJ5_104 {args : Array Value} {s : State} {R rm : Room} (hts : ∀ w ∈ lwA, w.before args s = true) (hpv : va_Nw (.privateMethod ⟨"java/lang/AbstractStringBuilder", "newCapacity", "(I)I"⟩) s) (hR : rm.frames + 1 ≤ R.frames ∧ 8 + (6 + 11) + rm.locals ≤ R.locals) : va_CU R s args RJ5 RJ4 "java/lang/AbstractStringBuilder" 104 yJ5_newCapacity_0f7a4 yJ5_newCapacity_0f7a4 cJ5_newCapacity_0f7a4 6 (some .int) (lwC yJ5_newCapacity_0f7a4 cJ5_newCapacity_0f7a4 6 (some .int)) rm rm.cells rm.slots 1 := va_cuP 1 hts m_4_200 m_1_20 m_4_197 m_8_89 m_4_199 (sel_priv (z1 := yJ5_isLatin1_aae02) (by decide +kernel) rfl (hts _ m_4_216) (va_Nw.use rfl hpv) (hts _ m_4_199)) rfl (by decide +kernel) hR
theorem m_4_205 : (Cond.code yJ7_copyOf_9075b cJ7_copyOf_9075b 3 (some (.array .byte))) ∈ lwA := lwA_mk (ck_4 _ (List.mem_of_getElem? (i := 205) rfl)) rfl
theorem m_4_203 : (Cond.methodLink RJ5 108 yJ7_copyOf_9075b) ∈ lwA := lwA_mk (ck_4 _ (List.mem_of_getElem? (i := 203) rfl)) rfl
theorem m_4_204 : (Cond.static yJ7_copyOf_9075b) ∈ lwA := lwA_mk (ck_4 _ (List.mem_of_getElem? (i := 204) rfl)) rfl
theorem k_RJ5_108 {args : Array Value} {s : State} {R rm : Room} (hts : ∀ w ∈ lwA, w.before args s = true) (hR : rm.frames + 1 ≤ R.frames ∧ 8 + (3 + 11) + rm.locals ≤ R.locals) : CallB R s args RJ5 108 yJ7_copyOf_9075b cJ7_copyOf_9075b 3 (some (.array .byte)) (lwC yJ7_copyOf_9075b cJ7_copyOf_9075b 3 (some (.array .byte))) rm rm.cells rm.slots 2 ∧ (Cond.static yJ7_copyOf_9075b).before args s = true := va_cwS 2 hts (gdT m_4_203 m_4_204 m_1_10 m_4_205) rfl rfl rfl (by decide +kernel) hR
theorem pf_RJ5_15_1 {A9 : Nat → Prop} {H9 : Heap} {fs : List Value} {v : Value} (S : CallFix p m c cc nL s args lwA RJ5) (hE : g_E D vwCl (gT ar) (EX1 κ) A9 s H9) (w : g_S D vwCl A H0 G H locs nz) (ha : G a = some (.inr (1, fs))) (hn : narrow (.array .byte) v = v) (hfit : fits (.array .byte) v = true) (hl : 0 < fs.length) {fs1 : List Value} (hfs : fs.set 0 v = fs1) (hdg : decode cc pc = .ok (.putfield 15, 3)) (kk : ∀ (H1 : Heap) (locs1 : List Loc), g_S D vwCl A H0 (g_up G a (.inr (1, fs1))) H1 locs1 nz → W p l e R s m args below meth c H1 locs1 cells slots Q (F0 m (pc + 3) ls rest)) : W p l e R s m args below meth c H locs cells slots Q (F0 m pc ls (v :: .ref a :: rest)) :=
  g_put (ci := 1) (ty := (.array .byte)) (C := RJ4) (T := TJ4) (N := 4) S.1 S.2.1 S.2.2.2.2 inA_RJ4 tyJ4 tyJ4_ok nmJ4 S.2.2.2.1 hE.1 w ha rfl 0 (by decide) (S.2.2.2.2 _ m_4_168) (fun _ h => h) rfl (by decide +kernel) hn hfit hl hdg (fun H1 l1 w1 => kk H1 l1 (by rw [← hfs]; exact w1))
theorem m_4_159 : (Cond.fieldLink RJ5 18 "java/lang/String" "COMPACT_STRINGS" "Z") ∈ lwA := lwA_mk (ck_4 _ (List.mem_of_getElem? (i := 159) rfl)) rfl
theorem m_5_21 : (Cond.methodLink RJ5 40 yJ0_coder_7d493) ∈ lwA := lwA_mk (ck_5 _ (List.mem_of_getElem? (i := 21) rfl)) rfl
theorem k_RJ5_40 {args : Array Value} {s : State} {R rm : Room} (hts : ∀ w ∈ lwA, w.before args s = true) (hR : rm.frames + 1 ≤ R.frames ∧ 8 + (1 + 11) + rm.locals ≤ R.locals) : CallW R s args RJ5 RJ0 40 yJ0_coder_7d493 cJ0_coder_7d493 1 (some .byte) (lwC yJ0_coder_7d493 cJ0_coder_7d493 1 (some .byte)) rm rm.cells rm.slots 0 := cwV 0 hts (gdV m_5_21 m_5_9 m_5_10 m_1_17 m_5_11) rfl rfl rfl (by decide +kernel) hR
theorem m_5_45 : (Cond.methodLink RJ0 212 arraycopyName) ∈ lwA := lwA_mk (ck_5 _ (List.mem_of_getElem? (i := 45) rfl)) rfl
theorem m_5_20 : (Cond.code yJ5_inflateIfNeededFor_a7421 cJ5_inflateIfNeededFor_a7421 2 none) ∈ lwA := lwA_mk (ck_5 _ (List.mem_of_getElem? (i := 20) rfl)) rfl
theorem m_5_17 : (Cond.methodLink RJ5 397 ⟨"java/lang/AbstractStringBuilder", "inflateIfNeededFor", "(Ljava/lang/String;)V"⟩) ∈ lwA := lwA_mk (ck_5 _ (List.mem_of_getElem? (i := 17) rfl)) rfl
theorem m_5_19 : (Cond.instanceMethod yJ5_inflateIfNeededFor_a7421) ∈ lwA := lwA_mk (ck_5 _ (List.mem_of_getElem? (i := 19) rfl)) rfl
theorem m_8_91 : (Cond.sameMethod "java/lang/AbstractStringBuilder" "java/lang/AbstractStringBuilder" "inflateIfNeededFor" "(Ljava/lang/String;)V") ∈ lwA := lwA_mk (ck_8 _ (List.mem_of_getElem? (i := 91) rfl)) rfl
theorem kU_RJ5_397 {args : Array Value} {s : State} {R rm : Room} (hts : ∀ w ∈ lwA, w.before args s = true) (hpv : va_Nw (.privateMethod ⟨"java/lang/AbstractStringBuilder", "inflateIfNeededFor", "(Ljava/lang/String;)V"⟩) s) (hR : rm.frames + 1 ≤ R.frames ∧ 8 + (2 + 11) + rm.locals ≤ R.locals) : va_CU R s args RJ5 RJ4 "java/lang/AbstractStringBuilder" 397 yJ5_inflateIfNeededFor_a7421 yJ5_inflateIfNeededFor_a7421 cJ5_inflateIfNeededFor_a7421 2 none (lwC yJ5_inflateIfNeededFor_a7421 cJ5_inflateIfNeededFor_a7421 2 none) rm rm.cells rm.slots 1 := va_cuP 1 hts m_5_20 m_1_20 m_5_17 m_8_91 m_5_19 (sel_priv (z1 := yJ5_isLatin1_aae02) (by decide +kernel) rfl (hts _ m_4_216) (va_Nw.use rfl hpv) (hts _ m_5_19)) rfl (by decide +kernel) hR
theorem m_5_44 : (Cond.code yJ0_getBytes_840e7 cJ0_getBytes_840e7 4 none) ∈ lwA := lwA_mk (ck_5 _ (List.mem_of_getElem? (i := 44) rfl)) rfl
theorem m_5_41 : (Cond.methodLink RJ5 399 yJ0_getBytes_840e7) ∈ lwA := lwA_mk (ck_5 _ (List.mem_of_getElem? (i := 41) rfl)) rfl
theorem m_5_42 : (Cond.instanceMethod yJ0_getBytes_840e7) ∈ lwA := lwA_mk (ck_5 _ (List.mem_of_getElem? (i := 42) rfl)) rfl
theorem m_5_43 : (Cond.selects RJ0 yJ0_getBytes_840e7 yJ0_getBytes_840e7) ∈ lwA := lwA_mk (ck_5 _ (List.mem_of_getElem? (i := 43) rfl)) rfl
theorem k_RJ5_399 {args : Array Value} {s : State} {R rm : Room} (hts : ∀ w ∈ lwA, w.before args s = true) (hR : rm.frames + 1 ≤ R.frames ∧ 8 + (4 + 11) + rm.locals ≤ R.locals) : CallW R s args RJ5 RJ0 399 yJ0_getBytes_840e7 cJ0_getBytes_840e7 4 none (lwC yJ0_getBytes_840e7 cJ0_getBytes_840e7 4 none) rm rm.cells rm.slots 3 := cwV 3 hts (gdV m_5_41 m_5_42 m_5_43 m_1_17 m_5_44) rfl rfl rfl (by decide +kernel) hR
theorem m_5_4 : (Cond.methodLink RJ5 32 yJ0_length_8abf5) ∈ lwA := lwA_mk (ck_5 _ (List.mem_of_getElem? (i := 4) rfl)) rfl
theorem k_RJ5_32 {args : Array Value} {s : State} {R rm : Room} (hts : ∀ w ∈ lwA, w.before args s = true) (hR : rm.frames + 1 ≤ R.frames ∧ 8 + (1 + 11) + rm.locals ≤ R.locals) : CallW R s args RJ5 RJ0 32 yJ0_length_8abf5 cJ0_length_8abf5 1 (some .int) (lwC yJ0_length_8abf5 cJ0_length_8abf5 1 (some .int)) rm rm.cells rm.slots 0 := cwV 0 hts (gdV m_5_4 m_5_5 m_5_6 m_1_17 m_5_7) rfl rfl rfl (by decide +kernel) hR
theorem m_4_171 : (Cond.fieldLink RJ5 79 "java/lang/AbstractStringBuilder" "count" "I") ∈ lwA := lwA_mk (ck_4 _ (List.mem_of_getElem? (i := 171) rfl)) rfl
theorem gf_RJ5_79_1 {A9 : Nat → Prop} {H9 : Heap} {fs : List Value} {v : Value} (S : CallFix p m c cc nL s args lwA RJ5) (hE : g_E D vwCl (gT ar) (EX1 κ) A9 s H9) (w : g_S D vwCl A H0 G H locs nz) (ha : G a = some (.inr (1, fs))) (hv : fs[3]? = some v) (hdg : decode cc pc = .ok (.getfield 79, 3)) (kk : W p l e R s m args below meth c H locs cells slots Q (F0 m (pc + 3) ls (v :: rest))) : W p l e R s m args below meth c H locs cells slots Q (F0 m pc ls (.ref a :: rest)) :=
  va_get (ci := 1) (C := RJ4) (T := TJ4) (N := 4) S.1 S.2.1 S.2.2.2.2 inA_RJ4 S.2.2.2.1 hE.1 (g_1 w.1 ha) 0 rfl rfl 3 (by decide) (S.2.2.2.2 _ m_4_171) (fun _ h => h) hv hdg kk
theorem m_4_196 : (Cond.code yJ5_ensureCapacityInternal_d00df cJ5_ensureCapacityInternal_d00df 3 none) ∈ lwA := lwA_mk (ck_4 _ (List.mem_of_getElem? (i := 196) rfl)) rfl
theorem m_4_193 : (Cond.methodLink RJ5 100 ⟨"java/lang/AbstractStringBuilder", "ensureCapacityInternal", "(I)V"⟩) ∈ lwA := lwA_mk (ck_4 _ (List.mem_of_getElem? (i := 193) rfl)) rfl
theorem m_4_195 : (Cond.instanceMethod yJ5_ensureCapacityInternal_d00df) ∈ lwA := lwA_mk (ck_4 _ (List.mem_of_getElem? (i := 195) rfl)) rfl
theorem m_8_88 : (Cond.sameMethod "java/lang/AbstractStringBuilder" "java/lang/AbstractStringBuilder" "ensureCapacityInternal" "(I)V") ∈ lwA := lwA_mk (ck_8 _ (List.mem_of_getElem? (i := 88) rfl)) rfl
theorem kU_RJ5_100 {args : Array Value} {s : State} {R rm : Room} (hts : ∀ w ∈ lwA, w.before args s = true) (hpv : va_Nw (.privateMethod ⟨"java/lang/AbstractStringBuilder", "ensureCapacityInternal", "(I)V"⟩) s) (hR : rm.frames + 1 ≤ R.frames ∧ 8 + (3 + 11) + rm.locals ≤ R.locals) : va_CU R s args RJ5 RJ4 "java/lang/AbstractStringBuilder" 100 yJ5_ensureCapacityInternal_d00df yJ5_ensureCapacityInternal_d00df cJ5_ensureCapacityInternal_d00df 3 none (lwC yJ5_ensureCapacityInternal_d00df cJ5_ensureCapacityInternal_d00df 3 none) rm rm.cells rm.slots 1 := va_cuP 1 hts m_4_196 m_1_20 m_4_193 m_8_88 m_4_195 (sel_priv (z1 := yJ5_isLatin1_aae02) (by decide +kernel) rfl (hts _ m_4_216) (va_Nw.use rfl hpv) (hts _ m_4_195)) rfl (by decide +kernel) hR
theorem m_5_16 : (Cond.code yJ5_putStringAt_47b60 cJ5_putStringAt_47b60 3 none) ∈ lwA := lwA_mk (ck_5 _ (List.mem_of_getElem? (i := 16) rfl)) rfl
theorem m_5_13 : (Cond.methodLink RJ5 208 ⟨"java/lang/AbstractStringBuilder", "putStringAt", "(ILjava/lang/String;)V"⟩) ∈ lwA := lwA_mk (ck_5 _ (List.mem_of_getElem? (i := 13) rfl)) rfl
theorem m_5_15 : (Cond.instanceMethod yJ5_putStringAt_47b60) ∈ lwA := lwA_mk (ck_5 _ (List.mem_of_getElem? (i := 15) rfl)) rfl
theorem m_8_90 : (Cond.sameMethod "java/lang/AbstractStringBuilder" "java/lang/AbstractStringBuilder" "putStringAt" "(ILjava/lang/String;)V") ∈ lwA := lwA_mk (ck_8 _ (List.mem_of_getElem? (i := 90) rfl)) rfl
theorem kU_RJ5_208 {args : Array Value} {s : State} {R rm : Room} (hts : ∀ w ∈ lwA, w.before args s = true) (hpv : va_Nw (.privateMethod ⟨"java/lang/AbstractStringBuilder", "putStringAt", "(ILjava/lang/String;)V"⟩) s) (hR : rm.frames + 1 ≤ R.frames ∧ 8 + (3 + 11) + rm.locals ≤ R.locals) : va_CU R s args RJ5 RJ4 "java/lang/AbstractStringBuilder" 208 yJ5_putStringAt_47b60 yJ5_putStringAt_47b60 cJ5_putStringAt_47b60 3 none (lwC yJ5_putStringAt_47b60 cJ5_putStringAt_47b60 3 none) rm rm.cells rm.slots 2 := va_cuP 2 hts m_5_16 m_1_20 m_5_13 m_8_90 m_5_15 (sel_priv (z1 := yJ5_isLatin1_aae02) (by decide +kernel) rfl (hts _ m_4_216) (va_Nw.use rfl hpv) (hts _ m_5_15)) rfl (by decide +kernel) hR
theorem pf_RJ5_79_1 {A9 : Nat → Prop} {H9 : Heap} {fs : List Value} {v : Value} (S : CallFix p m c cc nL s args lwA RJ5) (hE : g_E D vwCl (gT ar) (EX1 κ) A9 s H9) (w : g_S D vwCl A H0 G H locs nz) (ha : G a = some (.inr (1, fs))) (hn : narrow .int v = v) (hfit : fits .int v = true) (hl : 3 < fs.length) {fs1 : List Value} (hfs : fs.set 3 v = fs1) (hdg : decode cc pc = .ok (.putfield 79, 3)) (kk : ∀ (H1 : Heap) (locs1 : List Loc), g_S D vwCl A H0 (g_up G a (.inr (1, fs1))) H1 locs1 nz → W p l e R s m args below meth c H1 locs1 cells slots Q (F0 m (pc + 3) ls rest)) : W p l e R s m args below meth c H locs cells slots Q (F0 m pc ls (v :: .ref a :: rest)) :=
  g_put (ci := 1) (ty := .int) (C := RJ4) (T := TJ4) (N := 4) S.1 S.2.1 S.2.2.2.2 inA_RJ4 tyJ4 tyJ4_ok nmJ4 S.2.2.2.1 hE.1 w ha rfl 3 (by decide) (S.2.2.2.2 _ m_4_171) (fun _ h => h) rfl (by decide +kernel) hn hfit hl hdg (fun H1 l1 w1 => kk H1 l1 (by rw [← hfs]; exact w1))
end SITES
set_option maxHeartbeats 4000000 in
set_option maxRecDepth 100000 in
theorem j_newLength (l : Launch) (D : va_G) (ar : Nat → ClassId) (κ : Nat → Nat) (G : gW) (sz : Nat) (o9 : Nat) (g9 : Nat) (p9 : Nat) (h0 : 0 < o9) (h1 : o9 + max g9 p9 < 2 ^ 20) (h2 : g9 < 2 ^ 20) (h3 : p9 < 2 ^ 20) : Met l yJ8_newLength_cabcc (lwC yJ8_newLength_cabcc cJ8_newLength_cabcc 4 (some .int)) (rD 1 0 0) (g_Pc D vwCl (gT ar) (EX1 κ) G sz [.int (nI o9), .int (nI g9), .int (nI p9)]) (g_Qi D vwCl (g_A G sz) (fun r u => r = nI (o9 + max g9 p9) ∧ u = (G, sz))) 0 0 (g_A G sz) := by
  refine g_ofW (by decide +kernel) (Nat.le_of_ble_eq_true rfl) ?_
  intro p e s m below meth c ls S hr hlk hin hE w hl
  have hx := S.1
  have hb := S.2.1
  have hl : lv_has ls 4 [(0, .int (nI o9)), (1, .int (nI g9)), (2, .int (nI p9))] := hl
  refine lv_iload_n hx hb dJ8_newLength_cabcc_0 rfl (lv_at hl 0 rfl) ?_
  refine lv_iload_n hx hb dJ8_newLength_cabcc_1 rfl (lv_at hl 1 rfl) ?_
  refine lv_iload_n hx hb dJ8_newLength_cabcc_2 rfl (lv_at hl 2 rfl) ?_
  refine va_mmax hx hb (hl.1.trans S.2.2.1.symm).symm S.2.2.2.1 (S.2.2.2.2 _ m_4_58) (S.2.2.2.2 _ m_4_59) (S.2.2.2.2 _ m_1_24) (S.2.2.2.2 _ m_4_60) (Nat.le_of_ble_eq_true rfl) (Nat.le_of_ble_eq_true rfl) (Nat.le_of_ble_eq_true rfl) (Nat.le_of_ble_eq_true rfl) dJ8_newLength_cabcc_3 ?_
  rw [show (if ((nI g9) : Int32) < (nI p9) then ((nI p9) : Int32) else (nI g9)) = nI (max g9 p9) from maxN (by omega) (by omega)]
  refine lv_iadd hx hb dJ8_newLength_cabcc_6 ?_
  rw [show ((nI o9) + (nI (max g9 p9)) : Int32) = nI (o9 + max g9 p9) from nI_add _ _]
  refine lv_istore_n (lv' := [(3, .int (nI (o9 + max g9 p9))), (0, .int (nI o9)), (1, .int (nI g9)), (2, .int (nI p9))]) hx hb dJ8_newLength_cabcc_7 rfl hl (by decide) rfl (fun ls hl => ?_)
  refine lv_iconst (v := 0) hx hb dJ8_newLength_cabcc_8 (by decide) ?_
  refine lv_iload_n hx hb dJ8_newLength_cabcc_9 rfl (lv_at hl 0 rfl) ?_
  refine lv_icmp_ge (tgt := 21) hx hb dJ8_newLength_cabcc_10 (by decide) (fun c_10 => absurd c_10 (nI_nle (n := o9 + max g9 p9) (by omega) (by omega))) (fun c_10 => ?_)
  refine lv_iload_n hx hb dJ8_newLength_cabcc_13 rfl (lv_at hl 0 rfl) ?_
  refine lv_ldc hx hb S.2.2.2.1 (S.2.2.2.2 _ m_4_61) dJ8_newLength_cabcc_14 ?_
  refine lv_icmp_gt (tgt := 21) hx hb dJ8_newLength_cabcc_16 (by decide) (fun c_16 => absurd c_16 (nI_nlt (a := 2147483639) (b := o9 + max g9 p9) (by omega) (by omega))) (fun c_16 => ?_)
  refine lv_iload_n hx hb dJ8_newLength_cabcc_19 rfl (lv_at hl 0 rfl) ?_
  exact g_iret hx hb hr hlk w (Nat.le_of_ble_eq_true rfl) (Nat.le_of_ble_eq_true rfl) dJ8_newLength_cabcc_20 ⟨rfl, rfl⟩
set_option maxHeartbeats 4000000 in
set_option maxRecDepth 100000 in
theorem j_newCapacity (l : Launch) (D : va_G) (ar : Nat → ClassId) (κ : Nat → Nat) (G : gW) (sz : Nat) (q : Nat) (v : Nat) (cs : List Int32) (ml : Int32) (k9 : Nat) (m9 : Nat) (hq : G q = some (.inr (1, [.ref v, .int 0, .int ml, .int (nI k9)]))) (hv : G v = some (.inl (ar 4, cs.length, .inl (tyF cs)))) (hc0 : 0 < cs.length) (hcl : cs.length ≤ 100) (hm : cs.length < m9) (hm2 : m9 ≤ 100) (hn2 : cs.length + max (m9 - cs.length) (cs.length + 2) ≤ 100) : Met l yJ5_newCapacity_0f7a4 (lwC yJ5_newCapacity_0f7a4 cJ5_newCapacity_0f7a4 6 (some .int)) (rD 2 0 0) (g_Pc D vwCl (gT ar) (EX1 κ) G sz [.ref q, .int (nI m9)]) (g_Qi D vwCl (g_A G sz) (fun r u => r = nI (cs.length + max (m9 - cs.length) (cs.length + 2)) ∧ u = (G, sz))) 0 0 (g_A G sz) := by
  refine g_ofW (by decide +kernel) (Nat.le_of_ble_eq_true rfl) ?_
  intro p e s m below meth c ls S hr hlk hin hE w hl
  have hx := S.1
  have hb := S.2.1
  have hl : lv_has ls 6 [(0, .ref q), (1, .int (nI m9))] := hl
  refine lv_aload_n hx hb dJ5_newCapacity_0f7a4_0 rfl (lv_at hl 0 rfl) ?_
  refine gf_RJ5_15_1 S hE w hq rfl dJ5_newCapacity_0f7a4_1 ?_
  refine tv_len hx hb hE w (Or.inl hv) dJ5_newCapacity_0f7a4_4 ?_
  refine lv_istore_n (lv' := [(2, .int (nI cs.length)), (0, .ref q), (1, .int (nI m9))]) hx hb dJ5_newCapacity_0f7a4_5 rfl hl (by decide) rfl (fun ls hl => ?_)
  refine lv_iload_n hx hb dJ5_newCapacity_0f7a4_6 rfl (lv_at hl 2 rfl) ?_
  refine lv_aload_n hx hb dJ5_newCapacity_0f7a4_7 rfl (lv_at hl 1 rfl) ?_
  refine gf_RJ5_22_1 S hE w hq rfl dJ5_newCapacity_0f7a4_8 ?_
  refine lv_ishl hx hb dJ5_newCapacity_0f7a4_11 ?_
  rw [sl0 (nI m9)]
  refine lv_istore_n (lv' := [(3, .int (nI m9)), (2, .int (nI cs.length)), (0, .ref q), (1, .int (nI m9))]) hx hb dJ5_newCapacity_0f7a4_12 rfl hl (by decide) rfl (fun ls hl => ?_)
  refine lv_iload_n hx hb dJ5_newCapacity_0f7a4_13 rfl (lv_at hl 0 rfl) ?_
  refine lv_iload_n hx hb dJ5_newCapacity_0f7a4_14 rfl (lv_at hl 1 rfl) ?_
  refine lv_isub hx hb dJ5_newCapacity_0f7a4_15 ?_
  rw [show ((nI m9) - (nI cs.length) : Int32) = nI (m9 - cs.length) from pk_sub (by omega)]
  refine lv_istore (lv' := [(4, .int (nI (m9 - cs.length))), (3, .int (nI m9)), (2, .int (nI cs.length)), (0, .ref q), (1, .int (nI m9))]) hx hb dJ5_newCapacity_0f7a4_16 hl (by decide) rfl (fun ls hl => ?_)
  refine lv_iload_n hx hb dJ5_newCapacity_0f7a4_18 rfl (lv_at hl 2 rfl) ?_
  refine lv_iload hx hb dJ5_newCapacity_0f7a4_19 (lv_at hl 0 rfl) ?_
  refine lv_iload_n hx hb dJ5_newCapacity_0f7a4_21 rfl (lv_at hl 2 rfl) ?_
  refine lv_iconst (v := 2) hx hb dJ5_newCapacity_0f7a4_22 (by decide) ?_
  refine lv_aload_n hx hb dJ5_newCapacity_0f7a4_23 rfl (lv_at hl 3 rfl) ?_
  refine gf_RJ5_22_1 S hE w hq rfl dJ5_newCapacity_0f7a4_24 ?_
  refine lv_ishl hx hb dJ5_newCapacity_0f7a4_27 ?_
  rw [sl0 2]
  refine lv_iadd hx hb dJ5_newCapacity_0f7a4_28 ?_
  rw [show ((nI cs.length) + 2 : Int32) = nI (cs.length + 2) from nI_add _ 2]
  refine g_calli w (g_runS (As := [.int (nI cs.length), .int (nI (m9 - cs.length)), .int (nI (cs.length + 2))]) (rest := []) S hE w hl (j_newLength l D ar κ G sz cs.length (m9 - cs.length) (cs.length + 2) (by omega) (by omega) (by omega) (by omega)) (k_RJ5_114 S.2.2.2.2 ⟨Nat.le_of_ble_eq_true rfl, Nat.le_of_ble_eq_true rfl⟩) rfl rfl (Nat.le_of_ble_eq_true rfl) dJ5_newCapacity_0f7a4_29 ⟨Nat.le_of_ble_eq_true rfl, Nat.le_of_ble_eq_true rfl⟩) (fun r u H locs hp hnz w => ?_)
  obtain ⟨rfl, rfl⟩ := hp
  try dsimp only at w
  refine lv_istore (lv' := [(5, .int (nI (cs.length + max (m9 - cs.length) (cs.length + 2)))), (4, .int (nI (m9 - cs.length))), (3, .int (nI m9)), (2, .int (nI cs.length)), (0, .ref q), (1, .int (nI m9))]) hx hb dJ5_newCapacity_0f7a4_32 hl (by decide) rfl (fun ls hl => ?_)
  refine lv_iload hx hb dJ5_newCapacity_0f7a4_34 (lv_at hl 0 rfl) ?_
  refine lv_ldc hx hb S.2.2.2.1 (S.2.2.2.2 _ m_4_202) dJ5_newCapacity_0f7a4_36 ?_
  refine lv_icmp_ne (tgt := 51) hx hb dJ5_newCapacity_0f7a4_38 (by decide) (fun c_38 => ?_) (fun c_38 => absurd ((nI_eq (a := cs.length + max (m9 - cs.length) (cs.length + 2)) (b := 2147483647) (by omega) (by decide)).mp c_38) (by omega))
  refine lv_iload hx hb dJ5_newCapacity_0f7a4_51 (lv_at hl 0 rfl) ?_
  refine lv_aload_n hx hb dJ5_newCapacity_0f7a4_53 rfl (lv_at hl 4 rfl) ?_
  refine gf_RJ5_22_1 S hE w hq rfl dJ5_newCapacity_0f7a4_54 ?_
  refine lv_ishr hx hb dJ5_newCapacity_0f7a4_57 ?_
  rw [sh0 (nI (cs.length + max (m9 - cs.length) (cs.length + 2)))]
  exact g_iret hx hb hr hlk w (Nat.le_of_ble_eq_true rfl) (Nat.le_of_ble_eq_true rfl) dJ5_newCapacity_0f7a4_58 ⟨rfl, rfl⟩
set_option maxHeartbeats 4000000 in
set_option maxRecDepth 100000 in
theorem j_copyOf (l : Launch) (D : va_G) (ar : Nat → ClassId) (κ : Nat → Nat) (G : gW) (sz : Nat) (v : Nat) (bs : List Int32) (n9 : Nat) (hv : TV ar κ G v bs) (hA : Asc bs) (hlt : bs.length < n9) (hn : n9 ≤ 100) : Met l yJ7_copyOf_9075b (lwC yJ7_copyOf_9075b cJ7_copyOf_9075b 3 (some (.array .byte))) (rD 2 1 100) (g_Pc D vwCl (gT ar) (EX1 κ) G sz [.ref v, .int (nI n9)]) (g_Qq D vwCl (g_A G sz) (fun r u => r = some sz ∧ u = (g_up G sz (.inl (ar 4, (ext0 bs n9).length, .inl (tyF (ext0 bs n9)))), sz + 1))) 1 100 (g_A G sz) := by
  refine g_ofW (by decide +kernel) (Nat.le_of_ble_eq_true rfl) ?_
  intro p e s m below meth c ls S hr hlk hin hE w hl
  have hx := S.1
  have hb := S.2.1
  have hl : lv_has ls 3 [(0, .ref v), (1, .int (nI n9))] := hl
  have hfr : ∀ q, sz ≤ q → G q = none := fun q z => g_free w z
  refine lv_iload_n hx hb dJ7_copyOf_9075b_0 rfl (lv_at hl 1 rfl) ?_
  refine lv_aload_n hx hb dJ7_copyOf_9075b_1 rfl (lv_at hl 0 rfl) ?_
  refine tv_len hx hb hE w hv dJ7_copyOf_9075b_2 ?_
  refine lv_icmp_ne (tgt := 14) hx hb dJ7_copyOf_9075b_3 (by decide) (fun c_3 => ?_) (fun c_3 => absurd ((nI_eq (by omega) (by omega)).mp c_3) (by omega))
  refine lv_iload_n hx hb dJ7_copyOf_9075b_14 rfl (lv_at hl 1 rfl) ?_
  refine g_newa (atype := .byte) (N' := n9) (a0 := (n9, .inl (fun _ => 0))) hx hb (S.2.2.2.2 _ m_2_133) rfl hE.1 w 4 rfl rfl (nI_pos (by omega)) (nI_clamp (by omega)) (by show n9 * 1 ≤ 536870912; omega) (Nat.le_of_ble_eq_true rfl) (by dsimp only [rD]; omega) dJ7_copyOf_9075b_15 (fun H w => ?_)
  refine W.widen (k := 1) (n := 100) (by omega) (by omega) ?_
  refine lv_astore_n (lv' := [(2, .ref sz), (0, .ref v), (1, .int (nI n9))]) hx hb dJ7_copyOf_9075b_17 rfl hl (by decide) rfl (fun ls hl => ?_)
  refine lv_aload_n hx hb dJ7_copyOf_9075b_18 rfl (lv_at hl 1 rfl) ?_
  refine lv_iconst (v := 0) hx hb dJ7_copyOf_9075b_19 (by decide) ?_
  refine lv_aload_n hx hb dJ7_copyOf_9075b_20 rfl (lv_at hl 0 rfl) ?_
  refine lv_iconst (v := 0) hx hb dJ7_copyOf_9075b_21 (by decide) ?_
  refine lv_aload_n hx hb dJ7_copyOf_9075b_22 rfl (lv_at hl 1 rfl) ?_
  refine tv_len hx hb hE w (hv.le (gLe.up gLe.r (hfr _ (by omega)))) dJ7_copyOf_9075b_23 ?_
  refine lv_iload_n hx hb dJ7_copyOf_9075b_24 rfl (lv_at hl 2 rfl) ?_
  refine va_mmin hx hb (hl.1.trans S.2.2.1.symm).symm S.2.2.2.1 (S.2.2.2.2 _ m_4_99) (S.2.2.2.2 _ m_4_100) (S.2.2.2.2 _ m_1_24) (S.2.2.2.2 _ m_4_101) (Nat.le_of_ble_eq_true rfl) (Nat.le_of_ble_eq_true rfl) (Nat.le_of_ble_eq_true rfl) (Nat.le_of_ble_eq_true rfl) dJ7_copyOf_9075b_25 ?_
  rw [show (if ((nI n9) : Int32) < (nI bs.length) then ((nI n9) : Int32) else (nI bs.length)) = nI bs.length from minR (by omega) (by omega)]
  refine g_copyb (i := 0) (j := 0) (k := bs.length) hx hb (hl.1.trans S.2.2.1.symm).symm S.2.2.2.1 (S.2.2.2.2 _ m_4_102) (S.2.2.2.2 _ m_4_104) (S.2.2.2.2 _ m_4_103) (S.2.2.2.2 _ m_1_25) hE w (tv_src hE w (hv.le (gLe.up gLe.r (hfr _ (by omega))))) g_up_s (by rfl) (by rfl) (by rfl) (by omega) (by omega) (by omega) (by omega) (fun q hq => hA.fit (by omega)) (Nat.le_of_ble_eq_true rfl) (Nat.le_of_ble_eq_true rfl) dJ7_copyOf_9075b_28 (fun H locs w => ?_)
  have w := g_eqw w g_over
  refine lv_aload_n hx hb dJ7_copyOf_9075b_31 rfl (lv_at hl 0 rfl) ?_
  exact g_qret (r := (some sz)) hx hb hr (Or.inr ⟨_, rfl⟩) hlk w (Nat.le_of_ble_eq_true rfl) (Nat.le_of_ble_eq_true rfl) dJ7_copyOf_9075b_32 (by rw [← ext0_cpy, ext0_len (by omega)]; exact ⟨rfl, rfl⟩)
set_option maxHeartbeats 4000000 in
set_option maxRecDepth 100000 in
theorem j_ensure0 (l : Launch) (D : va_G) (ar : Nat → ClassId) (κ : Nat → Nat) (G : gW) (sz : Nat) (q : Nat) (v : Nat) (cs : List Int32) (ml : Int32) (k9 : Nat) (m9 : Nat) (hq : G q = some (.inr (1, [.ref v, .int 0, .int ml, .int (nI k9)]))) (hv : G v = some (.inl (ar 4, cs.length, .inl (tyF cs)))) (hm : m9 ≤ cs.length) (hcl : cs.length ≤ 100) : Met l yJ5_ensureCapacityInternal_d00df (lwC yJ5_ensureCapacityInternal_d00df cJ5_ensureCapacityInternal_d00df 3 none) (rD 3 0 0) (g_Pc D vwCl (gT ar) (EX1 κ) G sz [.ref q, .int (nI m9)]) (g_Qv D vwCl (g_A G sz) (fun u => u = (G, sz))) 0 0 (g_A G sz) := by
  refine g_ofW (by decide +kernel) (Nat.le_of_ble_eq_true rfl) ?_
  intro p e s m below meth c ls S hr hlk hin hE w hl
  have hx := S.1
  have hb := S.2.1
  have hl : lv_has ls 3 [(0, .ref q), (1, .int (nI m9))] := hl
  refine lv_aload_n hx hb dJ5_ensureCapacityInternal_d00df_0 rfl (lv_at hl 0 rfl) ?_
  refine gf_RJ5_15_1 S hE w hq rfl dJ5_ensureCapacityInternal_d00df_1 ?_
  refine tv_len hx hb hE w (Or.inl hv) dJ5_ensureCapacityInternal_d00df_4 ?_
  refine lv_aload_n hx hb dJ5_ensureCapacityInternal_d00df_5 rfl (lv_at hl 0 rfl) ?_
  refine gf_RJ5_22_1 S hE w hq rfl dJ5_ensureCapacityInternal_d00df_6 ?_
  refine lv_ishr hx hb dJ5_ensureCapacityInternal_d00df_9 ?_
  rw [sh0 (nI cs.length)]
  refine lv_istore_n (lv' := [(2, .int (nI cs.length)), (0, .ref q), (1, .int (nI m9))]) hx hb dJ5_ensureCapacityInternal_d00df_10 rfl hl (by decide) rfl (fun ls hl => ?_)
  refine lv_iload_n hx hb dJ5_ensureCapacityInternal_d00df_11 rfl (lv_at hl 2 rfl) ?_
  refine lv_iload_n hx hb dJ5_ensureCapacityInternal_d00df_12 rfl (lv_at hl 0 rfl) ?_
  refine lv_isub hx hb dJ5_ensureCapacityInternal_d00df_13 ?_
  refine lv_if_le (tgt := 38) hx hb dJ5_ensureCapacityInternal_d00df_14 (by decide) (fun c_14 => ?_) (fun c_14 => absurd (sub_le0 hm (by omega)) c_14)
  exact g_vret hx hb hr hlk w (Nat.le_of_ble_eq_true rfl) (Nat.le_of_ble_eq_true rfl) dJ5_ensureCapacityInternal_d00df_38 rfl
set_option maxHeartbeats 4000000 in
set_option maxRecDepth 100000 in
theorem j_ensure1 (l : Launch) (D : va_G) (ar : Nat → ClassId) (κ : Nat → Nat) (G : gW) (sz : Nat) (q : Nat) (v : Nat) (cs : List Int32) (ml : Int32) (k9 : Nat) (m9 : Nat) (hq : G q = some (.inr (1, [.ref v, .int 0, .int ml, .int (nI k9)]))) (hv : G v = some (.inl (ar 4, cs.length, .inl (tyF cs)))) (hA : Asc cs) (hc0 : 0 < cs.length) (hcl : cs.length ≤ 100) (hm : cs.length < m9) (hm2 : m9 ≤ 100) (hn2 : cs.length + max (m9 - cs.length) (cs.length + 2) ≤ 100) : Met l yJ5_ensureCapacityInternal_d00df (lwC yJ5_ensureCapacityInternal_d00df cJ5_ensureCapacityInternal_d00df 3 none) (rD 4 1 100) (g_Pc D vwCl (gT ar) (EX1 κ) G sz [.ref q, .int (nI m9)]) (g_Qv D vwCl (g_A G sz) (fun u => u = (g_up (g_up G sz (.inl (ar 4, (ext0 cs (cs.length + max (m9 - cs.length) (cs.length + 2))).length, .inl (tyF (ext0 cs (cs.length + max (m9 - cs.length) (cs.length + 2)))))) ) q (.inr (1, [.ref sz, .int 0, .int ml, .int (nI k9)])), sz + 1))) 1 100 (g_A G sz) := by
  refine g_ofW (by decide +kernel) (Nat.le_of_ble_eq_true rfl) ?_
  intro p e s m below meth c ls S hr hlk hin hE w hl
  have hx := S.1
  have hb := S.2.1
  have hl : lv_has ls 3 [(0, .ref q), (1, .int (nI m9))] := hl
  have hfr : ∀ q, sz ≤ q → G q = none := fun q z => g_free w z
  have lt_hq : q < sz := g_ltn w hq
  refine lv_aload_n hx hb dJ5_ensureCapacityInternal_d00df_0 rfl (lv_at hl 0 rfl) ?_
  refine gf_RJ5_15_1 S hE w hq rfl dJ5_ensureCapacityInternal_d00df_1 ?_
  refine tv_len hx hb hE w (Or.inl hv) dJ5_ensureCapacityInternal_d00df_4 ?_
  refine lv_aload_n hx hb dJ5_ensureCapacityInternal_d00df_5 rfl (lv_at hl 0 rfl) ?_
  refine gf_RJ5_22_1 S hE w hq rfl dJ5_ensureCapacityInternal_d00df_6 ?_
  refine lv_ishr hx hb dJ5_ensureCapacityInternal_d00df_9 ?_
  rw [sh0 (nI cs.length)]
  refine lv_istore_n (lv' := [(2, .int (nI cs.length)), (0, .ref q), (1, .int (nI m9))]) hx hb dJ5_ensureCapacityInternal_d00df_10 rfl hl (by decide) rfl (fun ls hl => ?_)
  refine lv_iload_n hx hb dJ5_ensureCapacityInternal_d00df_11 rfl (lv_at hl 2 rfl) ?_
  refine lv_iload_n hx hb dJ5_ensureCapacityInternal_d00df_12 rfl (lv_at hl 0 rfl) ?_
  refine lv_isub hx hb dJ5_ensureCapacityInternal_d00df_13 ?_
  refine lv_if_le (tgt := 38) hx hb dJ5_ensureCapacityInternal_d00df_14 (by decide) (fun c_14 => absurd c_14 (sub_gt0 hm (by omega))) (fun c_14 => ?_)
  refine lv_aload_n hx hb dJ5_ensureCapacityInternal_d00df_17 rfl (lv_at hl 1 rfl) ?_
  refine lv_aload_n hx hb dJ5_ensureCapacityInternal_d00df_18 rfl (lv_at hl 1 rfl) ?_
  refine gf_RJ5_15_1 S hE w hq rfl dJ5_ensureCapacityInternal_d00df_19 ?_
  refine lv_aload_n hx hb dJ5_ensureCapacityInternal_d00df_22 rfl (lv_at hl 1 rfl) ?_
  refine lv_iload_n hx hb dJ5_ensureCapacityInternal_d00df_23 rfl (lv_at hl 2 rfl) ?_
  refine g_calli w (g_runU (As := [.int (nI m9)]) (rest := [.ref v, .ref q]) S hE w hl (j_newCapacity l D ar κ G sz q v cs ml k9 m9 hq hv (by omega) (by omega) (by omega) (by omega) (by omega)) (kU_RJ5_104 S.2.2.2.2 (hE.2.1.1 _ (ckN_2 _ (List.mem_of_getElem? (i := 36) rfl))) ⟨Nat.le_of_ble_eq_true rfl, Nat.le_of_ble_eq_true rfl⟩) (va_recv (ci := 1) hE.1 (g_1 w.1 hq) rfl (q0 := 0) rfl) rfl rfl (Nat.le_of_ble_eq_true rfl) dJ5_ensureCapacityInternal_d00df_24 ⟨Nat.le_of_ble_eq_true rfl, Nat.le_of_ble_eq_true rfl⟩) (fun r u H locs hp hnz w => ?_)
  obtain ⟨rfl, rfl⟩ := hp
  try dsimp only at w
  refine lv_aload_n hx hb dJ5_ensureCapacityInternal_d00df_27 rfl (lv_at hl 1 rfl) ?_
  refine gf_RJ5_22_1 S hE w hq rfl dJ5_ensureCapacityInternal_d00df_28 ?_
  refine lv_ishl hx hb dJ5_ensureCapacityInternal_d00df_31 ?_
  rw [sl0 (nI (cs.length + max (m9 - cs.length) (cs.length + 2)))]
  refine g_callq w (g_runS (As := [.ref v, .int (nI (cs.length + max (m9 - cs.length) (cs.length + 2)))]) (rest := [.ref q]) S hE w hl (j_copyOf l D ar κ G sz v cs (cs.length + max (m9 - cs.length) (cs.length + 2)) (Or.inl hv) hA (by omega) (by omega)) (k_RJ5_108 S.2.2.2.2 ⟨Nat.le_of_ble_eq_true rfl, Nat.le_of_ble_eq_true rfl⟩) rfl rfl (Nat.le_of_ble_eq_true rfl) dJ5_ensureCapacityInternal_d00df_32 ⟨Nat.le_of_ble_eq_true rfl, Nat.le_of_ble_eq_true rfl⟩) (fun r u H locs hp hnz w => ?_)
  obtain ⟨rfl, rfl⟩ := hp
  try dsimp only at w
  refine pf_RJ5_15_1 (fs1 := [.ref sz, .int 0, .int ml, .int (nI k9)]) S hE w (g_up_o (by omega) hq) rfl rfl (Nat.le_of_ble_eq_true rfl) rfl dJ5_ensureCapacityInternal_d00df_35 (fun H locs w => ?_)
  exact g_vret hx hb hr hlk w (Nat.le_of_ble_eq_true rfl) (Nat.le_of_ble_eq_true rfl) dJ5_ensureCapacityInternal_d00df_38 rfl
set_option maxHeartbeats 4000000 in
set_option maxRecDepth 100000 in
theorem j_inflate0 (l : Launch) (D : va_G) (ar : Nat → ClassId) (κ : Nat → Nat) (G : gW) (sz : Nat) (q : Nat) (b : Nat) (vb : Nat) (bs : List Int32) (v : Nat) (cs : List Int32) (ml : Int32) (k9 : Nat) (hq : G q = some (.inr (1, [.ref v, .int 0, .int ml, .int (nI k9)]))) (hv : G v = some (.inl (ar 4, cs.length, .inl (tyF cs)))) (ht : ∀ G9, TX ar κ G9 b vb bs) : Met l yJ5_inflateIfNeededFor_a7421 (lwC yJ5_inflateIfNeededFor_a7421 cJ5_inflateIfNeededFor_a7421 2 none) (rD 2 0 0) (g_Pc D vwCl (gT ar) (EX1 κ) G sz [.ref q, .ref b]) (g_Qv D vwCl (g_A G sz) (fun u => u = (G, sz))) 0 0 (g_A G sz) := by
  refine g_ofW (by decide +kernel) (Nat.le_of_ble_eq_true rfl) ?_
  intro p e s m below meth c ls S hr hlk hin hE w hl
  have hx := S.1
  have hb := S.2.1
  have hl : lv_has ls 2 [(0, .ref q), (1, .ref b)] := hl
  refine va_gets hx hb hE.2.2.2.2.2.1 w.2.2.1 S.2.2.2.1 (S.2.2.2.2 _ m_4_159) (fun _ h => h) dJ5_inflateIfNeededFor_a7421_0 ?_
  refine lv_if_eq (tgt := 21) hx hb dJ5_inflateIfNeededFor_a7421_3 (by decide) (fun c => absurd c (by decide)) (fun _ => ?_)
  refine lv_aload_n hx hb dJ5_inflateIfNeededFor_a7421_6 rfl (lv_at hl 0 rfl) ?_
  refine gf_RJ5_22_1 S hE w hq rfl dJ5_inflateIfNeededFor_a7421_7 ?_
  refine lv_aload_n hx hb dJ5_inflateIfNeededFor_a7421_10 rfl (lv_at hl 1 rfl) ?_
  refine g_calli w (g_runT (As := []) (rest := [.int 0]) S hE w hl (j_coder l D ar κ G sz b vb bs (ht _)) (k_RJ5_40 S.2.2.2.2  ⟨Nat.le_of_ble_eq_true rfl, Nat.le_of_ble_eq_true rfl⟩) (ht _) rfl rfl (Nat.le_of_ble_eq_true rfl) dJ5_inflateIfNeededFor_a7421_11 ⟨Nat.le_of_ble_eq_true rfl, Nat.le_of_ble_eq_true rfl⟩) (fun r u H locs hp hnz w => ?_)
  obtain ⟨rfl, rfl⟩ := hp
  try dsimp only at w
  refine lv_icmp_eq (tgt := 21) hx hb dJ5_inflateIfNeededFor_a7421_14 (by decide) (fun _ => ?_) (fun c => absurd (by decide) c)
  exact g_vret hx hb hr hlk w (Nat.le_of_ble_eq_true rfl) (Nat.le_of_ble_eq_true rfl) dJ5_inflateIfNeededFor_a7421_21 rfl
set_option maxHeartbeats 4000000 in
set_option maxRecDepth 100000 in
theorem j_getBytes (l : Launch) (D : va_G) (ar : Nat → ClassId) (κ : Nat → Nat) (G : gW) (sz : Nat) (b : Nat) (d : Nat) (vb : Nat) (bs : List Int32) (cs : List Int32) (k9 : Nat) (hd : G d = some (.inl (ar 4, cs.length, .inl (tyF cs)))) (ht : ∀ G9, TX ar κ G9 b vb bs) (hA : Asc cs) (hB : Asc bs) (hfit : k9 + bs.length ≤ cs.length) (hcl : cs.length ≤ 100) : Met l yJ0_getBytes_840e7 (lwC yJ0_getBytes_840e7 cJ0_getBytes_840e7 4 none) (rD 2 0 0) (g_Pc D vwCl (gT ar) (EX1 κ) G sz [.ref b, .ref d, .int (nI k9), .int 0]) (g_Qv D vwCl (g_A G sz) (fun u => u = (g_up G d (.inl (ar 4, (ovr cs k9 bs).length, .inl (tyF (ovr cs k9 bs)))), sz))) 0 0 (g_A G sz) := by
  refine g_ofW (by decide +kernel) (Nat.le_of_ble_eq_true rfl) ?_
  intro p e s m below meth c ls S hr hlk hin hE w hl
  have hx := S.1
  have hb := S.2.1
  have hl : lv_has ls 4 [(0, .ref b), (1, .ref d), (2, .int (nI k9)), (3, .int 0)] := hl
  refine lv_aload_n hx hb dJ0_getBytes_840e7_0 rfl (lv_at hl 0 rfl) ?_
  refine g_calli w (g_runT (As := []) (rest := []) S hE w hl (j_coder l D ar κ G sz b vb bs (ht _)) (k_RJ0_335 S.2.2.2.2  ⟨Nat.le_of_ble_eq_true rfl, Nat.le_of_ble_eq_true rfl⟩) (ht _) rfl rfl (Nat.le_of_ble_eq_true rfl) dJ0_getBytes_840e7_1 ⟨Nat.le_of_ble_eq_true rfl, Nat.le_of_ble_eq_true rfl⟩) (fun r u H locs hp hnz w => ?_)
  obtain ⟨rfl, rfl⟩ := hp
  try dsimp only at w
  refine lv_iload_n hx hb dJ0_getBytes_840e7_4 rfl (lv_at hl 3 rfl) ?_
  refine lv_icmp_ne (tgt := 28) hx hb dJ0_getBytes_840e7_5 (by decide) (fun c => absurd (by decide) c) (fun _ => ?_)
  refine lv_aload_n hx hb dJ0_getBytes_840e7_8 rfl (lv_at hl 0 rfl) ?_
  refine (fun kk => tx_val S hE w (ht _) (S.2.2.2.2 _ m_5_129) (fun hG hf => gf_RJ0_9_0 S hE w hG hf dJ0_getBytes_840e7_9 kk) dJ0_getBytes_840e7_9 kk) ?_
  refine lv_iconst (v := 0) hx hb dJ0_getBytes_840e7_12 (by decide) ?_
  refine lv_aload_n hx hb dJ0_getBytes_840e7_13 rfl (lv_at hl 1 rfl) ?_
  refine lv_iload_n hx hb dJ0_getBytes_840e7_14 rfl (lv_at hl 2 rfl) ?_
  refine lv_iload_n hx hb dJ0_getBytes_840e7_15 rfl (lv_at hl 3 rfl) ?_
  refine lv_ishl hx hb dJ0_getBytes_840e7_16 ?_
  rw [sl0 (nI k9)]
  refine lv_aload_n hx hb dJ0_getBytes_840e7_17 rfl (lv_at hl 0 rfl) ?_
  refine (fun kk => tx_val S hE w (ht _) (S.2.2.2.2 _ m_5_129) (fun hG hf => gf_RJ0_9_0 S hE w hG hf dJ0_getBytes_840e7_18 kk) dJ0_getBytes_840e7_18 kk) ?_
  refine tv_len hx hb hE w (tx_v (ht _)) dJ0_getBytes_840e7_21 ?_
  refine g_copyb (i := 0) (j := k9) (k := bs.length) hx hb (hl.1.trans S.2.2.1.symm).symm S.2.2.2.1 (S.2.2.2.2 _ m_5_45) (S.2.2.2.2 _ m_4_104) (S.2.2.2.2 _ m_4_103) (S.2.2.2.2 _ m_1_25) hE w (tv_src hE w (tx_v (ht _))) hd (by rfl) (by rfl) (by rfl) (by omega) (by omega) (by omega) (by omega) (fun q hq => hB.fit (by omega)) (Nat.le_of_ble_eq_true rfl) (Nat.le_of_ble_eq_true rfl) dJ0_getBytes_840e7_22 (fun H locs w => ?_)
  refine lv_goto (tgt := 43) hx hb dJ0_getBytes_840e7_25 (by decide) ?_
  exact g_vret hx hb hr hlk w (Nat.le_of_ble_eq_true rfl) (Nat.le_of_ble_eq_true rfl) dJ0_getBytes_840e7_43 (by rw [← ovr_cpy hfit, ovr_len hfit])
set_option maxHeartbeats 4000000 in
set_option maxRecDepth 100000 in
theorem j_putString (l : Launch) (D : va_G) (ar : Nat → ClassId) (κ : Nat → Nat) (G : gW) (sz : Nat) (q : Nat) (b : Nat) (vb : Nat) (bs : List Int32) (v : Nat) (cs : List Int32) (ml : Int32) (k9 : Nat) (hq : G q = some (.inr (1, [.ref v, .int 0, .int ml, .int (nI k9)]))) (hv : G v = some (.inl (ar 4, cs.length, .inl (tyF cs)))) (ht : ∀ G9, TX ar κ G9 b vb bs) (hA : Asc cs) (hB : Asc bs) (hfit : k9 + bs.length ≤ cs.length) (hcl : cs.length ≤ 100) : Met l yJ5_putStringAt_47b60 (lwC yJ5_putStringAt_47b60 cJ5_putStringAt_47b60 3 none) (rD 3 0 0) (g_Pc D vwCl (gT ar) (EX1 κ) G sz [.ref q, .int (nI k9), .ref b]) (g_Qv D vwCl (g_A G sz) (fun u => u = (g_up G v (.inl (ar 4, (ovr cs k9 bs).length, .inl (tyF (ovr cs k9 bs)))), sz))) 0 0 (g_A G sz) := by
  refine g_ofW (by decide +kernel) (Nat.le_of_ble_eq_true rfl) ?_
  intro p e s m below meth c ls S hr hlk hin hE w hl
  have hx := S.1
  have hb := S.2.1
  have hl : lv_has ls 3 [(0, .ref q), (1, .int (nI k9)), (2, .ref b)] := hl
  refine lv_aload_n hx hb dJ5_putStringAt_47b60_0 rfl (lv_at hl 0 rfl) ?_
  refine lv_aload_n hx hb dJ5_putStringAt_47b60_1 rfl (lv_at hl 2 rfl) ?_
  refine g_callv w (g_runU (As := [.ref b]) (rest := []) S hE w hl (j_inflate0 l D ar κ G sz q b vb bs v cs ml k9 hq hv ht) (kU_RJ5_397 S.2.2.2.2 (hE.2.1.1 _ (ckN_2 _ (List.mem_of_getElem? (i := 38) rfl))) ⟨Nat.le_of_ble_eq_true rfl, Nat.le_of_ble_eq_true rfl⟩) (va_recv (ci := 1) hE.1 (g_1 w.1 hq) rfl (q0 := 0) rfl) rfl rfl (Nat.le_of_ble_eq_true rfl) dJ5_putStringAt_47b60_2 ⟨Nat.le_of_ble_eq_true rfl, Nat.le_of_ble_eq_true rfl⟩) (fun u H locs hp hnz w => ?_)
  obtain rfl := hp
  try dsimp only at w
  refine lv_aload_n hx hb dJ5_putStringAt_47b60_5 rfl (lv_at hl 2 rfl) ?_
  refine lv_aload_n hx hb dJ5_putStringAt_47b60_6 rfl (lv_at hl 0 rfl) ?_
  refine gf_RJ5_15_1 S hE w hq rfl dJ5_putStringAt_47b60_7 ?_
  refine lv_iload_n hx hb dJ5_putStringAt_47b60_10 rfl (lv_at hl 1 rfl) ?_
  refine lv_aload_n hx hb dJ5_putStringAt_47b60_11 rfl (lv_at hl 0 rfl) ?_
  refine gf_RJ5_22_1 S hE w hq rfl dJ5_putStringAt_47b60_12 ?_
  refine g_callv w (g_runT (As := [.ref v, .int (nI k9), .int 0]) (rest := []) S hE w hl (j_getBytes l D ar κ G sz b v vb bs cs k9 hv ht hA hB (by omega) (by omega)) (k_RJ5_399 S.2.2.2.2  ⟨Nat.le_of_ble_eq_true rfl, Nat.le_of_ble_eq_true rfl⟩) (ht _) rfl rfl (Nat.le_of_ble_eq_true rfl) dJ5_putStringAt_47b60_15 ⟨Nat.le_of_ble_eq_true rfl, Nat.le_of_ble_eq_true rfl⟩) (fun u H locs hp hnz w => ?_)
  obtain rfl := hp
  try dsimp only at w
  exact g_vret hx hb hr hlk w (Nat.le_of_ble_eq_true rfl) (Nat.le_of_ble_eq_true rfl) dJ5_putStringAt_47b60_18 rfl
set_option maxHeartbeats 4000000 in
set_option maxRecDepth 100000 in
theorem j_append0 (l : Launch) (D : va_G) (ar : Nat → ClassId) (κ : Nat → Nat) (G : gW) (sz : Nat) (q : Nat) (b : Nat) (vb : Nat) (bs : List Int32) (v : Nat) (cs : List Int32) (ml : Int32) (k9 : Nat) (hq : G q = some (.inr (1, [.ref v, .int 0, .int ml, .int (nI k9)]))) (hv : G v = some (.inl (ar 4, cs.length, .inl (tyF cs)))) (ht : ∀ G9, TX ar κ G9 b vb bs) (hA : Asc cs) (hB : Asc bs) (hfit : k9 + bs.length ≤ cs.length) (hcl : cs.length ≤ 100) : Met l yJ5_append_cf1ce (lwC yJ5_append_cf1ce cJ5_append_cf1ce 3 (some (.object "java/lang/AbstractStringBuilder"))) (rD 6 0 0) (g_Pc D vwCl (gT ar) (EX1 κ) G sz [.ref q, .ref b]) (g_Qq D vwCl (g_A G sz) (fun r u => r = some q ∧ u = (g_up (g_up G v (.inl (ar 4, (ovr cs k9 bs).length, .inl (tyF (ovr cs k9 bs))))) q (.inr (1, [.ref v, .int 0, .int ml, .int (nI (k9 + bs.length))])), sz))) 0 0 (g_A G sz) := by
  refine g_ofW (by decide +kernel) (Nat.le_of_ble_eq_true rfl) ?_
  intro p e s m below meth c ls S hr hlk hin hE w hl
  have hx := S.1
  have hb := S.2.1
  have hl : lv_has ls 3 [(0, .ref q), (1, .ref b)] := hl
  have hfr : ∀ q, sz ≤ q → G q = none := fun q z => g_free w z
  have lt_hq : q < sz := g_ltn w hq
  have hqv : q ≠ v := g_nx hq hv (by simp)
  refine lv_aload_n hx hb dJ5_append_cf1ce_0 rfl (lv_at hl 1 rfl) ?_
  refine lv_ifnonnull (tgt := 9) hx hb dJ5_append_cf1ce_1 (by decide) ?_
  refine lv_aload_n hx hb dJ5_append_cf1ce_9 rfl (lv_at hl 1 rfl) ?_
  refine g_calli w (g_runT (As := []) (rest := []) S hE w hl (j_length l D ar κ G sz b vb bs (ht _)) (k_RJ5_32 S.2.2.2.2  ⟨Nat.le_of_ble_eq_true rfl, Nat.le_of_ble_eq_true rfl⟩) (ht _) rfl rfl (Nat.le_of_ble_eq_true rfl) dJ5_append_cf1ce_10 ⟨Nat.le_of_ble_eq_true rfl, Nat.le_of_ble_eq_true rfl⟩) (fun r u H locs hp hnz w => ?_)
  obtain ⟨rfl, rfl⟩ := hp
  try dsimp only at w
  refine lv_istore_n (lv' := [(2, .int (nI bs.length)), (0, .ref q), (1, .ref b)]) hx hb dJ5_append_cf1ce_13 rfl hl (by decide) rfl (fun ls hl => ?_)
  refine lv_aload_n hx hb dJ5_append_cf1ce_14 rfl (lv_at hl 1 rfl) ?_
  refine lv_aload_n hx hb dJ5_append_cf1ce_15 rfl (lv_at hl 1 rfl) ?_
  refine gf_RJ5_79_1 S hE w hq rfl dJ5_append_cf1ce_16 ?_
  refine lv_iload_n hx hb dJ5_append_cf1ce_19 rfl (lv_at hl 0 rfl) ?_
  refine lv_iadd hx hb dJ5_append_cf1ce_20 ?_
  rw [show ((nI k9) + (nI bs.length) : Int32) = nI (k9 + bs.length) from nI_add _ _]
  refine g_callv w (g_runU (As := [.int (nI (k9 + bs.length))]) (rest := []) S hE w hl (j_ensure0 l D ar κ G sz q v cs ml k9 (k9 + bs.length) hq hv (by omega) (by omega)) (kU_RJ5_100 S.2.2.2.2 (hE.2.1.1 _ (ckN_2 _ (List.mem_of_getElem? (i := 35) rfl))) ⟨Nat.le_of_ble_eq_true rfl, Nat.le_of_ble_eq_true rfl⟩) (va_recv (ci := 1) hE.1 (g_1 w.1 hq) rfl (q0 := 0) rfl) rfl rfl (Nat.le_of_ble_eq_true rfl) dJ5_append_cf1ce_21 ⟨Nat.le_of_ble_eq_true rfl, Nat.le_of_ble_eq_true rfl⟩) (fun u H locs hp hnz w => ?_)
  obtain rfl := hp
  try dsimp only at w
  refine lv_aload_n hx hb dJ5_append_cf1ce_24 rfl (lv_at hl 1 rfl) ?_
  refine lv_aload_n hx hb dJ5_append_cf1ce_25 rfl (lv_at hl 1 rfl) ?_
  refine gf_RJ5_79_1 S hE w hq rfl dJ5_append_cf1ce_26 ?_
  refine lv_aload_n hx hb dJ5_append_cf1ce_29 rfl (lv_at hl 2 rfl) ?_
  refine g_callv w (g_runU (As := [.int (nI k9), .ref b]) (rest := []) S hE w hl (j_putString l D ar κ G sz q b vb bs v cs ml k9 hq hv ht hA hB (by first | omega | (rw [ext0_len (by omega)]; omega)) (by first | omega | (rw [ext0_len (by omega)]; omega))) (kU_RJ5_208 S.2.2.2.2 (hE.2.1.1 _ (ckN_2 _ (List.mem_of_getElem? (i := 37) rfl))) ⟨Nat.le_of_ble_eq_true rfl, Nat.le_of_ble_eq_true rfl⟩) (va_recv (ci := 1) hE.1 (g_1 w.1 hq) rfl (q0 := 0) rfl) rfl rfl (Nat.le_of_ble_eq_true rfl) dJ5_append_cf1ce_30 ⟨Nat.le_of_ble_eq_true rfl, Nat.le_of_ble_eq_true rfl⟩) (fun u H locs hp hnz w => ?_)
  obtain rfl := hp
  try dsimp only at w
  refine lv_aload_n hx hb dJ5_append_cf1ce_33 rfl (lv_at hl 1 rfl) ?_
  refine lv_dup hx hb dJ5_append_cf1ce_34 rfl ?_
  refine gf_RJ5_79_1 S hE w (g_up_o (g_nx hq hv (by simp)) hq) rfl dJ5_append_cf1ce_35 ?_
  refine lv_iload_n hx hb dJ5_append_cf1ce_38 rfl (lv_at hl 0 rfl) ?_
  refine lv_iadd hx hb dJ5_append_cf1ce_39 ?_
  rw [show ((nI k9) + (nI bs.length) : Int32) = nI (k9 + bs.length) from nI_add _ _]
  refine pf_RJ5_79_1 (fs1 := [.ref v, .int 0, .int ml, .int (nI (k9 + bs.length))]) S hE w (g_up_o (g_nx hq hv (by simp)) hq) rfl rfl (Nat.le_of_ble_eq_true rfl) rfl dJ5_append_cf1ce_40 (fun H locs w => ?_)
  refine lv_aload_n hx hb dJ5_append_cf1ce_43 rfl (lv_at hl 1 rfl) ?_
  exact g_qret (r := (some q)) hx hb hr (Or.inl ⟨_, rfl⟩) hlk w (Nat.le_of_ble_eq_true rfl) (Nat.le_of_ble_eq_true rfl) dJ5_append_cf1ce_44 ⟨rfl, rfl⟩
set_option maxHeartbeats 4000000 in
set_option maxRecDepth 100000 in
theorem j_append1 (l : Launch) (D : va_G) (ar : Nat → ClassId) (κ : Nat → Nat) (G : gW) (sz : Nat) (q : Nat) (b : Nat) (vb : Nat) (bs : List Int32) (v : Nat) (cs : List Int32) (ml : Int32) (k9 : Nat) (hq : G q = some (.inr (1, [.ref v, .int 0, .int ml, .int (nI k9)]))) (hv : G v = some (.inl (ar 4, cs.length, .inl (tyF cs)))) (ht : ∀ G9, TX ar κ G9 b vb bs) (hA : Asc cs) (hB : Asc bs) (hgr : cs.length < k9 + bs.length) (hk : k9 ≤ cs.length) (hc0 : 0 < cs.length) (hm2 : k9 + bs.length ≤ 100) (hn2 : cs.length + max ((k9 + bs.length) - cs.length) (cs.length + 2) ≤ 100) : Met l yJ5_append_cf1ce (lwC yJ5_append_cf1ce cJ5_append_cf1ce 3 (some (.object "java/lang/AbstractStringBuilder"))) (rD 6 1 100) (g_Pc D vwCl (gT ar) (EX1 κ) G sz [.ref q, .ref b]) (g_Qq D vwCl (g_A G sz) (fun r u => r = some q ∧ u = (g_up (g_up G sz (.inl (ar 4, (ovr (ext0 cs (cs.length + max ((k9 + bs.length) - cs.length) (cs.length + 2))) k9 bs).length, .inl (tyF (ovr (ext0 cs (cs.length + max ((k9 + bs.length) - cs.length) (cs.length + 2))) k9 bs))))) q (.inr (1, [.ref sz, .int 0, .int ml, .int (nI (k9 + bs.length))])), sz + 1))) 1 100 (g_A G sz) := by
  refine g_ofW (by decide +kernel) (Nat.le_of_ble_eq_true rfl) ?_
  intro p e s m below meth c ls S hr hlk hin hE w hl
  have hx := S.1
  have hb := S.2.1
  have hl : lv_has ls 3 [(0, .ref q), (1, .ref b)] := hl
  have hfr : ∀ q, sz ≤ q → G q = none := fun q z => g_free w z
  have lt_hq : q < sz := g_ltn w hq
  have hqv : q ≠ v := g_nx hq hv (by simp)
  refine lv_aload_n hx hb dJ5_append_cf1ce_0 rfl (lv_at hl 1 rfl) ?_
  refine lv_ifnonnull (tgt := 9) hx hb dJ5_append_cf1ce_1 (by decide) ?_
  refine lv_aload_n hx hb dJ5_append_cf1ce_9 rfl (lv_at hl 1 rfl) ?_
  refine g_calli w (g_runT (As := []) (rest := []) S hE w hl (j_length l D ar κ G sz b vb bs (ht _)) (k_RJ5_32 S.2.2.2.2  ⟨Nat.le_of_ble_eq_true rfl, Nat.le_of_ble_eq_true rfl⟩) (ht _) rfl rfl (Nat.le_of_ble_eq_true rfl) dJ5_append_cf1ce_10 ⟨Nat.le_of_ble_eq_true rfl, Nat.le_of_ble_eq_true rfl⟩) (fun r u H locs hp hnz w => ?_)
  obtain ⟨rfl, rfl⟩ := hp
  try dsimp only at w
  refine lv_istore_n (lv' := [(2, .int (nI bs.length)), (0, .ref q), (1, .ref b)]) hx hb dJ5_append_cf1ce_13 rfl hl (by decide) rfl (fun ls hl => ?_)
  refine lv_aload_n hx hb dJ5_append_cf1ce_14 rfl (lv_at hl 1 rfl) ?_
  refine lv_aload_n hx hb dJ5_append_cf1ce_15 rfl (lv_at hl 1 rfl) ?_
  refine gf_RJ5_79_1 S hE w hq rfl dJ5_append_cf1ce_16 ?_
  refine lv_iload_n hx hb dJ5_append_cf1ce_19 rfl (lv_at hl 0 rfl) ?_
  refine lv_iadd hx hb dJ5_append_cf1ce_20 ?_
  rw [show ((nI k9) + (nI bs.length) : Int32) = nI (k9 + bs.length) from nI_add _ _]
  refine g_callv w (g_runU (As := [.int (nI (k9 + bs.length))]) (rest := []) S hE w hl (j_ensure1 l D ar κ G sz q v cs ml k9 (k9 + bs.length) hq hv hA (by omega) (by omega) (by omega) (by omega) (by omega)) (kU_RJ5_100 S.2.2.2.2 (hE.2.1.1 _ (ckN_2 _ (List.mem_of_getElem? (i := 35) rfl))) ⟨Nat.le_of_ble_eq_true rfl, Nat.le_of_ble_eq_true rfl⟩) (va_recv (ci := 1) hE.1 (g_1 w.1 hq) rfl (q0 := 0) rfl) rfl rfl (Nat.le_of_ble_eq_true rfl) dJ5_append_cf1ce_21 ⟨Nat.le_of_ble_eq_true rfl, Nat.le_of_ble_eq_true rfl⟩) (fun u H locs hp hnz w => ?_)
  obtain rfl := hp
  try dsimp only at w
  refine lv_aload_n hx hb dJ5_append_cf1ce_24 rfl (lv_at hl 1 rfl) ?_
  refine lv_aload_n hx hb dJ5_append_cf1ce_25 rfl (lv_at hl 1 rfl) ?_
  refine gf_RJ5_79_1 S hE w g_up_s rfl dJ5_append_cf1ce_26 ?_
  refine lv_aload_n hx hb dJ5_append_cf1ce_29 rfl (lv_at hl 2 rfl) ?_
  refine g_callv w (g_runU (As := [.int (nI k9), .ref b]) (rest := []) S hE w hl (j_putString l D ar κ (g_up (g_up G sz (.inl (ar 4, (ext0 cs (cs.length + max (k9 + bs.length - cs.length) (cs.length + 2))).length, .inl (tyF (ext0 cs (cs.length + max (k9 + bs.length - cs.length) (cs.length + 2))))))) q (.inr (1, [.ref sz, .int 0, .int ml, .int (nI k9)]))) (sz + 1) q b vb bs sz (ext0 cs (cs.length + max (k9 + bs.length - cs.length) (cs.length + 2))) ml k9 g_up_s (g_up_o (by omega) g_up_s) ht hA.ext0 hB (by first | omega | (rw [ext0_len (by omega)]; omega)) (by first | omega | (rw [ext0_len (by omega)]; omega))) (kU_RJ5_208 S.2.2.2.2 (hE.2.1.1 _ (ckN_2 _ (List.mem_of_getElem? (i := 37) rfl))) ⟨Nat.le_of_ble_eq_true rfl, Nat.le_of_ble_eq_true rfl⟩) (va_recv (ci := 1) hE.1 (g_1 w.1 g_up_s) rfl (q0 := 0) rfl) rfl rfl (Nat.le_of_ble_eq_true rfl) dJ5_append_cf1ce_30 ⟨Nat.le_of_ble_eq_true rfl, Nat.le_of_ble_eq_true rfl⟩) (fun u H locs hp hnz w => ?_)
  obtain rfl := hp
  try dsimp only at w
  have w := g_eqw w (g_inn g_over (by omega))
  refine lv_aload_n hx hb dJ5_append_cf1ce_33 rfl (lv_at hl 1 rfl) ?_
  refine lv_dup hx hb dJ5_append_cf1ce_34 rfl ?_
  refine gf_RJ5_79_1 S hE w g_up_s rfl dJ5_append_cf1ce_35 ?_
  refine lv_iload_n hx hb dJ5_append_cf1ce_38 rfl (lv_at hl 0 rfl) ?_
  refine lv_iadd hx hb dJ5_append_cf1ce_39 ?_
  rw [show ((nI k9) + (nI bs.length) : Int32) = nI (k9 + bs.length) from nI_add _ _]
  refine pf_RJ5_79_1 (fs1 := [.ref sz, .int 0, .int ml, .int (nI (k9 + bs.length))]) S hE w g_up_s rfl rfl (Nat.le_of_ble_eq_true rfl) rfl dJ5_append_cf1ce_40 (fun H locs w => ?_)
  have w := g_eqw w g_over
  refine lv_aload_n hx hb dJ5_append_cf1ce_43 rfl (lv_at hl 1 rfl) ?_
  exact g_qret (r := (some q)) hx hb hr (Or.inl ⟨_, rfl⟩) hlk w (Nat.le_of_ble_eq_true rfl) (Nat.le_of_ble_eq_true rfl) dJ5_append_cf1ce_44 ⟨rfl, rfl⟩
