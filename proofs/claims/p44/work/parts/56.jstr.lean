theorem dJ0_coder_7d493_0 : decode cJ0_coder_7d493 0 = .ok (.getstatic 38, 3) := by decide +kernel
theorem dJ0_coder_7d493_3 : decode cJ0_coder_7d493 3 = .ok (.ifCond .eq 10, 3) := by decide +kernel
theorem dJ0_coder_7d493_6 : decode cJ0_coder_7d493 6 = .ok (.aload_n 0, 1) := by decide +kernel
theorem dJ0_coder_7d493_7 : decode cJ0_coder_7d493 7 = .ok (.getfield 15, 3) := by decide +kernel
theorem dJ0_coder_7d493_10 : decode cJ0_coder_7d493 10 = .ok (.goto 4, 3) := by decide +kernel
theorem dJ0_coder_7d493_13 : decode cJ0_coder_7d493 13 = .ok (.iconst 1, 1) := by decide +kernel
theorem dJ0_coder_7d493_14 : decode cJ0_coder_7d493 14 = .ok (.ireturn, 1) := by decide +kernel
theorem dJ0_length_8abf5_0 : decode cJ0_length_8abf5 0 = .ok (.aload_n 0, 1) := by decide +kernel
theorem dJ0_length_8abf5_1 : decode cJ0_length_8abf5 1 = .ok (.getfield 9, 3) := by decide +kernel
theorem dJ0_length_8abf5_4 : decode cJ0_length_8abf5 4 = .ok (.arraylength, 1) := by decide +kernel
theorem dJ0_length_8abf5_5 : decode cJ0_length_8abf5 5 = .ok (.aload_n 0, 1) := by decide +kernel
theorem dJ0_length_8abf5_6 : decode cJ0_length_8abf5 6 = .ok (.invokevirtual 335, 3) := by decide +kernel
theorem dJ0_length_8abf5_9 : decode cJ0_length_8abf5 9 = .ok (.ishr, 1) := by decide +kernel
theorem dJ0_length_8abf5_10 : decode cJ0_length_8abf5 10 = .ok (.ireturn, 1) := by decide +kernel
theorem dJ0_isLatin1_aae02_0 : decode cJ0_isLatin1_aae02 0 = .ok (.getstatic 38, 3) := by decide +kernel
theorem dJ0_isLatin1_aae02_3 : decode cJ0_isLatin1_aae02 3 = .ok (.ifCond .eq 14, 3) := by decide +kernel
theorem dJ0_isLatin1_aae02_6 : decode cJ0_isLatin1_aae02 6 = .ok (.aload_n 0, 1) := by decide +kernel
theorem dJ0_isLatin1_aae02_7 : decode cJ0_isLatin1_aae02 7 = .ok (.getfield 15, 3) := by decide +kernel
theorem dJ0_isLatin1_aae02_10 : decode cJ0_isLatin1_aae02 10 = .ok (.ifCond .ne 7, 3) := by decide +kernel
theorem dJ0_isLatin1_aae02_13 : decode cJ0_isLatin1_aae02 13 = .ok (.iconst 1, 1) := by decide +kernel
theorem dJ0_isLatin1_aae02_14 : decode cJ0_isLatin1_aae02 14 = .ok (.goto 4, 3) := by decide +kernel
theorem dJ0_isLatin1_aae02_17 : decode cJ0_isLatin1_aae02 17 = .ok (.iconst 0, 1) := by decide +kernel
theorem dJ0_isLatin1_aae02_18 : decode cJ0_isLatin1_aae02 18 = .ok (.ireturn, 1) := by decide +kernel
theorem dJ0_isEmpty_aae02_0 : decode cJ0_isEmpty_aae02 0 = .ok (.aload_n 0, 1) := by decide +kernel
theorem dJ0_isEmpty_aae02_1 : decode cJ0_isEmpty_aae02 1 = .ok (.getfield 9, 3) := by decide +kernel
theorem dJ0_isEmpty_aae02_4 : decode cJ0_isEmpty_aae02 4 = .ok (.arraylength, 1) := by decide +kernel
theorem dJ0_isEmpty_aae02_5 : decode cJ0_isEmpty_aae02 5 = .ok (.ifCond .ne 7, 3) := by decide +kernel
theorem dJ0_isEmpty_aae02_8 : decode cJ0_isEmpty_aae02 8 = .ok (.iconst 1, 1) := by decide +kernel
theorem dJ0_isEmpty_aae02_9 : decode cJ0_isEmpty_aae02 9 = .ok (.goto 4, 3) := by decide +kernel
theorem dJ0_isEmpty_aae02_12 : decode cJ0_isEmpty_aae02 12 = .ok (.iconst 0, 1) := by decide +kernel
theorem dJ0_isEmpty_aae02_13 : decode cJ0_isEmpty_aae02 13 = .ok (.ireturn, 1) := by decide +kernel
theorem dJ1_canEncode_9a6ad_0 : decode cJ1_canEncode_9a6ad 0 = .ok (.iload_n 0, 1) := by decide +kernel
theorem dJ1_canEncode_9a6ad_1 : decode cJ1_canEncode_9a6ad 1 = .ok (.ifCond .lt 14, 3) := by decide +kernel
theorem dJ1_canEncode_9a6ad_4 : decode cJ1_canEncode_9a6ad 4 = .ok (.iload_n 0, 1) := by decide +kernel
theorem dJ1_canEncode_9a6ad_5 : decode cJ1_canEncode_9a6ad 5 = .ok (.sipush 255, 3) := by decide +kernel
theorem dJ1_canEncode_9a6ad_8 : decode cJ1_canEncode_9a6ad 8 = .ok (.if_icmp .gt 7, 3) := by decide +kernel
theorem dJ1_canEncode_9a6ad_11 : decode cJ1_canEncode_9a6ad 11 = .ok (.iconst 1, 1) := by decide +kernel
theorem dJ1_canEncode_9a6ad_12 : decode cJ1_canEncode_9a6ad 12 = .ok (.goto 4, 3) := by decide +kernel
theorem dJ1_canEncode_9a6ad_15 : decode cJ1_canEncode_9a6ad 15 = .ok (.iconst 0, 1) := by decide +kernel
theorem dJ1_canEncode_9a6ad_16 : decode cJ1_canEncode_9a6ad 16 = .ok (.ireturn, 1) := by decide +kernel
theorem dJ1_indexOfChar_4cfef_0 : decode cJ1_indexOfChar_4cfef 0 = .ok (.iload_n 1, 1) := by decide +kernel
theorem dJ1_indexOfChar_4cfef_1 : decode cJ1_indexOfChar_4cfef 1 = .ok (.i2b, 1) := by decide +kernel
theorem dJ1_indexOfChar_4cfef_2 : decode cJ1_indexOfChar_4cfef 2 = .ok (.istore 4, 2) := by decide +kernel
theorem dJ1_indexOfChar_4cfef_4 : decode cJ1_indexOfChar_4cfef 4 = .ok (.iload_n 2, 1) := by decide +kernel
theorem dJ1_indexOfChar_4cfef_5 : decode cJ1_indexOfChar_4cfef 5 = .ok (.istore 5, 2) := by decide +kernel
theorem dJ1_indexOfChar_4cfef_7 : decode cJ1_indexOfChar_4cfef 7 = .ok (.iload 5, 2) := by decide +kernel
theorem dJ1_indexOfChar_4cfef_9 : decode cJ1_indexOfChar_4cfef 9 = .ok (.iload_n 3, 1) := by decide +kernel
theorem dJ1_indexOfChar_4cfef_10 : decode cJ1_indexOfChar_4cfef 10 = .ok (.if_icmp .ge 21, 3) := by decide +kernel
theorem dJ1_indexOfChar_4cfef_13 : decode cJ1_indexOfChar_4cfef 13 = .ok (.aload_n 0, 1) := by decide +kernel
theorem dJ1_indexOfChar_4cfef_14 : decode cJ1_indexOfChar_4cfef 14 = .ok (.iload 5, 2) := by decide +kernel
theorem dJ1_indexOfChar_4cfef_16 : decode cJ1_indexOfChar_4cfef 16 = .ok (.baload, 1) := by decide +kernel
theorem dJ1_indexOfChar_4cfef_17 : decode cJ1_indexOfChar_4cfef 17 = .ok (.iload 4, 2) := by decide +kernel
theorem dJ1_indexOfChar_4cfef_19 : decode cJ1_indexOfChar_4cfef 19 = .ok (.if_icmp .ne 6, 3) := by decide +kernel
theorem dJ1_indexOfChar_4cfef_22 : decode cJ1_indexOfChar_4cfef 22 = .ok (.iload 5, 2) := by decide +kernel
theorem dJ1_indexOfChar_4cfef_24 : decode cJ1_indexOfChar_4cfef 24 = .ok (.ireturn, 1) := by decide +kernel
theorem dJ1_indexOfChar_4cfef_25 : decode cJ1_indexOfChar_4cfef 25 = .ok (.iinc 5 1, 3) := by decide +kernel
theorem dJ1_indexOfChar_4cfef_28 : decode cJ1_indexOfChar_4cfef 28 = .ok (.goto (-21), 3) := by decide +kernel
theorem dJ1_indexOfChar_4cfef_31 : decode cJ1_indexOfChar_4cfef 31 = .ok (.iconst (-1), 1) := by decide +kernel
theorem dJ1_indexOfChar_4cfef_32 : decode cJ1_indexOfChar_4cfef 32 = .ok (.ireturn, 1) := by decide +kernel
theorem dJ1_indexOf_4cfef_0 : decode cJ1_indexOf_4cfef 0 = .ok (.iload_n 1, 1) := by decide +kernel
theorem dJ1_indexOf_4cfef_1 : decode cJ1_indexOf_4cfef 1 = .ok (.invokestatic 88, 3) := by decide +kernel
theorem dJ1_indexOf_4cfef_4 : decode cJ1_indexOf_4cfef 4 = .ok (.ifCond .ne 5, 3) := by decide +kernel
theorem dJ1_indexOf_4cfef_7 : decode cJ1_indexOf_4cfef 7 = .ok (.iconst (-1), 1) := by decide +kernel
theorem dJ1_indexOf_4cfef_8 : decode cJ1_indexOf_4cfef 8 = .ok (.ireturn, 1) := by decide +kernel
theorem dJ1_indexOf_4cfef_9 : decode cJ1_indexOf_4cfef 9 = .ok (.iload_n 2, 1) := by decide +kernel
theorem dJ1_indexOf_4cfef_10 : decode cJ1_indexOf_4cfef 10 = .ok (.iconst 0, 1) := by decide +kernel
theorem dJ1_indexOf_4cfef_11 : decode cJ1_indexOf_4cfef 11 = .ok (.invokestatic 92, 3) := by decide +kernel
theorem dJ1_indexOf_4cfef_14 : decode cJ1_indexOf_4cfef 14 = .ok (.istore_n 2, 1) := by decide +kernel
theorem dJ1_indexOf_4cfef_15 : decode cJ1_indexOf_4cfef 15 = .ok (.iload_n 3, 1) := by decide +kernel
theorem dJ1_indexOf_4cfef_16 : decode cJ1_indexOf_4cfef 16 = .ok (.aload_n 0, 1) := by decide +kernel
theorem dJ1_indexOf_4cfef_17 : decode cJ1_indexOf_4cfef 17 = .ok (.arraylength, 1) := by decide +kernel
theorem dJ1_indexOf_4cfef_18 : decode cJ1_indexOf_4cfef 18 = .ok (.invokestatic 38, 3) := by decide +kernel
theorem dJ1_indexOf_4cfef_21 : decode cJ1_indexOf_4cfef 21 = .ok (.istore_n 3, 1) := by decide +kernel
theorem dJ1_indexOf_4cfef_22 : decode cJ1_indexOf_4cfef 22 = .ok (.iload_n 2, 1) := by decide +kernel
theorem dJ1_indexOf_4cfef_23 : decode cJ1_indexOf_4cfef 23 = .ok (.iload_n 3, 1) := by decide +kernel
theorem dJ1_indexOf_4cfef_24 : decode cJ1_indexOf_4cfef 24 = .ok (.if_icmp .lt 5, 3) := by decide +kernel
theorem dJ1_indexOf_4cfef_27 : decode cJ1_indexOf_4cfef 27 = .ok (.iconst (-1), 1) := by decide +kernel
theorem dJ1_indexOf_4cfef_28 : decode cJ1_indexOf_4cfef 28 = .ok (.ireturn, 1) := by decide +kernel
theorem dJ1_indexOf_4cfef_29 : decode cJ1_indexOf_4cfef 29 = .ok (.aload_n 0, 1) := by decide +kernel
theorem dJ1_indexOf_4cfef_30 : decode cJ1_indexOf_4cfef 30 = .ok (.iload_n 1, 1) := by decide +kernel
theorem dJ1_indexOf_4cfef_31 : decode cJ1_indexOf_4cfef 31 = .ok (.iload_n 2, 1) := by decide +kernel
theorem dJ1_indexOf_4cfef_32 : decode cJ1_indexOf_4cfef 32 = .ok (.iload_n 3, 1) := by decide +kernel
theorem dJ1_indexOf_4cfef_33 : decode cJ1_indexOf_4cfef 33 = .ok (.invokestatic 95, 3) := by decide +kernel
theorem dJ1_indexOf_4cfef_36 : decode cJ1_indexOf_4cfef 36 = .ok (.ireturn, 1) := by decide +kernel
theorem dJ0_indexOf_7cf53_0 : decode cJ0_indexOf_7cf53 0 = .ok (.aload_n 0, 1) := by decide +kernel
theorem dJ0_indexOf_7cf53_1 : decode cJ0_indexOf_7cf53 1 = .ok (.invokevirtual 492, 3) := by decide +kernel
theorem dJ0_indexOf_7cf53_4 : decode cJ0_indexOf_7cf53 4 = .ok (.ifCond .eq 19, 3) := by decide +kernel
theorem dJ0_indexOf_7cf53_7 : decode cJ0_indexOf_7cf53 7 = .ok (.aload_n 0, 1) := by decide +kernel
theorem dJ0_indexOf_7cf53_8 : decode cJ0_indexOf_7cf53 8 = .ok (.getfield 9, 3) := by decide +kernel
theorem dJ0_indexOf_7cf53_11 : decode cJ0_indexOf_7cf53 11 = .ok (.iload_n 1, 1) := by decide +kernel
theorem dJ0_indexOf_7cf53_12 : decode cJ0_indexOf_7cf53 12 = .ok (.iload_n 2, 1) := by decide +kernel
theorem dJ0_indexOf_7cf53_13 : decode cJ0_indexOf_7cf53 13 = .ok (.aload_n 0, 1) := by decide +kernel
theorem dJ0_indexOf_7cf53_14 : decode cJ0_indexOf_7cf53 14 = .ok (.invokevirtual 505, 3) := by decide +kernel
theorem dJ0_indexOf_7cf53_17 : decode cJ0_indexOf_7cf53 17 = .ok (.invokestatic 637, 3) := by decide +kernel
theorem dJ0_indexOf_7cf53_20 : decode cJ0_indexOf_7cf53 20 = .ok (.goto 16, 3) := by decide +kernel
theorem dJ0_indexOf_7cf53_23 : decode cJ0_indexOf_7cf53 23 = .ok (.aload_n 0, 1) := by decide +kernel
theorem dJ0_indexOf_7cf53_24 : decode cJ0_indexOf_7cf53 24 = .ok (.getfield 9, 3) := by decide +kernel
theorem dJ0_indexOf_7cf53_27 : decode cJ0_indexOf_7cf53 27 = .ok (.iload_n 1, 1) := by decide +kernel
theorem dJ0_indexOf_7cf53_28 : decode cJ0_indexOf_7cf53 28 = .ok (.iload_n 2, 1) := by decide +kernel
theorem dJ0_indexOf_7cf53_29 : decode cJ0_indexOf_7cf53 29 = .ok (.aload_n 0, 1) := by decide +kernel
theorem dJ0_indexOf_7cf53_30 : decode cJ0_indexOf_7cf53 30 = .ok (.invokevirtual 505, 3) := by decide +kernel
theorem dJ0_indexOf_7cf53_33 : decode cJ0_indexOf_7cf53 33 = .ok (.invokestatic 640, 3) := by decide +kernel
theorem dJ0_indexOf_7cf53_36 : decode cJ0_indexOf_7cf53 36 = .ok (.ireturn, 1) := by decide +kernel
theorem dJ0_indexOf_0f7a4_0 : decode cJ0_indexOf_0f7a4 0 = .ok (.aload_n 0, 1) := by decide +kernel
theorem dJ0_indexOf_0f7a4_1 : decode cJ0_indexOf_0f7a4 1 = .ok (.iload_n 1, 1) := by decide +kernel
theorem dJ0_indexOf_0f7a4_2 : decode cJ0_indexOf_0f7a4 2 = .ok (.iconst 0, 1) := by decide +kernel
theorem dJ0_indexOf_0f7a4_3 : decode cJ0_indexOf_0f7a4 3 = .ok (.invokevirtual 633, 3) := by decide +kernel
theorem dJ0_indexOf_0f7a4_6 : decode cJ0_indexOf_0f7a4 6 = .ok (.ireturn, 1) := by decide +kernel
theorem dJ0_checkIndex_df160_0 : decode cJ0_checkIndex_df160 0 = .ok (.iload_n 0, 1) := by decide +kernel
theorem dJ0_checkIndex_df160_1 : decode cJ0_checkIndex_df160 1 = .ok (.iload_n 1, 1) := by decide +kernel
theorem dJ0_checkIndex_df160_2 : decode cJ0_checkIndex_df160 2 = .ok (.getstatic 1053, 3) := by decide +kernel
theorem dJ0_checkIndex_df160_5 : decode cJ0_checkIndex_df160 5 = .ok (.invokestatic 1059, 3) := by decide +kernel
theorem dJ0_checkIndex_df160_8 : decode cJ0_checkIndex_df160 8 = .ok (.pop, 1) := by decide +kernel
theorem dJ0_checkIndex_df160_9 : decode cJ0_checkIndex_df160 9 = .ok (.return_, 1) := by decide +kernel
theorem dJ3_checkFromToIndex_8c36e_0 : decode cJ3_checkFromToIndex_8c36e 0 = .ok (.iload_n 0, 1) := by decide +kernel
theorem dJ3_checkFromToIndex_8c36e_1 : decode cJ3_checkFromToIndex_8c36e 1 = .ok (.ifCond .lt 13, 3) := by decide +kernel
theorem dJ3_checkFromToIndex_8c36e_4 : decode cJ3_checkFromToIndex_8c36e 4 = .ok (.iload_n 0, 1) := by decide +kernel
theorem dJ3_checkFromToIndex_8c36e_5 : decode cJ3_checkFromToIndex_8c36e 5 = .ok (.iload_n 1, 1) := by decide +kernel
theorem dJ3_checkFromToIndex_8c36e_6 : decode cJ3_checkFromToIndex_8c36e 6 = .ok (.if_icmp .gt 8, 3) := by decide +kernel
theorem dJ3_checkFromToIndex_8c36e_9 : decode cJ3_checkFromToIndex_8c36e 9 = .ok (.iload_n 1, 1) := by decide +kernel
theorem dJ3_checkFromToIndex_8c36e_10 : decode cJ3_checkFromToIndex_8c36e 10 = .ok (.iload_n 2, 1) := by decide +kernel
theorem dJ3_checkFromToIndex_8c36e_11 : decode cJ3_checkFromToIndex_8c36e 11 = .ok (.if_icmp .le 11, 3) := by decide +kernel
theorem dJ3_checkFromToIndex_8c36e_14 : decode cJ3_checkFromToIndex_8c36e 14 = .ok (.aload_n 3, 1) := by decide +kernel
theorem dJ3_checkFromToIndex_8c36e_15 : decode cJ3_checkFromToIndex_8c36e 15 = .ok (.iload_n 0, 1) := by decide +kernel
theorem dJ3_checkFromToIndex_8c36e_16 : decode cJ3_checkFromToIndex_8c36e 16 = .ok (.iload_n 1, 1) := by decide +kernel
theorem dJ3_checkFromToIndex_8c36e_17 : decode cJ3_checkFromToIndex_8c36e 17 = .ok (.iload_n 2, 1) := by decide +kernel
theorem dJ3_checkFromToIndex_8c36e_18 : decode cJ3_checkFromToIndex_8c36e 18 = .ok (.invokestatic 99, 3) := by decide +kernel
theorem dJ3_checkFromToIndex_8c36e_21 : decode cJ3_checkFromToIndex_8c36e 21 = .ok (.athrow, 1) := by decide +kernel
theorem dJ3_checkFromToIndex_8c36e_22 : decode cJ3_checkFromToIndex_8c36e 22 = .ok (.iload_n 0, 1) := by decide +kernel
theorem dJ3_checkFromToIndex_8c36e_23 : decode cJ3_checkFromToIndex_8c36e 23 = .ok (.ireturn, 1) := by decide +kernel
theorem dJ0_checkBoundsBeginEnd_23922_0 : decode cJ0_checkBoundsBeginEnd_23922 0 = .ok (.iload_n 0, 1) := by decide +kernel
theorem dJ0_checkBoundsBeginEnd_23922_1 : decode cJ0_checkBoundsBeginEnd_23922 1 = .ok (.iload_n 1, 1) := by decide +kernel
theorem dJ0_checkBoundsBeginEnd_23922_2 : decode cJ0_checkBoundsBeginEnd_23922 2 = .ok (.iload_n 2, 1) := by decide +kernel
theorem dJ0_checkBoundsBeginEnd_23922_3 : decode cJ0_checkBoundsBeginEnd_23922 3 = .ok (.getstatic 1053, 3) := by decide +kernel
theorem dJ0_checkBoundsBeginEnd_23922_6 : decode cJ0_checkBoundsBeginEnd_23922 6 = .ok (.invokestatic 1062, 3) := by decide +kernel
theorem dJ0_checkBoundsBeginEnd_23922_9 : decode cJ0_checkBoundsBeginEnd_23922 9 = .ok (.pop, 1) := by decide +kernel
theorem dJ0_checkBoundsBeginEnd_23922_10 : decode cJ0_checkBoundsBeginEnd_23922 10 = .ok (.return_, 1) := by decide +kernel
theorem dJ1_charAt_3b067_0 : decode cJ1_charAt_3b067 0 = .ok (.iload_n 1, 1) := by decide +kernel
theorem dJ1_charAt_3b067_1 : decode cJ1_charAt_3b067 1 = .ok (.aload_n 0, 1) := by decide +kernel
theorem dJ1_charAt_3b067_2 : decode cJ1_charAt_3b067 2 = .ok (.arraylength, 1) := by decide +kernel
theorem dJ1_charAt_3b067_3 : decode cJ1_charAt_3b067 3 = .ok (.invokestatic 9, 3) := by decide +kernel
theorem dJ1_charAt_3b067_6 : decode cJ1_charAt_3b067 6 = .ok (.aload_n 0, 1) := by decide +kernel
theorem dJ1_charAt_3b067_7 : decode cJ1_charAt_3b067 7 = .ok (.iload_n 1, 1) := by decide +kernel
theorem dJ1_charAt_3b067_8 : decode cJ1_charAt_3b067 8 = .ok (.baload, 1) := by decide +kernel
theorem dJ1_charAt_3b067_9 : decode cJ1_charAt_3b067 9 = .ok (.sipush 255, 3) := by decide +kernel
theorem dJ1_charAt_3b067_12 : decode cJ1_charAt_3b067 12 = .ok (.iand, 1) := by decide +kernel
theorem dJ1_charAt_3b067_13 : decode cJ1_charAt_3b067 13 = .ok (.i2c, 1) := by decide +kernel
theorem dJ1_charAt_3b067_14 : decode cJ1_charAt_3b067 14 = .ok (.ireturn, 1) := by decide +kernel
theorem dJ0_charAt_5068e_0 : decode cJ0_charAt_5068e 0 = .ok (.aload_n 0, 1) := by decide +kernel
theorem dJ0_charAt_5068e_1 : decode cJ0_charAt_5068e 1 = .ok (.invokevirtual 492, 3) := by decide +kernel
theorem dJ0_charAt_5068e_4 : decode cJ0_charAt_5068e 4 = .ok (.ifCond .eq 12, 3) := by decide +kernel
theorem dJ0_charAt_5068e_7 : decode cJ0_charAt_5068e 7 = .ok (.aload_n 0, 1) := by decide +kernel
theorem dJ0_charAt_5068e_8 : decode cJ0_charAt_5068e 8 = .ok (.getfield 9, 3) := by decide +kernel
theorem dJ0_charAt_5068e_11 : decode cJ0_charAt_5068e 11 = .ok (.iload_n 1, 1) := by decide +kernel
theorem dJ0_charAt_5068e_12 : decode cJ0_charAt_5068e 12 = .ok (.invokestatic 495, 3) := by decide +kernel
theorem dJ0_charAt_5068e_15 : decode cJ0_charAt_5068e 15 = .ok (.ireturn, 1) := by decide +kernel
theorem dJ0_charAt_5068e_16 : decode cJ0_charAt_5068e 16 = .ok (.aload_n 0, 1) := by decide +kernel
theorem dJ0_charAt_5068e_17 : decode cJ0_charAt_5068e 17 = .ok (.getfield 9, 3) := by decide +kernel
theorem dJ0_charAt_5068e_20 : decode cJ0_charAt_5068e 20 = .ok (.iload_n 1, 1) := by decide +kernel
theorem dJ0_charAt_5068e_21 : decode cJ0_charAt_5068e 21 = .ok (.invokestatic 498, 3) := by decide +kernel
theorem dJ0_charAt_5068e_24 : decode cJ0_charAt_5068e 24 = .ok (.ireturn, 1) := by decide +kernel
section SITES
variable {p : Program} {l : Launch} {e : Env} {R : Room} {s : State} {m : MethodId} {args : Array Value} {below : List Frame} {meth : Method} {c : Code} {H : Heap} {locs : List Loc} {cells slots : Nat} {Q : State → Prop}
variable {pc : Nat} {ls : Array Slot} {rest : List Value} {D : va_G} {ar : Nat → ClassId} {κ : Nat → Nat} {A : Nat → Prop} {a : Nat} {H0 : Heap} {G : gW} {nz nL : Nat} {cc : ByteArray}
theorem m_5_12 : (Cond.fieldLink RJ0 38 "java/lang/String" "COMPACT_STRINGS" "Z") ∈ lwA := lwA_mk (ck_5 _ (List.mem_of_getElem? (i := 12) rfl)) rfl
theorem m_5_130 : (Cond.fieldLink RJ0 15 "java/lang/String" "coder" "B") ∈ lwA := lwA_mk (ck_5 _ (List.mem_of_getElem? (i := 130) rfl)) rfl
theorem inA_RJ0 : ∀ w ∈ u_ws RJ0 TJ0 4, w ∈ lwA := gA_r _ [415, 417, 1132, 1134] (by decide +kernel) (by decide +kernel)
theorem gf_RJ0_15_0 {A9 : Nat → Prop} {H9 : Heap} {fs : List Value} {v : Value} (S : CallFix p m c cc nL s args lwA RJ0) (hE : g_E D vwCl (gT ar) (EX1 κ) A9 s H9) (w : g_S D vwCl A H0 G H locs nz) (ha : G a = some (.inr (0, fs))) (hv : fs[1]? = some v) (hdg : decode cc pc = .ok (.getfield 15, 3)) (kk : W p l e R s m args below meth c H locs cells slots Q (F0 m (pc + 3) ls (v :: rest))) : W p l e R s m args below meth c H locs cells slots Q (F0 m pc ls (.ref a :: rest)) :=
  va_get (ci := 0) (C := RJ0) (T := TJ0) (N := 4) S.1 S.2.1 S.2.2.2.2 inA_RJ0 S.2.2.2.1 hE.1 (g_1 w.1 ha) 0 rfl rfl 1 (by decide) (S.2.2.2.2 _ m_5_130) (fun _ h => h) hv hdg kk
theorem m_5_129 : (Cond.fieldLink RJ0 9 "java/lang/String" "value" "[B") ∈ lwA := lwA_mk (ck_5 _ (List.mem_of_getElem? (i := 129) rfl)) rfl
theorem gf_RJ0_9_0 {A9 : Nat → Prop} {H9 : Heap} {fs : List Value} {v : Value} (S : CallFix p m c cc nL s args lwA RJ0) (hE : g_E D vwCl (gT ar) (EX1 κ) A9 s H9) (w : g_S D vwCl A H0 G H locs nz) (ha : G a = some (.inr (0, fs))) (hv : fs[0]? = some v) (hdg : decode cc pc = .ok (.getfield 9, 3)) (kk : W p l e R s m args below meth c H locs cells slots Q (F0 m (pc + 3) ls (v :: rest))) : W p l e R s m args below meth c H locs cells slots Q (F0 m pc ls (.ref a :: rest)) :=
  va_get (ci := 0) (C := RJ0) (T := TJ0) (N := 4) S.1 S.2.1 S.2.2.2.2 inA_RJ0 S.2.2.2.1 hE.1 (g_1 w.1 ha) 0 rfl rfl 0 (by decide) (S.2.2.2.2 _ m_5_129) (fun _ h => h) hv hdg kk
theorem m_5_11 : (Cond.code yJ0_coder_7d493 cJ0_coder_7d493 1 (some .byte)) ∈ lwA := lwA_mk (ck_5 _ (List.mem_of_getElem? (i := 11) rfl)) rfl
theorem m_1_17 : (Cond.initialized RJ0) ∈ lwA := lwA_mk (ck_1 _ (List.mem_of_getElem? (i := 17) rfl)) rfl
theorem m_5_8 : (Cond.methodLink RJ0 335 yJ0_coder_7d493) ∈ lwA := lwA_mk (ck_5 _ (List.mem_of_getElem? (i := 8) rfl)) rfl
theorem m_5_9 : (Cond.instanceMethod yJ0_coder_7d493) ∈ lwA := lwA_mk (ck_5 _ (List.mem_of_getElem? (i := 9) rfl)) rfl
theorem m_5_10 : (Cond.selects RJ0 yJ0_coder_7d493 yJ0_coder_7d493) ∈ lwA := lwA_mk (ck_5 _ (List.mem_of_getElem? (i := 10) rfl)) rfl
theorem k_RJ0_335 {args : Array Value} {s : State} {R rm : Room} (hts : ∀ w ∈ lwA, w.before args s = true) (hR : rm.frames + 1 ≤ R.frames ∧ 8 + (1 + 11) + rm.locals ≤ R.locals) : CallW R s args RJ0 RJ0 335 yJ0_coder_7d493 cJ0_coder_7d493 1 (some .byte) (lwC yJ0_coder_7d493 cJ0_coder_7d493 1 (some .byte)) rm rm.cells rm.slots 0 := cwV 0 hts (gdV m_5_8 m_5_9 m_5_10 m_1_17 m_5_11) rfl rfl rfl (by decide +kernel) hR
theorem m_5_195 : (Cond.code yJ1_canEncode_9a6ad cJ1_canEncode_9a6ad 1 (some .boolean)) ∈ lwA := lwA_mk (ck_5 _ (List.mem_of_getElem? (i := 195) rfl)) rfl
theorem m_1_27 : (Cond.initialized RJ1) ∈ lwA := lwA_mk (ck_1 _ (List.mem_of_getElem? (i := 27) rfl)) rfl
theorem m_5_193 : (Cond.methodLink RJ1 88 yJ1_canEncode_9a6ad) ∈ lwA := lwA_mk (ck_5 _ (List.mem_of_getElem? (i := 193) rfl)) rfl
theorem m_5_194 : (Cond.static yJ1_canEncode_9a6ad) ∈ lwA := lwA_mk (ck_5 _ (List.mem_of_getElem? (i := 194) rfl)) rfl
theorem k_RJ1_88 {args : Array Value} {s : State} {R rm : Room} (hts : ∀ w ∈ lwA, w.before args s = true) (hR : rm.frames + 1 ≤ R.frames ∧ 8 + (1 + 11) + rm.locals ≤ R.locals) : CallB R s args RJ1 88 yJ1_canEncode_9a6ad cJ1_canEncode_9a6ad 1 (some .boolean) (lwC yJ1_canEncode_9a6ad cJ1_canEncode_9a6ad 1 (some .boolean)) rm rm.cells rm.slots 1 ∧ (Cond.static yJ1_canEncode_9a6ad).before args s = true := cwS 1 hts (gdS m_5_193 m_5_194 m_1_27 m_5_195) rfl rfl rfl (by decide +kernel) hR
theorem m_5_196 : (Cond.methodLink RJ1 92 yJ9_max_7cf53) ∈ lwA := lwA_mk (ck_5 _ (List.mem_of_getElem? (i := 196) rfl)) rfl
theorem m_4_101 : (Cond.code yJ9_min_7cf53 cJ9_min_7cf53 2 (some .int)) ∈ lwA := lwA_mk (ck_4 _ (List.mem_of_getElem? (i := 101) rfl)) rfl
theorem m_5_197 : (Cond.methodLink RJ1 38 yJ9_min_7cf53) ∈ lwA := lwA_mk (ck_5 _ (List.mem_of_getElem? (i := 197) rfl)) rfl
theorem m_4_100 : (Cond.static yJ9_min_7cf53) ∈ lwA := lwA_mk (ck_4 _ (List.mem_of_getElem? (i := 100) rfl)) rfl
theorem m_5_200 : (Cond.code yJ1_indexOfChar_4cfef cJ1_indexOfChar_4cfef 6 (some .int)) ∈ lwA := lwA_mk (ck_5 _ (List.mem_of_getElem? (i := 200) rfl)) rfl
theorem m_5_198 : (Cond.methodLink RJ1 95 yJ1_indexOfChar_4cfef) ∈ lwA := lwA_mk (ck_5 _ (List.mem_of_getElem? (i := 198) rfl)) rfl
theorem m_5_199 : (Cond.static yJ1_indexOfChar_4cfef) ∈ lwA := lwA_mk (ck_5 _ (List.mem_of_getElem? (i := 199) rfl)) rfl
theorem k_RJ1_95 {args : Array Value} {s : State} {R rm : Room} (hts : ∀ w ∈ lwA, w.before args s = true) (hR : rm.frames + 1 ≤ R.frames ∧ 8 + (6 + 11) + rm.locals ≤ R.locals) : CallB R s args RJ1 95 yJ1_indexOfChar_4cfef cJ1_indexOfChar_4cfef 6 (some .int) (lwC yJ1_indexOfChar_4cfef cJ1_indexOfChar_4cfef 6 (some .int)) rm rm.cells rm.slots 4 ∧ (Cond.static yJ1_indexOfChar_4cfef).before args s = true := cwS 4 hts (gdS m_5_198 m_5_199 m_1_27 m_5_200) rfl rfl rfl (by decide +kernel) hR
theorem m_5_167 : (Cond.code yJ0_isLatin1_aae02 cJ0_isLatin1_aae02 1 (some .boolean)) ∈ lwA := lwA_mk (ck_5 _ (List.mem_of_getElem? (i := 167) rfl)) rfl
theorem m_5_164 : (Cond.methodLink RJ0 492 yJ0_isLatin1_aae02) ∈ lwA := lwA_mk (ck_5 _ (List.mem_of_getElem? (i := 164) rfl)) rfl
theorem m_5_165 : (Cond.instanceMethod yJ0_isLatin1_aae02) ∈ lwA := lwA_mk (ck_5 _ (List.mem_of_getElem? (i := 165) rfl)) rfl
theorem m_5_166 : (Cond.selects RJ0 yJ0_isLatin1_aae02 yJ0_isLatin1_aae02) ∈ lwA := lwA_mk (ck_5 _ (List.mem_of_getElem? (i := 166) rfl)) rfl
theorem k_RJ0_492 {args : Array Value} {s : State} {R rm : Room} (hts : ∀ w ∈ lwA, w.before args s = true) (hR : rm.frames + 1 ≤ R.frames ∧ 8 + (1 + 11) + rm.locals ≤ R.locals) : CallW R s args RJ0 RJ0 492 yJ0_isLatin1_aae02 cJ0_isLatin1_aae02 1 (some .boolean) (lwC yJ0_isLatin1_aae02 cJ0_isLatin1_aae02 1 (some .boolean)) rm rm.cells rm.slots 0 := cwV 0 hts (gdV m_5_164 m_5_165 m_5_166 m_1_17 m_5_167) rfl rfl rfl (by decide +kernel) hR
theorem m_5_7 : (Cond.code yJ0_length_8abf5 cJ0_length_8abf5 1 (some .int)) ∈ lwA := lwA_mk (ck_5 _ (List.mem_of_getElem? (i := 7) rfl)) rfl
theorem m_5_158 : (Cond.methodLink RJ0 505 yJ0_length_8abf5) ∈ lwA := lwA_mk (ck_5 _ (List.mem_of_getElem? (i := 158) rfl)) rfl
theorem m_5_5 : (Cond.instanceMethod yJ0_length_8abf5) ∈ lwA := lwA_mk (ck_5 _ (List.mem_of_getElem? (i := 5) rfl)) rfl
theorem m_5_6 : (Cond.selects RJ0 yJ0_length_8abf5 yJ0_length_8abf5) ∈ lwA := lwA_mk (ck_5 _ (List.mem_of_getElem? (i := 6) rfl)) rfl
theorem k_RJ0_505 {args : Array Value} {s : State} {R rm : Room} (hts : ∀ w ∈ lwA, w.before args s = true) (hR : rm.frames + 1 ≤ R.frames ∧ 8 + (1 + 11) + rm.locals ≤ R.locals) : CallW R s args RJ0 RJ0 505 yJ0_length_8abf5 cJ0_length_8abf5 1 (some .int) (lwC yJ0_length_8abf5 cJ0_length_8abf5 1 (some .int)) rm rm.cells rm.slots 0 := cwV 0 hts (gdV m_5_158 m_5_5 m_5_6 m_1_17 m_5_7) rfl rfl rfl (by decide +kernel) hR
theorem m_5_192 : (Cond.code yJ1_indexOf_4cfef cJ1_indexOf_4cfef 4 (some .int)) ∈ lwA := lwA_mk (ck_5 _ (List.mem_of_getElem? (i := 192) rfl)) rfl
theorem m_5_190 : (Cond.methodLink RJ0 637 yJ1_indexOf_4cfef) ∈ lwA := lwA_mk (ck_5 _ (List.mem_of_getElem? (i := 190) rfl)) rfl
theorem m_5_191 : (Cond.static yJ1_indexOf_4cfef) ∈ lwA := lwA_mk (ck_5 _ (List.mem_of_getElem? (i := 191) rfl)) rfl
theorem k_RJ0_637 {args : Array Value} {s : State} {R rm : Room} (hts : ∀ w ∈ lwA, w.before args s = true) (hR : rm.frames + 1 ≤ R.frames ∧ 8 + (4 + 11) + rm.locals ≤ R.locals) : CallB R s args RJ0 637 yJ1_indexOf_4cfef cJ1_indexOf_4cfef 4 (some .int) (lwC yJ1_indexOf_4cfef cJ1_indexOf_4cfef 4 (some .int)) rm rm.cells rm.slots 4 ∧ (Cond.static yJ1_indexOf_4cfef).before args s = true := va_cwS 4 hts (gdT m_5_190 m_5_191 m_1_27 m_5_192) rfl rfl rfl (by decide +kernel) hR
theorem m_5_189 : (Cond.code yJ0_indexOf_7cf53 cJ0_indexOf_7cf53 3 (some .int)) ∈ lwA := lwA_mk (ck_5 _ (List.mem_of_getElem? (i := 189) rfl)) rfl
theorem m_5_186 : (Cond.methodLink RJ0 633 yJ0_indexOf_7cf53) ∈ lwA := lwA_mk (ck_5 _ (List.mem_of_getElem? (i := 186) rfl)) rfl
theorem m_5_187 : (Cond.instanceMethod yJ0_indexOf_7cf53) ∈ lwA := lwA_mk (ck_5 _ (List.mem_of_getElem? (i := 187) rfl)) rfl
theorem m_5_188 : (Cond.selects RJ0 yJ0_indexOf_7cf53 yJ0_indexOf_7cf53) ∈ lwA := lwA_mk (ck_5 _ (List.mem_of_getElem? (i := 188) rfl)) rfl
theorem k_RJ0_633 {args : Array Value} {s : State} {R rm : Room} (hts : ∀ w ∈ lwA, w.before args s = true) (hR : rm.frames + 1 ≤ R.frames ∧ 8 + (3 + 11) + rm.locals ≤ R.locals) : CallW R s args RJ0 RJ0 633 yJ0_indexOf_7cf53 cJ0_indexOf_7cf53 3 (some .int) (lwC yJ0_indexOf_7cf53 cJ0_indexOf_7cf53 3 (some .int)) rm rm.cells rm.slots 2 := cwV 2 hts (gdV m_5_186 m_5_187 m_5_188 m_1_17 m_5_189) rfl rfl rfl (by decide +kernel) hR
theorem m_4_230 : (Cond.fieldLink RJ0 1053 "jdk/internal/util/Preconditions" "SIOOBE_FORMATTER" "Ljava/util/function/BiFunction;") ∈ lwA := lwA_mk (ck_4 _ (List.mem_of_getElem? (i := 230) rfl)) rfl
theorem m_5_174 : (Cond.methodLink RJ0 1059 yJ3_checkIndex_8e157) ∈ lwA := lwA_mk (ck_5 _ (List.mem_of_getElem? (i := 174) rfl)) rfl
theorem k_RJ0_1059 {args : Array Value} {s : State} {R rm : Room} (hts : ∀ w ∈ lwA, w.before args s = true) (hR : rm.frames + 1 ≤ R.frames ∧ 8 + (3 + 11) + rm.locals ≤ R.locals) : CallB R s args RJ0 1059 yJ3_checkIndex_8e157 cJ3_checkIndex_8e157 3 (some .int) (lwC yJ3_checkIndex_8e157 cJ3_checkIndex_8e157 3 (some .int)) rm rm.cells rm.slots 3 ∧ (Cond.static yJ3_checkIndex_8e157).before args s = true := va_cwS 3 hts (gdT m_5_174 m_4_120 m_1_26 m_4_121) rfl rfl rfl (by decide +kernel) hR
theorem m_4_234 : (Cond.code yJ3_checkFromToIndex_8c36e cJ3_checkFromToIndex_8c36e 4 (some .int)) ∈ lwA := lwA_mk (ck_4 _ (List.mem_of_getElem? (i := 234) rfl)) rfl
theorem m_4_232 : (Cond.methodLink RJ0 1062 yJ3_checkFromToIndex_8c36e) ∈ lwA := lwA_mk (ck_4 _ (List.mem_of_getElem? (i := 232) rfl)) rfl
theorem m_4_233 : (Cond.static yJ3_checkFromToIndex_8c36e) ∈ lwA := lwA_mk (ck_4 _ (List.mem_of_getElem? (i := 233) rfl)) rfl
theorem k_RJ0_1062 {args : Array Value} {s : State} {R rm : Room} (hts : ∀ w ∈ lwA, w.before args s = true) (hR : rm.frames + 1 ≤ R.frames ∧ 8 + (4 + 11) + rm.locals ≤ R.locals) : CallB R s args RJ0 1062 yJ3_checkFromToIndex_8c36e cJ3_checkFromToIndex_8c36e 4 (some .int) (lwC yJ3_checkFromToIndex_8c36e cJ3_checkFromToIndex_8c36e 4 (some .int)) rm rm.cells rm.slots 4 ∧ (Cond.static yJ3_checkFromToIndex_8c36e).before args s = true := va_cwS 4 hts (gdT m_4_232 m_4_233 m_1_26 m_4_234) rfl rfl rfl (by decide +kernel) hR
theorem m_5_173 : (Cond.code yJ0_checkIndex_df160 cJ0_checkIndex_df160 2 none) ∈ lwA := lwA_mk (ck_5 _ (List.mem_of_getElem? (i := 173) rfl)) rfl
theorem m_5_171 : (Cond.methodLink RJ1 9 yJ0_checkIndex_df160) ∈ lwA := lwA_mk (ck_5 _ (List.mem_of_getElem? (i := 171) rfl)) rfl
theorem m_5_172 : (Cond.static yJ0_checkIndex_df160) ∈ lwA := lwA_mk (ck_5 _ (List.mem_of_getElem? (i := 172) rfl)) rfl
theorem k_RJ1_9 {args : Array Value} {s : State} {R rm : Room} (hts : ∀ w ∈ lwA, w.before args s = true) (hR : rm.frames + 1 ≤ R.frames ∧ 8 + (2 + 11) + rm.locals ≤ R.locals) : CallB R s args RJ1 9 yJ0_checkIndex_df160 cJ0_checkIndex_df160 2 none (lwC yJ0_checkIndex_df160 cJ0_checkIndex_df160 2 none) rm rm.cells rm.slots 2 ∧ (Cond.static yJ0_checkIndex_df160).before args s = true := va_cwS 2 hts (gdT m_5_171 m_5_172 m_1_17 m_5_173) rfl rfl rfl (by decide +kernel) hR
theorem m_5_170 : (Cond.code yJ1_charAt_3b067 cJ1_charAt_3b067 2 (some .char)) ∈ lwA := lwA_mk (ck_5 _ (List.mem_of_getElem? (i := 170) rfl)) rfl
theorem m_5_168 : (Cond.methodLink RJ0 495 yJ1_charAt_3b067) ∈ lwA := lwA_mk (ck_5 _ (List.mem_of_getElem? (i := 168) rfl)) rfl
theorem m_5_169 : (Cond.static yJ1_charAt_3b067) ∈ lwA := lwA_mk (ck_5 _ (List.mem_of_getElem? (i := 169) rfl)) rfl
theorem k_RJ0_495 {args : Array Value} {s : State} {R rm : Room} (hts : ∀ w ∈ lwA, w.before args s = true) (hR : rm.frames + 1 ≤ R.frames ∧ 8 + (2 + 11) + rm.locals ≤ R.locals) : CallB R s args RJ0 495 yJ1_charAt_3b067 cJ1_charAt_3b067 2 (some .char) (lwC yJ1_charAt_3b067 cJ1_charAt_3b067 2 (some .char)) rm rm.cells rm.slots 2 ∧ (Cond.static yJ1_charAt_3b067).before args s = true := va_cwS 2 hts (gdT m_5_168 m_5_169 m_1_27 m_5_170) rfl rfl rfl (by decide +kernel) hR
end SITES
set_option maxHeartbeats 4000000 in
set_option maxRecDepth 100000 in
theorem j_coder (l : Launch) (D : va_G) (ar : Nat → ClassId) (κ : Nat → Nat) (G : gW) (sz : Nat) (a : Nat) (v : Nat) (bs : List Int32) (ht : TX ar κ G a v bs) : Met l yJ0_coder_7d493 (lwC yJ0_coder_7d493 cJ0_coder_7d493 1 (some .byte)) (rD 1 0 0) (g_Pc D vwCl (gT ar) (EX1 κ) G sz [.ref a]) (g_Qi D vwCl (g_A G sz) (fun r u => r = 0 ∧ u = (G, sz))) 0 0 (g_A G sz) := by
  refine g_ofW (by decide +kernel) (Nat.le_of_ble_eq_true rfl) ?_
  intro p e s m below meth c ls S hr hlk hin hE w hl
  have hx := S.1
  have hb := S.2.1
  have hl : lv_has ls 1 [(0, .ref a)] := hl
  refine va_gets hx hb hE.2.2.2.2.2.1 w.2.2.1 S.2.2.2.1 (S.2.2.2.2 _ m_5_12) (fun _ h => h) dJ0_coder_7d493_0 ?_
  refine lv_if_eq (tgt := 13) hx hb dJ0_coder_7d493_3 (by decide) (fun c => absurd c (by decide)) (fun _ => ?_)
  refine lv_aload_n hx hb dJ0_coder_7d493_6 rfl (lv_at hl 0 rfl) ?_
  refine (fun kk => tx_cod S hE w ht (S.2.2.2.2 _ m_5_130) (fun hG hf => gf_RJ0_15_0 S hE w hG hf dJ0_coder_7d493_7 kk) dJ0_coder_7d493_7 kk) ?_
  refine lv_goto (tgt := 14) hx hb dJ0_coder_7d493_10 (by decide) ?_
  exact g_zret hx hb hr hlk w (Nat.le_of_ble_eq_true rfl) (Nat.le_of_ble_eq_true rfl) dJ0_coder_7d493_14 rfl ⟨rfl, rfl⟩
set_option maxHeartbeats 4000000 in
set_option maxRecDepth 100000 in
theorem j_length (l : Launch) (D : va_G) (ar : Nat → ClassId) (κ : Nat → Nat) (G : gW) (sz : Nat) (a : Nat) (v : Nat) (bs : List Int32) (ht : TX ar κ G a v bs) : Met l yJ0_length_8abf5 (lwC yJ0_length_8abf5 cJ0_length_8abf5 1 (some .int)) (rD 2 0 0) (g_Pc D vwCl (gT ar) (EX1 κ) G sz [.ref a]) (g_Qi D vwCl (g_A G sz) (fun r u => r = nI bs.length ∧ u = (G, sz))) 0 0 (g_A G sz) := by
  refine g_ofW (by decide +kernel) (Nat.le_of_ble_eq_true rfl) ?_
  intro p e s m below meth c ls S hr hlk hin hE w hl
  have hx := S.1
  have hb := S.2.1
  have hl : lv_has ls 1 [(0, .ref a)] := hl
  refine lv_aload_n hx hb dJ0_length_8abf5_0 rfl (lv_at hl 0 rfl) ?_
  refine (fun kk => tx_val S hE w ht (S.2.2.2.2 _ m_5_129) (fun hG hf => gf_RJ0_9_0 S hE w hG hf dJ0_length_8abf5_1 kk) dJ0_length_8abf5_1 kk) ?_
  refine tv_len hx hb hE w (tx_v ht) dJ0_length_8abf5_4 ?_
  refine lv_aload_n hx hb dJ0_length_8abf5_5 rfl (lv_at hl 0 rfl) ?_
  refine g_calli w (g_runT (As := []) (rest := [.int (nI bs.length)]) S hE w hl (j_coder l D ar κ G sz a v bs ht) (k_RJ0_335 S.2.2.2.2  ⟨Nat.le_of_ble_eq_true rfl, Nat.le_of_ble_eq_true rfl⟩) ht rfl rfl (Nat.le_of_ble_eq_true rfl) dJ0_length_8abf5_6 ⟨Nat.le_of_ble_eq_true rfl, Nat.le_of_ble_eq_true rfl⟩) (fun r u H locs hp hnz w => ?_)
  obtain ⟨rfl, rfl⟩ := hp
  try dsimp only at w
  refine lv_ishr hx hb dJ0_length_8abf5_9 ?_
  rw [sh0 (nI bs.length)]
  exact g_iret hx hb hr hlk w (Nat.le_of_ble_eq_true rfl) (Nat.le_of_ble_eq_true rfl) dJ0_length_8abf5_10 ⟨rfl, rfl⟩
set_option maxHeartbeats 4000000 in
set_option maxRecDepth 100000 in
theorem j_isLatin1 (l : Launch) (D : va_G) (ar : Nat → ClassId) (κ : Nat → Nat) (G : gW) (sz : Nat) (a : Nat) (v : Nat) (bs : List Int32) (ht : TX ar κ G a v bs) : Met l yJ0_isLatin1_aae02 (lwC yJ0_isLatin1_aae02 cJ0_isLatin1_aae02 1 (some .boolean)) (rD 1 0 0) (g_Pc D vwCl (gT ar) (EX1 κ) G sz [.ref a]) (g_Qi D vwCl (g_A G sz) (fun r u => r = 1 ∧ u = (G, sz))) 0 0 (g_A G sz) := by
  refine g_ofW (by decide +kernel) (Nat.le_of_ble_eq_true rfl) ?_
  intro p e s m below meth c ls S hr hlk hin hE w hl
  have hx := S.1
  have hb := S.2.1
  have hl : lv_has ls 1 [(0, .ref a)] := hl
  refine va_gets hx hb hE.2.2.2.2.2.1 w.2.2.1 S.2.2.2.1 (S.2.2.2.2 _ m_5_12) (fun _ h => h) dJ0_isLatin1_aae02_0 ?_
  refine lv_if_eq (tgt := 17) hx hb dJ0_isLatin1_aae02_3 (by decide) (fun c => absurd c (by decide)) (fun _ => ?_)
  refine lv_aload_n hx hb dJ0_isLatin1_aae02_6 rfl (lv_at hl 0 rfl) ?_
  refine (fun kk => tx_cod S hE w ht (S.2.2.2.2 _ m_5_130) (fun hG hf => gf_RJ0_15_0 S hE w hG hf dJ0_isLatin1_aae02_7 kk) dJ0_isLatin1_aae02_7 kk) ?_
  refine lv_if_ne (tgt := 17) hx hb dJ0_isLatin1_aae02_10 (by decide) (fun c => absurd (by decide) c) (fun _ => ?_)
  refine lv_iconst (v := 1) hx hb dJ0_isLatin1_aae02_13 (by decide) ?_
  refine lv_goto (tgt := 18) hx hb dJ0_isLatin1_aae02_14 (by decide) ?_
  exact g_zret hx hb hr hlk w (Nat.le_of_ble_eq_true rfl) (Nat.le_of_ble_eq_true rfl) dJ0_isLatin1_aae02_18 rfl ⟨rfl, rfl⟩
set_option maxHeartbeats 4000000 in
set_option maxRecDepth 100000 in
theorem j_isEmpty (l : Launch) (D : va_G) (ar : Nat → ClassId) (κ : Nat → Nat) (G : gW) (sz : Nat) (a : Nat) (v : Nat) (bs : List Int32) (ht : TX ar κ G a v bs) (hb1 : bs.length < 2 ^ 31) : Met l yJ0_isEmpty_aae02 (lwC yJ0_isEmpty_aae02 cJ0_isEmpty_aae02 1 (some .boolean)) (rD 1 0 0) (g_Pc D vwCl (gT ar) (EX1 κ) G sz [.ref a]) (g_Qi D vwCl (g_A G sz) (fun r u => r = (if bs.length = 0 then 1 else 0) ∧ u = (G, sz))) 0 0 (g_A G sz) := by
  refine g_ofW (by decide +kernel) (Nat.le_of_ble_eq_true rfl) ?_
  intro p e s m below meth c ls S hr hlk hin hE w hl
  have hx := S.1
  have hb := S.2.1
  have hl : lv_has ls 1 [(0, .ref a)] := hl
  refine lv_aload_n hx hb dJ0_isEmpty_aae02_0 rfl (lv_at hl 0 rfl) ?_
  refine (fun kk => tx_val S hE w ht (S.2.2.2.2 _ m_5_129) (fun hG hf => gf_RJ0_9_0 S hE w hG hf dJ0_isEmpty_aae02_1 kk) dJ0_isEmpty_aae02_1 kk) ?_
  refine tv_len hx hb hE w (tx_v ht) dJ0_isEmpty_aae02_4 ?_
  refine lv_if_ne (tgt := 12) hx hb dJ0_isEmpty_aae02_5 (by decide) (fun c_5 => ?_) (fun c_5 => ?_)
  · refine lv_iconst (v := 0) hx hb dJ0_isEmpty_aae02_12 (by decide) ?_
    exact g_zret hx hb hr hlk w (Nat.le_of_ble_eq_true rfl) (Nat.le_of_ble_eq_true rfl) dJ0_isEmpty_aae02_13 rfl ⟨(if_neg (fun q => c_5 (by rw [q]; rfl))).symm, rfl⟩
  · refine lv_iconst (v := 1) hx hb dJ0_isEmpty_aae02_8 (by decide) ?_
    refine lv_goto (tgt := 13) hx hb dJ0_isEmpty_aae02_9 (by decide) ?_
    exact g_zret hx hb hr hlk w (Nat.le_of_ble_eq_true rfl) (Nat.le_of_ble_eq_true rfl) dJ0_isEmpty_aae02_13 rfl ⟨(if_pos ((nI_eq (by omega) (by decide)).mp c_5)).symm, rfl⟩
set_option maxHeartbeats 4000000 in
set_option maxRecDepth 100000 in
theorem j_canEncode (l : Launch) (D : va_G) (ar : Nat → ClassId) (κ : Nat → Nat) (G : gW) (sz : Nat) (i : Int32) (h0 : ¬ i < 0) (h1 : ¬ 255 < i) : Met l yJ1_canEncode_9a6ad (lwC yJ1_canEncode_9a6ad cJ1_canEncode_9a6ad 1 (some .boolean)) (rD 1 0 0) (g_Pc D vwCl (gT ar) (EX1 κ) G sz [.int i]) (g_Qi D vwCl (g_A G sz) (fun r u => r = 1 ∧ u = (G, sz))) 0 0 (g_A G sz) := by
  refine g_ofW (by decide +kernel) (Nat.le_of_ble_eq_true rfl) ?_
  intro p e s m below meth c ls S hr hlk hin hE w hl
  have hx := S.1
  have hb := S.2.1
  have hl : lv_has ls 1 [(0, .int i)] := hl
  refine lv_iload_n hx hb dJ1_canEncode_9a6ad_0 rfl (lv_at hl 0 rfl) ?_
  refine lv_if_lt (tgt := 15) hx hb dJ1_canEncode_9a6ad_1 (by decide) (fun c_1 => absurd c_1 h0) (fun c_1 => ?_)
  refine lv_iload_n hx hb dJ1_canEncode_9a6ad_4 rfl (lv_at hl 0 rfl) ?_
  refine lv_sipush (v := 255) hx hb dJ1_canEncode_9a6ad_5 (by decide) ?_
  refine lv_icmp_gt (tgt := 15) hx hb dJ1_canEncode_9a6ad_8 (by decide) (fun c_8 => absurd c_8 h1) (fun c_8 => ?_)
  refine lv_iconst (v := 1) hx hb dJ1_canEncode_9a6ad_11 (by decide) ?_
  refine lv_goto (tgt := 16) hx hb dJ1_canEncode_9a6ad_12 (by decide) ?_
  exact g_zret hx hb hr hlk w (Nat.le_of_ble_eq_true rfl) (Nat.le_of_ble_eq_true rfl) dJ1_canEncode_9a6ad_16 rfl ⟨rfl, rfl⟩
set_option maxHeartbeats 4000000 in
set_option maxRecDepth 100000 in
theorem j_indexOfChar (l : Launch) (D : va_G) (ar : Nat → ClassId) (κ : Nat → Nat) (G : gW) (sz : Nat) (v : Nat) (ch : Int32) (bs : List Int32) (i : Nat) (hv : TV ar κ G v bs) (hi : i ≤ bs.length) (hL : bs.length < 2 ^ 31) (hch : ch.toInt8.toInt32 = ch) : Met l yJ1_indexOfChar_4cfef (lwC yJ1_indexOfChar_4cfef cJ1_indexOfChar_4cfef 6 (some .int)) (rD 1 0 0) (g_Pc D vwCl (gT ar) (EX1 κ) G sz [.ref v, .int ch, .int (nI i), .int (nI bs.length)]) (g_Qi D vwCl (g_A G sz) (fun r u => r = ixF ch bs i (bs.length - i) ∧ u = (G, sz))) 0 0 (g_A G sz) := by
  refine g_ofW (by decide +kernel) (Nat.le_of_ble_eq_true rfl) ?_
  intro p e s m below meth c ls S hr hlk hin hE w hl
  have hx := S.1
  have hb := S.2.1
  have hl : lv_has ls 6 [(0, .ref v), (1, .int ch), (2, .int (nI i)), (3, .int (nI bs.length))] := hl
  refine lv_iload_n hx hb dJ1_indexOfChar_4cfef_0 rfl (lv_at hl 1 rfl) ?_
  refine lv_i2b hx hb dJ1_indexOfChar_4cfef_1 rfl ?_
  rw [hch]
  refine lv_istore (lv' := [(4, .int ch), (0, .ref v), (1, .int ch), (2, .int (nI i)), (3, .int (nI bs.length))]) hx hb dJ1_indexOfChar_4cfef_2 hl (by decide) rfl (fun ls hl => ?_)
  refine lv_iload_n hx hb dJ1_indexOfChar_4cfef_4 rfl (lv_at hl 3 rfl) ?_
  refine lv_istore (lv' := [(5, .int (nI i)), (4, .int ch), (0, .ref v), (1, .int ch), (2, .int (nI i)), (3, .int (nI bs.length))]) hx hb dJ1_indexOfChar_4cfef_5 hl (by decide) rfl (fun ls hl => ?_)
  obtain ⟨k, hk⟩ : ∃ k, bs.length = i + k := ⟨bs.length - i, by omega⟩
  rw [show bs.length - i = k by omega]
  generalize hx9 : ixF ch bs i k = x9
  obtain ⟨i9, hi9⟩ : ∃ i9, i9 = i := ⟨i, rfl⟩
  replace hl : lv_has ls 6 [(5, .int (nI i9)), (4, .int ch), (0, .ref v), (1, .int ch), (3, .int (nI bs.length))] := by rw [hi9]; exact lv_sub hl [0, 1, 2, 3, 5] rfl
  rw [← hi9] at hk hx9
  clear hi9
  induction k generalizing i9 ls with
  | zero =>
    refine lv_iload hx hb dJ1_indexOfChar_4cfef_7 (lv_at hl 0 rfl) ?_
    refine lv_iload_n hx hb dJ1_indexOfChar_4cfef_9 rfl (lv_at hl 4 rfl) ?_
    refine lv_icmp_ge (tgt := 31) hx hb dJ1_indexOfChar_4cfef_10 (by decide) (fun c_10 => ?_) (fun c_10 => absurd (by rw [show bs.length = i9 by omega]; exact Int32.le_refl _) c_10)
    refine lv_iconst (v := (-1)) hx hb dJ1_indexOfChar_4cfef_31 (by decide) ?_
    exact g_iret hx hb hr hlk w (Nat.le_of_ble_eq_true rfl) (Nat.le_of_ble_eq_true rfl) dJ1_indexOfChar_4cfef_32 ⟨hx9, rfl⟩
  | succ k ih =>
    refine lv_iload hx hb dJ1_indexOfChar_4cfef_7 (lv_at hl 0 rfl) ?_
    refine lv_iload_n hx hb dJ1_indexOfChar_4cfef_9 rfl (lv_at hl 4 rfl) ?_
    refine lv_icmp_ge (tgt := 31) hx hb dJ1_indexOfChar_4cfef_10 (by decide) (fun c_10_1 => absurd c_10_1 (nI_ge (by omega) (by omega))) (fun c_10_1 => ?_)
    refine lv_aload_n hx hb dJ1_indexOfChar_4cfef_13 rfl (lv_at hl 2 rfl) ?_
    refine lv_iload hx hb dJ1_indexOfChar_4cfef_14 (lv_at hl 0 rfl) ?_
    refine tv_ald (j := i9) hx hb hE w hv (rfl) (by omega) (by omega) dJ1_indexOfChar_4cfef_16 ?_
    refine lv_iload hx hb dJ1_indexOfChar_4cfef_17 (lv_at hl 1 rfl) ?_
    refine lv_icmp_ne (tgt := 25) hx hb dJ1_indexOfChar_4cfef_19 (by decide) (fun c_19 => ?_) (fun c_19 => ?_)
    · refine lv_iinc (v := (nI i9) + 1) (lv' := [(5, .int ((nI i9) + 1)), (4, .int ch), (0, .ref v), (1, .int ch), (3, .int (nI bs.length))]) hx hb dJ1_indexOfChar_4cfef_25 hl (k := 0) rfl rfl (by decide) rfl (fun ls hl => ?_)
      refine lv_goto (tgt := 7) hx hb dJ1_indexOfChar_4cfef_28 (by decide) ?_
      rw [nI_1] at hl
      exact ih ls (i9 + 1) (by first | omega | exact ((ixF_n c_19).symm.trans hx9) | exact (lv_sub hl [0, 1, 2, 3, 4] rfl)) (by first | omega | exact ((ixF_n c_19).symm.trans hx9) | exact (lv_sub hl [0, 1, 2, 3, 4] rfl)) (by first | omega | exact ((ixF_n c_19).symm.trans hx9) | exact (lv_sub hl [0, 1, 2, 3, 4] rfl))
    · refine lv_iload hx hb dJ1_indexOfChar_4cfef_22 (lv_at hl 0 rfl) ?_
      exact g_iret hx hb hr hlk w (Nat.le_of_ble_eq_true rfl) (Nat.le_of_ble_eq_true rfl) dJ1_indexOfChar_4cfef_24 ⟨(ixF_y c_19).symm.trans hx9, rfl⟩
set_option maxHeartbeats 4000000 in
set_option maxRecDepth 100000 in
theorem j_L1indexOf (l : Launch) (D : va_G) (ar : Nat → ClassId) (κ : Nat → Nat) (G : gW) (sz : Nat) (v : Nat) (ch : Int32) (bs : List Int32) (i : Nat) (hv : TV ar κ G v bs) (hi : i ≤ bs.length) (hL : bs.length < 2 ^ 31) (hch : ch.toInt8.toInt32 = ch) (h0 : ¬ ch < 0) (h1 : ¬ 255 < ch) : Met l yJ1_indexOf_4cfef (lwC yJ1_indexOf_4cfef cJ1_indexOf_4cfef 4 (some .int)) (rD 2 0 0) (g_Pc D vwCl (gT ar) (EX1 κ) G sz [.ref v, .int ch, .int (nI i), .int (nI bs.length)]) (g_Qi D vwCl (g_A G sz) (fun r u => r = ixF ch bs i (bs.length - i) ∧ u = (G, sz))) 0 0 (g_A G sz) := by
  refine g_ofW (by decide +kernel) (Nat.le_of_ble_eq_true rfl) ?_
  intro p e s m below meth c ls S hr hlk hin hE w hl
  have hx := S.1
  have hb := S.2.1
  have hl : lv_has ls 4 [(0, .ref v), (1, .int ch), (2, .int (nI i)), (3, .int (nI bs.length))] := hl
  refine lv_iload_n hx hb dJ1_indexOf_4cfef_0 rfl (lv_at hl 1 rfl) ?_
  refine g_calli w (g_runS (As := [.int ch]) (rest := []) S hE w hl (j_canEncode l D ar κ G sz ch h0 h1) (k_RJ1_88 S.2.2.2.2 ⟨Nat.le_of_ble_eq_true rfl, Nat.le_of_ble_eq_true rfl⟩) rfl rfl (Nat.le_of_ble_eq_true rfl) dJ1_indexOf_4cfef_1 ⟨Nat.le_of_ble_eq_true rfl, Nat.le_of_ble_eq_true rfl⟩) (fun r u H locs hp hnz w => ?_)
  obtain ⟨rfl, rfl⟩ := hp
  try dsimp only at w
  refine lv_if_ne (tgt := 9) hx hb dJ1_indexOf_4cfef_4 (by decide) (fun _ => ?_) (fun c => absurd c (by decide))
  refine lv_iload_n hx hb dJ1_indexOf_4cfef_9 rfl (lv_at hl 2 rfl) ?_
  refine lv_iconst (v := 0) hx hb dJ1_indexOf_4cfef_10 (by decide) ?_
  refine va_mmax hx hb (hl.1.trans S.2.2.1.symm).symm S.2.2.2.1 (S.2.2.2.2 _ m_5_196) (S.2.2.2.2 _ m_4_59) (S.2.2.2.2 _ m_1_24) (S.2.2.2.2 _ m_4_60) (Nat.le_of_ble_eq_true rfl) (Nat.le_of_ble_eq_true rfl) (Nat.le_of_ble_eq_true rfl) (Nat.le_of_ble_eq_true rfl) dJ1_indexOf_4cfef_11 ?_
  rw [show (if ((nI i) : Int32) < 0 then (0 : Int32) else (nI i)) = nI i from max0 (by omega)]
  refine lv_istore_n (lv' := [(2, .int (nI i)), (0, .ref v), (1, .int ch), (3, .int (nI bs.length))]) hx hb dJ1_indexOf_4cfef_14 rfl hl (by decide) rfl (fun ls hl => ?_)
  refine lv_iload_n hx hb dJ1_indexOf_4cfef_15 rfl (lv_at hl 3 rfl) ?_
  refine lv_aload_n hx hb dJ1_indexOf_4cfef_16 rfl (lv_at hl 1 rfl) ?_
  refine tv_len hx hb hE w hv dJ1_indexOf_4cfef_17 ?_
  refine va_mmin hx hb (hl.1.trans S.2.2.1.symm).symm S.2.2.2.1 (S.2.2.2.2 _ m_5_197) (S.2.2.2.2 _ m_4_100) (S.2.2.2.2 _ m_1_24) (S.2.2.2.2 _ m_4_101) (Nat.le_of_ble_eq_true rfl) (Nat.le_of_ble_eq_true rfl) (Nat.le_of_ble_eq_true rfl) (Nat.le_of_ble_eq_true rfl) dJ1_indexOf_4cfef_18 ?_
  rw [show (if ((nI bs.length) : Int32) < (nI bs.length) then ((nI bs.length) : Int32) else (nI bs.length)) = nI bs.length from minS]
  refine lv_istore_n (lv' := [(3, .int (nI bs.length)), (2, .int (nI i)), (0, .ref v), (1, .int ch)]) hx hb dJ1_indexOf_4cfef_21 rfl hl (by decide) rfl (fun ls hl => ?_)
  refine lv_iload_n hx hb dJ1_indexOf_4cfef_22 rfl (lv_at hl 1 rfl) ?_
  refine lv_iload_n hx hb dJ1_indexOf_4cfef_23 rfl (lv_at hl 0 rfl) ?_
  refine lv_icmp_lt (tgt := 29) hx hb dJ1_indexOf_4cfef_24 (by decide) (fun c_24 => ?_) (fun c_24 => ?_)
  · refine lv_aload_n hx hb dJ1_indexOf_4cfef_29 rfl (lv_at hl 2 rfl) ?_
    refine lv_iload_n hx hb dJ1_indexOf_4cfef_30 rfl (lv_at hl 3 rfl) ?_
    refine lv_iload_n hx hb dJ1_indexOf_4cfef_31 rfl (lv_at hl 1 rfl) ?_
    refine lv_iload_n hx hb dJ1_indexOf_4cfef_32 rfl (lv_at hl 0 rfl) ?_
    refine g_calli w (g_runS (As := [.ref v, .int ch, .int (nI i), .int (nI bs.length)]) (rest := []) S hE w hl (j_indexOfChar l D ar κ G sz v ch bs i hv (by omega) (by omega) hch) (k_RJ1_95 S.2.2.2.2 ⟨Nat.le_of_ble_eq_true rfl, Nat.le_of_ble_eq_true rfl⟩) rfl rfl (Nat.le_of_ble_eq_true rfl) dJ1_indexOf_4cfef_33 ⟨Nat.le_of_ble_eq_true rfl, Nat.le_of_ble_eq_true rfl⟩) (fun r u H locs hp hnz w => ?_)
    obtain ⟨rfl, rfl⟩ := hp
    try dsimp only at w
    exact g_iret hx hb hr hlk w (Nat.le_of_ble_eq_true rfl) (Nat.le_of_ble_eq_true rfl) dJ1_indexOf_4cfef_36 ⟨rfl, rfl⟩
  · refine lv_iconst (v := (-1)) hx hb dJ1_indexOf_4cfef_27 (by decide) ?_
    exact g_iret hx hb hr hlk w (Nat.le_of_ble_eq_true rfl) (Nat.le_of_ble_eq_true rfl) dJ1_indexOf_4cfef_28 ⟨by rw [show bs.length - i = 0 by have := nI_nlt9 c_24 (by omega) (by omega); omega]; rfl, rfl⟩
set_option maxHeartbeats 4000000 in
set_option maxRecDepth 100000 in
theorem j_indexOf2 (l : Launch) (D : va_G) (ar : Nat → ClassId) (κ : Nat → Nat) (G : gW) (sz : Nat) (a : Nat) (ch : Int32) (v : Nat) (bs : List Int32) (i : Nat) (ht : TX ar κ G a v bs) (hi : i ≤ bs.length) (hL : bs.length < 2 ^ 31) (hch : ch.toInt8.toInt32 = ch) (h0 : ¬ ch < 0) (h1 : ¬ 255 < ch) : Met l yJ0_indexOf_7cf53 (lwC yJ0_indexOf_7cf53 cJ0_indexOf_7cf53 3 (some .int)) (rD 3 0 0) (g_Pc D vwCl (gT ar) (EX1 κ) G sz [.ref a, .int ch, .int (nI i)]) (g_Qi D vwCl (g_A G sz) (fun r u => r = ixF ch bs i (bs.length - i) ∧ u = (G, sz))) 0 0 (g_A G sz) := by
  refine g_ofW (by decide +kernel) (Nat.le_of_ble_eq_true rfl) ?_
  intro p e s m below meth c ls S hr hlk hin hE w hl
  have hx := S.1
  have hb := S.2.1
  have hl : lv_has ls 3 [(0, .ref a), (1, .int ch), (2, .int (nI i))] := hl
  refine lv_aload_n hx hb dJ0_indexOf_7cf53_0 rfl (lv_at hl 0 rfl) ?_
  refine g_calli w (g_runT (As := []) (rest := []) S hE w hl (j_isLatin1 l D ar κ G sz a v bs ht) (k_RJ0_492 S.2.2.2.2  ⟨Nat.le_of_ble_eq_true rfl, Nat.le_of_ble_eq_true rfl⟩) ht rfl rfl (Nat.le_of_ble_eq_true rfl) dJ0_indexOf_7cf53_1 ⟨Nat.le_of_ble_eq_true rfl, Nat.le_of_ble_eq_true rfl⟩) (fun r u H locs hp hnz w => ?_)
  obtain ⟨rfl, rfl⟩ := hp
  try dsimp only at w
  refine lv_if_eq (tgt := 23) hx hb dJ0_indexOf_7cf53_4 (by decide) (fun c => absurd c (by decide)) (fun _ => ?_)
  refine lv_aload_n hx hb dJ0_indexOf_7cf53_7 rfl (lv_at hl 0 rfl) ?_
  refine (fun kk => tx_val S hE w ht (S.2.2.2.2 _ m_5_129) (fun hG hf => gf_RJ0_9_0 S hE w hG hf dJ0_indexOf_7cf53_8 kk) dJ0_indexOf_7cf53_8 kk) ?_
  refine lv_iload_n hx hb dJ0_indexOf_7cf53_11 rfl (lv_at hl 1 rfl) ?_
  refine lv_iload_n hx hb dJ0_indexOf_7cf53_12 rfl (lv_at hl 2 rfl) ?_
  refine lv_aload_n hx hb dJ0_indexOf_7cf53_13 rfl (lv_at hl 0 rfl) ?_
  refine g_calli w (g_runT (As := []) (rest := [.int (nI i), .int ch, .ref v]) S hE w hl (j_length l D ar κ G sz a v bs ht) (k_RJ0_505 S.2.2.2.2  ⟨Nat.le_of_ble_eq_true rfl, Nat.le_of_ble_eq_true rfl⟩) ht rfl rfl (Nat.le_of_ble_eq_true rfl) dJ0_indexOf_7cf53_14 ⟨Nat.le_of_ble_eq_true rfl, Nat.le_of_ble_eq_true rfl⟩) (fun r u H locs hp hnz w => ?_)
  obtain ⟨rfl, rfl⟩ := hp
  try dsimp only at w
  refine g_calli w (g_runS (As := [.ref v, .int ch, .int (nI i), .int (nI bs.length)]) (rest := []) S hE w hl (j_L1indexOf l D ar κ G sz v ch bs i (tx_v ht) (by omega) (by omega) hch h0 h1) (k_RJ0_637 S.2.2.2.2 ⟨Nat.le_of_ble_eq_true rfl, Nat.le_of_ble_eq_true rfl⟩) rfl rfl (Nat.le_of_ble_eq_true rfl) dJ0_indexOf_7cf53_17 ⟨Nat.le_of_ble_eq_true rfl, Nat.le_of_ble_eq_true rfl⟩) (fun r u H locs hp hnz w => ?_)
  obtain ⟨rfl, rfl⟩ := hp
  try dsimp only at w
  refine lv_goto (tgt := 36) hx hb dJ0_indexOf_7cf53_20 (by decide) ?_
  exact g_iret hx hb hr hlk w (Nat.le_of_ble_eq_true rfl) (Nat.le_of_ble_eq_true rfl) dJ0_indexOf_7cf53_36 ⟨rfl, rfl⟩
set_option maxHeartbeats 4000000 in
set_option maxRecDepth 100000 in
theorem j_indexOf1 (l : Launch) (D : va_G) (ar : Nat → ClassId) (κ : Nat → Nat) (G : gW) (sz : Nat) (a : Nat) (ch : Int32) (v : Nat) (bs : List Int32) (ht : TX ar κ G a v bs) (hL : bs.length < 2 ^ 31) (hch : ch.toInt8.toInt32 = ch) (h0 : ¬ ch < 0) (h1 : ¬ 255 < ch) : Met l yJ0_indexOf_0f7a4 (lwC yJ0_indexOf_0f7a4 cJ0_indexOf_0f7a4 2 (some .int)) (rD 4 0 0) (g_Pc D vwCl (gT ar) (EX1 κ) G sz [.ref a, .int ch]) (g_Qi D vwCl (g_A G sz) (fun r u => r = ixF ch bs 0 bs.length ∧ u = (G, sz))) 0 0 (g_A G sz) := by
  refine g_ofW (by decide +kernel) (Nat.le_of_ble_eq_true rfl) ?_
  intro p e s m below meth c ls S hr hlk hin hE w hl
  have hx := S.1
  have hb := S.2.1
  have hl : lv_has ls 2 [(0, .ref a), (1, .int ch)] := hl
  refine lv_aload_n hx hb dJ0_indexOf_0f7a4_0 rfl (lv_at hl 0 rfl) ?_
  refine lv_iload_n hx hb dJ0_indexOf_0f7a4_1 rfl (lv_at hl 1 rfl) ?_
  refine lv_iconst (v := 0) hx hb dJ0_indexOf_0f7a4_2 (by decide) ?_
  refine g_calli w (g_runT (As := [.int ch, .int 0]) (rest := []) S hE w hl (j_indexOf2 l D ar κ G sz a ch v bs 0 ht (by omega) (by omega) hch h0 h1) (k_RJ0_633 S.2.2.2.2  ⟨Nat.le_of_ble_eq_true rfl, Nat.le_of_ble_eq_true rfl⟩) ht rfl rfl (Nat.le_of_ble_eq_true rfl) dJ0_indexOf_0f7a4_3 ⟨Nat.le_of_ble_eq_true rfl, Nat.le_of_ble_eq_true rfl⟩) (fun r u H locs hp hnz w => ?_)
  obtain ⟨rfl, rfl⟩ := hp
  try dsimp only at w
  exact g_iret hx hb hr hlk w (Nat.le_of_ble_eq_true rfl) (Nat.le_of_ble_eq_true rfl) dJ0_indexOf_0f7a4_6 ⟨rfl, rfl⟩
set_option maxHeartbeats 4000000 in
set_option maxRecDepth 100000 in
theorem j_check3 (l : Launch) (D : va_G) (ar : Nat → ClassId) (κ : Nat → Nat) (G : gW) (sz : Nat) (i : Int32) (n : Int32) (f : Option Nat) (h0 : ¬ i < 0) (h1 : i < n) : Met l yJ3_checkIndex_8e157 (lwC yJ3_checkIndex_8e157 cJ3_checkIndex_8e157 3 (some .int)) (rD 1 0 0) (g_Pc D vwCl (gT ar) (EX1 κ) G sz [.int i, .int n, va_rf f]) (g_Qi D vwCl (g_A G sz) (fun r u => r = i ∧ u = (G, sz))) 0 0 (g_A G sz) := by
  refine g_ofW (by decide +kernel) (by cases f <;> exact Nat.le_of_ble_eq_true rfl) ?_
  intro p e s m below meth c ls S hr hlk hin hE w hl
  have hx := S.1
  have hb := S.2.1
  have hl : lv_has ls 3 [(0, .int i), (1, .int n), (2, va_rf f)] := hl
  refine lv_iload_n hx hb dJ3_checkIndex_8e157_0 rfl (lv_at hl 0 rfl) ?_
  refine lv_if_lt (tgt := 9) hx hb dJ3_checkIndex_8e157_1 (by decide) (fun c_1 => absurd c_1 h0) (fun c_1 => ?_)
  refine lv_iload_n hx hb dJ3_checkIndex_8e157_4 rfl (lv_at hl 0 rfl) ?_
  refine lv_iload_n hx hb dJ3_checkIndex_8e157_5 rfl (lv_at hl 1 rfl) ?_
  refine lv_icmp_lt (tgt := 16) hx hb dJ3_checkIndex_8e157_6 (by decide) (fun c_6 => ?_) (fun c_6 => absurd h1 c_6)
  refine lv_iload_n hx hb dJ3_checkIndex_8e157_16 rfl (lv_at hl 0 rfl) ?_
  exact g_iret hx hb hr hlk w (Nat.le_of_ble_eq_true rfl) (Nat.le_of_ble_eq_true rfl) dJ3_checkIndex_8e157_17 ⟨rfl, rfl⟩
set_option maxHeartbeats 4000000 in
set_option maxRecDepth 100000 in
theorem j_check2 (l : Launch) (D : va_G) (ar : Nat → ClassId) (κ : Nat → Nat) (G : gW) (sz : Nat) (i : Int32) (n : Int32) (h0 : ¬ i < 0) (h1 : i < n) : Met l yJ0_checkIndex_df160 (lwC yJ0_checkIndex_df160 cJ0_checkIndex_df160 2 none) (rD 2 0 0) (g_Pc D vwCl (gT ar) (EX1 κ) G sz [.int i, .int n]) (g_Qv D vwCl (g_A G sz) (fun u => u = (G, sz))) 0 0 (g_A G sz) := by
  refine g_ofW (by decide +kernel) (Nat.le_of_ble_eq_true rfl) ?_
  intro p e s m below meth c ls S hr hlk hin hE w hl
  have hx := S.1
  have hb := S.2.1
  have hl : lv_has ls 2 [(0, .int i), (1, .int n)] := hl
  refine lv_iload_n hx hb dJ0_checkIndex_df160_0 rfl (lv_at hl 0 rfl) ?_
  refine lv_iload_n hx hb dJ0_checkIndex_df160_1 rfl (lv_at hl 1 rfl) ?_
  obtain ⟨f9, hz9⟩ := zq_o hE.2.2.2.2.2.2.2.2.2.2
  refine va_gets hx hb hz9 w.2.2.1 S.2.2.2.1 (S.2.2.2.2 _ m_4_230) (fun _ h => h) dJ0_checkIndex_df160_2 ?_
  refine g_calli w (g_runS (As := [.int i, .int n, va_rf f9]) (rest := []) S hE w hl (j_check3 l D ar κ G sz i n f9 h0 h1) (k_RJ0_1059 S.2.2.2.2 ⟨Nat.le_of_ble_eq_true rfl, Nat.le_of_ble_eq_true rfl⟩) rfl rfl (Nat.le_of_ble_eq_true rfl) dJ0_checkIndex_df160_5 ⟨Nat.le_of_ble_eq_true rfl, Nat.le_of_ble_eq_true rfl⟩) (fun r u H locs hp hnz w => ?_)
  obtain ⟨rfl, rfl⟩ := hp
  try dsimp only at w
  refine lv_pop hx hb dJ0_checkIndex_df160_8 rfl ?_
  exact g_vret hx hb hr hlk w (Nat.le_of_ble_eq_true rfl) (Nat.le_of_ble_eq_true rfl) dJ0_checkIndex_df160_9 rfl
set_option maxHeartbeats 4000000 in
set_option maxRecDepth 100000 in
theorem j_fromTo4 (l : Launch) (D : va_G) (ar : Nat → ClassId) (κ : Nat → Nat) (G : gW) (sz : Nat) (i : Int32) (j : Int32) (n : Int32) (f : Option Nat) (h0 : ¬ i < 0) (h1 : ¬ j < i) (h2 : j ≤ n) : Met l yJ3_checkFromToIndex_8c36e (lwC yJ3_checkFromToIndex_8c36e cJ3_checkFromToIndex_8c36e 4 (some .int)) (rD 1 0 0) (g_Pc D vwCl (gT ar) (EX1 κ) G sz [.int i, .int j, .int n, va_rf f]) (g_Qi D vwCl (g_A G sz) (fun r u => r = i ∧ u = (G, sz))) 0 0 (g_A G sz) := by
  refine g_ofW (by decide +kernel) (by cases f <;> exact Nat.le_of_ble_eq_true rfl) ?_
  intro p e s m below meth c ls S hr hlk hin hE w hl
  have hx := S.1
  have hb := S.2.1
  have hl : lv_has ls 4 [(0, .int i), (1, .int j), (2, .int n), (3, va_rf f)] := hl
  refine lv_iload_n hx hb dJ3_checkFromToIndex_8c36e_0 rfl (lv_at hl 0 rfl) ?_
  refine lv_if_lt (tgt := 14) hx hb dJ3_checkFromToIndex_8c36e_1 (by decide) (fun c_1 => absurd c_1 h0) (fun c_1 => ?_)
  refine lv_iload_n hx hb dJ3_checkFromToIndex_8c36e_4 rfl (lv_at hl 0 rfl) ?_
  refine lv_iload_n hx hb dJ3_checkFromToIndex_8c36e_5 rfl (lv_at hl 1 rfl) ?_
  refine lv_icmp_gt (tgt := 14) hx hb dJ3_checkFromToIndex_8c36e_6 (by decide) (fun c_6 => absurd c_6 h1) (fun c_6 => ?_)
  refine lv_iload_n hx hb dJ3_checkFromToIndex_8c36e_9 rfl (lv_at hl 1 rfl) ?_
  refine lv_iload_n hx hb dJ3_checkFromToIndex_8c36e_10 rfl (lv_at hl 2 rfl) ?_
  refine lv_icmp_le (tgt := 22) hx hb dJ3_checkFromToIndex_8c36e_11 (by decide) (fun c_11 => ?_) (fun c_11 => absurd h2 c_11)
  refine lv_iload_n hx hb dJ3_checkFromToIndex_8c36e_22 rfl (lv_at hl 0 rfl) ?_
  exact g_iret hx hb hr hlk w (Nat.le_of_ble_eq_true rfl) (Nat.le_of_ble_eq_true rfl) dJ3_checkFromToIndex_8c36e_23 ⟨rfl, rfl⟩
set_option maxHeartbeats 4000000 in
set_option maxRecDepth 100000 in
theorem j_bounds (l : Launch) (D : va_G) (ar : Nat → ClassId) (κ : Nat → Nat) (G : gW) (sz : Nat) (i : Int32) (j : Int32) (n : Int32) (h0 : ¬ i < 0) (h1 : ¬ j < i) (h2 : j ≤ n) : Met l yJ0_checkBoundsBeginEnd_23922 (lwC yJ0_checkBoundsBeginEnd_23922 cJ0_checkBoundsBeginEnd_23922 3 none) (rD 2 0 0) (g_Pc D vwCl (gT ar) (EX1 κ) G sz [.int i, .int j, .int n]) (g_Qv D vwCl (g_A G sz) (fun u => u = (G, sz))) 0 0 (g_A G sz) := by
  refine g_ofW (by decide +kernel) (Nat.le_of_ble_eq_true rfl) ?_
  intro p e s m below meth c ls S hr hlk hin hE w hl
  have hx := S.1
  have hb := S.2.1
  have hl : lv_has ls 3 [(0, .int i), (1, .int j), (2, .int n)] := hl
  refine lv_iload_n hx hb dJ0_checkBoundsBeginEnd_23922_0 rfl (lv_at hl 0 rfl) ?_
  refine lv_iload_n hx hb dJ0_checkBoundsBeginEnd_23922_1 rfl (lv_at hl 1 rfl) ?_
  refine lv_iload_n hx hb dJ0_checkBoundsBeginEnd_23922_2 rfl (lv_at hl 2 rfl) ?_
  obtain ⟨f9, hz9⟩ := zq_o hE.2.2.2.2.2.2.2.2.2.2
  refine va_gets hx hb hz9 w.2.2.1 S.2.2.2.1 (S.2.2.2.2 _ m_4_230) (fun _ h => h) dJ0_checkBoundsBeginEnd_23922_3 ?_
  refine g_calli w (g_runS (As := [.int i, .int j, .int n, va_rf f9]) (rest := []) S hE w hl (j_fromTo4 l D ar κ G sz i j n f9 h0 h1 h2) (k_RJ0_1062 S.2.2.2.2 ⟨Nat.le_of_ble_eq_true rfl, Nat.le_of_ble_eq_true rfl⟩) rfl rfl (Nat.le_of_ble_eq_true rfl) dJ0_checkBoundsBeginEnd_23922_6 ⟨Nat.le_of_ble_eq_true rfl, Nat.le_of_ble_eq_true rfl⟩) (fun r u H locs hp hnz w => ?_)
  obtain ⟨rfl, rfl⟩ := hp
  try dsimp only at w
  refine lv_pop hx hb dJ0_checkBoundsBeginEnd_23922_9 rfl ?_
  exact g_vret hx hb hr hlk w (Nat.le_of_ble_eq_true rfl) (Nat.le_of_ble_eq_true rfl) dJ0_checkBoundsBeginEnd_23922_10 rfl
set_option maxHeartbeats 4000000 in
set_option maxRecDepth 100000 in
theorem j_L1charAt (l : Launch) (D : va_G) (ar : Nat → ClassId) (κ : Nat → Nat) (G : gW) (sz : Nat) (v : Nat) (bs : List Int32) (j : Nat) (hv : TV ar κ G v bs) (hA : Asc bs) (hj : j < bs.length) (hL : bs.length < 2 ^ 31) : Met l yJ1_charAt_3b067 (lwC yJ1_charAt_3b067 cJ1_charAt_3b067 2 (some .char)) (rD 3 0 0) (g_Pc D vwCl (gT ar) (EX1 κ) G sz [.ref v, .int (nI j)]) (g_Qi D vwCl (g_A G sz) (fun r u => r = bs.getD j 0 ∧ u = (G, sz))) 0 0 (g_A G sz) := by
  refine g_ofW (by decide +kernel) (Nat.le_of_ble_eq_true rfl) ?_
  intro p e s m below meth c ls S hr hlk hin hE w hl
  have hx := S.1
  have hb := S.2.1
  have hl : lv_has ls 2 [(0, .ref v), (1, .int (nI j))] := hl
  refine lv_iload_n hx hb dJ1_charAt_3b067_0 rfl (lv_at hl 1 rfl) ?_
  refine lv_aload_n hx hb dJ1_charAt_3b067_1 rfl (lv_at hl 0 rfl) ?_
  refine tv_len hx hb hE w hv dJ1_charAt_3b067_2 ?_
  refine g_callv w (g_runS (As := [.int (nI j), .int (nI bs.length)]) (rest := []) S hE w hl (j_check2 l D ar κ G sz (nI j) (nI bs.length) (nI_pos (by omega)) (nI_lt (by omega) (by omega))) (k_RJ1_9 S.2.2.2.2 ⟨Nat.le_of_ble_eq_true rfl, Nat.le_of_ble_eq_true rfl⟩) rfl rfl (Nat.le_of_ble_eq_true rfl) dJ1_charAt_3b067_3 ⟨Nat.le_of_ble_eq_true rfl, Nat.le_of_ble_eq_true rfl⟩) (fun u H locs hp hnz w => ?_)
  obtain rfl := hp
  try dsimp only at w
  refine lv_aload_n hx hb dJ1_charAt_3b067_6 rfl (lv_at hl 0 rfl) ?_
  refine lv_iload_n hx hb dJ1_charAt_3b067_7 rfl (lv_at hl 1 rfl) ?_
  refine tv_ald (j := j) hx hb hE w hv (rfl) (by omega) (by omega) dJ1_charAt_3b067_8 ?_
  refine lv_sipush (v := 255) hx hb dJ1_charAt_3b067_9 (by decide) ?_
  refine lv_iand hx hb dJ1_charAt_3b067_12 ?_
  refine lv_i2c hx hb dJ1_charAt_3b067_13 rfl ?_
  exact g_zret hx hb hr hlk w (Nat.le_of_ble_eq_true rfl) (Nat.le_of_ble_eq_true rfl) dJ1_charAt_3b067_14 (hA.n255 hj) ⟨hA.c255 hj, rfl⟩
set_option maxHeartbeats 4000000 in
set_option maxRecDepth 100000 in
theorem j_charAt (l : Launch) (D : va_G) (ar : Nat → ClassId) (κ : Nat → Nat) (G : gW) (sz : Nat) (a : Nat) (v : Nat) (bs : List Int32) (j : Nat) (ht : TX ar κ G a v bs) (hA : Asc bs) (hj : j < bs.length) (hL : bs.length < 2 ^ 31) : Met l yJ0_charAt_5068e (lwC yJ0_charAt_5068e cJ0_charAt_5068e 2 (some .char)) (rD 4 0 0) (g_Pc D vwCl (gT ar) (EX1 κ) G sz [.ref a, .int (nI j)]) (g_Qi D vwCl (g_A G sz) (fun r u => r = bs.getD j 0 ∧ u = (G, sz))) 0 0 (g_A G sz) := by
  refine g_ofW (by decide +kernel) (Nat.le_of_ble_eq_true rfl) ?_
  intro p e s m below meth c ls S hr hlk hin hE w hl
  have hx := S.1
  have hb := S.2.1
  have hl : lv_has ls 2 [(0, .ref a), (1, .int (nI j))] := hl
  refine lv_aload_n hx hb dJ0_charAt_5068e_0 rfl (lv_at hl 0 rfl) ?_
  refine g_calli w (g_runT (As := []) (rest := []) S hE w hl (j_isLatin1 l D ar κ G sz a v bs ht) (k_RJ0_492 S.2.2.2.2  ⟨Nat.le_of_ble_eq_true rfl, Nat.le_of_ble_eq_true rfl⟩) ht rfl rfl (Nat.le_of_ble_eq_true rfl) dJ0_charAt_5068e_1 ⟨Nat.le_of_ble_eq_true rfl, Nat.le_of_ble_eq_true rfl⟩) (fun r u H locs hp hnz w => ?_)
  obtain ⟨rfl, rfl⟩ := hp
  try dsimp only at w
  refine lv_if_eq (tgt := 16) hx hb dJ0_charAt_5068e_4 (by decide) (fun c => absurd c (by decide)) (fun _ => ?_)
  refine lv_aload_n hx hb dJ0_charAt_5068e_7 rfl (lv_at hl 0 rfl) ?_
  refine (fun kk => tx_val S hE w ht (S.2.2.2.2 _ m_5_129) (fun hG hf => gf_RJ0_9_0 S hE w hG hf dJ0_charAt_5068e_8 kk) dJ0_charAt_5068e_8 kk) ?_
  refine lv_iload_n hx hb dJ0_charAt_5068e_11 rfl (lv_at hl 1 rfl) ?_
  refine g_calli w (g_runS (As := [.ref v, .int (nI j)]) (rest := []) S hE w hl (j_L1charAt l D ar κ G sz v bs j (tx_v ht) hA (by omega) (by omega)) (k_RJ0_495 S.2.2.2.2 ⟨Nat.le_of_ble_eq_true rfl, Nat.le_of_ble_eq_true rfl⟩) rfl rfl (Nat.le_of_ble_eq_true rfl) dJ0_charAt_5068e_12 ⟨Nat.le_of_ble_eq_true rfl, Nat.le_of_ble_eq_true rfl⟩) (fun r u H locs hp hnz w => ?_)
  obtain ⟨rfl, rfl⟩ := hp
  try dsimp only at w
  exact g_zret hx hb hr hlk w (Nat.le_of_ble_eq_true rfl) (Nat.le_of_ble_eq_true rfl) dJ0_charAt_5068e_15 (hA.n1 hj) ⟨rfl, rfl⟩
