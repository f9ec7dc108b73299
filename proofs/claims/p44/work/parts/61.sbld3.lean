theorem dJ6_stringSize_0f7a4_0 : decode cJ6_stringSize_0f7a4 0 = .ok (.iconst 1, 1) := by decide +kernel
theorem dJ6_stringSize_0f7a4_1 : decode cJ6_stringSize_0f7a4 1 = .ok (.istore_n 1, 1) := by decide +kernel
theorem dJ6_stringSize_0f7a4_2 : decode cJ6_stringSize_0f7a4 2 = .ok (.iload_n 0, 1) := by decide +kernel
theorem dJ6_stringSize_0f7a4_3 : decode cJ6_stringSize_0f7a4 3 = .ok (.ifCond .lt 8, 3) := by decide +kernel
theorem dJ6_stringSize_0f7a4_6 : decode cJ6_stringSize_0f7a4 6 = .ok (.iconst 0, 1) := by decide +kernel
theorem dJ6_stringSize_0f7a4_7 : decode cJ6_stringSize_0f7a4 7 = .ok (.istore_n 1, 1) := by decide +kernel
theorem dJ6_stringSize_0f7a4_8 : decode cJ6_stringSize_0f7a4 8 = .ok (.iload_n 0, 1) := by decide +kernel
theorem dJ6_stringSize_0f7a4_9 : decode cJ6_stringSize_0f7a4 9 = .ok (.ineg, 1) := by decide +kernel
theorem dJ6_stringSize_0f7a4_10 : decode cJ6_stringSize_0f7a4 10 = .ok (.istore_n 0, 1) := by decide +kernel
theorem dJ6_stringSize_0f7a4_11 : decode cJ6_stringSize_0f7a4 11 = .ok (.bipush (-10), 2) := by decide +kernel
theorem dJ6_stringSize_0f7a4_13 : decode cJ6_stringSize_0f7a4 13 = .ok (.istore_n 2, 1) := by decide +kernel
theorem dJ6_stringSize_0f7a4_14 : decode cJ6_stringSize_0f7a4 14 = .ok (.iconst 1, 1) := by decide +kernel
theorem dJ6_stringSize_0f7a4_15 : decode cJ6_stringSize_0f7a4 15 = .ok (.istore_n 3, 1) := by decide +kernel
theorem dJ6_stringSize_0f7a4_16 : decode cJ6_stringSize_0f7a4 16 = .ok (.iload_n 3, 1) := by decide +kernel
theorem dJ6_stringSize_0f7a4_17 : decode cJ6_stringSize_0f7a4 17 = .ok (.bipush 10, 2) := by decide +kernel
theorem dJ6_stringSize_0f7a4_19 : decode cJ6_stringSize_0f7a4 19 = .ok (.if_icmp .ge 23, 3) := by decide +kernel
theorem dJ6_stringSize_0f7a4_22 : decode cJ6_stringSize_0f7a4 22 = .ok (.iload_n 0, 1) := by decide +kernel
theorem dJ6_stringSize_0f7a4_23 : decode cJ6_stringSize_0f7a4 23 = .ok (.iload_n 2, 1) := by decide +kernel
theorem dJ6_stringSize_0f7a4_24 : decode cJ6_stringSize_0f7a4 24 = .ok (.if_icmp .le 7, 3) := by decide +kernel
theorem dJ6_stringSize_0f7a4_27 : decode cJ6_stringSize_0f7a4 27 = .ok (.iload_n 3, 1) := by decide +kernel
theorem dJ6_stringSize_0f7a4_28 : decode cJ6_stringSize_0f7a4 28 = .ok (.iload_n 1, 1) := by decide +kernel
theorem dJ6_stringSize_0f7a4_29 : decode cJ6_stringSize_0f7a4 29 = .ok (.iadd, 1) := by decide +kernel
theorem dJ6_stringSize_0f7a4_30 : decode cJ6_stringSize_0f7a4 30 = .ok (.ireturn, 1) := by decide +kernel
theorem dJ6_stringSize_0f7a4_31 : decode cJ6_stringSize_0f7a4 31 = .ok (.bipush 10, 2) := by decide +kernel
theorem dJ6_stringSize_0f7a4_33 : decode cJ6_stringSize_0f7a4 33 = .ok (.iload_n 2, 1) := by decide +kernel
theorem dJ6_stringSize_0f7a4_34 : decode cJ6_stringSize_0f7a4 34 = .ok (.imul, 1) := by decide +kernel
theorem dJ6_stringSize_0f7a4_35 : decode cJ6_stringSize_0f7a4 35 = .ok (.istore_n 2, 1) := by decide +kernel
theorem dJ6_stringSize_0f7a4_36 : decode cJ6_stringSize_0f7a4 36 = .ok (.iinc 3 1, 3) := by decide +kernel
theorem dJ6_stringSize_0f7a4_39 : decode cJ6_stringSize_0f7a4 39 = .ok (.goto (-23), 3) := by decide +kernel
theorem dJ6_stringSize_0f7a4_42 : decode cJ6_stringSize_0f7a4 42 = .ok (.bipush 10, 2) := by decide +kernel
theorem dJ6_stringSize_0f7a4_44 : decode cJ6_stringSize_0f7a4 44 = .ok (.iload_n 1, 1) := by decide +kernel
theorem dJ6_stringSize_0f7a4_45 : decode cJ6_stringSize_0f7a4 45 = .ok (.iadd, 1) := by decide +kernel
theorem dJ6_stringSize_0f7a4_46 : decode cJ6_stringSize_0f7a4 46 = .ok (.ireturn, 1) := by decide +kernel
theorem dJ6_getChars_ba4f3_0 : decode cJ6_getChars_ba4f3 0 = .ok (.iload_n 1, 1) := by decide +kernel
theorem dJ6_getChars_ba4f3_1 : decode cJ6_getChars_ba4f3 1 = .ok (.istore 5, 2) := by decide +kernel
theorem dJ6_getChars_ba4f3_3 : decode cJ6_getChars_ba4f3 3 = .ok (.iload_n 0, 1) := by decide +kernel
theorem dJ6_getChars_ba4f3_4 : decode cJ6_getChars_ba4f3 4 = .ok (.ifCond .ge 7, 3) := by decide +kernel
theorem dJ6_getChars_ba4f3_7 : decode cJ6_getChars_ba4f3 7 = .ok (.iconst 1, 1) := by decide +kernel
theorem dJ6_getChars_ba4f3_8 : decode cJ6_getChars_ba4f3 8 = .ok (.goto 4, 3) := by decide +kernel
theorem dJ6_getChars_ba4f3_11 : decode cJ6_getChars_ba4f3 11 = .ok (.iconst 0, 1) := by decide +kernel
theorem dJ6_getChars_ba4f3_12 : decode cJ6_getChars_ba4f3 12 = .ok (.istore 6, 2) := by decide +kernel
theorem dJ6_getChars_ba4f3_14 : decode cJ6_getChars_ba4f3 14 = .ok (.iload 6, 2) := by decide +kernel
theorem dJ6_getChars_ba4f3_16 : decode cJ6_getChars_ba4f3 16 = .ok (.ifCond .ne 6, 3) := by decide +kernel
theorem dJ6_getChars_ba4f3_19 : decode cJ6_getChars_ba4f3 19 = .ok (.iload_n 0, 1) := by decide +kernel
theorem dJ6_getChars_ba4f3_20 : decode cJ6_getChars_ba4f3 20 = .ok (.ineg, 1) := by decide +kernel
theorem dJ6_getChars_ba4f3_21 : decode cJ6_getChars_ba4f3 21 = .ok (.istore_n 0, 1) := by decide +kernel
theorem dJ6_getChars_ba4f3_22 : decode cJ6_getChars_ba4f3 22 = .ok (.iload_n 0, 1) := by decide +kernel
theorem dJ6_getChars_ba4f3_23 : decode cJ6_getChars_ba4f3 23 = .ok (.bipush (-100), 2) := by decide +kernel
theorem dJ6_getChars_ba4f3_25 : decode cJ6_getChars_ba4f3 25 = .ok (.if_icmp .gt 47, 3) := by decide +kernel
theorem dJ6_getChars_ba4f3_28 : decode cJ6_getChars_ba4f3 28 = .ok (.iload_n 0, 1) := by decide +kernel
theorem dJ6_getChars_ba4f3_29 : decode cJ6_getChars_ba4f3 29 = .ok (.bipush 100, 2) := by decide +kernel
theorem dJ6_getChars_ba4f3_31 : decode cJ6_getChars_ba4f3 31 = .ok (.idiv, 1) := by decide +kernel
theorem dJ6_getChars_ba4f3_32 : decode cJ6_getChars_ba4f3 32 = .ok (.istore_n 3, 1) := by decide +kernel
theorem dJ6_getChars_ba4f3_33 : decode cJ6_getChars_ba4f3 33 = .ok (.iload_n 3, 1) := by decide +kernel
theorem dJ6_getChars_ba4f3_34 : decode cJ6_getChars_ba4f3 34 = .ok (.bipush 100, 2) := by decide +kernel
theorem dJ6_getChars_ba4f3_36 : decode cJ6_getChars_ba4f3 36 = .ok (.imul, 1) := by decide +kernel
theorem dJ6_getChars_ba4f3_37 : decode cJ6_getChars_ba4f3 37 = .ok (.iload_n 0, 1) := by decide +kernel
theorem dJ6_getChars_ba4f3_38 : decode cJ6_getChars_ba4f3 38 = .ok (.isub, 1) := by decide +kernel
theorem dJ6_getChars_ba4f3_39 : decode cJ6_getChars_ba4f3 39 = .ok (.istore 4, 2) := by decide +kernel
theorem dJ6_getChars_ba4f3_41 : decode cJ6_getChars_ba4f3 41 = .ok (.iload_n 3, 1) := by decide +kernel
theorem dJ6_getChars_ba4f3_42 : decode cJ6_getChars_ba4f3 42 = .ok (.istore_n 0, 1) := by decide +kernel
theorem dJ6_getChars_ba4f3_43 : decode cJ6_getChars_ba4f3 43 = .ok (.aload_n 2, 1) := by decide +kernel
theorem dJ6_getChars_ba4f3_44 : decode cJ6_getChars_ba4f3 44 = .ok (.iinc 5 (-1), 3) := by decide +kernel
theorem dJ6_getChars_ba4f3_47 : decode cJ6_getChars_ba4f3 47 = .ok (.iload 5, 2) := by decide +kernel
theorem dJ6_getChars_ba4f3_49 : decode cJ6_getChars_ba4f3 49 = .ok (.getstatic 83, 3) := by decide +kernel
theorem dJ6_getChars_ba4f3_52 : decode cJ6_getChars_ba4f3 52 = .ok (.iload 4, 2) := by decide +kernel
theorem dJ6_getChars_ba4f3_54 : decode cJ6_getChars_ba4f3 54 = .ok (.baload, 1) := by decide +kernel
theorem dJ6_getChars_ba4f3_55 : decode cJ6_getChars_ba4f3 55 = .ok (.bastore, 1) := by decide +kernel
theorem dJ6_getChars_ba4f3_56 : decode cJ6_getChars_ba4f3 56 = .ok (.aload_n 2, 1) := by decide +kernel
theorem dJ6_getChars_ba4f3_57 : decode cJ6_getChars_ba4f3 57 = .ok (.iinc 5 (-1), 3) := by decide +kernel
theorem dJ6_getChars_ba4f3_60 : decode cJ6_getChars_ba4f3 60 = .ok (.iload 5, 2) := by decide +kernel
theorem dJ6_getChars_ba4f3_62 : decode cJ6_getChars_ba4f3 62 = .ok (.getstatic 87, 3) := by decide +kernel
theorem dJ6_getChars_ba4f3_65 : decode cJ6_getChars_ba4f3 65 = .ok (.iload 4, 2) := by decide +kernel
theorem dJ6_getChars_ba4f3_67 : decode cJ6_getChars_ba4f3 67 = .ok (.baload, 1) := by decide +kernel
theorem dJ6_getChars_ba4f3_68 : decode cJ6_getChars_ba4f3 68 = .ok (.bastore, 1) := by decide +kernel
theorem dJ6_getChars_ba4f3_69 : decode cJ6_getChars_ba4f3 69 = .ok (.goto (-47), 3) := by decide +kernel
theorem dJ6_getChars_ba4f3_72 : decode cJ6_getChars_ba4f3 72 = .ok (.aload_n 2, 1) := by decide +kernel
theorem dJ6_getChars_ba4f3_73 : decode cJ6_getChars_ba4f3 73 = .ok (.iinc 5 (-1), 3) := by decide +kernel
theorem dJ6_getChars_ba4f3_76 : decode cJ6_getChars_ba4f3 76 = .ok (.iload 5, 2) := by decide +kernel
theorem dJ6_getChars_ba4f3_78 : decode cJ6_getChars_ba4f3 78 = .ok (.getstatic 83, 3) := by decide +kernel
theorem dJ6_getChars_ba4f3_81 : decode cJ6_getChars_ba4f3 81 = .ok (.iload_n 0, 1) := by decide +kernel
theorem dJ6_getChars_ba4f3_82 : decode cJ6_getChars_ba4f3 82 = .ok (.ineg, 1) := by decide +kernel
theorem dJ6_getChars_ba4f3_83 : decode cJ6_getChars_ba4f3 83 = .ok (.baload, 1) := by decide +kernel
theorem dJ6_getChars_ba4f3_84 : decode cJ6_getChars_ba4f3 84 = .ok (.bastore, 1) := by decide +kernel
theorem dJ6_getChars_ba4f3_85 : decode cJ6_getChars_ba4f3 85 = .ok (.iload_n 0, 1) := by decide +kernel
theorem dJ6_getChars_ba4f3_86 : decode cJ6_getChars_ba4f3 86 = .ok (.bipush (-9), 2) := by decide +kernel
theorem dJ6_getChars_ba4f3_88 : decode cJ6_getChars_ba4f3 88 = .ok (.if_icmp .ge 16, 3) := by decide +kernel
theorem dJ6_getChars_ba4f3_91 : decode cJ6_getChars_ba4f3 91 = .ok (.aload_n 2, 1) := by decide +kernel
theorem dJ6_getChars_ba4f3_92 : decode cJ6_getChars_ba4f3 92 = .ok (.iinc 5 (-1), 3) := by decide +kernel
theorem dJ6_getChars_ba4f3_95 : decode cJ6_getChars_ba4f3 95 = .ok (.iload 5, 2) := by decide +kernel
theorem dJ6_getChars_ba4f3_97 : decode cJ6_getChars_ba4f3 97 = .ok (.getstatic 87, 3) := by decide +kernel
theorem dJ6_getChars_ba4f3_100 : decode cJ6_getChars_ba4f3 100 = .ok (.iload_n 0, 1) := by decide +kernel
theorem dJ6_getChars_ba4f3_101 : decode cJ6_getChars_ba4f3 101 = .ok (.ineg, 1) := by decide +kernel
theorem dJ6_getChars_ba4f3_102 : decode cJ6_getChars_ba4f3 102 = .ok (.baload, 1) := by decide +kernel
theorem dJ6_getChars_ba4f3_103 : decode cJ6_getChars_ba4f3 103 = .ok (.bastore, 1) := by decide +kernel
theorem dJ6_getChars_ba4f3_104 : decode cJ6_getChars_ba4f3 104 = .ok (.iload 6, 2) := by decide +kernel
theorem dJ6_getChars_ba4f3_106 : decode cJ6_getChars_ba4f3 106 = .ok (.ifCond .eq 12, 3) := by decide +kernel
theorem dJ6_getChars_ba4f3_109 : decode cJ6_getChars_ba4f3 109 = .ok (.aload_n 2, 1) := by decide +kernel
theorem dJ6_getChars_ba4f3_110 : decode cJ6_getChars_ba4f3 110 = .ok (.iinc 5 (-1), 3) := by decide +kernel
theorem dJ6_getChars_ba4f3_113 : decode cJ6_getChars_ba4f3 113 = .ok (.iload 5, 2) := by decide +kernel
theorem dJ6_getChars_ba4f3_115 : decode cJ6_getChars_ba4f3 115 = .ok (.bipush 45, 2) := by decide +kernel
theorem dJ6_getChars_ba4f3_117 : decode cJ6_getChars_ba4f3 117 = .ok (.bastore, 1) := by decide +kernel
theorem dJ6_getChars_ba4f3_118 : decode cJ6_getChars_ba4f3 118 = .ok (.iload 5, 2) := by decide +kernel
theorem dJ6_getChars_ba4f3_120 : decode cJ6_getChars_ba4f3 120 = .ok (.ireturn, 1) := by decide +kernel
theorem dJ5_isLatin1_aae02_0 : decode cJ5_isLatin1_aae02 0 = .ok (.getstatic 18, 3) := by decide +kernel
theorem dJ5_isLatin1_aae02_3 : decode cJ5_isLatin1_aae02 3 = .ok (.ifCond .eq 14, 3) := by decide +kernel
theorem dJ5_isLatin1_aae02_6 : decode cJ5_isLatin1_aae02 6 = .ok (.aload_n 0, 1) := by decide +kernel
theorem dJ5_isLatin1_aae02_7 : decode cJ5_isLatin1_aae02 7 = .ok (.getfield 22, 3) := by decide +kernel
theorem dJ5_isLatin1_aae02_10 : decode cJ5_isLatin1_aae02 10 = .ok (.ifCond .ne 7, 3) := by decide +kernel
theorem dJ5_isLatin1_aae02_13 : decode cJ5_isLatin1_aae02 13 = .ok (.iconst 1, 1) := by decide +kernel
theorem dJ5_isLatin1_aae02_14 : decode cJ5_isLatin1_aae02 14 = .ok (.goto 4, 3) := by decide +kernel
theorem dJ5_isLatin1_aae02_17 : decode cJ5_isLatin1_aae02 17 = .ok (.iconst 0, 1) := by decide +kernel
theorem dJ5_isLatin1_aae02_18 : decode cJ5_isLatin1_aae02 18 = .ok (.ireturn, 1) := by decide +kernel
theorem dJ5_append_c97b9_0 : decode cJ5_append_c97b9 0 = .ok (.aload_n 0, 1) := by decide +kernel
theorem dJ5_append_c97b9_1 : decode cJ5_append_c97b9 1 = .ok (.getfield 79, 3) := by decide +kernel
theorem dJ5_append_c97b9_4 : decode cJ5_append_c97b9 4 = .ok (.istore_n 2, 1) := by decide +kernel
theorem dJ5_append_c97b9_5 : decode cJ5_append_c97b9 5 = .ok (.iload_n 2, 1) := by decide +kernel
theorem dJ5_append_c97b9_6 : decode cJ5_append_c97b9 6 = .ok (.iload_n 1, 1) := by decide +kernel
theorem dJ5_append_c97b9_7 : decode cJ5_append_c97b9 7 = .ok (.invokestatic 245, 3) := by decide +kernel
theorem dJ5_append_c97b9_10 : decode cJ5_append_c97b9 10 = .ok (.iadd, 1) := by decide +kernel
theorem dJ5_append_c97b9_11 : decode cJ5_append_c97b9 11 = .ok (.istore_n 3, 1) := by decide +kernel
theorem dJ5_append_c97b9_12 : decode cJ5_append_c97b9 12 = .ok (.aload_n 0, 1) := by decide +kernel
theorem dJ5_append_c97b9_13 : decode cJ5_append_c97b9 13 = .ok (.iload_n 3, 1) := by decide +kernel
theorem dJ5_append_c97b9_14 : decode cJ5_append_c97b9 14 = .ok (.invokevirtual 100, 3) := by decide +kernel
theorem dJ5_append_c97b9_17 : decode cJ5_append_c97b9 17 = .ok (.aload_n 0, 1) := by decide +kernel
theorem dJ5_append_c97b9_18 : decode cJ5_append_c97b9 18 = .ok (.invokevirtual 83, 3) := by decide +kernel
theorem dJ5_append_c97b9_21 : decode cJ5_append_c97b9 21 = .ok (.ifCond .eq 16, 3) := by decide +kernel
theorem dJ5_append_c97b9_24 : decode cJ5_append_c97b9 24 = .ok (.iload_n 1, 1) := by decide +kernel
theorem dJ5_append_c97b9_25 : decode cJ5_append_c97b9 25 = .ok (.iload_n 3, 1) := by decide +kernel
theorem dJ5_append_c97b9_26 : decode cJ5_append_c97b9 26 = .ok (.aload_n 0, 1) := by decide +kernel
theorem dJ5_append_c97b9_27 : decode cJ5_append_c97b9 27 = .ok (.getfield 15, 3) := by decide +kernel
theorem dJ5_append_c97b9_30 : decode cJ5_append_c97b9 30 = .ok (.invokestatic 248, 3) := by decide +kernel
theorem dJ5_append_c97b9_33 : decode cJ5_append_c97b9 33 = .ok (.pop, 1) := by decide +kernel
theorem dJ5_append_c97b9_34 : decode cJ5_append_c97b9 34 = .ok (.goto 14, 3) := by decide +kernel
theorem dJ5_append_c97b9_37 : decode cJ5_append_c97b9 37 = .ok (.iload_n 1, 1) := by decide +kernel
theorem dJ5_append_c97b9_38 : decode cJ5_append_c97b9 38 = .ok (.iload_n 2, 1) := by decide +kernel
theorem dJ5_append_c97b9_39 : decode cJ5_append_c97b9 39 = .ok (.iload_n 3, 1) := by decide +kernel
theorem dJ5_append_c97b9_40 : decode cJ5_append_c97b9 40 = .ok (.aload_n 0, 1) := by decide +kernel
theorem dJ5_append_c97b9_41 : decode cJ5_append_c97b9 41 = .ok (.getfield 15, 3) := by decide +kernel
theorem dJ5_append_c97b9_44 : decode cJ5_append_c97b9 44 = .ok (.invokestatic 251, 3) := by decide +kernel
theorem dJ5_append_c97b9_47 : decode cJ5_append_c97b9 47 = .ok (.pop, 1) := by decide +kernel
theorem dJ5_append_c97b9_48 : decode cJ5_append_c97b9 48 = .ok (.aload_n 0, 1) := by decide +kernel
theorem dJ5_append_c97b9_49 : decode cJ5_append_c97b9 49 = .ok (.iload_n 3, 1) := by decide +kernel
theorem dJ5_append_c97b9_50 : decode cJ5_append_c97b9 50 = .ok (.putfield 79, 3) := by decide +kernel
theorem dJ5_append_c97b9_53 : decode cJ5_append_c97b9 53 = .ok (.aload_n 0, 1) := by decide +kernel
theorem dJ5_append_c97b9_54 : decode cJ5_append_c97b9 54 = .ok (.areturn, 1) := by decide +kernel
theorem dJ4_append_bf812_0 : decode cJ4_append_bf812 0 = .ok (.aload_n 0, 1) := by decide +kernel
theorem dJ4_append_bf812_1 : decode cJ4_append_bf812 1 = .ok (.iload_n 1, 1) := by decide +kernel
theorem dJ4_append_bf812_2 : decode cJ4_append_bf812 2 = .ok (.invokespecial 53, 3) := by decide +kernel
theorem dJ4_append_bf812_5 : decode cJ4_append_bf812 5 = .ok (.pop, 1) := by decide +kernel
theorem dJ4_append_bf812_6 : decode cJ4_append_bf812 6 = .ok (.aload_n 0, 1) := by decide +kernel
theorem dJ4_append_bf812_7 : decode cJ4_append_bf812 7 = .ok (.areturn, 1) := by decide +kernel
section SITES
variable {p : Program} {l : Launch} {e : Env} {R : Room} {s : State} {m : MethodId} {args : Array Value} {below : List Frame} {meth : Method} {c : Code} {H : Heap} {locs : List Loc} {cells slots : Nat} {Q : State → Prop}
variable {pc : Nat} {ls : Array Slot} {rest : List Value} {D : va_G} {ar : Nat → ClassId} {κ : Nat → Nat} {A : Nat → Prop} {a : Nat} {H0 : Heap} {G : gW} {nz nL : Nat} {cc : ByteArray}
theorem m_5_60 : (Cond.fieldLink RJ6 83 "java/lang/Integer" "DigitOnes" "[B") ∈ lwA := lwA_mk (ck_5 _ (List.mem_of_getElem? (i := 60) rfl)) rfl
theorem m_5_56 : (Cond.code yJ6_stringSize_0f7a4 cJ6_stringSize_0f7a4 4 (some .int)) ∈ lwA := lwA_mk (ck_5 _ (List.mem_of_getElem? (i := 56) rfl)) rfl
theorem m_5_54 : (Cond.methodLink RJ5 245 yJ6_stringSize_0f7a4) ∈ lwA := lwA_mk (ck_5 _ (List.mem_of_getElem? (i := 54) rfl)) rfl
theorem m_5_55 : (Cond.static yJ6_stringSize_0f7a4) ∈ lwA := lwA_mk (ck_5 _ (List.mem_of_getElem? (i := 55) rfl)) rfl
theorem k_RJ5_245 {args : Array Value} {s : State} {R rm : Room} (hts : ∀ w ∈ lwA, w.before args s = true) (hR : rm.frames + 1 ≤ R.frames ∧ 8 + (4 + 11) + rm.locals ≤ R.locals) : CallB R s args RJ5 245 yJ6_stringSize_0f7a4 cJ6_stringSize_0f7a4 4 (some .int) (lwC yJ6_stringSize_0f7a4 cJ6_stringSize_0f7a4 4 (some .int)) rm rm.cells rm.slots 1 ∧ (Cond.static yJ6_stringSize_0f7a4).before args s = true := va_cwS 1 hts (gdT m_5_54 m_5_55 m_1_29 m_5_56) rfl rfl rfl (by decide +kernel) hR
theorem m_4_217 : (Cond.code yJ5_isLatin1_aae02 cJ5_isLatin1_aae02 1 (some .boolean)) ∈ lwA := lwA_mk (ck_4 _ (List.mem_of_getElem? (i := 217) rfl)) rfl
theorem m_4_213 : (Cond.methodLink RJ5 83 ⟨"java/lang/AbstractStringBuilder", "isLatin1", "()Z"⟩) ∈ lwA := lwA_mk (ck_4 _ (List.mem_of_getElem? (i := 213) rfl)) rfl
theorem m_4_214 : (Cond.instanceMethod yJ5_isLatin1_aae02) ∈ lwA := lwA_mk (ck_4 _ (List.mem_of_getElem? (i := 214) rfl)) rfl
theorem m_4_215 : (Cond.sameMethod "java/lang/AbstractStringBuilder" "java/lang/AbstractStringBuilder" "isLatin1" "()Z") ∈ lwA := lwA_mk (ck_4 _ (List.mem_of_getElem? (i := 215) rfl)) rfl
theorem kU_RJ5_83 {args : Array Value} {s : State} {R rm : Room} (hts : ∀ w ∈ lwA, w.before args s = true) (hR : rm.frames + 1 ≤ R.frames ∧ 8 + (1 + 11) + rm.locals ≤ R.locals) : va_CU R s args RJ5 RJ4 "java/lang/AbstractStringBuilder" 83 ⟨"java/lang/AbstractStringBuilder", "isLatin1", "()Z"⟩ yJ5_isLatin1_aae02 cJ5_isLatin1_aae02 1 (some .boolean) (lwC yJ5_isLatin1_aae02 cJ5_isLatin1_aae02 1 (some .boolean)) rm rm.cells rm.slots 0 := va_cwU 0 hts (gdU m_4_213 m_4_215 m_4_216 m_4_214 m_1_20 m_4_217) rfl rfl rfl rfl (by decide +kernel) hR
theorem m_5_59 : (Cond.code yJ6_getChars_ba4f3 cJ6_getChars_ba4f3 7 (some .int)) ∈ lwA := lwA_mk (ck_5 _ (List.mem_of_getElem? (i := 59) rfl)) rfl
theorem m_5_57 : (Cond.methodLink RJ5 248 yJ6_getChars_ba4f3) ∈ lwA := lwA_mk (ck_5 _ (List.mem_of_getElem? (i := 57) rfl)) rfl
theorem m_5_58 : (Cond.static yJ6_getChars_ba4f3) ∈ lwA := lwA_mk (ck_5 _ (List.mem_of_getElem? (i := 58) rfl)) rfl
theorem k_RJ5_248 {args : Array Value} {s : State} {R rm : Room} (hts : ∀ w ∈ lwA, w.before args s = true) (hR : rm.frames + 1 ≤ R.frames ∧ 8 + (7 + 11) + rm.locals ≤ R.locals) : CallB R s args RJ5 248 yJ6_getChars_ba4f3 cJ6_getChars_ba4f3 7 (some .int) (lwC yJ6_getChars_ba4f3 cJ6_getChars_ba4f3 7 (some .int)) rm rm.cells rm.slots 3 ∧ (Cond.static yJ6_getChars_ba4f3).before args s = true := va_cwS 3 hts (gdT m_5_57 m_5_58 m_1_29 m_5_59) rfl rfl rfl (by decide +kernel) hR
theorem m_5_53 : (Cond.code yJ5_append_c97b9 cJ5_append_c97b9 4 (some (.object "java/lang/AbstractStringBuilder"))) ∈ lwA := lwA_mk (ck_5 _ (List.mem_of_getElem? (i := 53) rfl)) rfl
theorem m_5_51 : (Cond.methodLink RJ4 53 yJ5_append_c97b9) ∈ lwA := lwA_mk (ck_5 _ (List.mem_of_getElem? (i := 51) rfl)) rfl
theorem m_5_52 : (Cond.instanceMethod yJ5_append_c97b9) ∈ lwA := lwA_mk (ck_5 _ (List.mem_of_getElem? (i := 52) rfl)) rfl
theorem m_8_93 : (Cond.sameMethod "java/lang/AbstractStringBuilder" "java/lang/AbstractStringBuilder" "append" "(I)Ljava/lang/AbstractStringBuilder;") ∈ lwA := lwA_mk (ck_8 _ (List.mem_of_getElem? (i := 93) rfl)) rfl
theorem kS_RJ4_53 {args : Array Value} {s : State} {R rm : Room} (hts : ∀ w ∈ lwA, w.before args s = true) (hR : rm.frames + 1 ≤ R.frames ∧ 8 + (4 + 11) + rm.locals ≤ R.locals) : va_CS R s args RJ4 53 yJ5_append_c97b9 cJ5_append_c97b9 4 (some (.object "java/lang/AbstractStringBuilder")) (lwC yJ5_append_c97b9 cJ5_append_c97b9 4 (some (.object "java/lang/AbstractStringBuilder"))) rm rm.cells rm.slots 1 := va_cwSU 1 hts (gdSU m_5_51 m_8_93 m_4_180 m_5_52 m_1_20 m_5_53) rfl rfl rfl (by decide +kernel) hR
end SITES
set_option maxHeartbeats 4000000 in
set_option maxRecDepth 100000 in
theorem j_stringSize (l : Launch) (D : va_G) (ar : Nat → ClassId) (κ : Nat → Nat) (G : gW) (sz : Nat) (d : Nat) (hd : d < 10) : Met l yJ6_stringSize_0f7a4 (lwC yJ6_stringSize_0f7a4 cJ6_stringSize_0f7a4 4 (some .int)) (rD 1 0 0) (g_Pc D vwCl (gT ar) (EX1 κ) G sz [.int (nI d)]) (g_Qi D vwCl (g_A G sz) (fun r u => r = 1 ∧ u = (G, sz))) 0 0 (g_A G sz) := by
  refine g_ofW (by decide +kernel) (Nat.le_of_ble_eq_true rfl) ?_
  intro p e s m below meth c ls S hr hlk hin hE w hl
  have hx := S.1
  have hb := S.2.1
  have hl : lv_has ls 4 [(0, .int (nI d))] := hl
  refine lv_iconst (v := 1) hx hb dJ6_stringSize_0f7a4_0 (by decide) ?_
  refine lv_istore_n (lv' := [(1, .int 1), (0, .int (nI d))]) hx hb dJ6_stringSize_0f7a4_1 rfl hl (by decide) rfl (fun ls hl => ?_)
  refine lv_iload_n hx hb dJ6_stringSize_0f7a4_2 rfl (lv_at hl 1 rfl) ?_
  refine lv_if_lt (tgt := 11) hx hb dJ6_stringSize_0f7a4_3 (by decide) (fun c_3 => absurd c_3 (nI_pos (by omega))) (fun c_3 => ?_)
  refine lv_iconst (v := 0) hx hb dJ6_stringSize_0f7a4_6 (by decide) ?_
  refine lv_istore_n (lv' := [(1, .int 0), (0, .int (nI d))]) hx hb dJ6_stringSize_0f7a4_7 rfl hl (by decide) rfl (fun ls hl => ?_)
  refine lv_iload_n hx hb dJ6_stringSize_0f7a4_8 rfl (lv_at hl 1 rfl) ?_
  refine lv_ineg hx hb dJ6_stringSize_0f7a4_9 ?_
  refine lv_istore_n (lv' := [(0, .int (-(nI d))), (1, .int 0)]) hx hb dJ6_stringSize_0f7a4_10 rfl hl (by decide) rfl (fun ls hl => ?_)
  refine lv_bipush (v := (-10)) hx hb dJ6_stringSize_0f7a4_11 (by decide) ?_
  refine lv_istore_n (lv' := [(2, .int (-10)), (0, .int (-(nI d))), (1, .int 0)]) hx hb dJ6_stringSize_0f7a4_13 rfl hl (by decide) rfl (fun ls hl => ?_)
  refine lv_iconst (v := 1) hx hb dJ6_stringSize_0f7a4_14 (by decide) ?_
  refine lv_istore_n (lv' := [(3, .int 1), (2, .int (-10)), (0, .int (-(nI d))), (1, .int 0)]) hx hb dJ6_stringSize_0f7a4_15 rfl hl (by decide) rfl (fun ls hl => ?_)
  refine lv_iload_n hx hb dJ6_stringSize_0f7a4_16 rfl (lv_at hl 0 rfl) ?_
  refine lv_bipush (v := 10) hx hb dJ6_stringSize_0f7a4_17 (by decide) ?_
  refine lv_icmp_ge (tgt := 42) hx hb dJ6_stringSize_0f7a4_19 (by decide) (fun c => absurd c (by decide)) (fun _ => ?_)
  refine lv_iload_n hx hb dJ6_stringSize_0f7a4_22 rfl (lv_at hl 2 rfl) ?_
  refine lv_iload_n hx hb dJ6_stringSize_0f7a4_23 rfl (lv_at hl 1 rfl) ?_
  refine lv_icmp_le (tgt := 31) hx hb dJ6_stringSize_0f7a4_24 (by decide) (fun c_24 => absurd c_24 (sd_1 d hd)) (fun c_24 => ?_)
  refine lv_iload_n hx hb dJ6_stringSize_0f7a4_27 rfl (lv_at hl 0 rfl) ?_
  refine lv_iload_n hx hb dJ6_stringSize_0f7a4_28 rfl (lv_at hl 3 rfl) ?_
  refine lv_iadd hx hb dJ6_stringSize_0f7a4_29 ?_
  rw [show (1 + 0 : Int32) = 1 by decide +kernel]
  exact g_iret hx hb hr hlk w (Nat.le_of_ble_eq_true rfl) (Nat.le_of_ble_eq_true rfl) dJ6_stringSize_0f7a4_30 ⟨rfl, rfl⟩
set_option maxHeartbeats 4000000 in
set_option maxRecDepth 100000 in
theorem j_getChars (l : Launch) (D : va_G) (ar : Nat → ClassId) (κ : Nat → Nat) (G : gW) (sz : Nat) (v : Nat) (d : Nat) (k9 : Nat) (cs : List Int32) (hv : G v = some (.inl (ar 4, cs.length, .inl (tyF cs)))) (hd : d < 10) (hfit : k9 + 1 ≤ cs.length) (hcl : cs.length ≤ 100) : Met l yJ6_getChars_ba4f3 (lwC yJ6_getChars_ba4f3 cJ6_getChars_ba4f3 7 (some .int)) (rD 1 0 0) (g_Pc D vwCl (gT ar) (EX1 κ) G sz [.int (nI d), .int (nI (k9 + 1)), .ref v]) (g_Qi D vwCl (g_A G sz) (fun r u => r = nI k9 ∧ u = (g_up G v (.inl (ar 4, (ovr cs k9 [nI (48 + d)]).length, .inl (tyF (ovr cs k9 [nI (48 + d)])))), sz))) 0 0 (g_A G sz) := by
  refine g_ofW (by decide +kernel) (Nat.le_of_ble_eq_true rfl) ?_
  intro p e s m below meth c ls S hr hlk hin hE w hl
  have hx := S.1
  have hb := S.2.1
  have hl : lv_has ls 7 [(0, .int (nI d)), (1, .int (nI (k9 + 1))), (2, .ref v)] := hl
  refine lv_iload_n hx hb dJ6_getChars_ba4f3_0 rfl (lv_at hl 1 rfl) ?_
  refine lv_istore (lv' := [(5, .int (nI (k9 + 1))), (0, .int (nI d)), (1, .int (nI (k9 + 1))), (2, .ref v)]) hx hb dJ6_getChars_ba4f3_1 hl (by decide) rfl (fun ls hl => ?_)
  refine lv_iload_n hx hb dJ6_getChars_ba4f3_3 rfl (lv_at hl 1 rfl) ?_
  refine lv_if_ge (tgt := 11) hx hb dJ6_getChars_ba4f3_4 (by decide) (fun c_4 => ?_) (fun c_4 => absurd (nI_pos' (by omega)) c_4)
  refine lv_iconst (v := 0) hx hb dJ6_getChars_ba4f3_11 (by decide) ?_
  refine lv_istore (lv' := [(6, .int 0), (5, .int (nI (k9 + 1))), (0, .int (nI d)), (1, .int (nI (k9 + 1))), (2, .ref v)]) hx hb dJ6_getChars_ba4f3_12 hl (by decide) rfl (fun ls hl => ?_)
  refine lv_iload hx hb dJ6_getChars_ba4f3_14 (lv_at hl 0 rfl) ?_
  refine lv_if_ne (tgt := 22) hx hb dJ6_getChars_ba4f3_16 (by decide) (fun c => absurd (by decide) c) (fun _ => ?_)
  refine lv_iload_n hx hb dJ6_getChars_ba4f3_19 rfl (lv_at hl 2 rfl) ?_
  refine lv_ineg hx hb dJ6_getChars_ba4f3_20 ?_
  refine lv_istore_n (lv' := [(0, .int (-(nI d))), (6, .int 0), (5, .int (nI (k9 + 1))), (1, .int (nI (k9 + 1))), (2, .ref v)]) hx hb dJ6_getChars_ba4f3_21 rfl hl (by decide) rfl (fun ls hl => ?_)
  refine lv_iload_n hx hb dJ6_getChars_ba4f3_22 rfl (lv_at hl 0 rfl) ?_
  refine lv_bipush (v := (-100)) hx hb dJ6_getChars_ba4f3_23 (by decide) ?_
  refine lv_icmp_gt (tgt := 72) hx hb dJ6_getChars_ba4f3_25 (by decide) (fun c_25 => ?_) (fun c_25 => absurd (sd_2 d hd) c_25)
  refine lv_aload_n hx hb dJ6_getChars_ba4f3_72 rfl (lv_at hl 4 rfl) ?_
  refine lv_iinc (v := (nI (k9 + 1)) + (-1)) (lv' := [(5, .int ((nI (k9 + 1)) + (-1))), (0, .int (-(nI d))), (6, .int 0), (1, .int (nI (k9 + 1))), (2, .ref v)]) hx hb dJ6_getChars_ba4f3_73 hl (k := 2) rfl rfl (by decide) rfl (fun ls hl => ?_)
  rw [pk_m1 k9] at hl
  refine lv_iload hx hb dJ6_getChars_ba4f3_76 (lv_at hl 0 rfl) ?_
  refine va_gets hx hb hE.2.2.2.2.2.2.2.1.1 w.2.2.1 S.2.2.2.1 (S.2.2.2.2 _ m_5_60) (fun _ h => h) dJ6_getChars_ba4f3_78 ?_
  refine lv_iload_n hx hb dJ6_getChars_ba4f3_81 rfl (lv_at hl 1 rfl) ?_
  refine lv_ineg hx hb dJ6_getChars_ba4f3_82 ?_
  rw [sd_4 d hd]
  refine va_tb (v := .int (nI (48 + d % 10))) hx hb hE.2.2.2.2.2.2.2.1.2 w.2.2.1 (vp_in_nI (n := d) (by omega) (by decide)) (by rw [nI_clamp (by omega)]; rfl) dJ6_getChars_ba4f3_83 ?_
  refine g_bast hx hb hE.1 w 4 hv rfl (vp_in_nI (n := k9) (by omega) (by omega)) dJ6_getChars_ba4f3_84 (fun H locs w => ?_)
  rw [nI_clamp (show k9 < 2 ^ 31 by omega)] at w
  refine lv_iload_n hx hb dJ6_getChars_ba4f3_85 rfl (lv_at hl 1 rfl) ?_
  refine lv_bipush (v := (-9)) hx hb dJ6_getChars_ba4f3_86 (by decide) ?_
  refine lv_icmp_ge (tgt := 104) hx hb dJ6_getChars_ba4f3_88 (by decide) (fun c_88 => ?_) (fun c_88 => absurd (sd_3 d hd) c_88)
  refine lv_iload hx hb dJ6_getChars_ba4f3_104 (lv_at hl 2 rfl) ?_
  refine lv_if_eq (tgt := 118) hx hb dJ6_getChars_ba4f3_106 (by decide) (fun _ => ?_) (fun c => absurd (by decide) c)
  refine lv_iload hx hb dJ6_getChars_ba4f3_118 (lv_at hl 0 rfl) ?_
  exact g_iret hx hb hr hlk w (Nat.le_of_ble_eq_true rfl) (Nat.le_of_ble_eq_true rfl) dJ6_getChars_ba4f3_120 (by rw [sd_5 d hd, ovr_upd hfit, ovr_len (bs := [nI (48 + d)]) hfit]; exact ⟨rfl, rfl⟩)
set_option maxHeartbeats 4000000 in
set_option maxRecDepth 100000 in
theorem j_SBlat (l : Launch) (D : va_G) (ar : Nat → ClassId) (κ : Nat → Nat) (G : gW) (sz : Nat) (q : Nat) (v : Nat) (ml : Int32) (k0 : Int32) (hq : G q = some (.inr (1, [.ref v, .int 0, .int ml, .int k0]))) : Met l yJ5_isLatin1_aae02 (lwC yJ5_isLatin1_aae02 cJ5_isLatin1_aae02 1 (some .boolean)) (rD 1 0 0) (g_Pc D vwCl (gT ar) (EX1 κ) G sz [.ref q]) (g_Qi D vwCl (g_A G sz) (fun r u => r = 1 ∧ u = (G, sz))) 0 0 (g_A G sz) := by
  refine g_ofW (by decide +kernel) (Nat.le_of_ble_eq_true rfl) ?_
  intro p e s m below meth c ls S hr hlk hin hE w hl
  have hx := S.1
  have hb := S.2.1
  have hl : lv_has ls 1 [(0, .ref q)] := hl
  have lt_hq : q < sz := g_ltn w hq
  refine va_gets hx hb hE.2.2.2.2.2.1 w.2.2.1 S.2.2.2.1 (S.2.2.2.2 _ m_4_159) (fun _ h => h) dJ5_isLatin1_aae02_0 ?_
  refine lv_if_eq (tgt := 17) hx hb dJ5_isLatin1_aae02_3 (by decide) (fun c => absurd c (by decide)) (fun _ => ?_)
  refine lv_aload_n hx hb dJ5_isLatin1_aae02_6 rfl (lv_at hl 0 rfl) ?_
  refine gf_RJ5_22_1 S hE w hq rfl dJ5_isLatin1_aae02_7 ?_
  refine lv_if_ne (tgt := 17) hx hb dJ5_isLatin1_aae02_10 (by decide) (fun c => absurd (by decide) c) (fun _ => ?_)
  refine lv_iconst (v := 1) hx hb dJ5_isLatin1_aae02_13 (by decide) ?_
  refine lv_goto (tgt := 18) hx hb dJ5_isLatin1_aae02_14 (by decide) ?_
  exact g_zret hx hb hr hlk w (Nat.le_of_ble_eq_true rfl) (Nat.le_of_ble_eq_true rfl) dJ5_isLatin1_aae02_18 rfl ⟨rfl, rfl⟩
set_option maxHeartbeats 4000000 in
set_option maxRecDepth 100000 in
theorem j_appendI0 (l : Launch) (D : va_G) (ar : Nat → ClassId) (κ : Nat → Nat) (G : gW) (sz : Nat) (q : Nat) (v : Nat) (cs : List Int32) (ml : Int32) (k9 : Nat) (d : Nat) (hq : G q = some (.inr (1, [.ref v, .int 0, .int ml, .int (nI k9)]))) (hv : G v = some (.inl (ar 4, cs.length, .inl (tyF cs)))) (hA : Asc cs) (hd : d < 10) (hfit : k9 + 1 ≤ cs.length) (hcl : cs.length ≤ 100) : Met l yJ5_append_c97b9 (lwC yJ5_append_c97b9 cJ5_append_c97b9 4 (some (.object "java/lang/AbstractStringBuilder"))) (rD 6 0 0) (g_Pc D vwCl (gT ar) (EX1 κ) G sz [.ref q, .int (nI d)]) (g_Qq D vwCl (g_A G sz) (fun r u => r = some q ∧ u = (g_up (g_up G v (.inl (ar 4, (ovr cs k9 [nI (48 + d)]).length, .inl (tyF (ovr cs k9 [nI (48 + d)]))))) q (.inr (1, [.ref v, .int 0, .int ml, .int (nI (k9 + 1))])), sz))) 0 0 (g_A G sz) := by
  refine g_ofW (by decide +kernel) (Nat.le_of_ble_eq_true rfl) ?_
  intro p e s m below meth c ls S hr hlk hin hE w hl
  have hx := S.1
  have hb := S.2.1
  have hl : lv_has ls 4 [(0, .ref q), (1, .int (nI d))] := hl
  have hfr : ∀ q, sz ≤ q → G q = none := fun q z => g_free w z
  have lt_hq : q < sz := g_ltn w hq
  have hqv : q ≠ v := g_nx hq hv (by simp)
  refine lv_aload_n hx hb dJ5_append_c97b9_0 rfl (lv_at hl 0 rfl) ?_
  refine gf_RJ5_79_1 S hE w hq rfl dJ5_append_c97b9_1 ?_
  refine lv_istore_n (lv' := [(2, .int (nI k9)), (0, .ref q), (1, .int (nI d))]) hx hb dJ5_append_c97b9_4 rfl hl (by decide) rfl (fun ls hl => ?_)
  refine lv_iload_n hx hb dJ5_append_c97b9_5 rfl (lv_at hl 0 rfl) ?_
  refine lv_iload_n hx hb dJ5_append_c97b9_6 rfl (lv_at hl 2 rfl) ?_
  refine g_calli w (g_runS (As := [.int (nI d)]) (rest := [.int (nI k9)]) S hE w hl (j_stringSize l D ar κ G sz d hd) (k_RJ5_245 S.2.2.2.2 ⟨Nat.le_of_ble_eq_true rfl, Nat.le_of_ble_eq_true rfl⟩) rfl rfl (Nat.le_of_ble_eq_true rfl) dJ5_append_c97b9_7 ⟨Nat.le_of_ble_eq_true rfl, Nat.le_of_ble_eq_true rfl⟩) (fun r u H locs hp hnz w => ?_)
  obtain ⟨rfl, rfl⟩ := hp
  try dsimp only at w
  refine lv_iadd hx hb dJ5_append_c97b9_10 ?_
  rw [show ((nI k9) + 1 : Int32) = nI (k9 + 1) from nI_1 k9]
  refine lv_istore_n (lv' := [(3, .int (nI (k9 + 1))), (2, .int (nI k9)), (0, .ref q), (1, .int (nI d))]) hx hb dJ5_append_c97b9_11 rfl hl (by decide) rfl (fun ls hl => ?_)
  refine lv_aload_n hx hb dJ5_append_c97b9_12 rfl (lv_at hl 2 rfl) ?_
  refine lv_iload_n hx hb dJ5_append_c97b9_13 rfl (lv_at hl 0 rfl) ?_
  refine g_callv w (g_runU (As := [.int (nI (k9 + 1))]) (rest := []) S hE w hl (j_ensure0 l D ar κ G sz q v cs ml k9 (k9 + 1) hq hv (by omega) (by omega)) (kU_RJ5_100 S.2.2.2.2 (hE.2.1.1 _ (ckN_2 _ (List.mem_of_getElem? (i := 35) rfl))) ⟨Nat.le_of_ble_eq_true rfl, Nat.le_of_ble_eq_true rfl⟩) (va_recv (ci := 1) hE.1 (g_1 w.1 hq) rfl (q0 := 0) rfl) rfl rfl (Nat.le_of_ble_eq_true rfl) dJ5_append_c97b9_14 ⟨Nat.le_of_ble_eq_true rfl, Nat.le_of_ble_eq_true rfl⟩) (fun u H locs hp hnz w => ?_)
  obtain rfl := hp
  try dsimp only at w
  refine lv_aload_n hx hb dJ5_append_c97b9_17 rfl (lv_at hl 2 rfl) ?_
  refine g_calli w (g_runU (As := []) (rest := []) S hE w hl (j_SBlat l D ar κ G sz q v ml (nI k9) hq) (kU_RJ5_83 S.2.2.2.2  ⟨Nat.le_of_ble_eq_true rfl, Nat.le_of_ble_eq_true rfl⟩) (va_recv (ci := 1) hE.1 (g_1 w.1 hq) rfl (q0 := 0) rfl) rfl rfl (Nat.le_of_ble_eq_true rfl) dJ5_append_c97b9_18 ⟨Nat.le_of_ble_eq_true rfl, Nat.le_of_ble_eq_true rfl⟩) (fun r u H locs hp hnz w => ?_)
  obtain ⟨rfl, rfl⟩ := hp
  try dsimp only at w
  refine lv_if_eq (tgt := 37) hx hb dJ5_append_c97b9_21 (by decide) (fun c => absurd c (by decide)) (fun _ => ?_)
  refine lv_iload_n hx hb dJ5_append_c97b9_24 rfl (lv_at hl 3 rfl) ?_
  refine lv_iload_n hx hb dJ5_append_c97b9_25 rfl (lv_at hl 0 rfl) ?_
  refine lv_aload_n hx hb dJ5_append_c97b9_26 rfl (lv_at hl 2 rfl) ?_
  refine gf_RJ5_15_1 S hE w hq rfl dJ5_append_c97b9_27 ?_
  refine g_calli w (g_runS (As := [.int (nI d), .int (nI (k9 + 1)), .ref v]) (rest := []) S hE w hl (j_getChars l D ar κ G sz v d k9 cs hv hd (by first | omega | (rw [ext0_len (by omega)]; omega)) (by first | omega | (rw [ext0_len (by omega)]; omega))) (k_RJ5_248 S.2.2.2.2 ⟨Nat.le_of_ble_eq_true rfl, Nat.le_of_ble_eq_true rfl⟩) rfl rfl (Nat.le_of_ble_eq_true rfl) dJ5_append_c97b9_30 ⟨Nat.le_of_ble_eq_true rfl, Nat.le_of_ble_eq_true rfl⟩) (fun r u H locs hp hnz w => ?_)
  obtain ⟨rfl, rfl⟩ := hp
  try dsimp only at w
  refine lv_pop hx hb dJ5_append_c97b9_33 rfl ?_
  refine lv_goto (tgt := 48) hx hb dJ5_append_c97b9_34 (by decide) ?_
  refine lv_aload_n hx hb dJ5_append_c97b9_48 rfl (lv_at hl 2 rfl) ?_
  refine lv_iload_n hx hb dJ5_append_c97b9_49 rfl (lv_at hl 0 rfl) ?_
  refine pf_RJ5_79_1 (fs1 := [.ref v, .int 0, .int ml, .int (nI (k9 + 1))]) S hE w (g_up_o (g_nx hq hv (by simp)) hq) rfl rfl (Nat.le_of_ble_eq_true rfl) rfl dJ5_append_c97b9_50 (fun H locs w => ?_)
  refine lv_aload_n hx hb dJ5_append_c97b9_53 rfl (lv_at hl 2 rfl) ?_
  exact g_qret (r := (some q)) hx hb hr (Or.inl ⟨_, rfl⟩) hlk w (Nat.le_of_ble_eq_true rfl) (Nat.le_of_ble_eq_true rfl) dJ5_append_c97b9_54 ⟨rfl, rfl⟩
set_option maxHeartbeats 4000000 in
set_option maxRecDepth 100000 in
theorem j_appendI1 (l : Launch) (D : va_G) (ar : Nat → ClassId) (κ : Nat → Nat) (G : gW) (sz : Nat) (q : Nat) (v : Nat) (cs : List Int32) (ml : Int32) (k9 : Nat) (d : Nat) (hq : G q = some (.inr (1, [.ref v, .int 0, .int ml, .int (nI k9)]))) (hv : G v = some (.inl (ar 4, cs.length, .inl (tyF cs)))) (hA : Asc cs) (hd : d < 10) (hgr : cs.length < k9 + 1) (hk : k9 ≤ cs.length) (hc0 : 0 < cs.length) (hm2 : k9 + 1 ≤ 100) (hn2 : cs.length + max ((k9 + 1) - cs.length) (cs.length + 2) ≤ 100) : Met l yJ5_append_c97b9 (lwC yJ5_append_c97b9 cJ5_append_c97b9 4 (some (.object "java/lang/AbstractStringBuilder"))) (rD 6 1 100) (g_Pc D vwCl (gT ar) (EX1 κ) G sz [.ref q, .int (nI d)]) (g_Qq D vwCl (g_A G sz) (fun r u => r = some q ∧ u = (g_up (g_up G sz (.inl (ar 4, (ovr (ext0 cs (cs.length + max ((k9 + 1) - cs.length) (cs.length + 2))) k9 [nI (48 + d)]).length, .inl (tyF (ovr (ext0 cs (cs.length + max ((k9 + 1) - cs.length) (cs.length + 2))) k9 [nI (48 + d)]))))) q (.inr (1, [.ref sz, .int 0, .int ml, .int (nI (k9 + 1))])), sz + 1))) 1 100 (g_A G sz) := by
  refine g_ofW (by decide +kernel) (Nat.le_of_ble_eq_true rfl) ?_
  intro p e s m below meth c ls S hr hlk hin hE w hl
  have hx := S.1
  have hb := S.2.1
  have hl : lv_has ls 4 [(0, .ref q), (1, .int (nI d))] := hl
  have hfr : ∀ q, sz ≤ q → G q = none := fun q z => g_free w z
  have lt_hq : q < sz := g_ltn w hq
  have hqv : q ≠ v := g_nx hq hv (by simp)
  refine lv_aload_n hx hb dJ5_append_c97b9_0 rfl (lv_at hl 0 rfl) ?_
  refine gf_RJ5_79_1 S hE w hq rfl dJ5_append_c97b9_1 ?_
  refine lv_istore_n (lv' := [(2, .int (nI k9)), (0, .ref q), (1, .int (nI d))]) hx hb dJ5_append_c97b9_4 rfl hl (by decide) rfl (fun ls hl => ?_)
  refine lv_iload_n hx hb dJ5_append_c97b9_5 rfl (lv_at hl 0 rfl) ?_
  refine lv_iload_n hx hb dJ5_append_c97b9_6 rfl (lv_at hl 2 rfl) ?_
  refine g_calli w (g_runS (As := [.int (nI d)]) (rest := [.int (nI k9)]) S hE w hl (j_stringSize l D ar κ G sz d hd) (k_RJ5_245 S.2.2.2.2 ⟨Nat.le_of_ble_eq_true rfl, Nat.le_of_ble_eq_true rfl⟩) rfl rfl (Nat.le_of_ble_eq_true rfl) dJ5_append_c97b9_7 ⟨Nat.le_of_ble_eq_true rfl, Nat.le_of_ble_eq_true rfl⟩) (fun r u H locs hp hnz w => ?_)
  obtain ⟨rfl, rfl⟩ := hp
  try dsimp only at w
  refine lv_iadd hx hb dJ5_append_c97b9_10 ?_
  rw [show ((nI k9) + 1 : Int32) = nI (k9 + 1) from nI_1 k9]
  refine lv_istore_n (lv' := [(3, .int (nI (k9 + 1))), (2, .int (nI k9)), (0, .ref q), (1, .int (nI d))]) hx hb dJ5_append_c97b9_11 rfl hl (by decide) rfl (fun ls hl => ?_)
  refine lv_aload_n hx hb dJ5_append_c97b9_12 rfl (lv_at hl 2 rfl) ?_
  refine lv_iload_n hx hb dJ5_append_c97b9_13 rfl (lv_at hl 0 rfl) ?_
  refine g_callv w (g_runU (As := [.int (nI (k9 + 1))]) (rest := []) S hE w hl (j_ensure1 l D ar κ G sz q v cs ml k9 (k9 + 1) hq hv hA (by omega) (by omega) (by omega) (by omega) (by omega)) (kU_RJ5_100 S.2.2.2.2 (hE.2.1.1 _ (ckN_2 _ (List.mem_of_getElem? (i := 35) rfl))) ⟨Nat.le_of_ble_eq_true rfl, Nat.le_of_ble_eq_true rfl⟩) (va_recv (ci := 1) hE.1 (g_1 w.1 hq) rfl (q0 := 0) rfl) rfl rfl (Nat.le_of_ble_eq_true rfl) dJ5_append_c97b9_14 ⟨Nat.le_of_ble_eq_true rfl, Nat.le_of_ble_eq_true rfl⟩) (fun u H locs hp hnz w => ?_)
  obtain rfl := hp
  try dsimp only at w
  refine lv_aload_n hx hb dJ5_append_c97b9_17 rfl (lv_at hl 2 rfl) ?_
  refine g_calli w (g_runU (As := []) (rest := []) S hE w hl (j_SBlat l D ar κ (g_up (g_up G sz (.inl (ar 4, (ext0 cs (cs.length + max (k9 + 1 - cs.length) (cs.length + 2))).length, .inl (tyF (ext0 cs (cs.length + max (k9 + 1 - cs.length) (cs.length + 2))))))) q (.inr (1, [.ref sz, .int 0, .int ml, .int (nI k9)]))) (sz + 1) q sz ml (nI k9) g_up_s) (kU_RJ5_83 S.2.2.2.2  ⟨Nat.le_of_ble_eq_true rfl, Nat.le_of_ble_eq_true rfl⟩) (va_recv (ci := 1) hE.1 (g_1 w.1 g_up_s) rfl (q0 := 0) rfl) rfl rfl (Nat.le_of_ble_eq_true rfl) dJ5_append_c97b9_18 ⟨Nat.le_of_ble_eq_true rfl, Nat.le_of_ble_eq_true rfl⟩) (fun r u H locs hp hnz w => ?_)
  obtain ⟨rfl, rfl⟩ := hp
  try dsimp only at w
  refine lv_if_eq (tgt := 37) hx hb dJ5_append_c97b9_21 (by decide) (fun c => absurd c (by decide)) (fun _ => ?_)
  refine lv_iload_n hx hb dJ5_append_c97b9_24 rfl (lv_at hl 3 rfl) ?_
  refine lv_iload_n hx hb dJ5_append_c97b9_25 rfl (lv_at hl 0 rfl) ?_
  refine lv_aload_n hx hb dJ5_append_c97b9_26 rfl (lv_at hl 2 rfl) ?_
  refine gf_RJ5_15_1 S hE w g_up_s rfl dJ5_append_c97b9_27 ?_
  refine g_calli w (g_runS (As := [.int (nI d), .int (nI (k9 + 1)), .ref sz]) (rest := []) S hE w hl (j_getChars l D ar κ (g_up (g_up G sz (.inl (ar 4, (ext0 cs (cs.length + max (k9 + 1 - cs.length) (cs.length + 2))).length, .inl (tyF (ext0 cs (cs.length + max (k9 + 1 - cs.length) (cs.length + 2))))))) q (.inr (1, [.ref sz, .int 0, .int ml, .int (nI k9)]))) (sz + 1) sz d k9 (ext0 cs (cs.length + max (k9 + 1 - cs.length) (cs.length + 2))) (g_up_o (by omega) g_up_s) hd (by first | omega | (rw [ext0_len (by omega)]; omega)) (by first | omega | (rw [ext0_len (by omega)]; omega))) (k_RJ5_248 S.2.2.2.2 ⟨Nat.le_of_ble_eq_true rfl, Nat.le_of_ble_eq_true rfl⟩) rfl rfl (Nat.le_of_ble_eq_true rfl) dJ5_append_c97b9_30 ⟨Nat.le_of_ble_eq_true rfl, Nat.le_of_ble_eq_true rfl⟩) (fun r u H locs hp hnz w => ?_)
  obtain ⟨rfl, rfl⟩ := hp
  try dsimp only at w
  have w := g_eqw w (g_inn g_over (by omega))
  refine lv_pop hx hb dJ5_append_c97b9_33 rfl ?_
  refine lv_goto (tgt := 48) hx hb dJ5_append_c97b9_34 (by decide) ?_
  refine lv_aload_n hx hb dJ5_append_c97b9_48 rfl (lv_at hl 2 rfl) ?_
  refine lv_iload_n hx hb dJ5_append_c97b9_49 rfl (lv_at hl 0 rfl) ?_
  refine pf_RJ5_79_1 (fs1 := [.ref sz, .int 0, .int ml, .int (nI (k9 + 1))]) S hE w g_up_s rfl rfl (Nat.le_of_ble_eq_true rfl) rfl dJ5_append_c97b9_50 (fun H locs w => ?_)
  have w := g_eqw w g_over
  refine lv_aload_n hx hb dJ5_append_c97b9_53 rfl (lv_at hl 2 rfl) ?_
  exact g_qret (r := (some q)) hx hb hr (Or.inl ⟨_, rfl⟩) hlk w (Nat.le_of_ble_eq_true rfl) (Nat.le_of_ble_eq_true rfl) dJ5_append_c97b9_54 ⟨rfl, rfl⟩
set_option maxHeartbeats 4000000 in
set_option maxRecDepth 100000 in
theorem j_SBappendI (l : Launch) (D : va_G) (ar : Nat → ClassId) (κ : Nat → Nat) (G : gW) (sz : Nat) (q : Nat) (v : Nat) (cs : List Int32) (ml : Int32) (k9 : Nat) (d : Nat) (hq : G q = some (.inr (1, [.ref v, .int 0, .int ml, .int (nI k9)]))) (hv : G v = some (.inl (ar 4, cs.length, .inl (tyF cs)))) (hA : Asc cs) (hd : d < 10) (hk : k9 ≤ cs.length) (hc0 : 0 < cs.length) (hcl : cs.length ≤ 100) (hm : k9 + 1 ≤ 36) : Met l yJ4_append_bf812 (lwC yJ4_append_bf812 cJ4_append_bf812 2 (some (.object "java/lang/StringBuilder"))) (rD 7 1 100) (g_Pc D vwCl (gT ar) (EX1 κ) G sz [.ref q, .int (nI d)]) (g_Qq D vwCl (g_A G sz) (fun r u => (r = some q ∧ ∃ v1 cs1, u.1 = g_up (g_up G v1 (.inl (ar 4, cs1.length, .inl (tyF cs1)))) q (.inr (1, [.ref v1, .int 0, .int ml, .int (nI (k9 + 1))])) ∧ (v1 = v ∨ v1 = sz) ∧ cs1.take (k9 + 1) = cs.take k9 ++ [nI (48 + d)] ∧ k9 + 1 ≤ cs1.length ∧ Asc cs1 ∧ cs1.length ≤ 100 ∧ 0 < cs1.length))) 1 100 (g_A G sz) := by
  refine g_ofW (by decide +kernel) (Nat.le_of_ble_eq_true rfl) ?_
  intro p e s m below meth c ls S hr hlk hin hE w hl
  have hx := S.1
  have hb := S.2.1
  have hl : lv_has ls 2 [(0, .ref q), (1, .int (nI d))] := hl
  have hfr : ∀ q, sz ≤ q → G q = none := fun q z => g_free w z
  have lt_hq : q < sz := g_ltn w hq
  have lt_hv : v < sz := g_ltn w hv
  refine lv_aload_n hx hb dJ4_append_bf812_0 rfl (lv_at hl 0 rfl) ?_
  refine lv_iload_n hx hb dJ4_append_bf812_1 rfl (lv_at hl 1 rfl) ?_
  rcases Nat.lt_or_ge cs.length (k9 + 1) with hgr | hfit
  · refine g_callq w (g_runSU (As := [.int (nI d)]) (rest := []) S hE w hl (j_appendI1 l D ar κ G sz q v cs ml k9 d hq hv hA hd (by omega) (by omega) (by omega) (by omega) (by have h9 := Nat.max_le.mpr (show k9 + 1 - cs.length ≤ 40 ∧ cs.length + 2 ≤ 40 from ⟨by omega, by omega⟩); omega)) (kS_RJ4_53 S.2.2.2.2 ⟨Nat.le_of_ble_eq_true rfl, Nat.le_of_ble_eq_true rfl⟩) hq rfl rfl (Nat.le_of_ble_eq_true rfl) dJ4_append_bf812_2 ⟨Nat.le_of_ble_eq_true rfl, Nat.le_of_ble_eq_true rfl⟩) (fun r u H locs hp hnz w => ?_)
    obtain ⟨rfl, rfl⟩ := hp
    try dsimp only at w
    refine lv_pop hx hb dJ4_append_bf812_5 rfl ?_
    refine lv_aload_n hx hb dJ4_append_bf812_6 rfl (lv_at hl 0 rfl) ?_
    exact g_qret (r := (some q)) hx hb hr (Or.inl ⟨_, rfl⟩) hlk w (Nat.le_of_ble_eq_true rfl) (Nat.le_of_ble_eq_true rfl) dJ4_append_bf812_7 (by have hE9 : (ext0 cs (cs.length + max ((k9 + 1) - cs.length) (cs.length + 2))).length = cs.length + max ((k9 + 1) - cs.length) (cs.length + 2) := ext0_len (by omega); have hf9 : k9 + 1 ≤ (ext0 cs (cs.length + max ((k9 + 1) - cs.length) (cs.length + 2))).length := (by rw [hE9]; omega); have hm9 := Nat.max_le.mpr (show k9 + 1 - cs.length ≤ 40 ∧ cs.length + 2 ≤ 40 from ⟨by omega, by omega⟩); exact ⟨rfl, sz, ovr (ext0 cs (cs.length + max ((k9 + 1) - cs.length) (cs.length + 2))) k9 [nI (48 + d)], rfl, Or.inr rfl, (by have z9 := ovr_take (bs := [nI (48 + d)]) hf9; rw [ext0_take hk] at z9; exact z9), (by rw [ovr_len (bs := [nI (48 + d)]) hf9]; exact hf9), hA.ext0.ovr (asc_d hd), (by rw [ovr_len (bs := [nI (48 + d)]) hf9, hE9]; omega), (by rw [ovr_len (bs := [nI (48 + d)]) hf9, hE9]; omega)⟩)
  · refine g_callq w (g_runSU (As := [.int (nI d)]) (rest := []) S hE w hl (j_appendI0 l D ar κ G sz q v cs ml k9 d hq hv hA hd (by omega) (by omega)) (kS_RJ4_53 S.2.2.2.2 ⟨Nat.le_of_ble_eq_true rfl, Nat.le_of_ble_eq_true rfl⟩) hq rfl rfl (Nat.le_of_ble_eq_true rfl) dJ4_append_bf812_2 ⟨Nat.le_of_ble_eq_true rfl, Nat.le_of_ble_eq_true rfl⟩) (fun r u H locs hp hnz w => ?_)
    obtain ⟨rfl, rfl⟩ := hp
    try dsimp only at w
    refine lv_pop hx hb dJ4_append_bf812_5 rfl ?_
    refine lv_aload_n hx hb dJ4_append_bf812_6 rfl (lv_at hl 0 rfl) ?_
    exact g_qret (r := (some q)) hx hb hr (Or.inl ⟨_, rfl⟩) hlk w (Nat.le_of_ble_eq_true rfl) (Nat.le_of_ble_eq_true rfl) dJ4_append_bf812_7 ⟨rfl, v, ovr cs k9 [nI (48 + d)], rfl, Or.inl rfl, ovr_take (bs := [nI (48 + d)]) hfit, (by rw [ovr_len (bs := [nI (48 + d)]) hfit]; exact hfit), hA.ovr (asc_d hd), (by rw [ovr_len (bs := [nI (48 + d)]) hfit]; exact hcl), (by rw [ovr_len (bs := [nI (48 + d)]) hfit]; exact hc0)⟩
