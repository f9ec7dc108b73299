theorem dJ0_coder_7d493_0 : decode cJ0_coder_7d493 0 = .ok (.getstatic 38, 3) := by decide +kernel
theorem dJ0_coder_7d493_3 : decode cJ0_coder_7d493 3 = .ok (.ifCond .eq 10, 3) := by decide +kernel
theorem dJ0_coder_7d493_6 : decode cJ0_coder_7d493 6 = .ok (.aload_n 0, 1) := by decide +kernel
theorem dJ0_coder_7d493_7 : decode cJ0_coder_7d493 7 = .ok (.getfield 15, 3) := by decide +kernel
theorem dJ0_coder_7d493_10 : decode cJ0_coder_7d493 10 = .ok (.goto 4, 3) := by decide +kernel
theorem dJ0_coder_7d493_13 : decode cJ0_coder_7d493 13 = .ok (.iconst 1, 1) := by decide +kernel
theorem dJ0_coder_7d493_14 : decode cJ0_coder_7d493 14 = .ok (.ireturn, 1) := by decide +kernel
theorem dJ0_isLatin1_aae02_0 : decode cJ0_isLatin1_aae02 0 = .ok (.getstatic 38, 3) := by decide +kernel
theorem dJ0_isLatin1_aae02_3 : decode cJ0_isLatin1_aae02 3 = .ok (.ifCond .eq 14, 3) := by decide +kernel
theorem dJ0_isLatin1_aae02_6 : decode cJ0_isLatin1_aae02 6 = .ok (.aload_n 0, 1) := by decide +kernel
theorem dJ0_isLatin1_aae02_7 : decode cJ0_isLatin1_aae02 7 = .ok (.getfield 15, 3) := by decide +kernel
theorem dJ0_isLatin1_aae02_10 : decode cJ0_isLatin1_aae02 10 = .ok (.ifCond .ne 7, 3) := by decide +kernel
theorem dJ0_isLatin1_aae02_13 : decode cJ0_isLatin1_aae02 13 = .ok (.iconst 1, 1) := by decide +kernel
theorem dJ0_isLatin1_aae02_14 : decode cJ0_isLatin1_aae02 14 = .ok (.goto 4, 3) := by decide +kernel
theorem dJ0_isLatin1_aae02_17 : decode cJ0_isLatin1_aae02 17 = .ok (.iconst 0, 1) := by decide +kernel
theorem dJ0_isLatin1_aae02_18 : decode cJ0_isLatin1_aae02 18 = .ok (.ireturn, 1) := by decide +kernel
theorem dJ0_length_8abf5_0 : decode cJ0_length_8abf5 0 = .ok (.aload_n 0, 1) := by decide +kernel
theorem dJ0_length_8abf5_1 : decode cJ0_length_8abf5 1 = .ok (.getfield 9, 3) := by decide +kernel
theorem dJ0_length_8abf5_4 : decode cJ0_length_8abf5 4 = .ok (.arraylength, 1) := by decide +kernel
theorem dJ0_length_8abf5_5 : decode cJ0_length_8abf5 5 = .ok (.aload_n 0, 1) := by decide +kernel
theorem dJ0_length_8abf5_6 : decode cJ0_length_8abf5 6 = .ok (.invokevirtual 335, 3) := by decide +kernel
theorem dJ0_length_8abf5_9 : decode cJ0_length_8abf5 9 = .ok (.ishr, 1) := by decide +kernel
theorem dJ0_length_8abf5_10 : decode cJ0_length_8abf5 10 = .ok (.ireturn, 1) := by decide +kernel
theorem dJ1_canEncode_9a6ad_0 : decode cJ1_canEncode_9a6ad 0 = .ok (.iload_n 0, 1) := by decide +kernel
theorem dJ1_canEncode_9a6ad_1 : decode cJ1_canEncode_9a6ad 1 = .ok (.ifCond .lt 14, 3) := by decide +kernel
theorem dJ1_canEncode_9a6ad_4 : decode cJ1_canEncode_9a6ad 4 = .ok (.iload_n 0, 1) := by decide +kernel
theorem dJ1_canEncode_9a6ad_5 : decode cJ1_canEncode_9a6ad 5 = .ok (.sipush 255, 3) := by decide +kernel
theorem dJ1_canEncode_9a6ad_8 : decode cJ1_canEncode_9a6ad 8 = .ok (.if_icmp .gt 7, 3) := by decide +kernel
theorem dJ1_canEncode_9a6ad_11 : decode cJ1_canEncode_9a6ad 11 = .ok (.iconst 1, 1) := by decide +kernel
theorem dJ1_canEncode_9a6ad_12 : decode cJ1_canEncode_9a6ad 12 = .ok (.goto 4, 3) := by decide +kernel
theorem dJ1_canEncode_9a6ad_15 : decode cJ1_canEncode_9a6ad 15 = .ok (.iconst 0, 1) := by decide +kernel
theorem dJ1_canEncode_9a6ad_16 : decode cJ1_canEncode_9a6ad 16 = .ok (.ireturn, 1) := by decide +kernel
theorem dJ1_indexOfChar_4cfef_0 : decode cJ1_indexOfChar_4cfef 0 = .ok (.iload_n 1, 1) := by decide +kernel
theorem dJ1_indexOfChar_4cfef_1 : decode cJ1_indexOfChar_4cfef 1 = .ok (.i2b, 1) := by decide +kernel
theorem dJ1_indexOfChar_4cfef_2 : decode cJ1_indexOfChar_4cfef 2 = .ok (.istore 4, 2) := by decide +kernel
theorem dJ1_indexOfChar_4cfef_4 : decode cJ1_indexOfChar_4cfef 4 = .ok (.iload_n 2, 1) := by decide +kernel
theorem dJ1_indexOfChar_4cfef_5 : decode cJ1_indexOfChar_4cfef 5 = .ok (.istore 5, 2) := by decide +kernel
theorem dJ1_indexOfChar_4cfef_7 : decode cJ1_indexOfChar_4cfef 7 = .ok (.iload 5, 2) := by decide +kernel
theorem dJ1_indexOfChar_4cfef_9 : decode cJ1_indexOfChar_4cfef 9 = .ok (.iload_n 3, 1) := by decide +kernel
theorem dJ1_indexOfChar_4cfef_10 : decode cJ1_indexOfChar_4cfef 10 = .ok (.if_icmp .ge 21, 3) := by decide +kernel
theorem dJ1_indexOfChar_4cfef_13 : decode cJ1_indexOfChar_4cfef 13 = .ok (.aload_n 0, 1) := by decide +kernel
theorem dJ1_indexOfChar_4cfef_14 : decode cJ1_indexOfChar_4cfef 14 = .ok (.iload 5, 2) := by decide +kernel
theorem dJ1_indexOfChar_4cfef_16 : decode cJ1_indexOfChar_4cfef 16 = .ok (.baload, 1) := by decide +kernel
theorem dJ1_indexOfChar_4cfef_17 : decode cJ1_indexOfChar_4cfef 17 = .ok (.iload 4, 2) := by decide +kernel
theorem dJ1_indexOfChar_4cfef_19 : decode cJ1_indexOfChar_4cfef 19 = .ok (.if_icmp .ne 6, 3) := by decide +kernel
theorem dJ1_indexOfChar_4cfef_22 : decode cJ1_indexOfChar_4cfef 22 = .ok (.iload 5, 2) := by decide +kernel
theorem dJ1_indexOfChar_4cfef_24 : decode cJ1_indexOfChar_4cfef 24 = .ok (.ireturn, 1) := by decide +kernel
theorem dJ1_indexOfChar_4cfef_25 : decode cJ1_indexOfChar_4cfef 25 = .ok (.iinc 5 1, 3) := by decide +kernel
theorem dJ1_indexOfChar_4cfef_28 : decode cJ1_indexOfChar_4cfef 28 = .ok (.goto (-21), 3) := by decide +kernel
theorem dJ1_indexOfChar_4cfef_31 : decode cJ1_indexOfChar_4cfef 31 = .ok (.iconst (-1), 1) := by decide +kernel
theorem dJ1_indexOfChar_4cfef_32 : decode cJ1_indexOfChar_4cfef 32 = .ok (.ireturn, 1) := by decide +kernel
theorem dJ1_indexOf_4cfef_0 : decode cJ1_indexOf_4cfef 0 = .ok (.iload_n 1, 1) := by decide +kernel
theorem dJ1_indexOf_4cfef_1 : decode cJ1_indexOf_4cfef 1 = .ok (.invokestatic 88, 3) := by decide +kernel
theorem dJ1_indexOf_4cfef_4 : decode cJ1_indexOf_4cfef 4 = .ok (.ifCond .ne 5, 3) := by decide +kernel
theorem dJ1_indexOf_4cfef_7 : decode cJ1_indexOf_4cfef 7 = .ok (.iconst (-1), 1) := by decide +kernel
theorem dJ1_indexOf_4cfef_8 : decode cJ1_indexOf_4cfef 8 = .ok (.ireturn, 1) := by decide +kernel
theorem dJ1_indexOf_4cfef_9 : decode cJ1_indexOf_4cfef 9 = .ok (.iload_n 2, 1) := by decide +kernel
theorem dJ1_indexOf_4cfef_10 : decode cJ1_indexOf_4cfef 10 = .ok (.iconst 0, 1) := by decide +kernel
theorem dJ1_indexOf_4cfef_11 : decode cJ1_indexOf_4cfef 11 = .ok (.invokestatic 92, 3) := by decide +kernel
theorem dJ1_indexOf_4cfef_14 : decode cJ1_indexOf_4cfef 14 = .ok (.istore_n 2, 1) := by decide +kernel
theorem dJ1_indexOf_4cfef_15 : decode cJ1_indexOf_4cfef 15 = .ok (.iload_n 3, 1) := by decide +kernel
theorem dJ1_indexOf_4cfef_16 : decode cJ1_indexOf_4cfef 16 = .ok (.aload_n 0, 1) := by decide +kernel
theorem dJ1_indexOf_4cfef_17 : decode cJ1_indexOf_4cfef 17 = .ok (.arraylength, 1) := by decide +kernel
theorem dJ1_indexOf_4cfef_18 : decode cJ1_indexOf_4cfef 18 = .ok (.invokestatic 38, 3) := by decide +kernel
theorem dJ1_indexOf_4cfef_21 : decode cJ1_indexOf_4cfef 21 = .ok (.istore_n 3, 1) := by decide +kernel
theorem dJ1_indexOf_4cfef_22 : decode cJ1_indexOf_4cfef 22 = .ok (.iload_n 2, 1) := by decide +kernel
theorem dJ1_indexOf_4cfef_23 : decode cJ1_indexOf_4cfef 23 = .ok (.iload_n 3, 1) := by decide +kernel
theorem dJ1_indexOf_4cfef_24 : decode cJ1_indexOf_4cfef 24 = .ok (.if_icmp .lt 5, 3) := by decide +kernel
theorem dJ1_indexOf_4cfef_27 : decode cJ1_indexOf_4cfef 27 = .ok (.iconst (-1), 1) := by decide +kernel
theorem dJ1_indexOf_4cfef_28 : decode cJ1_indexOf_4cfef 28 = .ok (.ireturn, 1) := by decide +kernel
theorem dJ1_indexOf_4cfef_29 : decode cJ1_indexOf_4cfef 29 = .ok (.aload_n 0, 1) := by decide +kernel
theorem dJ1_indexOf_4cfef_30 : decode cJ1_indexOf_4cfef 30 = .ok (.iload_n 1, 1) := by decide +kernel
theorem dJ1_indexOf_4cfef_31 : decode cJ1_indexOf_4cfef 31 = .ok (.iload_n 2, 1) := by decide +kernel
theorem dJ1_indexOf_4cfef_32 : decode cJ1_indexOf_4cfef 32 = .ok (.iload_n 3, 1) := by decide +kernel
theorem dJ1_indexOf_4cfef_33 : decode cJ1_indexOf_4cfef 33 = .ok (.invokestatic 95, 3) := by decide +kernel
theorem dJ1_indexOf_4cfef_36 : decode cJ1_indexOf_4cfef 36 = .ok (.ireturn, 1) := by decide +kernel
theorem dJ0_indexOf_7cf53_0 : decode cJ0_indexOf_7cf53 0 = .ok (.aload_n 0, 1) := by decide +kernel
theorem dJ0_indexOf_7cf53_1 : decode cJ0_indexOf_7cf53 1 = .ok (.invokevirtual 492, 3) := by decide +kernel
theorem dJ0_indexOf_7cf53_4 : decode cJ0_indexOf_7cf53 4 = .ok (.ifCond .eq 19, 3) := by decide +kernel
theorem dJ0_indexOf_7cf53_7 : decode cJ0_indexOf_7cf53 7 = .ok (.aload_n 0, 1) := by decide +kernel
theorem dJ0_indexOf_7cf53_8 : decode cJ0_indexOf_7cf53 8 = .ok (.getfield 9, 3) := by decide +kernel
theorem dJ0_indexOf_7cf53_11 : decode cJ0_indexOf_7cf53 11 = .ok (.iload_n 1, 1) := by decide +kernel
theorem dJ0_indexOf_7cf53_12 : decode cJ0_indexOf_7cf53 12 = .ok (.iload_n 2, 1) := by decide +kernel
theorem dJ0_indexOf_7cf53_13 : decode cJ0_indexOf_7cf53 13 = .ok (.aload_n 0, 1) := by decide +kernel
theorem dJ0_indexOf_7cf53_14 : decode cJ0_indexOf_7cf53 14 = .ok (.invokevirtual 505, 3) := by decide +kernel
theorem dJ0_indexOf_7cf53_17 : decode cJ0_indexOf_7cf53 17 = .ok (.invokestatic 637, 3) := by decide +kernel
theorem dJ0_indexOf_7cf53_20 : decode cJ0_indexOf_7cf53 20 = .ok (.goto 16, 3) := by decide +kernel
theorem dJ0_indexOf_7cf53_23 : decode cJ0_indexOf_7cf53 23 = .ok (.aload_n 0, 1) := by decide +kernel
theorem dJ0_indexOf_7cf53_24 : decode cJ0_indexOf_7cf53 24 = .ok (.getfield 9, 3) := by decide +kernel
theorem dJ0_indexOf_7cf53_27 : decode cJ0_indexOf_7cf53 27 = .ok (.iload_n 1, 1) := by decide +kernel
theorem dJ0_indexOf_7cf53_28 : decode cJ0_indexOf_7cf53 28 = .ok (.iload_n 2, 1) := by decide +kernel
theorem dJ0_indexOf_7cf53_29 : decode cJ0_indexOf_7cf53 29 = .ok (.aload_n 0, 1) := by decide +kernel
theorem dJ0_indexOf_7cf53_30 : decode cJ0_indexOf_7cf53 30 = .ok (.invokevirtual 505, 3) := by decide +kernel
theorem dJ0_indexOf_7cf53_33 : decode cJ0_indexOf_7cf53 33 = .ok (.invokestatic 640, 3) := by decide +kernel
theorem dJ0_indexOf_7cf53_36 : decode cJ0_indexOf_7cf53 36 = .ok (.ireturn, 1) := by decide +kernel
theorem dJ0_indexOf_0f7a4_0 : decode cJ0_indexOf_0f7a4 0 = .ok (.aload_n 0, 1) := by decide +kernel
theorem dJ0_indexOf_0f7a4_1 : decode cJ0_indexOf_0f7a4 1 = .ok (.iload_n 1, 1) := by decide +kernel
theorem dJ0_indexOf_0f7a4_2 : decode cJ0_indexOf_0f7a4 2 = .ok (.iconst 0, 1) := by decide +kernel
theorem dJ0_indexOf_0f7a4_3 : decode cJ0_indexOf_0f7a4 3 = .ok (.invokevirtual 633, 3) := by decide +kernel
theorem dJ0_indexOf_0f7a4_6 : decode cJ0_indexOf_0f7a4 6 = .ok (.ireturn, 1) := by decide +kernel
theorem dX12_init_0 : decode cX12_init 0 = .ok (.aload_n 0, 1) := by decide +kernel
theorem dX12_init_1 : decode cX12_init 1 = .ok (.invokespecial 1, 3) := by decide +kernel
theorem dX12_init_4 : decode cX12_init 4 = .ok (.aload_n 0, 1) := by decide +kernel
theorem dX12_init_5 : decode cX12_init 5 = .ok (.iload_n 1, 1) := by decide +kernel
theorem dX12_init_6 : decode cX12_init 6 = .ok (.putfield 7, 3) := by decide +kernel
theorem dX12_init_9 : decode cX12_init 9 = .ok (.aload_n 0, 1) := by decide +kernel
theorem dX12_init_10 : decode cX12_init 10 = .ok (.iload_n 2, 1) := by decide +kernel
theorem dX12_init_11 : decode cX12_init 11 = .ok (.putfield 13, 3) := by decide +kernel
theorem dX12_init_14 : decode cX12_init 14 = .ok (.aload_n 0, 1) := by decide +kernel
theorem dX12_init_15 : decode cX12_init 15 = .ok (.iload_n 3, 1) := by decide +kernel
theorem dX12_init_16 : decode cX12_init 16 = .ok (.putfield 17, 3) := by decide +kernel
theorem dX12_init_19 : decode cX12_init 19 = .ok (.return_, 1) := by decide +kernel
theorem dX15_row_0 : decode cX15_row 0 = .ok (.aload_n 0, 1) := by decide +kernel
theorem dX15_row_1 : decode cX15_row 1 = .ok (.ldc 80, 2) := by decide +kernel
theorem dX15_row_3 : decode cX15_row 3 = .ok (.iload_n 1, 1) := by decide +kernel
theorem dX15_row_4 : decode cX15_row 4 = .ok (.invokevirtual 82, 3) := by decide +kernel
theorem dX15_row_7 : decode cX15_row 7 = .ok (.ifCond .ge 7, 3) := by decide +kernel
theorem dX15_row_10 : decode cX15_row 10 = .ok (.iconst 1, 1) := by decide +kernel
theorem dX15_row_11 : decode cX15_row 11 = .ok (.goto 20, 3) := by decide +kernel
theorem dX15_row_14 : decode cX15_row 14 = .ok (.aload_n 0, 1) := by decide +kernel
theorem dX15_row_15 : decode cX15_row 15 = .ok (.getfield 25, 3) := by decide +kernel
theorem dX15_row_18 : decode cX15_row 18 = .ok (.invokevirtual 58, 3) := by decide +kernel
theorem dX15_row_21 : decode cX15_row 21 = .ok (.bipush 24, 2) := by decide +kernel
theorem dX15_row_23 : decode cX15_row 23 = .ok (.if_icmp .ne 7, 3) := by decide +kernel
theorem dX15_row_26 : decode cX15_row 26 = .ok (.iconst 2, 1) := by decide +kernel
theorem dX15_row_27 : decode cX15_row 27 = .ok (.goto 4, 3) := by decide +kernel
theorem dX15_row_30 : decode cX15_row 30 = .ok (.iconst 0, 1) := by decide +kernel
theorem dX15_row_31 : decode cX15_row 31 = .ok (.invokevirtual 77, 3) := by decide +kernel
theorem dX15_row_34 : decode cX15_row 34 = .ok (.ifCond .eq 5, 3) := by decide +kernel
theorem dX15_row_37 : decode cX15_row 37 = .ok (.iconst 0, 1) := by decide +kernel
theorem dX15_row_38 : decode cX15_row 38 = .ok (.ireturn, 1) := by decide +kernel
theorem dX15_row_39 : decode cX15_row 39 = .ok (.aload_n 0, 1) := by decide +kernel
theorem dX15_row_40 : decode cX15_row 40 = .ok (.getfield 25, 3) := by decide +kernel
theorem dX15_row_43 : decode cX15_row 43 = .ok (.new 88, 3) := by decide +kernel
theorem dX15_row_46 : decode cX15_row 46 = .ok (.dup, 1) := by decide +kernel
theorem dX15_row_47 : decode cX15_row 47 = .ok (.iload_n 1, 1) := by decide +kernel
theorem dX15_row_48 : decode cX15_row 48 = .ok (.iload_n 2, 1) := by decide +kernel
theorem dX15_row_49 : decode cX15_row 49 = .ok (.iload_n 3, 1) := by decide +kernel
theorem dX15_row_50 : decode cX15_row 50 = .ok (.invokespecial 90, 3) := by decide +kernel
theorem dX15_row_53 : decode cX15_row 53 = .ok (.invokevirtual 50, 3) := by decide +kernel
theorem dX15_row_56 : decode cX15_row 56 = .ok (.pop, 1) := by decide +kernel
theorem dX15_row_57 : decode cX15_row 57 = .ok (.aload_n 0, 1) := by decide +kernel
theorem dX15_row_58 : decode cX15_row 58 = .ok (.getfield 25, 3) := by decide +kernel
theorem dX15_row_61 : decode cX15_row 61 = .ok (.invokevirtual 58, 3) := by decide +kernel
theorem dX15_row_64 : decode cX15_row 64 = .ok (.ireturn, 1) := by decide +kernel
theorem dX15_thrown_0 : decode cX15_thrown 0 = .ok (.aload_n 0, 1) := by decide +kernel
theorem dX15_thrown_1 : decode cX15_thrown 1 = .ok (.getfield 54, 3) := by decide +kernel
theorem dX15_thrown_4 : decode cX15_thrown 4 = .ok (.ireturn, 1) := by decide +kernel
section SITES
variable {p : Program} {l : Launch} {e : Env} {R : Room} {s : State} {m : MethodId} {args : Array Value} {below : List Frame} {meth : Method} {c : Code} {H : Heap} {locs : List Loc} {cells slots : Nat} {Q : State → Prop}
variable {pc : Nat} {ls : Array Slot} {rest : List Value} {D : va_G} {ar : Nat → ClassId} {κ : Nat → Nat} {A : Nat → Prop} {a : Nat} {H0 : Heap} {G : gW} {nz nL : Nat} {cc : ByteArray}
theorem m_6_234 : (Cond.fieldLink RJ0 38 "java/lang/String" "COMPACT_STRINGS" "Z") ∈ lwA := lwA_mk (ck_6 _ (List.mem_of_getElem? (i := 234) rfl)) rfl
theorem m_9_136 : (Cond.fieldLink RJ0 15 "java/lang/String" "coder" "B") ∈ lwA := lwA_mk (ck_9 _ (List.mem_of_getElem? (i := 136) rfl)) rfl
theorem m_9_137 : (Cond.fieldLink RJ0 9 "java/lang/String" "value" "[B") ∈ lwA := lwA_mk (ck_9 _ (List.mem_of_getElem? (i := 137) rfl)) rfl
theorem m_7_3 : (Cond.code yJ0_coder_7d493 cJ0_coder_7d493 1 (some .byte)) ∈ lwA := lwA_mk (ck_7 _ (List.mem_of_getElem? (i := 3) rfl)) rfl
theorem m_1_23 : (Cond.initialized RJ0) ∈ lwA := lwA_mk (ck_1 _ (List.mem_of_getElem? (i := 23) rfl)) rfl
theorem m_7_0 : (Cond.methodLink RJ0 335 yJ0_coder_7d493) ∈ lwA := lwA_mk (ck_7 _ (List.mem_of_getElem? (i := 0) rfl)) rfl
theorem m_7_1 : (Cond.instanceMethod yJ0_coder_7d493) ∈ lwA := lwA_mk (ck_7 _ (List.mem_of_getElem? (i := 1) rfl)) rfl
theorem m_7_2 : (Cond.selects RJ0 yJ0_coder_7d493 yJ0_coder_7d493) ∈ lwA := lwA_mk (ck_7 _ (List.mem_of_getElem? (i := 2) rfl)) rfl
theorem k_RJ0_335 {args : Array Value} {s : State} {R rm : Room} (hts : ∀ w ∈ lwA, w.before args s = true) (hR : rm.frames + 1 ≤ R.frames ∧ 8 + (1 + 11) + rm.locals ≤ R.locals) : CallW R s args RJ0 RJ0 335 yJ0_coder_7d493 cJ0_coder_7d493 1 (some .byte) (lwC yJ0_coder_7d493 cJ0_coder_7d493 1 (some .byte)) rm rm.cells rm.slots 0 := cwV 0 hts (gdV m_7_0 m_7_1 m_7_2 m_1_23 m_7_3) rfl rfl rfl (by decide +kernel) hR
theorem m_7_9 : (Cond.code yJ1_canEncode_9a6ad cJ1_canEncode_9a6ad 1 (some .boolean)) ∈ lwA := lwA_mk (ck_7 _ (List.mem_of_getElem? (i := 9) rfl)) rfl
theorem m_1_28 : (Cond.initialized RJ1) ∈ lwA := lwA_mk (ck_1 _ (List.mem_of_getElem? (i := 28) rfl)) rfl
theorem m_7_7 : (Cond.methodLink RJ1 88 yJ1_canEncode_9a6ad) ∈ lwA := lwA_mk (ck_7 _ (List.mem_of_getElem? (i := 7) rfl)) rfl
theorem m_7_8 : (Cond.static yJ1_canEncode_9a6ad) ∈ lwA := lwA_mk (ck_7 _ (List.mem_of_getElem? (i := 8) rfl)) rfl
theorem k_RJ1_88 {args : Array Value} {s : State} {R rm : Room} (hts : ∀ w ∈ lwA, w.before args s = true) (hR : rm.frames + 1 ≤ R.frames ∧ 8 + (1 + 11) + rm.locals ≤ R.locals) : CallB R s args RJ1 88 yJ1_canEncode_9a6ad cJ1_canEncode_9a6ad 1 (some .boolean) (lwC yJ1_canEncode_9a6ad cJ1_canEncode_9a6ad 1 (some .boolean)) rm rm.cells rm.slots 1 ∧ (Cond.static yJ1_canEncode_9a6ad).before args s = true := cwS 1 hts (gdS m_7_7 m_7_8 m_1_28 m_7_9) rfl rfl rfl (by decide +kernel) hR
theorem m_7_10 : (Cond.methodLink RJ1 92 yJ9_max_7cf53) ∈ lwA := lwA_mk (ck_7 _ (List.mem_of_getElem? (i := 10) rfl)) rfl
theorem m_7_11 : (Cond.methodLink RJ1 38 yJ9_min_7cf53) ∈ lwA := lwA_mk (ck_7 _ (List.mem_of_getElem? (i := 11) rfl)) rfl
theorem m_7_14 : (Cond.code yJ1_indexOfChar_4cfef cJ1_indexOfChar_4cfef 6 (some .int)) ∈ lwA := lwA_mk (ck_7 _ (List.mem_of_getElem? (i := 14) rfl)) rfl
theorem m_7_12 : (Cond.methodLink RJ1 95 yJ1_indexOfChar_4cfef) ∈ lwA := lwA_mk (ck_7 _ (List.mem_of_getElem? (i := 12) rfl)) rfl
theorem m_7_13 : (Cond.static yJ1_indexOfChar_4cfef) ∈ lwA := lwA_mk (ck_7 _ (List.mem_of_getElem? (i := 13) rfl)) rfl
theorem k_RJ1_95 {args : Array Value} {s : State} {R rm : Room} (hts : ∀ w ∈ lwA, w.before args s = true) (hR : rm.frames + 1 ≤ R.frames ∧ 8 + (6 + 11) + rm.locals ≤ R.locals) : CallB R s args RJ1 95 yJ1_indexOfChar_4cfef cJ1_indexOfChar_4cfef 6 (some .int) (lwC yJ1_indexOfChar_4cfef cJ1_indexOfChar_4cfef 6 (some .int)) rm rm.cells rm.slots 4 ∧ (Cond.static yJ1_indexOfChar_4cfef).before args s = true := cwS 4 hts (gdS m_7_12 m_7_13 m_1_28 m_7_14) rfl rfl rfl (by decide +kernel) hR
theorem m_6_233 : (Cond.code yJ0_isLatin1_aae02 cJ0_isLatin1_aae02 1 (some .boolean)) ∈ lwA := lwA_mk (ck_6 _ (List.mem_of_getElem? (i := 233) rfl)) rfl
theorem m_6_230 : (Cond.methodLink RJ0 492 yJ0_isLatin1_aae02) ∈ lwA := lwA_mk (ck_6 _ (List.mem_of_getElem? (i := 230) rfl)) rfl
theorem m_6_231 : (Cond.instanceMethod yJ0_isLatin1_aae02) ∈ lwA := lwA_mk (ck_6 _ (List.mem_of_getElem? (i := 231) rfl)) rfl
theorem m_6_232 : (Cond.selects RJ0 yJ0_isLatin1_aae02 yJ0_isLatin1_aae02) ∈ lwA := lwA_mk (ck_6 _ (List.mem_of_getElem? (i := 232) rfl)) rfl
theorem k_RJ0_492 {args : Array Value} {s : State} {R rm : Room} (hts : ∀ w ∈ lwA, w.before args s = true) (hR : rm.frames + 1 ≤ R.frames ∧ 8 + (1 + 11) + rm.locals ≤ R.locals) : CallW R s args RJ0 RJ0 492 yJ0_isLatin1_aae02 cJ0_isLatin1_aae02 1 (some .boolean) (lwC yJ0_isLatin1_aae02 cJ0_isLatin1_aae02 1 (some .boolean)) rm rm.cells rm.slots 0 := cwV 0 hts (gdV m_6_230 m_6_231 m_6_232 m_1_23 m_6_233) rfl rfl rfl (by decide +kernel) hR
theorem m_6_239 : (Cond.code yJ0_length_8abf5 cJ0_length_8abf5 1 (some .int)) ∈ lwA := lwA_mk (ck_6 _ (List.mem_of_getElem? (i := 239) rfl)) rfl
theorem m_6_236 : (Cond.methodLink RJ0 505 yJ0_length_8abf5) ∈ lwA := lwA_mk (ck_6 _ (List.mem_of_getElem? (i := 236) rfl)) rfl
theorem m_6_237 : (Cond.instanceMethod yJ0_length_8abf5) ∈ lwA := lwA_mk (ck_6 _ (List.mem_of_getElem? (i := 237) rfl)) rfl
theorem m_6_238 : (Cond.selects RJ0 yJ0_length_8abf5 yJ0_length_8abf5) ∈ lwA := lwA_mk (ck_6 _ (List.mem_of_getElem? (i := 238) rfl)) rfl
theorem k_RJ0_505 {args : Array Value} {s : State} {R rm : Room} (hts : ∀ w ∈ lwA, w.before args s = true) (hR : rm.frames + 1 ≤ R.frames ∧ 8 + (1 + 11) + rm.locals ≤ R.locals) : CallW R s args RJ0 RJ0 505 yJ0_length_8abf5 cJ0_length_8abf5 1 (some .int) (lwC yJ0_length_8abf5 cJ0_length_8abf5 1 (some .int)) rm rm.cells rm.slots 0 := cwV 0 hts (gdV m_6_236 m_6_237 m_6_238 m_1_23 m_6_239) rfl rfl rfl (by decide +kernel) hR
theorem m_7_6 : (Cond.code yJ1_indexOf_4cfef cJ1_indexOf_4cfef 4 (some .int)) ∈ lwA := lwA_mk (ck_7 _ (List.mem_of_getElem? (i := 6) rfl)) rfl
theorem m_7_4 : (Cond.methodLink RJ0 637 yJ1_indexOf_4cfef) ∈ lwA := lwA_mk (ck_7 _ (List.mem_of_getElem? (i := 4) rfl)) rfl
theorem m_7_5 : (Cond.static yJ1_indexOf_4cfef) ∈ lwA := lwA_mk (ck_7 _ (List.mem_of_getElem? (i := 5) rfl)) rfl
theorem k_RJ0_637 {args : Array Value} {s : State} {R rm : Room} (hts : ∀ w ∈ lwA, w.before args s = true) (hR : rm.frames + 1 ≤ R.frames ∧ 8 + (4 + 11) + rm.locals ≤ R.locals) : CallB R s args RJ0 637 yJ1_indexOf_4cfef cJ1_indexOf_4cfef 4 (some .int) (lwC yJ1_indexOf_4cfef cJ1_indexOf_4cfef 4 (some .int)) rm rm.cells rm.slots 4 ∧ (Cond.static yJ1_indexOf_4cfef).before args s = true := va_cwS 4 hts (gdT m_7_4 m_7_5 m_1_28 m_7_6) rfl rfl rfl (by decide +kernel) hR
theorem m_6_229 : (Cond.code yJ0_indexOf_7cf53 cJ0_indexOf_7cf53 3 (some .int)) ∈ lwA := lwA_mk (ck_6 _ (List.mem_of_getElem? (i := 229) rfl)) rfl
theorem m_6_226 : (Cond.methodLink RJ0 633 yJ0_indexOf_7cf53) ∈ lwA := lwA_mk (ck_6 _ (List.mem_of_getElem? (i := 226) rfl)) rfl
theorem m_6_227 : (Cond.instanceMethod yJ0_indexOf_7cf53) ∈ lwA := lwA_mk (ck_6 _ (List.mem_of_getElem? (i := 227) rfl)) rfl
theorem m_6_228 : (Cond.selects RJ0 yJ0_indexOf_7cf53 yJ0_indexOf_7cf53) ∈ lwA := lwA_mk (ck_6 _ (List.mem_of_getElem? (i := 228) rfl)) rfl
theorem k_RJ0_633 {args : Array Value} {s : State} {R rm : Room} (hts : ∀ w ∈ lwA, w.before args s = true) (hR : rm.frames + 1 ≤ R.frames ∧ 8 + (3 + 11) + rm.locals ≤ R.locals) : CallW R s args RJ0 RJ0 633 yJ0_indexOf_7cf53 cJ0_indexOf_7cf53 3 (some .int) (lwC yJ0_indexOf_7cf53 cJ0_indexOf_7cf53 3 (some .int)) rm rm.cells rm.slots 2 := cwV 2 hts (gdV m_6_226 m_6_227 m_6_228 m_1_23 m_6_229) rfl rfl rfl (by decide +kernel) hR
theorem m_7_69 : (Cond.methodLink RX12 1 objectInit) ∈ lwA := lwA_mk (ck_7 _ (List.mem_of_getElem? (i := 69) rfl)) rfl
theorem inA_RX12 : ∀ w ∈ u_ws RX12 TX12 3, w ∈ lwA := gA_r _ [1585, 1587, 1589] (by decide +kernel) (by decide +kernel)
theorem m_7_70 : (Cond.fieldLink RX12 7 "SendhouseModel$Row" "letter" "C") ∈ lwA := lwA_mk (ck_7 _ (List.mem_of_getElem? (i := 70) rfl)) rfl
theorem pf_RX12_7_16 {A9 : Nat → Prop} {H9 : Heap} {fs : List Value} {v : Value} (S : CallFix p m c cc nL s args lwA RX12) (hE : g_E D vwCl (gT ar) (EX1 κ) A9 s H9) (hin : meth.name = "<init>") (w : g_S D vwCl A H0 G H locs nz) (ha : G a = some (.inr (16, fs))) (hn : narrow .char v = v) (hfit : fits .char v = true) (hl : 0 < fs.length) {fs1 : List Value} (hfs : fs.set 0 v = fs1) (hdg : decode cc pc = .ok (.putfield 7, 3)) (kk : ∀ (H1 : Heap) (locs1 : List Loc), g_S D vwCl A H0 (g_up G a (.inr (16, fs1))) H1 locs1 nz → W p l e R s m args below meth c H1 locs1 cells slots Q (F0 m (pc + 3) ls rest)) : W p l e R s m args below meth c H locs cells slots Q (F0 m pc ls (v :: .ref a :: rest)) :=
  g_putF (ci := 16) (ty := .char) (C := RX12) (T := TX12) (N := 3) S.1 S.2.1 S.2.2.2.2 inA_RX12 tyX12 tyX12_ok nmX12 S.2.2.2.1 hE.1 w ha rfl 0 (by decide) (S.2.2.2.2 _ m_7_70) (fun _ h => h) rfl hin rfl (by decide +kernel) hn hfit hl hdg (fun H1 l1 w1 => kk H1 l1 (by rw [← hfs]; exact w1))
theorem m_7_72 : (Cond.fieldLink RX12 13 "SendhouseModel$Row" "a" "I") ∈ lwA := lwA_mk (ck_7 _ (List.mem_of_getElem? (i := 72) rfl)) rfl
theorem pf_RX12_13_16 {A9 : Nat → Prop} {H9 : Heap} {fs : List Value} {v : Value} (S : CallFix p m c cc nL s args lwA RX12) (hE : g_E D vwCl (gT ar) (EX1 κ) A9 s H9) (hin : meth.name = "<init>") (w : g_S D vwCl A H0 G H locs nz) (ha : G a = some (.inr (16, fs))) (hn : narrow .int v = v) (hfit : fits .int v = true) (hl : 1 < fs.length) {fs1 : List Value} (hfs : fs.set 1 v = fs1) (hdg : decode cc pc = .ok (.putfield 13, 3)) (kk : ∀ (H1 : Heap) (locs1 : List Loc), g_S D vwCl A H0 (g_up G a (.inr (16, fs1))) H1 locs1 nz → W p l e R s m args below meth c H1 locs1 cells slots Q (F0 m (pc + 3) ls rest)) : W p l e R s m args below meth c H locs cells slots Q (F0 m pc ls (v :: .ref a :: rest)) :=
  g_putF (ci := 16) (ty := .int) (C := RX12) (T := TX12) (N := 3) S.1 S.2.1 S.2.2.2.2 inA_RX12 tyX12 tyX12_ok nmX12 S.2.2.2.1 hE.1 w ha rfl 1 (by decide) (S.2.2.2.2 _ m_7_72) (fun _ h => h) rfl hin rfl (by decide +kernel) hn hfit hl hdg (fun H1 l1 w1 => kk H1 l1 (by rw [← hfs]; exact w1))
theorem m_7_74 : (Cond.fieldLink RX12 17 "SendhouseModel$Row" "b" "I") ∈ lwA := lwA_mk (ck_7 _ (List.mem_of_getElem? (i := 74) rfl)) rfl
theorem pf_RX12_17_16 {A9 : Nat → Prop} {H9 : Heap} {fs : List Value} {v : Value} (S : CallFix p m c cc nL s args lwA RX12) (hE : g_E D vwCl (gT ar) (EX1 κ) A9 s H9) (hin : meth.name = "<init>") (w : g_S D vwCl A H0 G H locs nz) (ha : G a = some (.inr (16, fs))) (hn : narrow .int v = v) (hfit : fits .int v = true) (hl : 2 < fs.length) {fs1 : List Value} (hfs : fs.set 2 v = fs1) (hdg : decode cc pc = .ok (.putfield 17, 3)) (kk : ∀ (H1 : Heap) (locs1 : List Loc), g_S D vwCl A H0 (g_up G a (.inr (16, fs1))) H1 locs1 nz → W p l e R s m args below meth c H1 locs1 cells slots Q (F0 m (pc + 3) ls rest)) : W p l e R s m args below meth c H locs cells slots Q (F0 m pc ls (v :: .ref a :: rest)) :=
  g_putF (ci := 16) (ty := .int) (C := RX12) (T := TX12) (N := 3) S.1 S.2.1 S.2.2.2.2 inA_RX12 tyX12 tyX12_ok nmX12 S.2.2.2.1 hE.1 w ha rfl 2 (by decide) (S.2.2.2.2 _ m_7_74) (fun _ h => h) rfl hin rfl (by decide +kernel) hn hfit hl hdg (fun H1 l1 w1 => kk H1 l1 (by rw [← hfs]; exact w1))
theorem m_6_225 : (Cond.code yJ0_indexOf_0f7a4 cJ0_indexOf_0f7a4 2 (some .int)) ∈ lwA := lwA_mk (ck_6 _ (List.mem_of_getElem? (i := 225) rfl)) rfl
theorem m_6_222 : (Cond.methodLink RX15 82 yJ0_indexOf_0f7a4) ∈ lwA := lwA_mk (ck_6 _ (List.mem_of_getElem? (i := 222) rfl)) rfl
theorem m_6_223 : (Cond.instanceMethod yJ0_indexOf_0f7a4) ∈ lwA := lwA_mk (ck_6 _ (List.mem_of_getElem? (i := 223) rfl)) rfl
theorem m_6_224 : (Cond.selects RJ0 yJ0_indexOf_0f7a4 yJ0_indexOf_0f7a4) ∈ lwA := lwA_mk (ck_6 _ (List.mem_of_getElem? (i := 224) rfl)) rfl
theorem k_RX15_82 {args : Array Value} {s : State} {R rm : Room} (hts : ∀ w ∈ lwA, w.before args s = true) (hR : rm.frames + 1 ≤ R.frames ∧ 8 + (2 + 11) + rm.locals ≤ R.locals) : CallW R s args RX15 RJ0 82 yJ0_indexOf_0f7a4 cJ0_indexOf_0f7a4 2 (some .int) (lwC yJ0_indexOf_0f7a4 cJ0_indexOf_0f7a4 2 (some .int)) rm rm.cells rm.slots 1 := cwV 1 hts (gdV m_6_222 m_6_223 m_6_224 m_1_23 m_6_225) rfl rfl rfl (by decide +kernel) hR
theorem m_7_64 : (Cond.classLink RX15 88 RX12) ∈ lwA := lwA_mk (ck_7 _ (List.mem_of_getElem? (i := 64) rfl)) rfl
theorem m_7_65 : (Cond.instantiable RX12 3) ∈ lwA := lwA_mk (ck_7 _ (List.mem_of_getElem? (i := 65) rfl)) rfl
theorem m_1_31 : (Cond.initialized RX12) ∈ lwA := lwA_mk (ck_1 _ (List.mem_of_getElem? (i := 31) rfl)) rfl
theorem nw_RX15_88 {A9 : Nat → Prop} {H9 : Heap} (S : CallFix p m c cc nL s args lwA RX15) (hE : g_E D vwCl (gT ar) (EX1 κ) A9 s H9) (w : g_S D vwCl A H0 G H locs nz) (hcells : cells + 1 ≤ R.cells) (hslots : slots + 3 ≤ R.slots) (hdg : decode cc pc = .ok (.new 88, 3)) (kk : ∀ (H1 : Heap), g_S D vwCl A H0 (g_up G nz (.inr (16, [.int 0, .int 0, .int 0]))) H1 locs (nz + 1) → W p l e R s m args below meth c H1 locs (cells + 1) (slots + 3) Q (F0 m (pc + 3) ls (.ref nz :: rest))) : W p l e R s m args below meth c H locs cells slots Q (F0 m pc ls rest) :=
  g_new (ci := 16) (fs := [.int 0, .int 0, .int 0]) (C := RX12) (T := TX12) (N := 3) S.1 S.2.1 S.2.2.2.2 inA_RX12 tyX12 tyX12_ok S.2.2.2.1 (S.2.2.2.2 _ m_7_64) (S.2.2.2.2 _ m_7_65) (S.2.2.2.2 _ m_1_31) hE.1 w rfl (fun j hj => by rcases (show j = 0 ∨ j = 1 ∨ j = 2 by omega) with rfl | rfl | rfl <;> rfl) hcells hslots hdg kk
theorem m_7_68 : (Cond.code yX12_init cX12_init 4 none) ∈ lwA := lwA_mk (ck_7 _ (List.mem_of_getElem? (i := 68) rfl)) rfl
theorem m_7_66 : (Cond.methodLink RX15 90 yX12_init) ∈ lwA := lwA_mk (ck_7 _ (List.mem_of_getElem? (i := 66) rfl)) rfl
theorem m_7_67 : (Cond.instanceMethod yX12_init) ∈ lwA := lwA_mk (ck_7 _ (List.mem_of_getElem? (i := 67) rfl)) rfl
theorem k_RX15_90 {args : Array Value} {s : State} {R rm : Room} (hts : ∀ w ∈ lwA, w.before args s = true) (hR : rm.frames + 1 ≤ R.frames ∧ 8 + (4 + 11) + rm.locals ≤ R.locals) : CallB R s args RX15 90 yX12_init cX12_init 4 none (lwC yX12_init cX12_init 4 none) rm rm.cells rm.slots 3 ∧ yX12_init.name = "<init>" ∧ (Cond.instanceMethod yX12_init).before args s = true := cwI 3 hts (gd m_7_68) rfl rfl rfl (hts _ m_1_31) (hts _ m_7_66) (hts _ m_7_67) rfl (by decide +kernel) hR
theorem gf_RX15_54_19 {A9 : Nat → Prop} {H9 : Heap} {fs : List Value} {v : Value} (S : CallFix p m c cc nL s args lwA RX15) (hE : g_E D vwCl (gT ar) (EX1 κ) A9 s H9) (w : g_S D vwCl A H0 G H locs nz) (ha : G a = some (.inr (19, fs))) (hv : fs[7]? = some v) (hdg : decode cc pc = .ok (.getfield 54, 3)) (kk : W p l e R s m args below meth c H locs cells slots Q (F0 m (pc + 3) ls (v :: rest))) : W p l e R s m args below meth c H locs cells slots Q (F0 m pc ls (.ref a :: rest)) :=
  va_get (ci := 19) (C := RX15) (T := TX15) (N := 14) S.1 S.2.1 S.2.2.2.2 inA_RX15 S.2.2.2.1 hE.1 (g_1 w.1 ha) 0 rfl rfl 7 (by decide) (S.2.2.2.2 _ m_6_152) (fun _ h => h) hv hdg kk
end SITES
section RVK
variable {p : Program} {l : Launch} {e : Env} {R : Room} {s : State} {m : MethodId} {args : Array Value} {below : List Frame} {meth : Method} {c : Code} {H : Heap} {locs : List Loc} {cells slots : Nat}
variable {pc : Nat} {ls : Array Slot} {rest st0 : List Value} {D : va_G} {ar : Nat → ClassId} {κ : Nat → Nat} {A : Nat → Prop} {G : gW} {nz : Nat}
variable {y : MethodName} {bytes cc : ByteArray} {maxL nL mc ms n index : Nat} {ret : Option FieldType} {rm : Room} {Qc : Array Value → State → Outcome → State → Prop} {free : Addr → Prop} {own C : String} {b : Nat} {As : List Value} {lv : List (Nat × Value)}
theorem g_runVK (S : CallFix p m c cc nL s args lwA own) (hE : g_E D vwCl (gT ar) (EX1 κ) A s s.heap) (w : g_S D vwCl A s.heap G H locs nz) (hl : lv_has ls nL lv) (hM : Met l y (lwC y bytes maxL ret) rm (g_Pc D vwCl (gT ar) (EX1 κ) G nz (.ref b :: As)) Qc mc ms free) (cw : CallW R s args own C index y bytes maxL ret (lwC y bytes maxL ret) rm mc ms n)
    (hr : ∃ cell : Cell, H[b]? = some cell ∧ cell.vm.isStatics = false ∧ s.vm.findClass C = some cell.cls) (hn : As.length = n) (hst : st0 = As.reverse ++ .ref b :: rest) (hW : (rest.map fun v => v.category).sum ≤ 8) (hdg : decode cc pc = .ok (.invokevirtual index, 3)) (hf : cells + mc ≤ R.cells ∧ slots + ms ≤ R.slots) :
    va_Run p l e R s m args below meth c H locs cells slots mc ms (F0 m pc ls st0) rest (Qc (Value.ref b :: As).toArray) free :=
  va_runV S hM cw ⟨g_blind (EX1_cl κ), hr, (g_preS (EX1_cl κ) w hE).2⟩ rfl hn hl.1 hst (lv_room hW) hdg hf
end RVK
def ixF (x : Int32) : Int32 := if 110 = x.toInt8.toInt32 then 0 else if 117 = x.toInt8.toInt32 then 1 else if 115 = x.toInt8.toInt32 then 2 else if 97 = x.toInt8.toInt32 then 3 else if 116 = x.toInt8.toInt32 then 4 else if 102 = x.toInt8.toInt32 then 5 else if 103 = x.toInt8.toInt32 then 6 else if 84 = x.toInt8.toInt32 then 7 else if 70 = x.toInt8.toInt32 then 8 else if 71 = x.toInt8.toInt32 then 9 else if 100 = x.toInt8.toInt32 then 10 else if 112 = x.toInt8.toInt32 then 11 else if 43 = x.toInt8.toInt32 then 12 else if 45 = x.toInt8.toInt32 then 13 else if 42 = x.toInt8.toInt32 then 14 else if 47 = x.toInt8.toInt32 then 15 else if 60 = x.toInt8.toInt32 then 16 else if 61 = x.toInt8.toInt32 then 17 else if 107 = x.toInt8.toInt32 then 18 else if 99 = x.toInt8.toInt32 then 19 else if 109 = x.toInt8.toInt32 then 20 else if 77 = x.toInt8.toInt32 then 21 else if 106 = x.toInt8.toInt32 then 22 else if 121 = x.toInt8.toInt32 then 23 else if 114 = x.toInt8.toInt32 then 24 else if 119 = x.toInt8.toInt32 then 25 else (-1)
def ixC (x : Int32) : Int32 := if x < 0 then 0 else if 255 < x then 0 else 1
def ixO (x : Int32) : Int32 := if ixC x = 0 then -1 else ixF x
theorem ix_tab : ∀ k : Fin 256, (ixF (Int32.ofNat k.val) < 0) ↔ isL (Int32.ofNat k.val) = 0 := by decide +kernel
theorem ixO_isL {x : Int32} : ixO x < 0 ↔ isL x = 0 := by
  unfold ixO ixC
  have e0 : (0 : Int32).toInt = 0 := by decide
  have e255 : (255 : Int32).toInt = 255 := by decide
  by_cases h1 : x < 0
  · rw [if_pos h1, if_pos rfl]
    have h : isL x = 0 := by
      unfold isL
      rw [if_pos]
      rw [Int32.lt_iff_toInt_lt] at h1
      omega
    exact ⟨fun _ => h, fun _ => by decide⟩
  · rw [if_neg h1]
    by_cases h2 : 255 < x
    · rw [if_pos h2, if_pos rfl]
      have h : isL x = 0 := by
        unfold isL
        rw [Int32.lt_iff_toInt_lt] at h2
        rw [if_neg (by omega), if_pos (by omega)]
      exact ⟨fun _ => h, fun _ => by decide⟩
    · rw [if_neg h2, if_neg (by decide)]
      rw [Int32.lt_iff_toInt_lt] at h1 h2
      have hk := ix_tab ⟨x.toInt.toNat, by omega⟩
      have ex : Int32.ofNat x.toInt.toNat = x := by
        apply Int32.toInt_inj.mp
        rw [Int32.toInt_ofNat_of_lt (by omega)]
        omega
      rw [ex] at hk
      exact hk
set_option maxHeartbeats 4000000 in
set_option maxRecDepth 100000 in
theorem c_coder (l : Launch) (D : va_G) (ar : Nat → ClassId) (κ : Nat → Nat) (G : gW) (sz : Nat) : Met l yJ0_coder_7d493 (lwC yJ0_coder_7d493 cJ0_coder_7d493 1 (some .byte)) (rD 1 0 0) (g_Pc D vwCl (gT ar) (EX1 κ) G sz [.ref (κ 1)]) (g_Qi D vwCl (g_A G sz) (fun r u => r = 0 ∧ u = (G, sz))) 0 0 (g_A G sz) := by
  refine g_ofW (by decide +kernel) (Nat.le_of_ble_eq_true rfl) ?_
  intro p e s m below meth c ls S hr hlk hin hE w hl
  have hx := S.1
  have hb := S.2.1
  have hl : lv_has ls 1 [(0, .ref (κ 1))] := hl
  refine va_gets hx hb hE.2.2.2.2.2.1 w.2.2.1 S.2.2.2.1 (S.2.2.2.2 _ m_6_234) (fun _ h => h) dJ0_coder_7d493_0 ?_
  refine lv_if_eq (tgt := 13) hx hb dJ0_coder_7d493_3 (by decide) (fun c => absurd c (by decide)) (fun _ => ?_)
  refine lv_aload_n hx hb dJ0_coder_7d493_6 rfl (lv_at hl 0 rfl) ?_
  refine vk_getf hx hb (hE.2.2.2.2.2.2.2.1 0 (by decide)).2.1 w.2.2.1 S.2.2.2.1 (S.2.2.2.2 _ m_9_136) (fun _ h => h) dJ0_coder_7d493_7 ?_
  refine lv_goto (tgt := 14) hx hb dJ0_coder_7d493_10 (by decide) ?_
  exact g_zret hx hb hr hlk w (Nat.le_of_ble_eq_true rfl) (Nat.le_of_ble_eq_true rfl) dJ0_coder_7d493_14 rfl ⟨rfl, rfl⟩
set_option maxHeartbeats 4000000 in
set_option maxRecDepth 100000 in
theorem c_isLatin1 (l : Launch) (D : va_G) (ar : Nat → ClassId) (κ : Nat → Nat) (G : gW) (sz : Nat) : Met l yJ0_isLatin1_aae02 (lwC yJ0_isLatin1_aae02 cJ0_isLatin1_aae02 1 (some .boolean)) (rD 1 0 0) (g_Pc D vwCl (gT ar) (EX1 κ) G sz [.ref (κ 1)]) (g_Qi D vwCl (g_A G sz) (fun r u => r = 1 ∧ u = (G, sz))) 0 0 (g_A G sz) := by
  refine g_ofW (by decide +kernel) (Nat.le_of_ble_eq_true rfl) ?_
  intro p e s m below meth c ls S hr hlk hin hE w hl
  have hx := S.1
  have hb := S.2.1
  have hl : lv_has ls 1 [(0, .ref (κ 1))] := hl
  refine va_gets hx hb hE.2.2.2.2.2.1 w.2.2.1 S.2.2.2.1 (S.2.2.2.2 _ m_6_234) (fun _ h => h) dJ0_isLatin1_aae02_0 ?_
  refine lv_if_eq (tgt := 17) hx hb dJ0_isLatin1_aae02_3 (by decide) (fun c => absurd c (by decide)) (fun _ => ?_)
  refine lv_aload_n hx hb dJ0_isLatin1_aae02_6 rfl (lv_at hl 0 rfl) ?_
  refine vk_getf hx hb (hE.2.2.2.2.2.2.2.1 0 (by decide)).2.1 w.2.2.1 S.2.2.2.1 (S.2.2.2.2 _ m_9_136) (fun _ h => h) dJ0_isLatin1_aae02_7 ?_
  refine lv_if_ne (tgt := 17) hx hb dJ0_isLatin1_aae02_10 (by decide) (fun c => absurd (by decide) c) (fun _ => ?_)
  refine lv_iconst (v := 1) hx hb dJ0_isLatin1_aae02_13 (by decide) ?_
  refine lv_goto (tgt := 18) hx hb dJ0_isLatin1_aae02_14 (by decide) ?_
  exact g_zret hx hb hr hlk w (Nat.le_of_ble_eq_true rfl) (Nat.le_of_ble_eq_true rfl) dJ0_isLatin1_aae02_18 rfl ⟨rfl, rfl⟩
set_option maxHeartbeats 4000000 in
set_option maxRecDepth 100000 in
theorem c_length (l : Launch) (D : va_G) (ar : Nat → ClassId) (κ : Nat → Nat) (G : gW) (sz : Nat) : Met l yJ0_length_8abf5 (lwC yJ0_length_8abf5 cJ0_length_8abf5 1 (some .int)) (rD 2 0 0) (g_Pc D vwCl (gT ar) (EX1 κ) G sz [.ref (κ 1)]) (g_Qi D vwCl (g_A G sz) (fun r u => r = 26 ∧ u = (G, sz))) 0 0 (g_A G sz) := by
  refine g_ofW (by decide +kernel) (Nat.le_of_ble_eq_true rfl) ?_
  intro p e s m below meth c ls S hr hlk hin hE w hl
  have hx := S.1
  have hb := S.2.1
  have hl : lv_has ls 1 [(0, .ref (κ 1))] := hl
  refine lv_aload_n hx hb dJ0_length_8abf5_0 rfl (lv_at hl 0 rfl) ?_
  refine vk_getf hx hb (hE.2.2.2.2.2.2.2.1 0 (by decide)).2.2.1 w.2.2.1 S.2.2.2.1 (S.2.2.2.2 _ m_9_137) (fun _ h => h) dJ0_length_8abf5_1 ?_
  refine va_tlen (v := 26) hx hb (hE.2.2.2.2.2.2.2.1 0 (by decide)).2.2.2 w.2.2.1 rfl dJ0_length_8abf5_4 ?_
  refine lv_aload_n hx hb dJ0_length_8abf5_5 rfl (lv_at hl 0 rfl) ?_
  refine g_calli w (g_runVK (As := []) (rest := [.int 26]) S hE w hl (c_coder l D ar κ G sz) (k_RJ0_335 S.2.2.2.2 ⟨Nat.le_of_ble_eq_true rfl, Nat.le_of_ble_eq_true rfl⟩) (g_out (hE.2.2.2.2.2.2.2.1 0 (by decide)).1 w) rfl rfl (Nat.le_of_ble_eq_true rfl) dJ0_length_8abf5_6 ⟨Nat.le_of_ble_eq_true rfl, Nat.le_of_ble_eq_true rfl⟩) (fun r u H locs hp hnz w => ?_)
  obtain ⟨rfl, rfl⟩ := hp
  dsimp only at w
  refine lv_ishr hx hb dJ0_length_8abf5_9 ?_
  rw [show ((26 : Int32) >>> ((0 : Int32) &&& 31)) = 26 from by decide]
  exact g_iret hx hb hr hlk w (Nat.le_of_ble_eq_true rfl) (Nat.le_of_ble_eq_true rfl) dJ0_length_8abf5_10 ⟨rfl, rfl⟩
set_option maxHeartbeats 4000000 in
set_option maxRecDepth 100000 in
theorem c_canEncode (l : Launch) (D : va_G) (ar : Nat → ClassId) (κ : Nat → Nat) (G : gW) (sz : Nat) (x : Int32) : Met l yJ1_canEncode_9a6ad (lwC yJ1_canEncode_9a6ad cJ1_canEncode_9a6ad 1 (some .boolean)) (rD 1 0 0) (g_Pc D vwCl (gT ar) (EX1 κ) G sz [.int x]) (g_Qi D vwCl (g_A G sz) (fun r u => r = ixC x ∧ u = (G, sz))) 0 0 (g_A G sz) := by
  refine g_ofW (by decide +kernel) (Nat.le_of_ble_eq_true rfl) ?_
  intro p e s m below meth c ls S hr hlk hin hE w hl
  have hx := S.1
  have hb := S.2.1
  have hl : lv_has ls 1 [(0, .int x)] := hl
  refine lv_iload_n hx hb dJ1_canEncode_9a6ad_0 rfl (lv_at hl 0 rfl) ?_
  refine lv_if_lt (tgt := 15) hx hb dJ1_canEncode_9a6ad_1 (by decide) (fun c_1 => ?_) (fun c_1 => ?_)
  · refine lv_iconst (v := 0) hx hb dJ1_canEncode_9a6ad_15 (by decide) ?_
    exact g_zret hx hb hr hlk w (Nat.le_of_ble_eq_true rfl) (Nat.le_of_ble_eq_true rfl) dJ1_canEncode_9a6ad_16 rfl ⟨by simp [ixC, c_1], rfl⟩
  · refine lv_iload_n hx hb dJ1_canEncode_9a6ad_4 rfl (lv_at hl 0 rfl) ?_
    refine lv_sipush (v := 255) hx hb dJ1_canEncode_9a6ad_5 (by decide) ?_
    refine lv_icmp_gt (tgt := 15) hx hb dJ1_canEncode_9a6ad_8 (by decide) (fun c_8 => ?_) (fun c_8 => ?_)
    · refine lv_iconst (v := 0) hx hb dJ1_canEncode_9a6ad_15 (by decide) ?_
      exact g_zret hx hb hr hlk w (Nat.le_of_ble_eq_true rfl) (Nat.le_of_ble_eq_true rfl) dJ1_canEncode_9a6ad_16 rfl ⟨by simp [ixC, c_1, c_8], rfl⟩
    · refine lv_iconst (v := 1) hx hb dJ1_canEncode_9a6ad_11 (by decide) ?_
      refine lv_goto (tgt := 16) hx hb dJ1_canEncode_9a6ad_12 (by decide) ?_
      exact g_zret hx hb hr hlk w (Nat.le_of_ble_eq_true rfl) (Nat.le_of_ble_eq_true rfl) dJ1_canEncode_9a6ad_16 rfl ⟨by simp [ixC, c_1, c_8], rfl⟩
set_option maxHeartbeats 4000000 in
set_option maxRecDepth 100000 in
theorem c_indexOfChar (l : Launch) (D : va_G) (ar : Nat → ClassId) (κ : Nat → Nat) (G : gW) (sz : Nat) (x : Int32) : Met l yJ1_indexOfChar_4cfef (lwC yJ1_indexOfChar_4cfef cJ1_indexOfChar_4cfef 6 (some .int)) (rD 1 0 0) (g_Pc D vwCl (gT ar) (EX1 κ) G sz [.ref (κ 2), .int x, .int 0, .int 26]) (g_Qi D vwCl (g_A G sz) (fun r u => r = ixF x ∧ u = (G, sz))) 0 0 (g_A G sz) := by
  refine g_ofW (by decide +kernel) (Nat.le_of_ble_eq_true rfl) ?_
  intro p e s m below meth c ls S hr hlk hin hE w hl
  have hx := S.1
  have hb := S.2.1
  have hl : lv_has ls 6 [(0, .ref (κ 2)), (1, .int x), (2, .int 0), (3, .int 26)] := hl
  refine lv_iload_n hx hb dJ1_indexOfChar_4cfef_0 rfl (lv_at hl 1 rfl) ?_
  refine lv_i2b hx hb dJ1_indexOfChar_4cfef_1 rfl ?_
  refine lv_istore (lv' := [(4, .int x.toInt8.toInt32), (0, .ref (κ 2)), (1, .int x), (2, .int 0), (3, .int 26)]) hx hb dJ1_indexOfChar_4cfef_2 hl (by decide) rfl (fun ls hl => ?_)
  refine lv_iload_n hx hb dJ1_indexOfChar_4cfef_4 rfl (lv_at hl 3 rfl) ?_
  refine lv_istore (lv' := [(5, .int 0), (4, .int x.toInt8.toInt32), (0, .ref (κ 2)), (1, .int x), (2, .int 0), (3, .int 26)]) hx hb dJ1_indexOfChar_4cfef_5 hl (by decide) rfl (fun ls hl => ?_)
  refine lv_iload hx hb dJ1_indexOfChar_4cfef_7 (lv_at hl 0 rfl) ?_
  refine lv_iload_n hx hb dJ1_indexOfChar_4cfef_9 rfl (lv_at hl 5 rfl) ?_
  refine lv_icmp_ge (tgt := 31) hx hb dJ1_indexOfChar_4cfef_10 (by decide) (fun c => absurd c (by decide)) (fun _ => ?_)
  refine lv_aload_n hx hb dJ1_indexOfChar_4cfef_13 rfl (lv_at hl 2 rfl) ?_
  refine lv_iload hx hb dJ1_indexOfChar_4cfef_14 (lv_at hl 0 rfl) ?_
  refine va_tb (v := .int 110) hx hb (hE.2.2.2.2.2.2.2.1 0 (by decide)).2.2.2 w.2.2.1 (vp_in_nI (n := 0) (by decide) (by decide)) rfl dJ1_indexOfChar_4cfef_16 ?_
  refine lv_iload hx hb dJ1_indexOfChar_4cfef_17 (lv_at hl 1 rfl) ?_
  refine lv_icmp_ne (tgt := 25) hx hb dJ1_indexOfChar_4cfef_19 (by decide) (fun c_19 => ?_) (fun c_19 => ?_)
  · refine lv_iinc (v := 1) (lv' := [(5, .int 1), (4, .int x.toInt8.toInt32), (0, .ref (κ 2)), (1, .int x), (2, .int 0), (3, .int 26)]) hx hb dJ1_indexOfChar_4cfef_25 hl (k := 0) rfl (by decide) (by decide) rfl (fun ls hl => ?_)
    refine lv_goto (tgt := 7) hx hb dJ1_indexOfChar_4cfef_28 (by decide) ?_
    refine lv_iload hx hb dJ1_indexOfChar_4cfef_7 (lv_at hl 0 rfl) ?_
    refine lv_iload_n hx hb dJ1_indexOfChar_4cfef_9 rfl (lv_at hl 5 rfl) ?_
    refine lv_icmp_ge (tgt := 31) hx hb dJ1_indexOfChar_4cfef_10 (by decide) (fun c => absurd c (by decide)) (fun _ => ?_)
    refine lv_aload_n hx hb dJ1_indexOfChar_4cfef_13 rfl (lv_at hl 2 rfl) ?_
    refine lv_iload hx hb dJ1_indexOfChar_4cfef_14 (lv_at hl 0 rfl) ?_
    refine va_tb (v := .int 117) hx hb (hE.2.2.2.2.2.2.2.1 0 (by decide)).2.2.2 w.2.2.1 (vp_in_nI (n := 1) (by decide) (by decide)) rfl dJ1_indexOfChar_4cfef_16 ?_
    refine lv_iload hx hb dJ1_indexOfChar_4cfef_17 (lv_at hl 1 rfl) ?_
    refine lv_icmp_ne (tgt := 25) hx hb dJ1_indexOfChar_4cfef_19 (by decide) (fun c_19_1 => ?_) (fun c_19_1 => ?_)
    · refine lv_iinc (v := 2) (lv' := [(5, .int 2), (4, .int x.toInt8.toInt32), (0, .ref (κ 2)), (1, .int x), (2, .int 0), (3, .int 26)]) hx hb dJ1_indexOfChar_4cfef_25 hl (k := 0) rfl (by decide) (by decide) rfl (fun ls hl => ?_)
      refine lv_goto (tgt := 7) hx hb dJ1_indexOfChar_4cfef_28 (by decide) ?_
      refine lv_iload hx hb dJ1_indexOfChar_4cfef_7 (lv_at hl 0 rfl) ?_
      refine lv_iload_n hx hb dJ1_indexOfChar_4cfef_9 rfl (lv_at hl 5 rfl) ?_
      refine lv_icmp_ge (tgt := 31) hx hb dJ1_indexOfChar_4cfef_10 (by decide) (fun c => absurd c (by decide)) (fun _ => ?_)
      refine lv_aload_n hx hb dJ1_indexOfChar_4cfef_13 rfl (lv_at hl 2 rfl) ?_
      refine lv_iload hx hb dJ1_indexOfChar_4cfef_14 (lv_at hl 0 rfl) ?_
      refine va_tb (v := .int 115) hx hb (hE.2.2.2.2.2.2.2.1 0 (by decide)).2.2.2 w.2.2.1 (vp_in_nI (n := 2) (by decide) (by decide)) rfl dJ1_indexOfChar_4cfef_16 ?_
      refine lv_iload hx hb dJ1_indexOfChar_4cfef_17 (lv_at hl 1 rfl) ?_
      refine lv_icmp_ne (tgt := 25) hx hb dJ1_indexOfChar_4cfef_19 (by decide) (fun c_19_2 => ?_) (fun c_19_2 => ?_)
      · refine lv_iinc (v := 3) (lv' := [(5, .int 3), (4, .int x.toInt8.toInt32), (0, .ref (κ 2)), (1, .int x), (2, .int 0), (3, .int 26)]) hx hb dJ1_indexOfChar_4cfef_25 hl (k := 0) rfl (by decide) (by decide) rfl (fun ls hl => ?_)
        refine lv_goto (tgt := 7) hx hb dJ1_indexOfChar_4cfef_28 (by decide) ?_
        refine lv_iload hx hb dJ1_indexOfChar_4cfef_7 (lv_at hl 0 rfl) ?_
        refine lv_iload_n hx hb dJ1_indexOfChar_4cfef_9 rfl (lv_at hl 5 rfl) ?_
        refine lv_icmp_ge (tgt := 31) hx hb dJ1_indexOfChar_4cfef_10 (by decide) (fun c => absurd c (by decide)) (fun _ => ?_)
        refine lv_aload_n hx hb dJ1_indexOfChar_4cfef_13 rfl (lv_at hl 2 rfl) ?_
        refine lv_iload hx hb dJ1_indexOfChar_4cfef_14 (lv_at hl 0 rfl) ?_
        refine va_tb (v := .int 97) hx hb (hE.2.2.2.2.2.2.2.1 0 (by decide)).2.2.2 w.2.2.1 (vp_in_nI (n := 3) (by decide) (by decide)) rfl dJ1_indexOfChar_4cfef_16 ?_
        refine lv_iload hx hb dJ1_indexOfChar_4cfef_17 (lv_at hl 1 rfl) ?_
        refine lv_icmp_ne (tgt := 25) hx hb dJ1_indexOfChar_4cfef_19 (by decide) (fun c_19_3 => ?_) (fun c_19_3 => ?_)
        · refine lv_iinc (v := 4) (lv' := [(5, .int 4), (4, .int x.toInt8.toInt32), (0, .ref (κ 2)), (1, .int x), (2, .int 0), (3, .int 26)]) hx hb dJ1_indexOfChar_4cfef_25 hl (k := 0) rfl (by decide) (by decide) rfl (fun ls hl => ?_)
          refine lv_goto (tgt := 7) hx hb dJ1_indexOfChar_4cfef_28 (by decide) ?_
          refine lv_iload hx hb dJ1_indexOfChar_4cfef_7 (lv_at hl 0 rfl) ?_
          refine lv_iload_n hx hb dJ1_indexOfChar_4cfef_9 rfl (lv_at hl 5 rfl) ?_
          refine lv_icmp_ge (tgt := 31) hx hb dJ1_indexOfChar_4cfef_10 (by decide) (fun c => absurd c (by decide)) (fun _ => ?_)
          refine lv_aload_n hx hb dJ1_indexOfChar_4cfef_13 rfl (lv_at hl 2 rfl) ?_
          refine lv_iload hx hb dJ1_indexOfChar_4cfef_14 (lv_at hl 0 rfl) ?_
          refine va_tb (v := .int 116) hx hb (hE.2.2.2.2.2.2.2.1 0 (by decide)).2.2.2 w.2.2.1 (vp_in_nI (n := 4) (by decide) (by decide)) rfl dJ1_indexOfChar_4cfef_16 ?_
          refine lv_iload hx hb dJ1_indexOfChar_4cfef_17 (lv_at hl 1 rfl) ?_
          refine lv_icmp_ne (tgt := 25) hx hb dJ1_indexOfChar_4cfef_19 (by decide) (fun c_19_4 => ?_) (fun c_19_4 => ?_)
          · refine lv_iinc (v := 5) (lv' := [(5, .int 5), (4, .int x.toInt8.toInt32), (0, .ref (κ 2)), (1, .int x), (2, .int 0), (3, .int 26)]) hx hb dJ1_indexOfChar_4cfef_25 hl (k := 0) rfl (by decide) (by decide) rfl (fun ls hl => ?_)
            refine lv_goto (tgt := 7) hx hb dJ1_indexOfChar_4cfef_28 (by decide) ?_
            refine lv_iload hx hb dJ1_indexOfChar_4cfef_7 (lv_at hl 0 rfl) ?_
            refine lv_iload_n hx hb dJ1_indexOfChar_4cfef_9 rfl (lv_at hl 5 rfl) ?_
            refine lv_icmp_ge (tgt := 31) hx hb dJ1_indexOfChar_4cfef_10 (by decide) (fun c => absurd c (by decide)) (fun _ => ?_)
            refine lv_aload_n hx hb dJ1_indexOfChar_4cfef_13 rfl (lv_at hl 2 rfl) ?_
            refine lv_iload hx hb dJ1_indexOfChar_4cfef_14 (lv_at hl 0 rfl) ?_
            refine va_tb (v := .int 102) hx hb (hE.2.2.2.2.2.2.2.1 0 (by decide)).2.2.2 w.2.2.1 (vp_in_nI (n := 5) (by decide) (by decide)) rfl dJ1_indexOfChar_4cfef_16 ?_
            refine lv_iload hx hb dJ1_indexOfChar_4cfef_17 (lv_at hl 1 rfl) ?_
            refine lv_icmp_ne (tgt := 25) hx hb dJ1_indexOfChar_4cfef_19 (by decide) (fun c_19_5 => ?_) (fun c_19_5 => ?_)
            · refine lv_iinc (v := 6) (lv' := [(5, .int 6), (4, .int x.toInt8.toInt32), (0, .ref (κ 2)), (1, .int x), (2, .int 0), (3, .int 26)]) hx hb dJ1_indexOfChar_4cfef_25 hl (k := 0) rfl (by decide) (by decide) rfl (fun ls hl => ?_)
              refine lv_goto (tgt := 7) hx hb dJ1_indexOfChar_4cfef_28 (by decide) ?_
              refine lv_iload hx hb dJ1_indexOfChar_4cfef_7 (lv_at hl 0 rfl) ?_
              refine lv_iload_n hx hb dJ1_indexOfChar_4cfef_9 rfl (lv_at hl 5 rfl) ?_
              refine lv_icmp_ge (tgt := 31) hx hb dJ1_indexOfChar_4cfef_10 (by decide) (fun c => absurd c (by decide)) (fun _ => ?_)
              refine lv_aload_n hx hb dJ1_indexOfChar_4cfef_13 rfl (lv_at hl 2 rfl) ?_
              refine lv_iload hx hb dJ1_indexOfChar_4cfef_14 (lv_at hl 0 rfl) ?_
              refine va_tb (v := .int 103) hx hb (hE.2.2.2.2.2.2.2.1 0 (by decide)).2.2.2 w.2.2.1 (vp_in_nI (n := 6) (by decide) (by decide)) rfl dJ1_indexOfChar_4cfef_16 ?_
              refine lv_iload hx hb dJ1_indexOfChar_4cfef_17 (lv_at hl 1 rfl) ?_
              refine lv_icmp_ne (tgt := 25) hx hb dJ1_indexOfChar_4cfef_19 (by decide) (fun c_19_6 => ?_) (fun c_19_6 => ?_)
              · refine lv_iinc (v := 7) (lv' := [(5, .int 7), (4, .int x.toInt8.toInt32), (0, .ref (κ 2)), (1, .int x), (2, .int 0), (3, .int 26)]) hx hb dJ1_indexOfChar_4cfef_25 hl (k := 0) rfl (by decide) (by decide) rfl (fun ls hl => ?_)
                refine lv_goto (tgt := 7) hx hb dJ1_indexOfChar_4cfef_28 (by decide) ?_
                refine lv_iload hx hb dJ1_indexOfChar_4cfef_7 (lv_at hl 0 rfl) ?_
                refine lv_iload_n hx hb dJ1_indexOfChar_4cfef_9 rfl (lv_at hl 5 rfl) ?_
                refine lv_icmp_ge (tgt := 31) hx hb dJ1_indexOfChar_4cfef_10 (by decide) (fun c => absurd c (by decide)) (fun _ => ?_)
                refine lv_aload_n hx hb dJ1_indexOfChar_4cfef_13 rfl (lv_at hl 2 rfl) ?_
                refine lv_iload hx hb dJ1_indexOfChar_4cfef_14 (lv_at hl 0 rfl) ?_
                refine va_tb (v := .int 84) hx hb (hE.2.2.2.2.2.2.2.1 0 (by decide)).2.2.2 w.2.2.1 (vp_in_nI (n := 7) (by decide) (by decide)) rfl dJ1_indexOfChar_4cfef_16 ?_
                refine lv_iload hx hb dJ1_indexOfChar_4cfef_17 (lv_at hl 1 rfl) ?_
                refine lv_icmp_ne (tgt := 25) hx hb dJ1_indexOfChar_4cfef_19 (by decide) (fun c_19_7 => ?_) (fun c_19_7 => ?_)
                · refine lv_iinc (v := 8) (lv' := [(5, .int 8), (4, .int x.toInt8.toInt32), (0, .ref (κ 2)), (1, .int x), (2, .int 0), (3, .int 26)]) hx hb dJ1_indexOfChar_4cfef_25 hl (k := 0) rfl (by decide) (by decide) rfl (fun ls hl => ?_)
                  refine lv_goto (tgt := 7) hx hb dJ1_indexOfChar_4cfef_28 (by decide) ?_
                  refine lv_iload hx hb dJ1_indexOfChar_4cfef_7 (lv_at hl 0 rfl) ?_
                  refine lv_iload_n hx hb dJ1_indexOfChar_4cfef_9 rfl (lv_at hl 5 rfl) ?_
                  refine lv_icmp_ge (tgt := 31) hx hb dJ1_indexOfChar_4cfef_10 (by decide) (fun c => absurd c (by decide)) (fun _ => ?_)
                  refine lv_aload_n hx hb dJ1_indexOfChar_4cfef_13 rfl (lv_at hl 2 rfl) ?_
                  refine lv_iload hx hb dJ1_indexOfChar_4cfef_14 (lv_at hl 0 rfl) ?_
                  refine va_tb (v := .int 70) hx hb (hE.2.2.2.2.2.2.2.1 0 (by decide)).2.2.2 w.2.2.1 (vp_in_nI (n := 8) (by decide) (by decide)) rfl dJ1_indexOfChar_4cfef_16 ?_
                  refine lv_iload hx hb dJ1_indexOfChar_4cfef_17 (lv_at hl 1 rfl) ?_
                  refine lv_icmp_ne (tgt := 25) hx hb dJ1_indexOfChar_4cfef_19 (by decide) (fun c_19_8 => ?_) (fun c_19_8 => ?_)
                  · refine lv_iinc (v := 9) (lv' := [(5, .int 9), (4, .int x.toInt8.toInt32), (0, .ref (κ 2)), (1, .int x), (2, .int 0), (3, .int 26)]) hx hb dJ1_indexOfChar_4cfef_25 hl (k := 0) rfl (by decide) (by decide) rfl (fun ls hl => ?_)
                    refine lv_goto (tgt := 7) hx hb dJ1_indexOfChar_4cfef_28 (by decide) ?_
                    refine lv_iload hx hb dJ1_indexOfChar_4cfef_7 (lv_at hl 0 rfl) ?_
                    refine lv_iload_n hx hb dJ1_indexOfChar_4cfef_9 rfl (lv_at hl 5 rfl) ?_
                    refine lv_icmp_ge (tgt := 31) hx hb dJ1_indexOfChar_4cfef_10 (by decide) (fun c => absurd c (by decide)) (fun _ => ?_)
                    refine lv_aload_n hx hb dJ1_indexOfChar_4cfef_13 rfl (lv_at hl 2 rfl) ?_
                    refine lv_iload hx hb dJ1_indexOfChar_4cfef_14 (lv_at hl 0 rfl) ?_
                    refine va_tb (v := .int 71) hx hb (hE.2.2.2.2.2.2.2.1 0 (by decide)).2.2.2 w.2.2.1 (vp_in_nI (n := 9) (by decide) (by decide)) rfl dJ1_indexOfChar_4cfef_16 ?_
                    refine lv_iload hx hb dJ1_indexOfChar_4cfef_17 (lv_at hl 1 rfl) ?_
                    refine lv_icmp_ne (tgt := 25) hx hb dJ1_indexOfChar_4cfef_19 (by decide) (fun c_19_9 => ?_) (fun c_19_9 => ?_)
                    · refine lv_iinc (v := 10) (lv' := [(5, .int 10), (4, .int x.toInt8.toInt32), (0, .ref (κ 2)), (1, .int x), (2, .int 0), (3, .int 26)]) hx hb dJ1_indexOfChar_4cfef_25 hl (k := 0) rfl (by decide) (by decide) rfl (fun ls hl => ?_)
                      refine lv_goto (tgt := 7) hx hb dJ1_indexOfChar_4cfef_28 (by decide) ?_
                      refine lv_iload hx hb dJ1_indexOfChar_4cfef_7 (lv_at hl 0 rfl) ?_
                      refine lv_iload_n hx hb dJ1_indexOfChar_4cfef_9 rfl (lv_at hl 5 rfl) ?_
                      refine lv_icmp_ge (tgt := 31) hx hb dJ1_indexOfChar_4cfef_10 (by decide) (fun c => absurd c (by decide)) (fun _ => ?_)
                      refine lv_aload_n hx hb dJ1_indexOfChar_4cfef_13 rfl (lv_at hl 2 rfl) ?_
                      refine lv_iload hx hb dJ1_indexOfChar_4cfef_14 (lv_at hl 0 rfl) ?_
                      refine va_tb (v := .int 100) hx hb (hE.2.2.2.2.2.2.2.1 0 (by decide)).2.2.2 w.2.2.1 (vp_in_nI (n := 10) (by decide) (by decide)) rfl dJ1_indexOfChar_4cfef_16 ?_
                      refine lv_iload hx hb dJ1_indexOfChar_4cfef_17 (lv_at hl 1 rfl) ?_
                      refine lv_icmp_ne (tgt := 25) hx hb dJ1_indexOfChar_4cfef_19 (by decide) (fun c_19_10 => ?_) (fun c_19_10 => ?_)
                      · refine lv_iinc (v := 11) (lv' := [(5, .int 11), (4, .int x.toInt8.toInt32), (0, .ref (κ 2)), (1, .int x), (2, .int 0), (3, .int 26)]) hx hb dJ1_indexOfChar_4cfef_25 hl (k := 0) rfl (by decide) (by decide) rfl (fun ls hl => ?_)
                        refine lv_goto (tgt := 7) hx hb dJ1_indexOfChar_4cfef_28 (by decide) ?_
                        refine lv_iload hx hb dJ1_indexOfChar_4cfef_7 (lv_at hl 0 rfl) ?_
                        refine lv_iload_n hx hb dJ1_indexOfChar_4cfef_9 rfl (lv_at hl 5 rfl) ?_
                        refine lv_icmp_ge (tgt := 31) hx hb dJ1_indexOfChar_4cfef_10 (by decide) (fun c => absurd c (by decide)) (fun _ => ?_)
                        refine lv_aload_n hx hb dJ1_indexOfChar_4cfef_13 rfl (lv_at hl 2 rfl) ?_
                        refine lv_iload hx hb dJ1_indexOfChar_4cfef_14 (lv_at hl 0 rfl) ?_
                        refine va_tb (v := .int 112) hx hb (hE.2.2.2.2.2.2.2.1 0 (by decide)).2.2.2 w.2.2.1 (vp_in_nI (n := 11) (by decide) (by decide)) rfl dJ1_indexOfChar_4cfef_16 ?_
                        refine lv_iload hx hb dJ1_indexOfChar_4cfef_17 (lv_at hl 1 rfl) ?_
                        refine lv_icmp_ne (tgt := 25) hx hb dJ1_indexOfChar_4cfef_19 (by decide) (fun c_19_11 => ?_) (fun c_19_11 => ?_)
                        · refine lv_iinc (v := 12) (lv' := [(5, .int 12), (4, .int x.toInt8.toInt32), (0, .ref (κ 2)), (1, .int x), (2, .int 0), (3, .int 26)]) hx hb dJ1_indexOfChar_4cfef_25 hl (k := 0) rfl (by decide) (by decide) rfl (fun ls hl => ?_)
                          refine lv_goto (tgt := 7) hx hb dJ1_indexOfChar_4cfef_28 (by decide) ?_
                          refine lv_iload hx hb dJ1_indexOfChar_4cfef_7 (lv_at hl 0 rfl) ?_
                          refine lv_iload_n hx hb dJ1_indexOfChar_4cfef_9 rfl (lv_at hl 5 rfl) ?_
                          refine lv_icmp_ge (tgt := 31) hx hb dJ1_indexOfChar_4cfef_10 (by decide) (fun c => absurd c (by decide)) (fun _ => ?_)
                          refine lv_aload_n hx hb dJ1_indexOfChar_4cfef_13 rfl (lv_at hl 2 rfl) ?_
                          refine lv_iload hx hb dJ1_indexOfChar_4cfef_14 (lv_at hl 0 rfl) ?_
                          refine va_tb (v := .int 43) hx hb (hE.2.2.2.2.2.2.2.1 0 (by decide)).2.2.2 w.2.2.1 (vp_in_nI (n := 12) (by decide) (by decide)) rfl dJ1_indexOfChar_4cfef_16 ?_
                          refine lv_iload hx hb dJ1_indexOfChar_4cfef_17 (lv_at hl 1 rfl) ?_
                          refine lv_icmp_ne (tgt := 25) hx hb dJ1_indexOfChar_4cfef_19 (by decide) (fun c_19_12 => ?_) (fun c_19_12 => ?_)
                          · refine lv_iinc (v := 13) (lv' := [(5, .int 13), (4, .int x.toInt8.toInt32), (0, .ref (κ 2)), (1, .int x), (2, .int 0), (3, .int 26)]) hx hb dJ1_indexOfChar_4cfef_25 hl (k := 0) rfl (by decide) (by decide) rfl (fun ls hl => ?_)
                            refine lv_goto (tgt := 7) hx hb dJ1_indexOfChar_4cfef_28 (by decide) ?_
                            refine lv_iload hx hb dJ1_indexOfChar_4cfef_7 (lv_at hl 0 rfl) ?_
                            refine lv_iload_n hx hb dJ1_indexOfChar_4cfef_9 rfl (lv_at hl 5 rfl) ?_
                            refine lv_icmp_ge (tgt := 31) hx hb dJ1_indexOfChar_4cfef_10 (by decide) (fun c => absurd c (by decide)) (fun _ => ?_)
                            refine lv_aload_n hx hb dJ1_indexOfChar_4cfef_13 rfl (lv_at hl 2 rfl) ?_
                            refine lv_iload hx hb dJ1_indexOfChar_4cfef_14 (lv_at hl 0 rfl) ?_
                            refine va_tb (v := .int 45) hx hb (hE.2.2.2.2.2.2.2.1 0 (by decide)).2.2.2 w.2.2.1 (vp_in_nI (n := 13) (by decide) (by decide)) rfl dJ1_indexOfChar_4cfef_16 ?_
                            refine lv_iload hx hb dJ1_indexOfChar_4cfef_17 (lv_at hl 1 rfl) ?_
                            refine lv_icmp_ne (tgt := 25) hx hb dJ1_indexOfChar_4cfef_19 (by decide) (fun c_19_13 => ?_) (fun c_19_13 => ?_)
                            · refine lv_iinc (v := 14) (lv' := [(5, .int 14), (4, .int x.toInt8.toInt32), (0, .ref (κ 2)), (1, .int x), (2, .int 0), (3, .int 26)]) hx hb dJ1_indexOfChar_4cfef_25 hl (k := 0) rfl (by decide) (by decide) rfl (fun ls hl => ?_)
                              refine lv_goto (tgt := 7) hx hb dJ1_indexOfChar_4cfef_28 (by decide) ?_
                              refine lv_iload hx hb dJ1_indexOfChar_4cfef_7 (lv_at hl 0 rfl) ?_
                              refine lv_iload_n hx hb dJ1_indexOfChar_4cfef_9 rfl (lv_at hl 5 rfl) ?_
                              refine lv_icmp_ge (tgt := 31) hx hb dJ1_indexOfChar_4cfef_10 (by decide) (fun c => absurd c (by decide)) (fun _ => ?_)
                              refine lv_aload_n hx hb dJ1_indexOfChar_4cfef_13 rfl (lv_at hl 2 rfl) ?_
                              refine lv_iload hx hb dJ1_indexOfChar_4cfef_14 (lv_at hl 0 rfl) ?_
                              refine va_tb (v := .int 42) hx hb (hE.2.2.2.2.2.2.2.1 0 (by decide)).2.2.2 w.2.2.1 (vp_in_nI (n := 14) (by decide) (by decide)) rfl dJ1_indexOfChar_4cfef_16 ?_
                              refine lv_iload hx hb dJ1_indexOfChar_4cfef_17 (lv_at hl 1 rfl) ?_
                              refine lv_icmp_ne (tgt := 25) hx hb dJ1_indexOfChar_4cfef_19 (by decide) (fun c_19_14 => ?_) (fun c_19_14 => ?_)
                              · refine lv_iinc (v := 15) (lv' := [(5, .int 15), (4, .int x.toInt8.toInt32), (0, .ref (κ 2)), (1, .int x), (2, .int 0), (3, .int 26)]) hx hb dJ1_indexOfChar_4cfef_25 hl (k := 0) rfl (by decide) (by decide) rfl (fun ls hl => ?_)
                                refine lv_goto (tgt := 7) hx hb dJ1_indexOfChar_4cfef_28 (by decide) ?_
                                refine lv_iload hx hb dJ1_indexOfChar_4cfef_7 (lv_at hl 0 rfl) ?_
                                refine lv_iload_n hx hb dJ1_indexOfChar_4cfef_9 rfl (lv_at hl 5 rfl) ?_
                                refine lv_icmp_ge (tgt := 31) hx hb dJ1_indexOfChar_4cfef_10 (by decide) (fun c => absurd c (by decide)) (fun _ => ?_)
                                refine lv_aload_n hx hb dJ1_indexOfChar_4cfef_13 rfl (lv_at hl 2 rfl) ?_
                                refine lv_iload hx hb dJ1_indexOfChar_4cfef_14 (lv_at hl 0 rfl) ?_
                                refine va_tb (v := .int 47) hx hb (hE.2.2.2.2.2.2.2.1 0 (by decide)).2.2.2 w.2.2.1 (vp_in_nI (n := 15) (by decide) (by decide)) rfl dJ1_indexOfChar_4cfef_16 ?_
                                refine lv_iload hx hb dJ1_indexOfChar_4cfef_17 (lv_at hl 1 rfl) ?_
                                refine lv_icmp_ne (tgt := 25) hx hb dJ1_indexOfChar_4cfef_19 (by decide) (fun c_19_15 => ?_) (fun c_19_15 => ?_)
                                · refine lv_iinc (v := 16) (lv' := [(5, .int 16), (4, .int x.toInt8.toInt32), (0, .ref (κ 2)), (1, .int x), (2, .int 0), (3, .int 26)]) hx hb dJ1_indexOfChar_4cfef_25 hl (k := 0) rfl (by decide) (by decide) rfl (fun ls hl => ?_)
                                  refine lv_goto (tgt := 7) hx hb dJ1_indexOfChar_4cfef_28 (by decide) ?_
                                  refine lv_iload hx hb dJ1_indexOfChar_4cfef_7 (lv_at hl 0 rfl) ?_
                                  refine lv_iload_n hx hb dJ1_indexOfChar_4cfef_9 rfl (lv_at hl 5 rfl) ?_
                                  refine lv_icmp_ge (tgt := 31) hx hb dJ1_indexOfChar_4cfef_10 (by decide) (fun c => absurd c (by decide)) (fun _ => ?_)
                                  refine lv_aload_n hx hb dJ1_indexOfChar_4cfef_13 rfl (lv_at hl 2 rfl) ?_
                                  refine lv_iload hx hb dJ1_indexOfChar_4cfef_14 (lv_at hl 0 rfl) ?_
                                  refine va_tb (v := .int 60) hx hb (hE.2.2.2.2.2.2.2.1 0 (by decide)).2.2.2 w.2.2.1 (vp_in_nI (n := 16) (by decide) (by decide)) rfl dJ1_indexOfChar_4cfef_16 ?_
                                  refine lv_iload hx hb dJ1_indexOfChar_4cfef_17 (lv_at hl 1 rfl) ?_
                                  refine lv_icmp_ne (tgt := 25) hx hb dJ1_indexOfChar_4cfef_19 (by decide) (fun c_19_16 => ?_) (fun c_19_16 => ?_)
                                  · refine lv_iinc (v := 17) (lv' := [(5, .int 17), (4, .int x.toInt8.toInt32), (0, .ref (κ 2)), (1, .int x), (2, .int 0), (3, .int 26)]) hx hb dJ1_indexOfChar_4cfef_25 hl (k := 0) rfl (by decide) (by decide) rfl (fun ls hl => ?_)
                                    refine lv_goto (tgt := 7) hx hb dJ1_indexOfChar_4cfef_28 (by decide) ?_
                                    refine lv_iload hx hb dJ1_indexOfChar_4cfef_7 (lv_at hl 0 rfl) ?_
                                    refine lv_iload_n hx hb dJ1_indexOfChar_4cfef_9 rfl (lv_at hl 5 rfl) ?_
                                    refine lv_icmp_ge (tgt := 31) hx hb dJ1_indexOfChar_4cfef_10 (by decide) (fun c => absurd c (by decide)) (fun _ => ?_)
                                    refine lv_aload_n hx hb dJ1_indexOfChar_4cfef_13 rfl (lv_at hl 2 rfl) ?_
                                    refine lv_iload hx hb dJ1_indexOfChar_4cfef_14 (lv_at hl 0 rfl) ?_
                                    refine va_tb (v := .int 61) hx hb (hE.2.2.2.2.2.2.2.1 0 (by decide)).2.2.2 w.2.2.1 (vp_in_nI (n := 17) (by decide) (by decide)) rfl dJ1_indexOfChar_4cfef_16 ?_
                                    refine lv_iload hx hb dJ1_indexOfChar_4cfef_17 (lv_at hl 1 rfl) ?_
                                    refine lv_icmp_ne (tgt := 25) hx hb dJ1_indexOfChar_4cfef_19 (by decide) (fun c_19_17 => ?_) (fun c_19_17 => ?_)
                                    · refine lv_iinc (v := 18) (lv' := [(5, .int 18), (4, .int x.toInt8.toInt32), (0, .ref (κ 2)), (1, .int x), (2, .int 0), (3, .int 26)]) hx hb dJ1_indexOfChar_4cfef_25 hl (k := 0) rfl (by decide) (by decide) rfl (fun ls hl => ?_)
                                      refine lv_goto (tgt := 7) hx hb dJ1_indexOfChar_4cfef_28 (by decide) ?_
                                      refine lv_iload hx hb dJ1_indexOfChar_4cfef_7 (lv_at hl 0 rfl) ?_
                                      refine lv_iload_n hx hb dJ1_indexOfChar_4cfef_9 rfl (lv_at hl 5 rfl) ?_
                                      refine lv_icmp_ge (tgt := 31) hx hb dJ1_indexOfChar_4cfef_10 (by decide) (fun c => absurd c (by decide)) (fun _ => ?_)
                                      refine lv_aload_n hx hb dJ1_indexOfChar_4cfef_13 rfl (lv_at hl 2 rfl) ?_
                                      refine lv_iload hx hb dJ1_indexOfChar_4cfef_14 (lv_at hl 0 rfl) ?_
                                      refine va_tb (v := .int 107) hx hb (hE.2.2.2.2.2.2.2.1 0 (by decide)).2.2.2 w.2.2.1 (vp_in_nI (n := 18) (by decide) (by decide)) rfl dJ1_indexOfChar_4cfef_16 ?_
                                      refine lv_iload hx hb dJ1_indexOfChar_4cfef_17 (lv_at hl 1 rfl) ?_
                                      refine lv_icmp_ne (tgt := 25) hx hb dJ1_indexOfChar_4cfef_19 (by decide) (fun c_19_18 => ?_) (fun c_19_18 => ?_)
                                      · refine lv_iinc (v := 19) (lv' := [(5, .int 19), (4, .int x.toInt8.toInt32), (0, .ref (κ 2)), (1, .int x), (2, .int 0), (3, .int 26)]) hx hb dJ1_indexOfChar_4cfef_25 hl (k := 0) rfl (by decide) (by decide) rfl (fun ls hl => ?_)
                                        refine lv_goto (tgt := 7) hx hb dJ1_indexOfChar_4cfef_28 (by decide) ?_
                                        refine lv_iload hx hb dJ1_indexOfChar_4cfef_7 (lv_at hl 0 rfl) ?_
                                        refine lv_iload_n hx hb dJ1_indexOfChar_4cfef_9 rfl (lv_at hl 5 rfl) ?_
                                        refine lv_icmp_ge (tgt := 31) hx hb dJ1_indexOfChar_4cfef_10 (by decide) (fun c => absurd c (by decide)) (fun _ => ?_)
                                        refine lv_aload_n hx hb dJ1_indexOfChar_4cfef_13 rfl (lv_at hl 2 rfl) ?_
                                        refine lv_iload hx hb dJ1_indexOfChar_4cfef_14 (lv_at hl 0 rfl) ?_
                                        refine va_tb (v := .int 99) hx hb (hE.2.2.2.2.2.2.2.1 0 (by decide)).2.2.2 w.2.2.1 (vp_in_nI (n := 19) (by decide) (by decide)) rfl dJ1_indexOfChar_4cfef_16 ?_
                                        refine lv_iload hx hb dJ1_indexOfChar_4cfef_17 (lv_at hl 1 rfl) ?_
                                        refine lv_icmp_ne (tgt := 25) hx hb dJ1_indexOfChar_4cfef_19 (by decide) (fun c_19_19 => ?_) (fun c_19_19 => ?_)
                                        · refine lv_iinc (v := 20) (lv' := [(5, .int 20), (4, .int x.toInt8.toInt32), (0, .ref (κ 2)), (1, .int x), (2, .int 0), (3, .int 26)]) hx hb dJ1_indexOfChar_4cfef_25 hl (k := 0) rfl (by decide) (by decide) rfl (fun ls hl => ?_)
                                          refine lv_goto (tgt := 7) hx hb dJ1_indexOfChar_4cfef_28 (by decide) ?_
                                          refine lv_iload hx hb dJ1_indexOfChar_4cfef_7 (lv_at hl 0 rfl) ?_
                                          refine lv_iload_n hx hb dJ1_indexOfChar_4cfef_9 rfl (lv_at hl 5 rfl) ?_
                                          refine lv_icmp_ge (tgt := 31) hx hb dJ1_indexOfChar_4cfef_10 (by decide) (fun c => absurd c (by decide)) (fun _ => ?_)
                                          refine lv_aload_n hx hb dJ1_indexOfChar_4cfef_13 rfl (lv_at hl 2 rfl) ?_
                                          refine lv_iload hx hb dJ1_indexOfChar_4cfef_14 (lv_at hl 0 rfl) ?_
                                          refine va_tb (v := .int 109) hx hb (hE.2.2.2.2.2.2.2.1 0 (by decide)).2.2.2 w.2.2.1 (vp_in_nI (n := 20) (by decide) (by decide)) rfl dJ1_indexOfChar_4cfef_16 ?_
                                          refine lv_iload hx hb dJ1_indexOfChar_4cfef_17 (lv_at hl 1 rfl) ?_
                                          refine lv_icmp_ne (tgt := 25) hx hb dJ1_indexOfChar_4cfef_19 (by decide) (fun c_19_20 => ?_) (fun c_19_20 => ?_)
                                          · refine lv_iinc (v := 21) (lv' := [(5, .int 21), (4, .int x.toInt8.toInt32), (0, .ref (κ 2)), (1, .int x), (2, .int 0), (3, .int 26)]) hx hb dJ1_indexOfChar_4cfef_25 hl (k := 0) rfl (by decide) (by decide) rfl (fun ls hl => ?_)
                                            refine lv_goto (tgt := 7) hx hb dJ1_indexOfChar_4cfef_28 (by decide) ?_
                                            refine lv_iload hx hb dJ1_indexOfChar_4cfef_7 (lv_at hl 0 rfl) ?_
                                            refine lv_iload_n hx hb dJ1_indexOfChar_4cfef_9 rfl (lv_at hl 5 rfl) ?_
                                            refine lv_icmp_ge (tgt := 31) hx hb dJ1_indexOfChar_4cfef_10 (by decide) (fun c => absurd c (by decide)) (fun _ => ?_)
                                            refine lv_aload_n hx hb dJ1_indexOfChar_4cfef_13 rfl (lv_at hl 2 rfl) ?_
                                            refine lv_iload hx hb dJ1_indexOfChar_4cfef_14 (lv_at hl 0 rfl) ?_
                                            refine va_tb (v := .int 77) hx hb (hE.2.2.2.2.2.2.2.1 0 (by decide)).2.2.2 w.2.2.1 (vp_in_nI (n := 21) (by decide) (by decide)) rfl dJ1_indexOfChar_4cfef_16 ?_
                                            refine lv_iload hx hb dJ1_indexOfChar_4cfef_17 (lv_at hl 1 rfl) ?_
                                            refine lv_icmp_ne (tgt := 25) hx hb dJ1_indexOfChar_4cfef_19 (by decide) (fun c_19_21 => ?_) (fun c_19_21 => ?_)
                                            · refine lv_iinc (v := 22) (lv' := [(5, .int 22), (4, .int x.toInt8.toInt32), (0, .ref (κ 2)), (1, .int x), (2, .int 0), (3, .int 26)]) hx hb dJ1_indexOfChar_4cfef_25 hl (k := 0) rfl (by decide) (by decide) rfl (fun ls hl => ?_)
                                              refine lv_goto (tgt := 7) hx hb dJ1_indexOfChar_4cfef_28 (by decide) ?_
                                              refine lv_iload hx hb dJ1_indexOfChar_4cfef_7 (lv_at hl 0 rfl) ?_
                                              refine lv_iload_n hx hb dJ1_indexOfChar_4cfef_9 rfl (lv_at hl 5 rfl) ?_
                                              refine lv_icmp_ge (tgt := 31) hx hb dJ1_indexOfChar_4cfef_10 (by decide) (fun c => absurd c (by decide)) (fun _ => ?_)
                                              refine lv_aload_n hx hb dJ1_indexOfChar_4cfef_13 rfl (lv_at hl 2 rfl) ?_
                                              refine lv_iload hx hb dJ1_indexOfChar_4cfef_14 (lv_at hl 0 rfl) ?_
                                              refine va_tb (v := .int 106) hx hb (hE.2.2.2.2.2.2.2.1 0 (by decide)).2.2.2 w.2.2.1 (vp_in_nI (n := 22) (by decide) (by decide)) rfl dJ1_indexOfChar_4cfef_16 ?_
                                              refine lv_iload hx hb dJ1_indexOfChar_4cfef_17 (lv_at hl 1 rfl) ?_
                                              refine lv_icmp_ne (tgt := 25) hx hb dJ1_indexOfChar_4cfef_19 (by decide) (fun c_19_22 => ?_) (fun c_19_22 => ?_)
                                              · refine lv_iinc (v := 23) (lv' := [(5, .int 23), (4, .int x.toInt8.toInt32), (0, .ref (κ 2)), (1, .int x), (2, .int 0), (3, .int 26)]) hx hb dJ1_indexOfChar_4cfef_25 hl (k := 0) rfl (by decide) (by decide) rfl (fun ls hl => ?_)
                                                refine lv_goto (tgt := 7) hx hb dJ1_indexOfChar_4cfef_28 (by decide) ?_
                                                refine lv_iload hx hb dJ1_indexOfChar_4cfef_7 (lv_at hl 0 rfl) ?_
                                                refine lv_iload_n hx hb dJ1_indexOfChar_4cfef_9 rfl (lv_at hl 5 rfl) ?_
                                                refine lv_icmp_ge (tgt := 31) hx hb dJ1_indexOfChar_4cfef_10 (by decide) (fun c => absurd c (by decide)) (fun _ => ?_)
                                                refine lv_aload_n hx hb dJ1_indexOfChar_4cfef_13 rfl (lv_at hl 2 rfl) ?_
                                                refine lv_iload hx hb dJ1_indexOfChar_4cfef_14 (lv_at hl 0 rfl) ?_
                                                refine va_tb (v := .int 121) hx hb (hE.2.2.2.2.2.2.2.1 0 (by decide)).2.2.2 w.2.2.1 (vp_in_nI (n := 23) (by decide) (by decide)) rfl dJ1_indexOfChar_4cfef_16 ?_
                                                refine lv_iload hx hb dJ1_indexOfChar_4cfef_17 (lv_at hl 1 rfl) ?_
                                                refine lv_icmp_ne (tgt := 25) hx hb dJ1_indexOfChar_4cfef_19 (by decide) (fun c_19_23 => ?_) (fun c_19_23 => ?_)
                                                · refine lv_iinc (v := 24) (lv' := [(5, .int 24), (4, .int x.toInt8.toInt32), (0, .ref (κ 2)), (1, .int x), (2, .int 0), (3, .int 26)]) hx hb dJ1_indexOfChar_4cfef_25 hl (k := 0) rfl (by decide) (by decide) rfl (fun ls hl => ?_)
                                                  refine lv_goto (tgt := 7) hx hb dJ1_indexOfChar_4cfef_28 (by decide) ?_
                                                  refine lv_iload hx hb dJ1_indexOfChar_4cfef_7 (lv_at hl 0 rfl) ?_
                                                  refine lv_iload_n hx hb dJ1_indexOfChar_4cfef_9 rfl (lv_at hl 5 rfl) ?_
                                                  refine lv_icmp_ge (tgt := 31) hx hb dJ1_indexOfChar_4cfef_10 (by decide) (fun c => absurd c (by decide)) (fun _ => ?_)
                                                  refine lv_aload_n hx hb dJ1_indexOfChar_4cfef_13 rfl (lv_at hl 2 rfl) ?_
                                                  refine lv_iload hx hb dJ1_indexOfChar_4cfef_14 (lv_at hl 0 rfl) ?_
                                                  refine va_tb (v := .int 114) hx hb (hE.2.2.2.2.2.2.2.1 0 (by decide)).2.2.2 w.2.2.1 (vp_in_nI (n := 24) (by decide) (by decide)) rfl dJ1_indexOfChar_4cfef_16 ?_
                                                  refine lv_iload hx hb dJ1_indexOfChar_4cfef_17 (lv_at hl 1 rfl) ?_
                                                  refine lv_icmp_ne (tgt := 25) hx hb dJ1_indexOfChar_4cfef_19 (by decide) (fun c_19_24 => ?_) (fun c_19_24 => ?_)
                                                  · refine lv_iinc (v := 25) (lv' := [(5, .int 25), (4, .int x.toInt8.toInt32), (0, .ref (κ 2)), (1, .int x), (2, .int 0), (3, .int 26)]) hx hb dJ1_indexOfChar_4cfef_25 hl (k := 0) rfl (by decide) (by decide) rfl (fun ls hl => ?_)
                                                    refine lv_goto (tgt := 7) hx hb dJ1_indexOfChar_4cfef_28 (by decide) ?_
                                                    refine lv_iload hx hb dJ1_indexOfChar_4cfef_7 (lv_at hl 0 rfl) ?_
                                                    refine lv_iload_n hx hb dJ1_indexOfChar_4cfef_9 rfl (lv_at hl 5 rfl) ?_
                                                    refine lv_icmp_ge (tgt := 31) hx hb dJ1_indexOfChar_4cfef_10 (by decide) (fun c => absurd c (by decide)) (fun _ => ?_)
                                                    refine lv_aload_n hx hb dJ1_indexOfChar_4cfef_13 rfl (lv_at hl 2 rfl) ?_
                                                    refine lv_iload hx hb dJ1_indexOfChar_4cfef_14 (lv_at hl 0 rfl) ?_
                                                    refine va_tb (v := .int 119) hx hb (hE.2.2.2.2.2.2.2.1 0 (by decide)).2.2.2 w.2.2.1 (vp_in_nI (n := 25) (by decide) (by decide)) rfl dJ1_indexOfChar_4cfef_16 ?_
                                                    refine lv_iload hx hb dJ1_indexOfChar_4cfef_17 (lv_at hl 1 rfl) ?_
                                                    refine lv_icmp_ne (tgt := 25) hx hb dJ1_indexOfChar_4cfef_19 (by decide) (fun c_19_25 => ?_) (fun c_19_25 => ?_)
                                                    · refine lv_iinc (v := 26) (lv' := [(5, .int 26), (4, .int x.toInt8.toInt32), (0, .ref (κ 2)), (1, .int x), (2, .int 0), (3, .int 26)]) hx hb dJ1_indexOfChar_4cfef_25 hl (k := 0) rfl (by decide) (by decide) rfl (fun ls hl => ?_)
                                                      refine lv_goto (tgt := 7) hx hb dJ1_indexOfChar_4cfef_28 (by decide) ?_
                                                      refine lv_iload hx hb dJ1_indexOfChar_4cfef_7 (lv_at hl 0 rfl) ?_
                                                      refine lv_iload_n hx hb dJ1_indexOfChar_4cfef_9 rfl (lv_at hl 5 rfl) ?_
                                                      refine lv_icmp_ge (tgt := 31) hx hb dJ1_indexOfChar_4cfef_10 (by decide) (fun _ => ?_) (fun c => absurd (by decide) c)
                                                      refine lv_iconst (v := (-1)) hx hb dJ1_indexOfChar_4cfef_31 (by decide) ?_
                                                      exact g_iret hx hb hr hlk w (Nat.le_of_ble_eq_true rfl) (Nat.le_of_ble_eq_true rfl) dJ1_indexOfChar_4cfef_32 ⟨by simp [ixF, c_19, c_19_1, c_19_2, c_19_3, c_19_4, c_19_5, c_19_6, c_19_7, c_19_8, c_19_9, c_19_10, c_19_11, c_19_12, c_19_13, c_19_14, c_19_15, c_19_16, c_19_17, c_19_18, c_19_19, c_19_20, c_19_21, c_19_22, c_19_23, c_19_24, c_19_25], rfl⟩
                                                    · refine lv_iload hx hb dJ1_indexOfChar_4cfef_22 (lv_at hl 0 rfl) ?_
                                                      exact g_iret hx hb hr hlk w (Nat.le_of_ble_eq_true rfl) (Nat.le_of_ble_eq_true rfl) dJ1_indexOfChar_4cfef_24 ⟨by simp [ixF, c_19, c_19_1, c_19_2, c_19_3, c_19_4, c_19_5, c_19_6, c_19_7, c_19_8, c_19_9, c_19_10, c_19_11, c_19_12, c_19_13, c_19_14, c_19_15, c_19_16, c_19_17, c_19_18, c_19_19, c_19_20, c_19_21, c_19_22, c_19_23, c_19_24, c_19_25], rfl⟩
                                                  · refine lv_iload hx hb dJ1_indexOfChar_4cfef_22 (lv_at hl 0 rfl) ?_
                                                    exact g_iret hx hb hr hlk w (Nat.le_of_ble_eq_true rfl) (Nat.le_of_ble_eq_true rfl) dJ1_indexOfChar_4cfef_24 ⟨by simp [ixF, c_19, c_19_1, c_19_2, c_19_3, c_19_4, c_19_5, c_19_6, c_19_7, c_19_8, c_19_9, c_19_10, c_19_11, c_19_12, c_19_13, c_19_14, c_19_15, c_19_16, c_19_17, c_19_18, c_19_19, c_19_20, c_19_21, c_19_22, c_19_23, c_19_24], rfl⟩
                                                · refine lv_iload hx hb dJ1_indexOfChar_4cfef_22 (lv_at hl 0 rfl) ?_
                                                  exact g_iret hx hb hr hlk w (Nat.le_of_ble_eq_true rfl) (Nat.le_of_ble_eq_true rfl) dJ1_indexOfChar_4cfef_24 ⟨by simp [ixF, c_19, c_19_1, c_19_2, c_19_3, c_19_4, c_19_5, c_19_6, c_19_7, c_19_8, c_19_9, c_19_10, c_19_11, c_19_12, c_19_13, c_19_14, c_19_15, c_19_16, c_19_17, c_19_18, c_19_19, c_19_20, c_19_21, c_19_22, c_19_23], rfl⟩
                                              · refine lv_iload hx hb dJ1_indexOfChar_4cfef_22 (lv_at hl 0 rfl) ?_
                                                exact g_iret hx hb hr hlk w (Nat.le_of_ble_eq_true rfl) (Nat.le_of_ble_eq_true rfl) dJ1_indexOfChar_4cfef_24 ⟨by simp [ixF, c_19, c_19_1, c_19_2, c_19_3, c_19_4, c_19_5, c_19_6, c_19_7, c_19_8, c_19_9, c_19_10, c_19_11, c_19_12, c_19_13, c_19_14, c_19_15, c_19_16, c_19_17, c_19_18, c_19_19, c_19_20, c_19_21, c_19_22], rfl⟩
                                            · refine lv_iload hx hb dJ1_indexOfChar_4cfef_22 (lv_at hl 0 rfl) ?_
                                              exact g_iret hx hb hr hlk w (Nat.le_of_ble_eq_true rfl) (Nat.le_of_ble_eq_true rfl) dJ1_indexOfChar_4cfef_24 ⟨by simp [ixF, c_19, c_19_1, c_19_2, c_19_3, c_19_4, c_19_5, c_19_6, c_19_7, c_19_8, c_19_9, c_19_10, c_19_11, c_19_12, c_19_13, c_19_14, c_19_15, c_19_16, c_19_17, c_19_18, c_19_19, c_19_20, c_19_21], rfl⟩
                                          · refine lv_iload hx hb dJ1_indexOfChar_4cfef_22 (lv_at hl 0 rfl) ?_
                                            exact g_iret hx hb hr hlk w (Nat.le_of_ble_eq_true rfl) (Nat.le_of_ble_eq_true rfl) dJ1_indexOfChar_4cfef_24 ⟨by simp [ixF, c_19, c_19_1, c_19_2, c_19_3, c_19_4, c_19_5, c_19_6, c_19_7, c_19_8, c_19_9, c_19_10, c_19_11, c_19_12, c_19_13, c_19_14, c_19_15, c_19_16, c_19_17, c_19_18, c_19_19, c_19_20], rfl⟩
                                        · refine lv_iload hx hb dJ1_indexOfChar_4cfef_22 (lv_at hl 0 rfl) ?_
                                          exact g_iret hx hb hr hlk w (Nat.le_of_ble_eq_true rfl) (Nat.le_of_ble_eq_true rfl) dJ1_indexOfChar_4cfef_24 ⟨by simp [ixF, c_19, c_19_1, c_19_2, c_19_3, c_19_4, c_19_5, c_19_6, c_19_7, c_19_8, c_19_9, c_19_10, c_19_11, c_19_12, c_19_13, c_19_14, c_19_15, c_19_16, c_19_17, c_19_18, c_19_19], rfl⟩
                                      · refine lv_iload hx hb dJ1_indexOfChar_4cfef_22 (lv_at hl 0 rfl) ?_
                                        exact g_iret hx hb hr hlk w (Nat.le_of_ble_eq_true rfl) (Nat.le_of_ble_eq_true rfl) dJ1_indexOfChar_4cfef_24 ⟨by simp [ixF, c_19, c_19_1, c_19_2, c_19_3, c_19_4, c_19_5, c_19_6, c_19_7, c_19_8, c_19_9, c_19_10, c_19_11, c_19_12, c_19_13, c_19_14, c_19_15, c_19_16, c_19_17, c_19_18], rfl⟩
                                    · refine lv_iload hx hb dJ1_indexOfChar_4cfef_22 (lv_at hl 0 rfl) ?_
                                      exact g_iret hx hb hr hlk w (Nat.le_of_ble_eq_true rfl) (Nat.le_of_ble_eq_true rfl) dJ1_indexOfChar_4cfef_24 ⟨by simp [ixF, c_19, c_19_1, c_19_2, c_19_3, c_19_4, c_19_5, c_19_6, c_19_7, c_19_8, c_19_9, c_19_10, c_19_11, c_19_12, c_19_13, c_19_14, c_19_15, c_19_16, c_19_17], rfl⟩
                                  · refine lv_iload hx hb dJ1_indexOfChar_4cfef_22 (lv_at hl 0 rfl) ?_
                                    exact g_iret hx hb hr hlk w (Nat.le_of_ble_eq_true rfl) (Nat.le_of_ble_eq_true rfl) dJ1_indexOfChar_4cfef_24 ⟨by simp [ixF, c_19, c_19_1, c_19_2, c_19_3, c_19_4, c_19_5, c_19_6, c_19_7, c_19_8, c_19_9, c_19_10, c_19_11, c_19_12, c_19_13, c_19_14, c_19_15, c_19_16], rfl⟩
                                · refine lv_iload hx hb dJ1_indexOfChar_4cfef_22 (lv_at hl 0 rfl) ?_
                                  exact g_iret hx hb hr hlk w (Nat.le_of_ble_eq_true rfl) (Nat.le_of_ble_eq_true rfl) dJ1_indexOfChar_4cfef_24 ⟨by simp [ixF, c_19, c_19_1, c_19_2, c_19_3, c_19_4, c_19_5, c_19_6, c_19_7, c_19_8, c_19_9, c_19_10, c_19_11, c_19_12, c_19_13, c_19_14, c_19_15], rfl⟩
                              · refine lv_iload hx hb dJ1_indexOfChar_4cfef_22 (lv_at hl 0 rfl) ?_
                                exact g_iret hx hb hr hlk w (Nat.le_of_ble_eq_true rfl) (Nat.le_of_ble_eq_true rfl) dJ1_indexOfChar_4cfef_24 ⟨by simp [ixF, c_19, c_19_1, c_19_2, c_19_3, c_19_4, c_19_5, c_19_6, c_19_7, c_19_8, c_19_9, c_19_10, c_19_11, c_19_12, c_19_13, c_19_14], rfl⟩
                            · refine lv_iload hx hb dJ1_indexOfChar_4cfef_22 (lv_at hl 0 rfl) ?_
                              exact g_iret hx hb hr hlk w (Nat.le_of_ble_eq_true rfl) (Nat.le_of_ble_eq_true rfl) dJ1_indexOfChar_4cfef_24 ⟨by simp [ixF, c_19, c_19_1, c_19_2, c_19_3, c_19_4, c_19_5, c_19_6, c_19_7, c_19_8, c_19_9, c_19_10, c_19_11, c_19_12, c_19_13], rfl⟩
                          · refine lv_iload hx hb dJ1_indexOfChar_4cfef_22 (lv_at hl 0 rfl) ?_
                            exact g_iret hx hb hr hlk w (Nat.le_of_ble_eq_true rfl) (Nat.le_of_ble_eq_true rfl) dJ1_indexOfChar_4cfef_24 ⟨by simp [ixF, c_19, c_19_1, c_19_2, c_19_3, c_19_4, c_19_5, c_19_6, c_19_7, c_19_8, c_19_9, c_19_10, c_19_11, c_19_12], rfl⟩
                        · refine lv_iload hx hb dJ1_indexOfChar_4cfef_22 (lv_at hl 0 rfl) ?_
                          exact g_iret hx hb hr hlk w (Nat.le_of_ble_eq_true rfl) (Nat.le_of_ble_eq_true rfl) dJ1_indexOfChar_4cfef_24 ⟨by simp [ixF, c_19, c_19_1, c_19_2, c_19_3, c_19_4, c_19_5, c_19_6, c_19_7, c_19_8, c_19_9, c_19_10, c_19_11], rfl⟩
                      · refine lv_iload hx hb dJ1_indexOfChar_4cfef_22 (lv_at hl 0 rfl) ?_
                        exact g_iret hx hb hr hlk w (Nat.le_of_ble_eq_true rfl) (Nat.le_of_ble_eq_true rfl) dJ1_indexOfChar_4cfef_24 ⟨by simp [ixF, c_19, c_19_1, c_19_2, c_19_3, c_19_4, c_19_5, c_19_6, c_19_7, c_19_8, c_19_9, c_19_10], rfl⟩
                    · refine lv_iload hx hb dJ1_indexOfChar_4cfef_22 (lv_at hl 0 rfl) ?_
                      exact g_iret hx hb hr hlk w (Nat.le_of_ble_eq_true rfl) (Nat.le_of_ble_eq_true rfl) dJ1_indexOfChar_4cfef_24 ⟨by simp [ixF, c_19, c_19_1, c_19_2, c_19_3, c_19_4, c_19_5, c_19_6, c_19_7, c_19_8, c_19_9], rfl⟩
                  · refine lv_iload hx hb dJ1_indexOfChar_4cfef_22 (lv_at hl 0 rfl) ?_
                    exact g_iret hx hb hr hlk w (Nat.le_of_ble_eq_true rfl) (Nat.le_of_ble_eq_true rfl) dJ1_indexOfChar_4cfef_24 ⟨by simp [ixF, c_19, c_19_1, c_19_2, c_19_3, c_19_4, c_19_5, c_19_6, c_19_7, c_19_8], rfl⟩
                · refine lv_iload hx hb dJ1_indexOfChar_4cfef_22 (lv_at hl 0 rfl) ?_
                  exact g_iret hx hb hr hlk w (Nat.le_of_ble_eq_true rfl) (Nat.le_of_ble_eq_true rfl) dJ1_indexOfChar_4cfef_24 ⟨by simp [ixF, c_19, c_19_1, c_19_2, c_19_3, c_19_4, c_19_5, c_19_6, c_19_7], rfl⟩
              · refine lv_iload hx hb dJ1_indexOfChar_4cfef_22 (lv_at hl 0 rfl) ?_
                exact g_iret hx hb hr hlk w (Nat.le_of_ble_eq_true rfl) (Nat.le_of_ble_eq_true rfl) dJ1_indexOfChar_4cfef_24 ⟨by simp [ixF, c_19, c_19_1, c_19_2, c_19_3, c_19_4, c_19_5, c_19_6], rfl⟩
            · refine lv_iload hx hb dJ1_indexOfChar_4cfef_22 (lv_at hl 0 rfl) ?_
              exact g_iret hx hb hr hlk w (Nat.le_of_ble_eq_true rfl) (Nat.le_of_ble_eq_true rfl) dJ1_indexOfChar_4cfef_24 ⟨by simp [ixF, c_19, c_19_1, c_19_2, c_19_3, c_19_4, c_19_5], rfl⟩
          · refine lv_iload hx hb dJ1_indexOfChar_4cfef_22 (lv_at hl 0 rfl) ?_
            exact g_iret hx hb hr hlk w (Nat.le_of_ble_eq_true rfl) (Nat.le_of_ble_eq_true rfl) dJ1_indexOfChar_4cfef_24 ⟨by simp [ixF, c_19, c_19_1, c_19_2, c_19_3, c_19_4], rfl⟩
        · refine lv_iload hx hb dJ1_indexOfChar_4cfef_22 (lv_at hl 0 rfl) ?_
          exact g_iret hx hb hr hlk w (Nat.le_of_ble_eq_true rfl) (Nat.le_of_ble_eq_true rfl) dJ1_indexOfChar_4cfef_24 ⟨by simp [ixF, c_19, c_19_1, c_19_2, c_19_3], rfl⟩
      · refine lv_iload hx hb dJ1_indexOfChar_4cfef_22 (lv_at hl 0 rfl) ?_
        exact g_iret hx hb hr hlk w (Nat.le_of_ble_eq_true rfl) (Nat.le_of_ble_eq_true rfl) dJ1_indexOfChar_4cfef_24 ⟨by simp [ixF, c_19, c_19_1, c_19_2], rfl⟩
    · refine lv_iload hx hb dJ1_indexOfChar_4cfef_22 (lv_at hl 0 rfl) ?_
      exact g_iret hx hb hr hlk w (Nat.le_of_ble_eq_true rfl) (Nat.le_of_ble_eq_true rfl) dJ1_indexOfChar_4cfef_24 ⟨by simp [ixF, c_19, c_19_1], rfl⟩
  · refine lv_iload hx hb dJ1_indexOfChar_4cfef_22 (lv_at hl 0 rfl) ?_
    exact g_iret hx hb hr hlk w (Nat.le_of_ble_eq_true rfl) (Nat.le_of_ble_eq_true rfl) dJ1_indexOfChar_4cfef_24 ⟨by simp [ixF, c_19], rfl⟩
set_option maxHeartbeats 4000000 in
set_option maxRecDepth 100000 in
theorem c_indexOf4 (l : Launch) (D : va_G) (ar : Nat → ClassId) (κ : Nat → Nat) (G : gW) (sz : Nat) (x : Int32) : Met l yJ1_indexOf_4cfef (lwC yJ1_indexOf_4cfef cJ1_indexOf_4cfef 4 (some .int)) (rD 2 0 0) (g_Pc D vwCl (gT ar) (EX1 κ) G sz [.ref (κ 2), .int x, .int 0, .int 26]) (g_Qi D vwCl (g_A G sz) (fun r u => r = ixO x ∧ u = (G, sz))) 0 0 (g_A G sz) := by
  refine g_ofW (by decide +kernel) (Nat.le_of_ble_eq_true rfl) ?_
  intro p e s m below meth c ls S hr hlk hin hE w hl
  have hx := S.1
  have hb := S.2.1
  have hl : lv_has ls 4 [(0, .ref (κ 2)), (1, .int x), (2, .int 0), (3, .int 26)] := hl
  refine lv_iload_n hx hb dJ1_indexOf_4cfef_0 rfl (lv_at hl 1 rfl) ?_
  refine g_calli w (g_runS (As := [.int x]) (rest := []) S hE w hl (c_canEncode l D ar κ G sz x) (k_RJ1_88 S.2.2.2.2 ⟨Nat.le_of_ble_eq_true rfl, Nat.le_of_ble_eq_true rfl⟩) rfl rfl (Nat.le_of_ble_eq_true rfl) dJ1_indexOf_4cfef_1 ⟨Nat.le_of_ble_eq_true rfl, Nat.le_of_ble_eq_true rfl⟩) (fun r u H locs hp hnz w => ?_)
  obtain ⟨rfl, rfl⟩ := hp
  dsimp only at w
  refine lv_if_ne (tgt := 9) hx hb dJ1_indexOf_4cfef_4 (by decide) (fun c_4 => ?_) (fun c_4 => ?_)
  · refine lv_iload_n hx hb dJ1_indexOf_4cfef_9 rfl (lv_at hl 2 rfl) ?_
    refine lv_iconst (v := 0) hx hb dJ1_indexOf_4cfef_10 (by decide) ?_
    refine va_mmax hx hb (hl.1.trans S.2.2.1.symm).symm S.2.2.2.1 (S.2.2.2.2 _ m_7_10) (S.2.2.2.2 _ m_5_133) (S.2.2.2.2 _ m_1_16) (S.2.2.2.2 _ m_5_134) (Nat.le_of_ble_eq_true rfl) (Nat.le_of_ble_eq_true rfl) (Nat.le_of_ble_eq_true rfl) (Nat.le_of_ble_eq_true rfl) dJ1_indexOf_4cfef_11 ?_
    rw [show (if (0 : Int32) < 0 then (0 : Int32) else 0) = 0 from by decide]
    refine lv_istore_n (lv' := [(2, .int 0), (0, .ref (κ 2)), (1, .int x), (3, .int 26)]) hx hb dJ1_indexOf_4cfef_14 rfl hl (by decide) rfl (fun ls hl => ?_)
    refine lv_iload_n hx hb dJ1_indexOf_4cfef_15 rfl (lv_at hl 3 rfl) ?_
    refine lv_aload_n hx hb dJ1_indexOf_4cfef_16 rfl (lv_at hl 1 rfl) ?_
    refine va_tlen (v := 26) hx hb (hE.2.2.2.2.2.2.2.1 0 (by decide)).2.2.2 w.2.2.1 rfl dJ1_indexOf_4cfef_17 ?_
    refine va_mmin hx hb (hl.1.trans S.2.2.1.symm).symm S.2.2.2.1 (S.2.2.2.2 _ m_7_11) (S.2.2.2.2 _ m_5_178) (S.2.2.2.2 _ m_1_16) (S.2.2.2.2 _ m_5_179) (Nat.le_of_ble_eq_true rfl) (Nat.le_of_ble_eq_true rfl) (Nat.le_of_ble_eq_true rfl) (Nat.le_of_ble_eq_true rfl) dJ1_indexOf_4cfef_18 ?_
    rw [show (if (26 : Int32) < 26 then (26 : Int32) else 26) = 26 from by decide]
    refine lv_istore_n (lv' := [(3, .int 26), (2, .int 0), (0, .ref (κ 2)), (1, .int x)]) hx hb dJ1_indexOf_4cfef_21 rfl hl (by decide) rfl (fun ls hl => ?_)
    refine lv_iload_n hx hb dJ1_indexOf_4cfef_22 rfl (lv_at hl 1 rfl) ?_
    refine lv_iload_n hx hb dJ1_indexOf_4cfef_23 rfl (lv_at hl 0 rfl) ?_
    refine lv_icmp_lt (tgt := 29) hx hb dJ1_indexOf_4cfef_24 (by decide) (fun _ => ?_) (fun c => absurd (by decide) c)
    refine lv_aload_n hx hb dJ1_indexOf_4cfef_29 rfl (lv_at hl 2 rfl) ?_
    refine lv_iload_n hx hb dJ1_indexOf_4cfef_30 rfl (lv_at hl 3 rfl) ?_
    refine lv_iload_n hx hb dJ1_indexOf_4cfef_31 rfl (lv_at hl 1 rfl) ?_
    refine lv_iload_n hx hb dJ1_indexOf_4cfef_32 rfl (lv_at hl 0 rfl) ?_
    refine g_calli w (g_runS (As := [.ref (κ 2), .int x, .int 0, .int 26]) (rest := []) S hE w hl (c_indexOfChar l D ar κ G sz x) (k_RJ1_95 S.2.2.2.2 ⟨Nat.le_of_ble_eq_true rfl, Nat.le_of_ble_eq_true rfl⟩) rfl rfl (Nat.le_of_ble_eq_true rfl) dJ1_indexOf_4cfef_33 ⟨Nat.le_of_ble_eq_true rfl, Nat.le_of_ble_eq_true rfl⟩) (fun r u H locs hp hnz w => ?_)
    obtain ⟨rfl, rfl⟩ := hp
    dsimp only at w
    exact g_iret hx hb hr hlk w (Nat.le_of_ble_eq_true rfl) (Nat.le_of_ble_eq_true rfl) dJ1_indexOf_4cfef_36 ⟨by simp [ixO, c_4], rfl⟩
  · refine lv_iconst (v := (-1)) hx hb dJ1_indexOf_4cfef_7 (by decide) ?_
    exact g_iret hx hb hr hlk w (Nat.le_of_ble_eq_true rfl) (Nat.le_of_ble_eq_true rfl) dJ1_indexOf_4cfef_8 ⟨by simp [ixO, c_4], rfl⟩
set_option maxHeartbeats 4000000 in
set_option maxRecDepth 100000 in
theorem c_indexOf2 (l : Launch) (D : va_G) (ar : Nat → ClassId) (κ : Nat → Nat) (G : gW) (sz : Nat) (x : Int32) : Met l yJ0_indexOf_7cf53 (lwC yJ0_indexOf_7cf53 cJ0_indexOf_7cf53 3 (some .int)) (rD 3 0 0) (g_Pc D vwCl (gT ar) (EX1 κ) G sz [.ref (κ 1), .int x, .int 0]) (g_Qi D vwCl (g_A G sz) (fun r u => r = ixO x ∧ u = (G, sz))) 0 0 (g_A G sz) := by
  refine g_ofW (by decide +kernel) (Nat.le_of_ble_eq_true rfl) ?_
  intro p e s m below meth c ls S hr hlk hin hE w hl
  have hx := S.1
  have hb := S.2.1
  have hl : lv_has ls 3 [(0, .ref (κ 1)), (1, .int x), (2, .int 0)] := hl
  refine lv_aload_n hx hb dJ0_indexOf_7cf53_0 rfl (lv_at hl 0 rfl) ?_
  refine g_calli w (g_runVK (As := []) (rest := []) S hE w hl (c_isLatin1 l D ar κ G sz) (k_RJ0_492 S.2.2.2.2 ⟨Nat.le_of_ble_eq_true rfl, Nat.le_of_ble_eq_true rfl⟩) (g_out (hE.2.2.2.2.2.2.2.1 0 (by decide)).1 w) rfl rfl (Nat.le_of_ble_eq_true rfl) dJ0_indexOf_7cf53_1 ⟨Nat.le_of_ble_eq_true rfl, Nat.le_of_ble_eq_true rfl⟩) (fun r u H locs hp hnz w => ?_)
  obtain ⟨rfl, rfl⟩ := hp
  dsimp only at w
  refine lv_if_eq (tgt := 23) hx hb dJ0_indexOf_7cf53_4 (by decide) (fun c => absurd c (by decide)) (fun _ => ?_)
  refine lv_aload_n hx hb dJ0_indexOf_7cf53_7 rfl (lv_at hl 0 rfl) ?_
  refine vk_getf hx hb (hE.2.2.2.2.2.2.2.1 0 (by decide)).2.2.1 w.2.2.1 S.2.2.2.1 (S.2.2.2.2 _ m_9_137) (fun _ h => h) dJ0_indexOf_7cf53_8 ?_
  refine lv_iload_n hx hb dJ0_indexOf_7cf53_11 rfl (lv_at hl 1 rfl) ?_
  refine lv_iload_n hx hb dJ0_indexOf_7cf53_12 rfl (lv_at hl 2 rfl) ?_
  refine lv_aload_n hx hb dJ0_indexOf_7cf53_13 rfl (lv_at hl 0 rfl) ?_
  refine g_calli w (g_runVK (As := []) (rest := [.int 0, .int x, .ref (κ 2)]) S hE w hl (c_length l D ar κ G sz) (k_RJ0_505 S.2.2.2.2 ⟨Nat.le_of_ble_eq_true rfl, Nat.le_of_ble_eq_true rfl⟩) (g_out (hE.2.2.2.2.2.2.2.1 0 (by decide)).1 w) rfl rfl (Nat.le_of_ble_eq_true rfl) dJ0_indexOf_7cf53_14 ⟨Nat.le_of_ble_eq_true rfl, Nat.le_of_ble_eq_true rfl⟩) (fun r u H locs hp hnz w => ?_)
  obtain ⟨rfl, rfl⟩ := hp
  dsimp only at w
  refine g_calli w (g_runS (As := [.ref (κ 2), .int x, .int 0, .int 26]) (rest := []) S hE w hl (c_indexOf4 l D ar κ G sz x) (k_RJ0_637 S.2.2.2.2 ⟨Nat.le_of_ble_eq_true rfl, Nat.le_of_ble_eq_true rfl⟩) rfl rfl (Nat.le_of_ble_eq_true rfl) dJ0_indexOf_7cf53_17 ⟨Nat.le_of_ble_eq_true rfl, Nat.le_of_ble_eq_true rfl⟩) (fun r u H locs hp hnz w => ?_)
  obtain ⟨rfl, rfl⟩ := hp
  dsimp only at w
  refine lv_goto (tgt := 36) hx hb dJ0_indexOf_7cf53_20 (by decide) ?_
  exact g_iret hx hb hr hlk w (Nat.le_of_ble_eq_true rfl) (Nat.le_of_ble_eq_true rfl) dJ0_indexOf_7cf53_36 ⟨rfl, rfl⟩
set_option maxHeartbeats 4000000 in
set_option maxRecDepth 100000 in
theorem c_indexOf1 (l : Launch) (D : va_G) (ar : Nat → ClassId) (κ : Nat → Nat) (G : gW) (sz : Nat) (x : Int32) : Met l yJ0_indexOf_0f7a4 (lwC yJ0_indexOf_0f7a4 cJ0_indexOf_0f7a4 2 (some .int)) (rD 4 0 0) (g_Pc D vwCl (gT ar) (EX1 κ) G sz [.ref (κ 1), .int x]) (g_Qi D vwCl (g_A G sz) (fun r u => r = ixO x ∧ u = (G, sz))) 0 0 (g_A G sz) := by
  refine g_ofW (by decide +kernel) (Nat.le_of_ble_eq_true rfl) ?_
  intro p e s m below meth c ls S hr hlk hin hE w hl
  have hx := S.1
  have hb := S.2.1
  have hl : lv_has ls 2 [(0, .ref (κ 1)), (1, .int x)] := hl
  refine lv_aload_n hx hb dJ0_indexOf_0f7a4_0 rfl (lv_at hl 0 rfl) ?_
  refine lv_iload_n hx hb dJ0_indexOf_0f7a4_1 rfl (lv_at hl 1 rfl) ?_
  refine lv_iconst (v := 0) hx hb dJ0_indexOf_0f7a4_2 (by decide) ?_
  refine g_calli w (g_runVK (As := [.int x, .int 0]) (rest := []) S hE w hl (c_indexOf2 l D ar κ G sz x) (k_RJ0_633 S.2.2.2.2 ⟨Nat.le_of_ble_eq_true rfl, Nat.le_of_ble_eq_true rfl⟩) (g_out (hE.2.2.2.2.2.2.2.1 0 (by decide)).1 w) rfl rfl (Nat.le_of_ble_eq_true rfl) dJ0_indexOf_0f7a4_3 ⟨Nat.le_of_ble_eq_true rfl, Nat.le_of_ble_eq_true rfl⟩) (fun r u H locs hp hnz w => ?_)
  obtain ⟨rfl, rfl⟩ := hp
  dsimp only at w
  exact g_iret hx hb hr hlk w (Nat.le_of_ble_eq_true rfl) (Nat.le_of_ble_eq_true rfl) dJ0_indexOf_0f7a4_6 ⟨rfl, rfl⟩
set_option maxHeartbeats 4000000 in
set_option maxRecDepth 100000 in
theorem c_X12_init (l : Launch) (D : va_G) (ar : Nat → ClassId) (κ : Nat → Nat) (G : gW) (sz : Nat) (o : Nat) (k : Int32) (i1 : Int32) (i2 : Int32) (ho : G o = some (.inr (16, [.int 0, .int 0, .int 0]))) (hk : narrow .char (.int k) = .int k) : Met l yX12_init (lwC yX12_init cX12_init 4 none) (rD 2 0 0) (g_Pc D vwCl (gT ar) (EX1 κ) G sz [.ref o, .int k, .int i1, .int i2]) (g_Qv D vwCl (g_A G sz) (fun u => u = ((g_up G o (.inr (16, [.int k, .int i1, .int i2]))), sz))) 0 0 (g_A G sz) := by
  refine g_ofW (by decide +kernel) (Nat.le_of_ble_eq_true rfl) ?_
  intro p e s m below meth c ls S hr hlk hin hE w hl
  have hx := S.1
  have hb := S.2.1
  have hl : lv_has ls 4 [(0, .ref o), (1, .int k), (2, .int i1), (3, .int i2)] := hl
  have lt_ho : o < sz := g_ltn w ho
  refine lv_aload_n hx hb dX12_init_0 rfl (lv_at hl 0 rfl) ?_
  refine W.objInit hx hb S.2.2.2.1 (S.2.2.2.2 _ m_7_69) (S.2.2.2.2 _ m_1_47) (S.2.2.2.2 _ m_obj) rfl (by rw [S.2.2.1]; exact hl.1) rfl dX12_init_1 (Nat.le_of_ble_eq_true rfl) (Nat.le_of_ble_eq_true rfl) ?_
  refine W.eq (g2 := F0 m 4 ls []) rfl ?_
  refine lv_aload_n hx hb dX12_init_4 rfl (lv_at hl 0 rfl) ?_
  refine lv_iload_n hx hb dX12_init_5 rfl (lv_at hl 1 rfl) ?_
  refine pf_RX12_7_16 (fs1 := [.int k, .int 0, .int 0]) S hE hin w ho hk (by rw [← hk]; exact fits_narrow_char k) (Nat.le_of_ble_eq_true rfl) rfl dX12_init_6 (fun H locs w => ?_)
  refine lv_aload_n hx hb dX12_init_9 rfl (lv_at hl 0 rfl) ?_
  refine lv_iload_n hx hb dX12_init_10 rfl (lv_at hl 2 rfl) ?_
  refine pf_RX12_13_16 (fs1 := [.int k, .int i1, .int 0]) S hE hin w g_up_s rfl rfl (Nat.le_of_ble_eq_true rfl) rfl dX12_init_11 (fun H locs w => ?_)
  have w := g_eqw w g_over
  refine lv_aload_n hx hb dX12_init_14 rfl (lv_at hl 0 rfl) ?_
  refine lv_iload_n hx hb dX12_init_15 rfl (lv_at hl 3 rfl) ?_
  refine pf_RX12_17_16 (fs1 := [.int k, .int i1, .int i2]) S hE hin w g_up_s rfl rfl (Nat.le_of_ble_eq_true rfl) rfl dX12_init_16 (fun H locs w => ?_)
  have w := g_eqw w g_over
  exact g_vret hx hb hr hlk w (Nat.le_of_ble_eq_true rfl) (Nat.le_of_ble_eq_true rfl) dX12_init_19 rfl
theorem row_t {x : Int32} (h : 0 ≤ ixO x) : ¬ isL x = 0 := fun q => absurd (ixO_isL.mpr q) (Int32.not_lt.mpr h)
theorem row_f {x : Int32} (h : ¬ 0 ≤ ixO x) : isL x = 0 := ixO_isL.mp (Int32.not_le.mp h)
set_option maxHeartbeats 4000000 in
set_option maxRecDepth 100000 in
theorem m_row (l : Launch) (D : va_G) (ar : Nat → ClassId) (κ : Nat → Nat) (G : gW) (sz : Nat) (y : Nat) (k : Int32) (x1 : Int32) (y1 : Int32) (q : Nat) (t : Int32) (hM : FM ar κ G y q t) (hk : narrow .char (.int k) = .int k) : Met l yX15_row (lwC yX15_row cX15_row 4 (some .int)) (rD 7 2 13) (g_Pc D vwCl (gT ar) (EX1 κ) G sz [.ref y, .int k, .int x1, .int y1]) (g_Qi D vwCl (g_A G sz) (fun r u => ((K_row k : Int32) = 0 → r = 1) ∧ TH y (K_row k) u)) 2 13 (g_A G sz) := by
  refine g_ofW (by decide +kernel) (Nat.le_of_ble_eq_true rfl) ?_
  intro p e s m below meth c ls S hr hlk hin hE w hl
  have hx := S.1
  have hb := S.2.1
  have hl : lv_has ls 4 [(0, .ref y), (1, .int k), (2, .int x1), (3, .int y1)] := hl
  obtain ⟨hyq, m0, m1, m2, m3, m4, m5, m6, m7, m8, m9, m10, m11, m12, m13, m14⟩ := id hM
  have lt13 : q + 13 < sz := g_ltn w m14
  refine lv_aload_n hx hb dX15_row_0 rfl (lv_at hl 0 rfl) ?_
  refine va_ldcS hx hb S.2.2.2.1 hE.2.2.2.2.2.2.1 dX15_row_1 ?_
  refine lv_iload_n hx hb dX15_row_3 rfl (lv_at hl 1 rfl) ?_
  refine g_calli w (g_runVK (As := [.int k]) (rest := [.ref y]) S hE w hl (c_indexOf1 l D ar κ G sz k) (k_RX15_82 S.2.2.2.2 ⟨Nat.le_of_ble_eq_true rfl, Nat.le_of_ble_eq_true rfl⟩) (g_out (hE.2.2.2.2.2.2.2.1 0 (by decide)).1 w) rfl rfl (Nat.le_of_ble_eq_true rfl) dX15_row_4 ⟨Nat.le_of_ble_eq_true rfl, Nat.le_of_ble_eq_true rfl⟩) (fun r u H locs hp hnz w => ?_)
  obtain ⟨rfl, rfl⟩ := hp
  dsimp only at w
  refine lv_if_ge (tgt := 14) hx hb dX15_row_7 (by decide) (fun c_7 => ?_) (fun c_7 => ?_)
  · have c_7 := row_t c_7
    refine lv_aload_n hx hb dX15_row_14 rfl (lv_at hl 0 rfl) ?_
    refine gf_RX15_25_19 S hE w m0 rfl dX15_row_15 ?_
    refine g_calli w (g_runV (As := []) (rest := [.ref y]) S hE w hl (c_size l D ar κ G sz (q + 2) 0 (some (κ 0)) 0 m3) (k_RX15_58 S.2.2.2.2 ⟨Nat.le_of_ble_eq_true rfl, Nat.le_of_ble_eq_true rfl⟩) m3 rfl rfl rfl rfl (Nat.le_of_ble_eq_true rfl) dX15_row_18 ⟨Nat.le_of_ble_eq_true rfl, Nat.le_of_ble_eq_true rfl⟩) (fun r u H locs hp hnz w => ?_)
    obtain ⟨rfl, rfl⟩ := hp
    dsimp only at w
    refine lv_bipush (v := 24) hx hb dX15_row_21 (by decide) ?_
    refine lv_icmp_ne (tgt := 30) hx hb dX15_row_23 (by decide) (fun _ => ?_) (fun c => absurd c (by decide))
    refine lv_iconst (v := 0) hx hb dX15_row_30 (by decide) ?_
    refine g_calli w (g_runV (As := [.int 0]) (rest := []) S hE w hl (c_isWrong l D ar κ G sz y 0 (some q) (some (q + 1)) (some (q + 2)) (some (q + 3)) (some (q + 4)) (some (q + 5)) (some (q + 6)) t 0 0 0 45 0 none m0) (k_RX15_77 S.2.2.2.2 ⟨Nat.le_of_ble_eq_true rfl, Nat.le_of_ble_eq_true rfl⟩) m0 rfl rfl rfl rfl (Nat.le_of_ble_eq_true rfl) dX15_row_31 ⟨Nat.le_of_ble_eq_true rfl, Nat.le_of_ble_eq_true rfl⟩) (fun r u H locs hp hnz w => ?_)
    obtain ⟨rfl, rfl⟩ := hp
    rw [show (if (0 : Int32) = 0 then (0 : Int32) else 1) = 0 from by decide]
    dsimp only at w
    refine lv_if_eq (tgt := 39) hx hb dX15_row_34 (by decide) (fun _ => ?_) (fun c => absurd (by decide) c)
    refine lv_aload_n hx hb dX15_row_39 rfl (lv_at hl 0 rfl) ?_
    refine gf_RX15_25_19 S hE w g_up_s rfl dX15_row_40 ?_
    refine nw_RX15_88 S hE w (Nat.le_of_ble_eq_true rfl) (Nat.le_of_ble_eq_true rfl) dX15_row_43 (fun H w => ?_)
    refine lv_dup hx hb dX15_row_46 rfl ?_
    refine lv_iload_n hx hb dX15_row_47 rfl (lv_at hl 1 rfl) ?_
    refine lv_iload_n hx hb dX15_row_48 rfl (lv_at hl 2 rfl) ?_
    refine lv_iload_n hx hb dX15_row_49 rfl (lv_at hl 3 rfl) ?_
    refine g_callv w (g_runI (As := [.int k, .int x1, .int y1]) (rest := [.ref sz, .ref (q + 2)]) S hE w hl (c_X12_init l D ar κ (g_up (g_up G y (.inr (19, [.ref q, .ref (q + 1), .ref (q + 2), .ref (q + 3), .ref (q + 4), .ref (q + 5), .ref (q + 6), .int 0, .int 0, .int 0, .int 0, .int 45, .int 0, .null]))) sz (.inr (16, [.int 0, .int 0, .int 0]))) (sz + 1) sz k x1 y1 g_up_s hk) (k_RX15_90 S.2.2.2.2 ⟨Nat.le_of_ble_eq_true rfl, Nat.le_of_ble_eq_true rfl⟩) rfl rfl (Nat.le_of_ble_eq_true rfl) dX15_row_50 ⟨Nat.le_of_ble_eq_true rfl, Nat.le_of_ble_eq_true rfl⟩) (fun u H locs hp hnz w => ?_)
    obtain rfl := hp
    dsimp only at w
    have w := g_eqw w g_over
    refine g_calli w (g_runV (As := [.ref sz]) (rest := []) S hE w hl (c_add1A_16 l D ar κ (g_up (g_up G y (.inr (19, [.ref q, .ref (q + 1), .ref (q + 2), .ref (q + 3), .ref (q + 4), .ref (q + 5), .ref (q + 6), .int 0, .int 0, .int 0, .int 0, .int 45, .int 0, .null]))) sz (.inr (16, [.int k, .int x1, .int y1]))) (sz + 1) (q + 2) sz 0 k x1 y1 (g_up_o (by omega) (g_up_o (g_nx m3 m0 (by simp)) m3)) g_up_s) (k_RX15_50 S.2.2.2.2 ⟨Nat.le_of_ble_eq_true rfl, Nat.le_of_ble_eq_true rfl⟩) (g_up_o (by omega) (g_up_o (g_nx m3 m0 (by simp)) m3)) rfl rfl rfl rfl (Nat.le_of_ble_eq_true rfl) dX15_row_53 ⟨Nat.le_of_ble_eq_true rfl, Nat.le_of_ble_eq_true rfl⟩) (fun r u H locs hp hnz w => ?_)
    obtain ⟨rfl, rfl⟩ := hp
    dsimp only at w
    rw [show ((0 + 1) : Int32) = 1 from by decide +kernel] at w
    refine lv_pop hx hb dX15_row_56 rfl ?_
    refine lv_aload_n hx hb dX15_row_57 rfl (lv_at hl 0 rfl) ?_
    refine gf_RX15_25_19 S hE w (g_up_o (by omega) (g_up_o (g_nx m0 m3 (by simp)) (g_up_o (by omega) g_up_s))) rfl dX15_row_58 ?_
    refine g_calli w (g_runV (As := []) (rest := []) S hE w hl (c_size l D ar κ (g_up (g_up (g_up (g_up G y (.inr (19, [.ref q, .ref (q + 1), .ref (q + 2), .ref (q + 3), .ref (q + 4), .ref (q + 5), .ref (q + 6), .int 0, .int 0, .int 0, .int 0, .int 45, .int 0, .null]))) sz (.inr (16, [.int k, .int x1, .int y1]))) (q + 2) (.inr (3, [.int 1, .ref (sz + 1), .int 1]))) (sz + 1) (.inl (ar 11, 10, .inr (.inr (.inr (.inr (va_up (fun _ => none) (Int32.toNatClampNeg 0) (some sz)))))))) (sz + 2) (q + 2) 1 (some (sz + 1)) 1 (g_up_o (by omega) g_up_s)) (k_RX15_58 S.2.2.2.2 ⟨Nat.le_of_ble_eq_true rfl, Nat.le_of_ble_eq_true rfl⟩) (g_up_o (by omega) g_up_s) rfl rfl rfl rfl (Nat.le_of_ble_eq_true rfl) dX15_row_61 ⟨Nat.le_of_ble_eq_true rfl, Nat.le_of_ble_eq_true rfl⟩) (fun r u H locs hp hnz w => ?_)
    obtain ⟨rfl, rfl⟩ := hp
    dsimp only at w
    exact g_iret hx hb hr hlk w (Nat.le_of_ble_eq_true rfl) (Nat.le_of_ble_eq_true rfl) dX15_row_64 ⟨(fun _ => rfl), TH_mk (T := 0) (g_up_o (by omega) (g_up_o (by omega) (g_up_o (by omega) g_up_s))) rfl (by simp [K_row, isB03, isB13, isB23, isPl0, isPl1, isPl2, c_7])⟩
  · have c_7 := row_f c_7
    refine lv_iconst (v := 1) hx hb dX15_row_10 (by decide) ?_
    refine lv_goto (tgt := 31) hx hb dX15_row_11 (by decide) ?_
    refine g_calli w (g_runV (As := [.int 1]) (rest := []) S hE w hl (c_isWrong l D ar κ G sz y 1 (some q) (some (q + 1)) (some (q + 2)) (some (q + 3)) (some (q + 4)) (some (q + 5)) (some (q + 6)) t 0 0 0 45 0 none m0) (k_RX15_77 S.2.2.2.2 ⟨Nat.le_of_ble_eq_true rfl, Nat.le_of_ble_eq_true rfl⟩) m0 rfl rfl rfl rfl (Nat.le_of_ble_eq_true rfl) dX15_row_31 ⟨Nat.le_of_ble_eq_true rfl, Nat.le_of_ble_eq_true rfl⟩) (fun r u H locs hp hnz w => ?_)
    obtain ⟨rfl, rfl⟩ := hp
    rw [show (if (1 : Int32) = 0 then (0 : Int32) else 1) = 1 from by decide]
    dsimp only at w
    refine lv_if_eq (tgt := 39) hx hb dX15_row_34 (by decide) (fun c => absurd c (by decide)) (fun _ => ?_)
    refine lv_iconst (v := 0) hx hb dX15_row_37 (by decide) ?_
    exact g_iret hx hb hr hlk w (Nat.le_of_ble_eq_true rfl) (Nat.le_of_ble_eq_true rfl) dX15_row_38 ⟨(nz_first (T := 1) (by simp [K_row, isB03, isB13, isB23, isPl0, isPl1, isPl2, c_7]) (by decide)), TH_mk (T := 1) g_up_s rfl (by simp [K_row, isB03, isB13, isB23, isPl0, isPl1, isPl2, c_7])⟩
theorem m_thrown (l : Launch) (D : va_G) (ar : Nat → ClassId) (κ : Nat → Nat) (G : gW) (sz : Nat) (y : Nat) (fs : List Value) (K : Int32) (hy : G y = some (.inr (19, fs))) (h7 : fs[7]? = some (.int K)) : Met l yX15_thrown (lwC yX15_thrown cX15_thrown 1 (some .int)) (rD 1 0 0) (g_Pc D vwCl (gT ar) (EX1 κ) G sz [.ref y]) (g_Qi D vwCl (g_A G sz) (fun r u => r = K ∧ u = (G, sz))) 0 0 (g_A G sz) := by
  refine g_ofW (by decide +kernel) (Nat.le_of_ble_eq_true rfl) ?_
  intro p e s m below meth c ls S hr hlk hin hE w hl
  have hx := S.1
  have hb := S.2.1
  have hl : lv_has ls 1 [(0, .ref y)] := hl
  refine lv_aload_n hx hb dX15_thrown_0 rfl (lv_at hl 0 rfl) ?_
  refine gf_RX15_54_19 S hE w hy h7 dX15_thrown_1 ?_
  exact g_iret hx hb hr hlk w (Nat.le_of_ble_eq_true rfl) (Nat.le_of_ble_eq_true rfl) dX15_thrown_4 ⟨rfl, rfl⟩
