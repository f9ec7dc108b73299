theorem dJ7_checkLength_df160_0 : decode cJ7_checkLength_df160 0 = .ok (.iload_n 1, 1) := by decide +kernel
theorem dJ7_checkLength_df160_1 : decode cJ7_checkLength_df160 1 = .ok (.iload_n 0, 1) := by decide +kernel
theorem dJ7_checkLength_df160_2 : decode cJ7_checkLength_df160 2 = .ok (.if_icmp .ge 35, 3) := by decide +kernel
theorem dJ7_checkLength_df160_5 : decode cJ7_checkLength_df160 5 = .ok (.new 43, 3) := by decide +kernel
theorem dJ7_checkLength_df160_8 : decode cJ7_checkLength_df160 8 = .ok (.dup, 1) := by decide +kernel
theorem dJ7_checkLength_df160_9 : decode cJ7_checkLength_df160 9 = .ok (.new 45, 3) := by decide +kernel
theorem dJ7_checkLength_df160_12 : decode cJ7_checkLength_df160 12 = .ok (.dup, 1) := by decide +kernel
theorem dJ7_checkLength_df160_13 : decode cJ7_checkLength_df160 13 = .ok (.invokespecial 47, 3) := by decide +kernel
theorem dJ7_checkLength_df160_16 : decode cJ7_checkLength_df160 16 = .ok (.iload_n 0, 1) := by decide +kernel
theorem dJ7_checkLength_df160_17 : decode cJ7_checkLength_df160 17 = .ok (.invokevirtual 54, 3) := by decide +kernel
theorem dJ7_checkLength_df160_20 : decode cJ7_checkLength_df160 20 = .ok (.ldc_w 337, 3) := by decide +kernel
theorem dJ7_checkLength_df160_23 : decode cJ7_checkLength_df160 23 = .ok (.invokevirtual 50, 3) := by decide +kernel
theorem dJ7_checkLength_df160_26 : decode cJ7_checkLength_df160 26 = .ok (.iload_n 1, 1) := by decide +kernel
theorem dJ7_checkLength_df160_27 : decode cJ7_checkLength_df160 27 = .ok (.invokevirtual 54, 3) := by decide +kernel
theorem dJ7_checkLength_df160_30 : decode cJ7_checkLength_df160 30 = .ok (.invokevirtual 61, 3) := by decide +kernel
theorem dJ7_checkLength_df160_33 : decode cJ7_checkLength_df160 33 = .ok (.invokespecial 65, 3) := by decide +kernel
theorem dJ7_checkLength_df160_36 : decode cJ7_checkLength_df160 36 = .ok (.athrow, 1) := by decide +kernel
theorem dJ7_checkLength_df160_37 : decode cJ7_checkLength_df160 37 = .ok (.return_, 1) := by decide +kernel
theorem dJ7_copyOfRangeByte_39247_0 : decode cJ7_copyOfRangeByte_39247 0 = .ok (.iload_n 1, 1) := by decide +kernel
theorem dJ7_copyOfRangeByte_39247_1 : decode cJ7_copyOfRangeByte_39247 1 = .ok (.iload_n 2, 1) := by decide +kernel
theorem dJ7_copyOfRangeByte_39247_2 : decode cJ7_copyOfRangeByte_39247 2 = .ok (.invokestatic 343, 3) := by decide +kernel
theorem dJ7_copyOfRangeByte_39247_5 : decode cJ7_copyOfRangeByte_39247 5 = .ok (.iload_n 2, 1) := by decide +kernel
theorem dJ7_copyOfRangeByte_39247_6 : decode cJ7_copyOfRangeByte_39247 6 = .ok (.iload_n 1, 1) := by decide +kernel
theorem dJ7_copyOfRangeByte_39247_7 : decode cJ7_copyOfRangeByte_39247 7 = .ok (.isub, 1) := by decide +kernel
theorem dJ7_copyOfRangeByte_39247_8 : decode cJ7_copyOfRangeByte_39247 8 = .ok (.istore_n 3, 1) := by decide +kernel
theorem dJ7_copyOfRangeByte_39247_9 : decode cJ7_copyOfRangeByte_39247 9 = .ok (.iload_n 3, 1) := by decide +kernel
theorem dJ7_copyOfRangeByte_39247_10 : decode cJ7_copyOfRangeByte_39247 10 = .ok (.newarray .byte, 2) := by decide +kernel
theorem dJ7_copyOfRangeByte_39247_12 : decode cJ7_copyOfRangeByte_39247 12 = .ok (.astore 4, 2) := by decide +kernel
theorem dJ7_copyOfRangeByte_39247_14 : decode cJ7_copyOfRangeByte_39247 14 = .ok (.aload_n 0, 1) := by decide +kernel
theorem dJ7_copyOfRangeByte_39247_15 : decode cJ7_copyOfRangeByte_39247 15 = .ok (.iload_n 1, 1) := by decide +kernel
theorem dJ7_copyOfRangeByte_39247_16 : decode cJ7_copyOfRangeByte_39247 16 = .ok (.aload 4, 2) := by decide +kernel
theorem dJ7_copyOfRangeByte_39247_18 : decode cJ7_copyOfRangeByte_39247 18 = .ok (.iconst 0, 1) := by decide +kernel
theorem dJ7_copyOfRangeByte_39247_19 : decode cJ7_copyOfRangeByte_39247 19 = .ok (.aload_n 0, 1) := by decide +kernel
theorem dJ7_copyOfRangeByte_39247_20 : decode cJ7_copyOfRangeByte_39247 20 = .ok (.arraylength, 1) := by decide +kernel
theorem dJ7_copyOfRangeByte_39247_21 : decode cJ7_copyOfRangeByte_39247 21 = .ok (.iload_n 1, 1) := by decide +kernel
theorem dJ7_copyOfRangeByte_39247_22 : decode cJ7_copyOfRangeByte_39247 22 = .ok (.isub, 1) := by decide +kernel
theorem dJ7_copyOfRangeByte_39247_23 : decode cJ7_copyOfRangeByte_39247 23 = .ok (.iload_n 3, 1) := by decide +kernel
theorem dJ7_copyOfRangeByte_39247_24 : decode cJ7_copyOfRangeByte_39247 24 = .ok (.invokestatic 304, 3) := by decide +kernel
theorem dJ7_copyOfRangeByte_39247_27 : decode cJ7_copyOfRangeByte_39247 27 = .ok (.invokestatic 150, 3) := by decide +kernel
theorem dJ7_copyOfRangeByte_39247_30 : decode cJ7_copyOfRangeByte_39247 30 = .ok (.aload 4, 2) := by decide +kernel
theorem dJ7_copyOfRangeByte_39247_32 : decode cJ7_copyOfRangeByte_39247 32 = .ok (.areturn, 1) := by decide +kernel
theorem dJ7_copyOfRange_39247_0 : decode cJ7_copyOfRange_39247 0 = .ok (.iload_n 1, 1) := by decide +kernel
theorem dJ7_copyOfRange_39247_1 : decode cJ7_copyOfRange_39247 1 = .ok (.ifCond .ne 9, 3) := by decide +kernel
theorem dJ7_copyOfRange_39247_4 : decode cJ7_copyOfRange_39247 4 = .ok (.iload_n 2, 1) := by decide +kernel
theorem dJ7_copyOfRange_39247_5 : decode cJ7_copyOfRange_39247 5 = .ok (.aload_n 0, 1) := by decide +kernel
theorem dJ7_copyOfRange_39247_6 : decode cJ7_copyOfRange_39247 6 = .ok (.arraylength, 1) := by decide +kernel
theorem dJ7_copyOfRange_39247_7 : decode cJ7_copyOfRange_39247 7 = .ok (.if_icmp .eq 10, 3) := by decide +kernel
theorem dJ7_copyOfRange_39247_10 : decode cJ7_copyOfRange_39247 10 = .ok (.aload_n 0, 1) := by decide +kernel
theorem dJ7_copyOfRange_39247_11 : decode cJ7_copyOfRange_39247 11 = .ok (.iload_n 1, 1) := by decide +kernel
theorem dJ7_copyOfRange_39247_12 : decode cJ7_copyOfRange_39247 12 = .ok (.iload_n 2, 1) := by decide +kernel
theorem dJ7_copyOfRange_39247_13 : decode cJ7_copyOfRange_39247 13 = .ok (.invokestatic 339, 3) := by decide +kernel
theorem dJ7_copyOfRange_39247_16 : decode cJ7_copyOfRange_39247 16 = .ok (.areturn, 1) := by decide +kernel
theorem dJ7_copyOfRange_39247_17 : decode cJ7_copyOfRange_39247 17 = .ok (.aload_n 0, 1) := by decide +kernel
theorem dJ7_copyOfRange_39247_18 : decode cJ7_copyOfRange_39247 18 = .ok (.invokevirtual 310, 3) := by decide +kernel
theorem dJ7_copyOfRange_39247_21 : decode cJ7_copyOfRange_39247 21 = .ok (.checkcast 311, 3) := by decide +kernel
theorem dJ7_copyOfRange_39247_24 : decode cJ7_copyOfRange_39247 24 = .ok (.areturn, 1) := by decide +kernel
theorem dJ0_init_031fb_0 : decode cJ0_init_031fb 0 = .ok (.aload_n 0, 1) := by decide +kernel
theorem dJ0_init_031fb_1 : decode cJ0_init_031fb 1 = .ok (.invokespecial 1, 3) := by decide +kernel
theorem dJ0_init_031fb_4 : decode cJ0_init_031fb 4 = .ok (.aload_n 0, 1) := by decide +kernel
theorem dJ0_init_031fb_5 : decode cJ0_init_031fb 5 = .ok (.aload_n 1, 1) := by decide +kernel
theorem dJ0_init_031fb_6 : decode cJ0_init_031fb 6 = .ok (.putfield 9, 3) := by decide +kernel
theorem dJ0_init_031fb_9 : decode cJ0_init_031fb 9 = .ok (.aload_n 0, 1) := by decide +kernel
theorem dJ0_init_031fb_10 : decode cJ0_init_031fb 10 = .ok (.iload_n 2, 1) := by decide +kernel
theorem dJ0_init_031fb_11 : decode cJ0_init_031fb 11 = .ok (.putfield 15, 3) := by decide +kernel
theorem dJ0_init_031fb_14 : decode cJ0_init_031fb 14 = .ok (.return_, 1) := by decide +kernel
theorem dJ1_newString_b4f7a_0 : decode cJ1_newString_b4f7a 0 = .ok (.iload_n 2, 1) := by decide +kernel
theorem dJ1_newString_b4f7a_1 : decode cJ1_newString_b4f7a 1 = .ok (.ifCond .ne 6, 3) := by decide +kernel
theorem dJ1_newString_b4f7a_4 : decode cJ1_newString_b4f7a 4 = .ok (.ldc 151, 2) := by decide +kernel
theorem dJ1_newString_b4f7a_6 : decode cJ1_newString_b4f7a 6 = .ok (.areturn, 1) := by decide +kernel
theorem dJ1_newString_b4f7a_7 : decode cJ1_newString_b4f7a 7 = .ok (.new 1, 3) := by decide +kernel
theorem dJ1_newString_b4f7a_10 : decode cJ1_newString_b4f7a 10 = .ok (.dup, 1) := by decide +kernel
theorem dJ1_newString_b4f7a_11 : decode cJ1_newString_b4f7a 11 = .ok (.aload_n 0, 1) := by decide +kernel
theorem dJ1_newString_b4f7a_12 : decode cJ1_newString_b4f7a 12 = .ok (.iload_n 1, 1) := by decide +kernel
theorem dJ1_newString_b4f7a_13 : decode cJ1_newString_b4f7a 13 = .ok (.iload_n 1, 1) := by decide +kernel
theorem dJ1_newString_b4f7a_14 : decode cJ1_newString_b4f7a 14 = .ok (.iload_n 2, 1) := by decide +kernel
theorem dJ1_newString_b4f7a_15 : decode cJ1_newString_b4f7a 15 = .ok (.iadd, 1) := by decide +kernel
theorem dJ1_newString_b4f7a_16 : decode cJ1_newString_b4f7a 16 = .ok (.invokestatic 232, 3) := by decide +kernel
theorem dJ1_newString_b4f7a_19 : decode cJ1_newString_b4f7a 19 = .ok (.iconst 0, 1) := by decide +kernel
theorem dJ1_newString_b4f7a_20 : decode cJ1_newString_b4f7a 20 = .ok (.invokespecial 112, 3) := by decide +kernel
theorem dJ1_newString_b4f7a_23 : decode cJ1_newString_b4f7a 23 = .ok (.areturn, 1) := by decide +kernel
theorem dJ0_substring_37a41_0 : decode cJ0_substring_37a41 0 = .ok (.aload_n 0, 1) := by decide +kernel
theorem dJ0_substring_37a41_1 : decode cJ0_substring_37a41 1 = .ok (.invokevirtual 505, 3) := by decide +kernel
theorem dJ0_substring_37a41_4 : decode cJ0_substring_37a41 4 = .ok (.istore_n 3, 1) := by decide +kernel
theorem dJ0_substring_37a41_5 : decode cJ0_substring_37a41 5 = .ok (.iload_n 1, 1) := by decide +kernel
theorem dJ0_substring_37a41_6 : decode cJ0_substring_37a41 6 = .ok (.iload_n 2, 1) := by decide +kernel
theorem dJ0_substring_37a41_7 : decode cJ0_substring_37a41 7 = .ok (.iload_n 3, 1) := by decide +kernel
theorem dJ0_substring_37a41_8 : decode cJ0_substring_37a41 8 = .ok (.invokestatic 521, 3) := by decide +kernel
theorem dJ0_substring_37a41_11 : decode cJ0_substring_37a41 11 = .ok (.iload_n 1, 1) := by decide +kernel
theorem dJ0_substring_37a41_12 : decode cJ0_substring_37a41 12 = .ok (.ifCond .ne 10, 3) := by decide +kernel
theorem dJ0_substring_37a41_15 : decode cJ0_substring_37a41 15 = .ok (.iload_n 2, 1) := by decide +kernel
theorem dJ0_substring_37a41_16 : decode cJ0_substring_37a41 16 = .ok (.iload_n 3, 1) := by decide +kernel
theorem dJ0_substring_37a41_17 : decode cJ0_substring_37a41 17 = .ok (.if_icmp .ne 5, 3) := by decide +kernel
theorem dJ0_substring_37a41_20 : decode cJ0_substring_37a41 20 = .ok (.aload_n 0, 1) := by decide +kernel
theorem dJ0_substring_37a41_21 : decode cJ0_substring_37a41 21 = .ok (.areturn, 1) := by decide +kernel
theorem dJ0_substring_37a41_22 : decode cJ0_substring_37a41 22 = .ok (.iload_n 2, 1) := by decide +kernel
theorem dJ0_substring_37a41_23 : decode cJ0_substring_37a41 23 = .ok (.iload_n 1, 1) := by decide +kernel
theorem dJ0_substring_37a41_24 : decode cJ0_substring_37a41 24 = .ok (.isub, 1) := by decide +kernel
theorem dJ0_substring_37a41_25 : decode cJ0_substring_37a41 25 = .ok (.istore 4, 2) := by decide +kernel
theorem dJ0_substring_37a41_27 : decode cJ0_substring_37a41 27 = .ok (.aload_n 0, 1) := by decide +kernel
theorem dJ0_substring_37a41_28 : decode cJ0_substring_37a41 28 = .ok (.invokevirtual 492, 3) := by decide +kernel
theorem dJ0_substring_37a41_31 : decode cJ0_substring_37a41 31 = .ok (.ifCond .eq 16, 3) := by decide +kernel
theorem dJ0_substring_37a41_34 : decode cJ0_substring_37a41 34 = .ok (.aload_n 0, 1) := by decide +kernel
theorem dJ0_substring_37a41_35 : decode cJ0_substring_37a41 35 = .ok (.getfield 9, 3) := by decide +kernel
theorem dJ0_substring_37a41_38 : decode cJ0_substring_37a41 38 = .ok (.iload_n 1, 1) := by decide +kernel
theorem dJ0_substring_37a41_39 : decode cJ0_substring_37a41 39 = .ok (.iload 4, 2) := by decide +kernel
theorem dJ0_substring_37a41_41 : decode cJ0_substring_37a41 41 = .ok (.invokestatic 685, 3) := by decide +kernel
theorem dJ0_substring_37a41_44 : decode cJ0_substring_37a41 44 = .ok (.goto 13, 3) := by decide +kernel
theorem dJ0_substring_37a41_47 : decode cJ0_substring_37a41 47 = .ok (.aload_n 0, 1) := by decide +kernel
theorem dJ0_substring_37a41_48 : decode cJ0_substring_37a41 48 = .ok (.getfield 9, 3) := by decide +kernel
theorem dJ0_substring_37a41_51 : decode cJ0_substring_37a41 51 = .ok (.iload_n 1, 1) := by decide +kernel
theorem dJ0_substring_37a41_52 : decode cJ0_substring_37a41 52 = .ok (.iload 4, 2) := by decide +kernel
theorem dJ0_substring_37a41_54 : decode cJ0_substring_37a41 54 = .ok (.invokestatic 689, 3) := by decide +kernel
theorem dJ0_substring_37a41_57 : decode cJ0_substring_37a41 57 = .ok (.areturn, 1) := by decide +kernel
theorem dJ0_substring_b52d3_0 : decode cJ0_substring_b52d3 0 = .ok (.aload_n 0, 1) := by decide +kernel
theorem dJ0_substring_b52d3_1 : decode cJ0_substring_b52d3 1 = .ok (.iload_n 1, 1) := by decide +kernel
theorem dJ0_substring_b52d3_2 : decode cJ0_substring_b52d3 2 = .ok (.aload_n 0, 1) := by decide +kernel
theorem dJ0_substring_b52d3_3 : decode cJ0_substring_b52d3 3 = .ok (.invokevirtual 505, 3) := by decide +kernel
theorem dJ0_substring_b52d3_6 : decode cJ0_substring_b52d3 6 = .ok (.invokevirtual 681, 3) := by decide +kernel
theorem dJ0_substring_b52d3_9 : decode cJ0_substring_b52d3 9 = .ok (.areturn, 1) := by decide +kernel
section SITES
variable {p : Program} {l : Launch} {e : Env} {R : Room} {s : State} {m : MethodId} {args : Array Value} {below : List Frame} {meth : Method} {c : Code} {H : Heap} {locs : List Loc} {cells slots : Nat} {Q : State → Prop}
variable {pc : Nat} {ls : Array Slot} {rest : List Value} {D : va_G} {ar : Nat → ClassId} {κ : Nat → Nat} {A : Nat → Prop} {a : Nat} {H0 : Heap} {G : gW} {nz nL : Nat} {cc : ByteArray}
theorem m_5_107 : (Cond.code yJ7_checkLength_df160 cJ7_checkLength_df160 2 none) ∈ lwA := lwA_mk (ck_5 _ (List.mem_of_getElem? (i := 107) rfl)) rfl
theorem m_5_105 : (Cond.methodLink RJ7 343 yJ7_checkLength_df160) ∈ lwA := lwA_mk (ck_5 _ (List.mem_of_getElem? (i := 105) rfl)) rfl
theorem m_5_106 : (Cond.static yJ7_checkLength_df160) ∈ lwA := lwA_mk (ck_5 _ (List.mem_of_getElem? (i := 106) rfl)) rfl
theorem k_RJ7_343 {args : Array Value} {s : State} {R rm : Room} (hts : ∀ w ∈ lwA, w.before args s = true) (hR : rm.frames + 1 ≤ R.frames ∧ 8 + (2 + 11) + rm.locals ≤ R.locals) : CallB R s args RJ7 343 yJ7_checkLength_df160 cJ7_checkLength_df160 2 none (lwC yJ7_checkLength_df160 cJ7_checkLength_df160 2 none) rm rm.cells rm.slots 2 ∧ (Cond.static yJ7_checkLength_df160).before args s = true := cwS 2 hts (gdS m_5_105 m_5_106 m_1_10 m_5_107) rfl rfl rfl (by decide +kernel) hR
theorem m_2_133 : (Cond.arrayClass .byte) ∈ lwA := lwA_mk (ck_2 _ (List.mem_of_getElem? (i := 133) rfl)) rfl
theorem m_4_99 : (Cond.methodLink RJ7 304 yJ9_min_7cf53) ∈ lwA := lwA_mk (ck_4 _ (List.mem_of_getElem? (i := 99) rfl)) rfl
theorem m_4_102 : (Cond.methodLink RJ7 150 arraycopyName) ∈ lwA := lwA_mk (ck_4 _ (List.mem_of_getElem? (i := 102) rfl)) rfl
theorem m_4_104 : (Cond.native arraycopyName) ∈ lwA := lwA_mk (ck_4 _ (List.mem_of_getElem? (i := 104) rfl)) rfl
theorem m_4_103 : (Cond.static arraycopyName) ∈ lwA := lwA_mk (ck_4 _ (List.mem_of_getElem? (i := 103) rfl)) rfl
theorem m_1_25 : (Cond.initialized "java/lang/System") ∈ lwA := lwA_mk (ck_1 _ (List.mem_of_getElem? (i := 25) rfl)) rfl
theorem m_5_104 : (Cond.code yJ7_copyOfRangeByte_39247 cJ7_copyOfRangeByte_39247 5 (some (.array .byte))) ∈ lwA := lwA_mk (ck_5 _ (List.mem_of_getElem? (i := 104) rfl)) rfl
theorem m_5_102 : (Cond.methodLink RJ7 339 yJ7_copyOfRangeByte_39247) ∈ lwA := lwA_mk (ck_5 _ (List.mem_of_getElem? (i := 102) rfl)) rfl
theorem m_5_103 : (Cond.static yJ7_copyOfRangeByte_39247) ∈ lwA := lwA_mk (ck_5 _ (List.mem_of_getElem? (i := 103) rfl)) rfl
theorem k_RJ7_339 {args : Array Value} {s : State} {R rm : Room} (hts : ∀ w ∈ lwA, w.before args s = true) (hR : rm.frames + 1 ≤ R.frames ∧ 8 + (5 + 11) + rm.locals ≤ R.locals) : CallB R s args RJ7 339 yJ7_copyOfRangeByte_39247 cJ7_copyOfRangeByte_39247 5 (some (.array .byte)) (lwC yJ7_copyOfRangeByte_39247 cJ7_copyOfRangeByte_39247 5 (some (.array .byte))) rm rm.cells rm.slots 3 ∧ (Cond.static yJ7_copyOfRangeByte_39247).before args s = true := cwS 3 hts (gdS m_5_102 m_5_103 m_1_10 m_5_104) rfl rfl rfl (by decide +kernel) hR
theorem m_4_206 : (Cond.methodLink RJ7 310 ⟨"[B", "clone", "()Ljava/lang/Object;"⟩) ∈ lwA := lwA_mk (ck_4 _ (List.mem_of_getElem? (i := 206) rfl)) rfl
theorem m_4_207 : (Cond.sameMethod "[B" "java/lang/Object" "clone" "()Ljava/lang/Object;") ∈ lwA := lwA_mk (ck_4 _ (List.mem_of_getElem? (i := 207) rfl)) rfl
theorem m_4_208 : (Cond.native ⟨"java/lang/Object", "clone", "()Ljava/lang/Object;"⟩) ∈ lwA := lwA_mk (ck_4 _ (List.mem_of_getElem? (i := 208) rfl)) rfl
theorem m_4_209 : (Cond.instanceMethod ⟨"java/lang/Object", "clone", "()Ljava/lang/Object;"⟩) ∈ lwA := lwA_mk (ck_4 _ (List.mem_of_getElem? (i := 209) rfl)) rfl
theorem m_4_210 : (Cond.selects "[B" ⟨"[B", "clone", "()Ljava/lang/Object;"⟩ ⟨"java/lang/Object", "clone", "()Ljava/lang/Object;"⟩) ∈ lwA := lwA_mk (ck_4 _ (List.mem_of_getElem? (i := 210) rfl)) rfl
theorem m_4_212 : (Cond.classLink RJ7 311 "[B") ∈ lwA := lwA_mk (ck_4 _ (List.mem_of_getElem? (i := 212) rfl)) rfl
theorem m_5_84 : (Cond.methodLink RJ0 1 objectInit) ∈ lwA := lwA_mk (ck_5 _ (List.mem_of_getElem? (i := 84) rfl)) rfl
theorem pf_RJ0_9_0 {A9 : Nat → Prop} {H9 : Heap} {fs : List Value} {v : Value} (S : CallFix p m c cc nL s args lwA RJ0) (hE : g_E D vwCl (gT ar) (EX1 κ) A9 s H9) (hin : meth.name = "<init>") (w : g_S D vwCl A H0 G H locs nz) (ha : G a = some (.inr (0, fs))) (hn : narrow (.array .byte) v = v) (hfit : fits (.array .byte) v = true) (hl : 0 < fs.length) {fs1 : List Value} (hfs : fs.set 0 v = fs1) (hdg : decode cc pc = .ok (.putfield 9, 3)) (kk : ∀ (H1 : Heap) (locs1 : List Loc), g_S D vwCl A H0 (g_up G a (.inr (0, fs1))) H1 locs1 nz → W p l e R s m args below meth c H1 locs1 cells slots Q (F0 m (pc + 3) ls rest)) : W p l e R s m args below meth c H locs cells slots Q (F0 m pc ls (v :: .ref a :: rest)) :=
  g_putF (ci := 0) (ty := (.array .byte)) (C := RJ0) (T := TJ0) (N := 4) S.1 S.2.1 S.2.2.2.2 inA_RJ0 tyJ0 tyJ0_ok nmJ0 S.2.2.2.1 hE.1 w ha rfl 0 (by decide) (S.2.2.2.2 _ m_5_129) (fun _ h => h) rfl hin rfl (by decide +kernel) hn hfit hl hdg (fun H1 l1 w1 => kk H1 l1 (by rw [← hfs]; exact w1))
theorem pf_RJ0_15_0 {A9 : Nat → Prop} {H9 : Heap} {fs : List Value} {v : Value} (S : CallFix p m c cc nL s args lwA RJ0) (hE : g_E D vwCl (gT ar) (EX1 κ) A9 s H9) (hin : meth.name = "<init>") (w : g_S D vwCl A H0 G H locs nz) (ha : G a = some (.inr (0, fs))) (hn : narrow .byte v = v) (hfit : fits .byte v = true) (hl : 1 < fs.length) {fs1 : List Value} (hfs : fs.set 1 v = fs1) (hdg : decode cc pc = .ok (.putfield 15, 3)) (kk : ∀ (H1 : Heap) (locs1 : List Loc), g_S D vwCl A H0 (g_up G a (.inr (0, fs1))) H1 locs1 nz → W p l e R s m args below meth c H1 locs1 cells slots Q (F0 m (pc + 3) ls rest)) : W p l e R s m args below meth c H locs cells slots Q (F0 m pc ls (v :: .ref a :: rest)) :=
  g_putF (ci := 0) (ty := .byte) (C := RJ0) (T := TJ0) (N := 4) S.1 S.2.1 S.2.2.2.2 inA_RJ0 tyJ0 tyJ0_ok nmJ0 S.2.2.2.1 hE.1 w ha rfl 1 (by decide) (S.2.2.2.2 _ m_5_130) (fun _ h => h) rfl hin rfl (by decide +kernel) hn hfit hl hdg (fun H1 l1 w1 => kk H1 l1 (by rw [← hfs]; exact w1))
theorem m_6_20 : (Cond.classLink RJ1 1 RJ0) ∈ lwA := lwA_mk (ck_6 _ (List.mem_of_getElem? (i := 20) rfl)) rfl
theorem m_2_132 : (Cond.instantiable RJ0 4) ∈ lwA := lwA_mk (ck_2 _ (List.mem_of_getElem? (i := 132) rfl)) rfl
theorem nw_RJ1_1 {A9 : Nat → Prop} {H9 : Heap} (S : CallFix p m c cc nL s args lwA RJ1) (hE : g_E D vwCl (gT ar) (EX1 κ) A9 s H9) (w : g_S D vwCl A H0 G H locs nz) (hcells : cells + 1 ≤ R.cells) (hslots : slots + 4 ≤ R.slots) (hdg : decode cc pc = .ok (.new 1, 3)) (kk : ∀ (H1 : Heap), g_S D vwCl A H0 (g_up G nz (.inr (0, [.null, .int 0, .int 0, .int 0]))) H1 locs (nz + 1) → W p l e R s m args below meth c H1 locs (cells + 1) (slots + 4) Q (F0 m (pc + 3) ls (.ref nz :: rest))) : W p l e R s m args below meth c H locs cells slots Q (F0 m pc ls rest) :=
  g_new (ci := 0) (fs := [.null, .int 0, .int 0, .int 0]) (C := RJ0) (T := TJ0) (N := 4) S.1 S.2.1 S.2.2.2.2 inA_RJ0 tyJ0 tyJ0_ok S.2.2.2.1 (S.2.2.2.2 _ m_6_20) (S.2.2.2.2 _ m_2_132) (S.2.2.2.2 _ m_1_17) hE.1 w rfl (fun j hj => by rcases (show j = 0 ∨ j = 1 ∨ j = 2 ∨ j = 3 by omega) with rfl | rfl | rfl | rfl <;> rfl) hcells hslots hdg kk
theorem m_5_101 : (Cond.code yJ7_copyOfRange_39247 cJ7_copyOfRange_39247 3 (some (.array .byte))) ∈ lwA := lwA_mk (ck_5 _ (List.mem_of_getElem? (i := 101) rfl)) rfl
theorem m_6_21 : (Cond.methodLink RJ1 232 yJ7_copyOfRange_39247) ∈ lwA := lwA_mk (ck_6 _ (List.mem_of_getElem? (i := 21) rfl)) rfl
theorem m_5_100 : (Cond.static yJ7_copyOfRange_39247) ∈ lwA := lwA_mk (ck_5 _ (List.mem_of_getElem? (i := 100) rfl)) rfl
theorem k_RJ1_232 {args : Array Value} {s : State} {R rm : Room} (hts : ∀ w ∈ lwA, w.before args s = true) (hR : rm.frames + 1 ≤ R.frames ∧ 8 + (3 + 11) + rm.locals ≤ R.locals) : CallB R s args RJ1 232 yJ7_copyOfRange_39247 cJ7_copyOfRange_39247 3 (some (.array .byte)) (lwC yJ7_copyOfRange_39247 cJ7_copyOfRange_39247 3 (some (.array .byte))) rm rm.cells rm.slots 3 ∧ (Cond.static yJ7_copyOfRange_39247).before args s = true := va_cwS 3 hts (gdT m_6_21 m_5_100 m_1_10 m_5_101) rfl rfl rfl (by decide +kernel) hR
theorem m_6_7 : (Cond.code yJ0_init_031fb cJ0_init_031fb 3 none) ∈ lwA := lwA_mk (ck_6 _ (List.mem_of_getElem? (i := 7) rfl)) rfl
theorem m_6_22 : (Cond.methodLink RJ1 112 yJ0_init_031fb) ∈ lwA := lwA_mk (ck_6 _ (List.mem_of_getElem? (i := 22) rfl)) rfl
theorem m_6_6 : (Cond.instanceMethod yJ0_init_031fb) ∈ lwA := lwA_mk (ck_6 _ (List.mem_of_getElem? (i := 6) rfl)) rfl
theorem k_RJ1_112 {args : Array Value} {s : State} {R rm : Room} (hts : ∀ w ∈ lwA, w.before args s = true) (hR : rm.frames + 1 ≤ R.frames ∧ 8 + (3 + 11) + rm.locals ≤ R.locals) : CallB R s args RJ1 112 yJ0_init_031fb cJ0_init_031fb 3 none (lwC yJ0_init_031fb cJ0_init_031fb 3 none) rm rm.cells rm.slots 2 ∧ yJ0_init_031fb.name = "<init>" ∧ (Cond.instanceMethod yJ0_init_031fb).before args s = true := cwI 2 hts (gd m_6_7) rfl rfl rfl (hts _ m_1_17) (hts _ m_6_22) (hts _ m_6_6) rfl (by decide +kernel) hR
def lwT_4 : String × Nat × String × Nat × List Int32 := ("java/lang/StringLatin1", 151, "", 28, [])
theorem lwT_m4 : lwT_4 ∈ lwT := List.mem_of_getElem? (i := 4) rfl
theorem m_4_229 : (Cond.code yJ0_checkBoundsBeginEnd_23922 cJ0_checkBoundsBeginEnd_23922 3 none) ∈ lwA := lwA_mk (ck_4 _ (List.mem_of_getElem? (i := 229) rfl)) rfl
theorem m_6_15 : (Cond.methodLink RJ0 521 yJ0_checkBoundsBeginEnd_23922) ∈ lwA := lwA_mk (ck_6 _ (List.mem_of_getElem? (i := 15) rfl)) rfl
theorem m_4_228 : (Cond.static yJ0_checkBoundsBeginEnd_23922) ∈ lwA := lwA_mk (ck_4 _ (List.mem_of_getElem? (i := 228) rfl)) rfl
theorem k_RJ0_521 {args : Array Value} {s : State} {R rm : Room} (hts : ∀ w ∈ lwA, w.before args s = true) (hR : rm.frames + 1 ≤ R.frames ∧ 8 + (3 + 11) + rm.locals ≤ R.locals) : CallB R s args RJ0 521 yJ0_checkBoundsBeginEnd_23922 cJ0_checkBoundsBeginEnd_23922 3 none (lwC yJ0_checkBoundsBeginEnd_23922 cJ0_checkBoundsBeginEnd_23922 3 none) rm rm.cells rm.slots 3 ∧ (Cond.static yJ0_checkBoundsBeginEnd_23922).before args s = true := cwS 3 hts (gdS m_6_15 m_4_228 m_1_17 m_4_229) rfl rfl rfl (by decide +kernel) hR
theorem m_6_18 : (Cond.code yJ1_newString_b4f7a cJ1_newString_b4f7a 3 (some (.object "java/lang/String"))) ∈ lwA := lwA_mk (ck_6 _ (List.mem_of_getElem? (i := 18) rfl)) rfl
theorem m_6_16 : (Cond.methodLink RJ0 685 yJ1_newString_b4f7a) ∈ lwA := lwA_mk (ck_6 _ (List.mem_of_getElem? (i := 16) rfl)) rfl
theorem m_6_17 : (Cond.static yJ1_newString_b4f7a) ∈ lwA := lwA_mk (ck_6 _ (List.mem_of_getElem? (i := 17) rfl)) rfl
theorem k_RJ0_685 {args : Array Value} {s : State} {R rm : Room} (hts : ∀ w ∈ lwA, w.before args s = true) (hR : rm.frames + 1 ≤ R.frames ∧ 8 + (3 + 11) + rm.locals ≤ R.locals) : CallB R s args RJ0 685 yJ1_newString_b4f7a cJ1_newString_b4f7a 3 (some (.object "java/lang/String")) (lwC yJ1_newString_b4f7a cJ1_newString_b4f7a 3 (some (.object "java/lang/String"))) rm rm.cells rm.slots 3 ∧ (Cond.static yJ1_newString_b4f7a).before args s = true := va_cwS 3 hts (gdT m_6_16 m_6_17 m_1_27 m_6_18) rfl rfl rfl (by decide +kernel) hR
theorem m_6_14 : (Cond.code yJ0_substring_37a41 cJ0_substring_37a41 5 (some (.object "java/lang/String"))) ∈ lwA := lwA_mk (ck_6 _ (List.mem_of_getElem? (i := 14) rfl)) rfl
theorem m_6_11 : (Cond.methodLink RJ0 681 yJ0_substring_37a41) ∈ lwA := lwA_mk (ck_6 _ (List.mem_of_getElem? (i := 11) rfl)) rfl
theorem m_6_12 : (Cond.instanceMethod yJ0_substring_37a41) ∈ lwA := lwA_mk (ck_6 _ (List.mem_of_getElem? (i := 12) rfl)) rfl
theorem m_6_13 : (Cond.selects RJ0 yJ0_substring_37a41 yJ0_substring_37a41) ∈ lwA := lwA_mk (ck_6 _ (List.mem_of_getElem? (i := 13) rfl)) rfl
theorem k_RJ0_681 {args : Array Value} {s : State} {R rm : Room} (hts : ∀ w ∈ lwA, w.before args s = true) (hR : rm.frames + 1 ≤ R.frames ∧ 8 + (5 + 11) + rm.locals ≤ R.locals) : CallW R s args RJ0 RJ0 681 yJ0_substring_37a41 cJ0_substring_37a41 5 (some (.object "java/lang/String")) (lwC yJ0_substring_37a41 cJ0_substring_37a41 5 (some (.object "java/lang/String"))) rm rm.cells rm.slots 2 := cwV 2 hts (gdV m_6_11 m_6_12 m_6_13 m_1_17 m_6_14) rfl rfl rfl (by decide +kernel) hR
end SITES
set_option maxHeartbeats 4000000 in
set_option maxRecDepth 100000 in
theorem j_checkLength (l : Launch) (D : va_G) (ar : Nat → ClassId) (κ : Nat → Nat) (G : gW) (sz : Nat) (i : Int32) (j : Int32) (h1 : ¬ j < i) : Met l yJ7_checkLength_df160 (lwC yJ7_checkLength_df160 cJ7_checkLength_df160 2 none) (rD 1 0 0) (g_Pc D vwCl (gT ar) (EX1 κ) G sz [.int i, .int j]) (g_Qv D vwCl (g_A G sz) (fun u => u = (G, sz))) 0 0 (g_A G sz) := by
  refine g_ofW (by decide +kernel) (Nat.le_of_ble_eq_true rfl) ?_
  intro p e s m below meth c ls S hr hlk hin hE w hl
  have hx := S.1
  have hb := S.2.1
  have hl : lv_has ls 2 [(0, .int i), (1, .int j)] := hl
  refine lv_iload_n hx hb dJ7_checkLength_df160_0 rfl (lv_at hl 1 rfl) ?_
  refine lv_iload_n hx hb dJ7_checkLength_df160_1 rfl (lv_at hl 0 rfl) ?_
  refine lv_icmp_ge (tgt := 37) hx hb dJ7_checkLength_df160_2 (by decide) (fun c_2 => ?_) (fun c_2 => absurd c_2 (fun q => h1 (Int32.not_le.mp q)))
  exact g_vret hx hb hr hlk w (Nat.le_of_ble_eq_true rfl) (Nat.le_of_ble_eq_true rfl) dJ7_checkLength_df160_37 rfl
set_option maxHeartbeats 4000000 in
set_option maxRecDepth 100000 in
theorem j_copyOfRangeByte (l : Launch) (D : va_G) (ar : Nat → ClassId) (κ : Nat → Nat) (G : gW) (sz : Nat) (v : Nat) (bs : List Int32) (b : Nat) (e9 : Nat) (hv : TV ar κ G v bs) (hA : Asc bs) (hbe : b ≤ e9) (hel : e9 ≤ bs.length) (hL : bs.length ≤ 100) : Met l yJ7_copyOfRangeByte_39247 (lwC yJ7_copyOfRangeByte_39247 cJ7_copyOfRangeByte_39247 5 (some (.array .byte))) (rD 2 1 100) (g_Pc D vwCl (gT ar) (EX1 κ) G sz [.ref v, .int (nI b), .int (nI e9)]) (g_Qq D vwCl (g_A G sz) (fun r u => r = some sz ∧ u = (g_up G sz (.inl (ar 4, (slc bs b e9).length, .inl (tyF (slc bs b e9)))), sz + 1))) 1 100 (g_A G sz) := by
  refine g_ofW (by decide +kernel) (Nat.le_of_ble_eq_true rfl) ?_
  intro p e s m below meth c ls S hr hlk hin hE w hl
  have hx := S.1
  have hb := S.2.1
  have hl : lv_has ls 5 [(0, .ref v), (1, .int (nI b)), (2, .int (nI e9))] := hl
  have hfr : ∀ q, sz ≤ q → G q = none := fun q z => g_free w z
  refine lv_iload_n hx hb dJ7_copyOfRangeByte_39247_0 rfl (lv_at hl 1 rfl) ?_
  refine lv_iload_n hx hb dJ7_copyOfRangeByte_39247_1 rfl (lv_at hl 2 rfl) ?_
  refine g_callv w (g_runS (As := [.int (nI b), .int (nI e9)]) (rest := []) S hE w hl (j_checkLength l D ar κ G sz (nI b) (nI e9) (nI_nlt (by omega) (by omega))) (k_RJ7_343 S.2.2.2.2 ⟨Nat.le_of_ble_eq_true rfl, Nat.le_of_ble_eq_true rfl⟩) rfl rfl (Nat.le_of_ble_eq_true rfl) dJ7_copyOfRangeByte_39247_2 ⟨Nat.le_of_ble_eq_true rfl, Nat.le_of_ble_eq_true rfl⟩) (fun u H locs hp hnz w => ?_)
  obtain rfl := hp
  try dsimp only at w
  refine lv_iload_n hx hb dJ7_copyOfRangeByte_39247_5 rfl (lv_at hl 2 rfl) ?_
  refine lv_iload_n hx hb dJ7_copyOfRangeByte_39247_6 rfl (lv_at hl 1 rfl) ?_
  refine lv_isub hx hb dJ7_copyOfRangeByte_39247_7 ?_
  rw [show ((nI e9) - (nI b) : Int32) = nI (e9 - b) from pk_sub hbe]
  refine lv_istore_n (lv' := [(3, .int (nI (e9 - b))), (0, .ref v), (1, .int (nI b)), (2, .int (nI e9))]) hx hb dJ7_copyOfRangeByte_39247_8 rfl hl (by decide) rfl (fun ls hl => ?_)
  refine lv_iload_n hx hb dJ7_copyOfRangeByte_39247_9 rfl (lv_at hl 0 rfl) ?_
  refine g_newa (atype := .byte) (N' := e9 - b) (a0 := (e9 - b, .inl (fun _ => 0))) hx hb (S.2.2.2.2 _ m_2_133) rfl hE.1 w 4 rfl rfl (nI_pos (by omega)) (nI_clamp (by omega)) (by show (e9 - b) * 1 ≤ 536870912; omega) (Nat.le_of_ble_eq_true rfl) (by dsimp only [rD]; omega) dJ7_copyOfRangeByte_39247_10 (fun H w => ?_)
  refine W.widen (k := 1) (n := 100) (by omega) (by omega) ?_
  refine lv_astore (lv' := [(4, .ref sz), (3, .int (nI (e9 - b))), (0, .ref v), (1, .int (nI b)), (2, .int (nI e9))]) hx hb dJ7_copyOfRangeByte_39247_12 hl (by decide) rfl (fun ls hl => ?_)
  refine lv_aload_n hx hb dJ7_copyOfRangeByte_39247_14 rfl (lv_at hl 2 rfl) ?_
  refine lv_iload_n hx hb dJ7_copyOfRangeByte_39247_15 rfl (lv_at hl 3 rfl) ?_
  refine lv_aload hx hb dJ7_copyOfRangeByte_39247_16 (lv_at hl 0 rfl) ?_
  refine lv_iconst (v := 0) hx hb dJ7_copyOfRangeByte_39247_18 (by decide) ?_
  refine lv_aload_n hx hb dJ7_copyOfRangeByte_39247_19 rfl (lv_at hl 2 rfl) ?_
  refine tv_len hx hb hE w (hv.le (gLe.up gLe.r (hfr _ (by omega)))) dJ7_copyOfRangeByte_39247_20 ?_
  refine lv_iload_n hx hb dJ7_copyOfRangeByte_39247_21 rfl (lv_at hl 3 rfl) ?_
  refine lv_isub hx hb dJ7_copyOfRangeByte_39247_22 ?_
  rw [show ((nI bs.length) - (nI b) : Int32) = nI (bs.length - b) from pk_sub (by omega)]
  refine lv_iload_n hx hb dJ7_copyOfRangeByte_39247_23 rfl (lv_at hl 1 rfl) ?_
  refine va_mmin hx hb (hl.1.trans S.2.2.1.symm).symm S.2.2.2.1 (S.2.2.2.2 _ m_4_99) (S.2.2.2.2 _ m_4_100) (S.2.2.2.2 _ m_1_24) (S.2.2.2.2 _ m_4_101) (Nat.le_of_ble_eq_true rfl) (Nat.le_of_ble_eq_true rfl) (Nat.le_of_ble_eq_true rfl) (Nat.le_of_ble_eq_true rfl) dJ7_copyOfRangeByte_39247_24 ?_
  rw [show (if ((nI (e9 - b)) : Int32) < (nI (bs.length - b)) then ((nI (e9 - b)) : Int32) else (nI (bs.length - b))) = nI (e9 - b) from minL (by omega) (by omega)]
  refine g_copyb (i := b) (j := 0) (k := e9 - b) hx hb (hl.1.trans S.2.2.1.symm).symm S.2.2.2.1 (S.2.2.2.2 _ m_4_102) (S.2.2.2.2 _ m_4_104) (S.2.2.2.2 _ m_4_103) (S.2.2.2.2 _ m_1_25) hE w (tv_src hE w (hv.le (gLe.up gLe.r (hfr _ (by omega))))) g_up_s (by rfl) (by rfl) (by rfl) (by omega) (by omega) (by omega) (by omega) (fun q hq => hA.fit (by omega)) (Nat.le_of_ble_eq_true rfl) (Nat.le_of_ble_eq_true rfl) dJ7_copyOfRangeByte_39247_27 (fun H locs w => ?_)
  have w := g_eqw w g_over
  refine lv_aload hx hb dJ7_copyOfRangeByte_39247_30 (lv_at hl 0 rfl) ?_
  exact g_qret (r := (some sz)) hx hb hr (Or.inr ⟨_, rfl⟩) hlk w (Nat.le_of_ble_eq_true rfl) (Nat.le_of_ble_eq_true rfl) dJ7_copyOfRangeByte_39247_32 (by rw [← slc_cpy hbe hel, slc_len hel]; exact ⟨rfl, rfl⟩)
set_option maxHeartbeats 4000000 in
set_option maxRecDepth 100000 in
theorem j_copyOfRange (l : Launch) (D : va_G) (ar : Nat → ClassId) (κ : Nat → Nat) (G : gW) (sz : Nat) (v : Nat) (bs : List Int32) (b : Nat) (e9 : Nat) (hv : TV ar κ G v bs) (hA : Asc bs) (hbe : b ≤ e9) (hel : e9 ≤ bs.length) (hL : bs.length ≤ 100) (hG : b = 0 → e9 = bs.length → G v = some (.inl (ar 4, bs.length, .inl (tyF bs)))) : Met l yJ7_copyOfRange_39247 (lwC yJ7_copyOfRange_39247 cJ7_copyOfRange_39247 3 (some (.array .byte))) (rD 3 1 100) (g_Pc D vwCl (gT ar) (EX1 κ) G sz [.ref v, .int (nI b), .int (nI e9)]) (g_Qq D vwCl (g_A G sz) (fun r u => r = some sz ∧ u = (g_up G sz (.inl (ar 4, (slc bs b e9).length, .inl (tyF (slc bs b e9)))), sz + 1))) 1 100 (g_A G sz) := by
  refine g_ofW (by decide +kernel) (Nat.le_of_ble_eq_true rfl) ?_
  intro p e s m below meth c ls S hr hlk hin hE w hl
  have hx := S.1
  have hb := S.2.1
  have hl : lv_has ls 3 [(0, .ref v), (1, .int (nI b)), (2, .int (nI e9))] := hl
  have hfr : ∀ q, sz ≤ q → G q = none := fun q z => g_free w z
  refine lv_iload_n hx hb dJ7_copyOfRange_39247_0 rfl (lv_at hl 1 rfl) ?_
  refine lv_if_ne (tgt := 10) hx hb dJ7_copyOfRange_39247_1 (by decide) (fun c_1 => ?_) (fun c_1 => ?_)
  · refine lv_aload_n hx hb dJ7_copyOfRange_39247_10 rfl (lv_at hl 0 rfl) ?_
    refine lv_iload_n hx hb dJ7_copyOfRange_39247_11 rfl (lv_at hl 1 rfl) ?_
    refine lv_iload_n hx hb dJ7_copyOfRange_39247_12 rfl (lv_at hl 2 rfl) ?_
    refine g_callq w (g_runS (As := [.ref v, .int (nI b), .int (nI e9)]) (rest := []) S hE w hl (j_copyOfRangeByte l D ar κ G sz v bs b e9 hv hA (by omega) (by omega) (by omega)) (k_RJ7_339 S.2.2.2.2 ⟨Nat.le_of_ble_eq_true rfl, Nat.le_of_ble_eq_true rfl⟩) rfl rfl (Nat.le_of_ble_eq_true rfl) dJ7_copyOfRange_39247_13 ⟨Nat.le_of_ble_eq_true rfl, Nat.le_of_ble_eq_true rfl⟩) (fun r u H locs hp hnz w => ?_)
    obtain ⟨rfl, rfl⟩ := hp
    try dsimp only at w
    exact g_qret (r := (some sz)) hx hb hr (Or.inr ⟨_, rfl⟩) hlk w (Nat.le_of_ble_eq_true rfl) (Nat.le_of_ble_eq_true rfl) dJ7_copyOfRange_39247_16 ⟨rfl, rfl⟩
  · refine lv_iload_n hx hb dJ7_copyOfRange_39247_4 rfl (lv_at hl 2 rfl) ?_
    refine lv_aload_n hx hb dJ7_copyOfRange_39247_5 rfl (lv_at hl 0 rfl) ?_
    refine tv_len hx hb hE w hv dJ7_copyOfRange_39247_6 ?_
    refine lv_icmp_eq (tgt := 17) hx hb dJ7_copyOfRange_39247_7 (by decide) (fun c_7 => ?_) (fun c_7 => ?_)
    · refine lv_aload_n hx hb dJ7_copyOfRange_39247_17 rfl (lv_at hl 0 rfl) ?_
      refine g_clone hx hb (hl.1.trans S.2.2.1.symm).symm S.2.2.2.1 (S.2.2.2.2 _ m_4_206) (S.2.2.2.2 _ m_4_207) (S.2.2.2.2 _ m_4_208) (S.2.2.2.2 _ m_4_209) (S.2.2.2.2 _ m_4_210) (hE.2.1.1 _ (ckN_1 _ (List.mem_of_getElem? (i := 17) rfl))) hE w (hG ((nI_eq (by omega) (by decide)).mp c_1) ((nI_eq (by omega) (by omega)).mp c_7)) hA (Nat.le_of_ble_eq_true rfl) (Nat.le_of_ble_eq_true rfl) (Nat.le_of_ble_eq_true rfl) (by dsimp only [rD]; omega) dJ7_copyOfRange_39247_18 (fun H w => ?_)
      refine W.widen (k := 1) (n := 100) (by omega) (by omega) ?_
      refine va_castA hx hb S.2.2.2.1 (S.2.2.2.2 _ m_4_212) (g_1 w.1 g_up_s) 0 rfl (va_nm_byte (hE.1.2 4 (ar 4, .byte) rfl).2) dJ7_copyOfRange_39247_21 ?_
      exact g_qret (r := (some sz)) hx hb hr (Or.inr ⟨_, rfl⟩) hlk w (Nat.le_of_ble_eq_true rfl) (Nat.le_of_ble_eq_true rfl) dJ7_copyOfRange_39247_24 (by have h1 : b = 0 := (nI_eq (by omega) (by decide)).mp c_1; have h2 : e9 = bs.length := (nI_eq (by omega) (by omega)).mp c_7; subst h1; subst h2; rw [slc_all]; exact ⟨rfl, rfl⟩)
    · refine lv_aload_n hx hb dJ7_copyOfRange_39247_10 rfl (lv_at hl 0 rfl) ?_
      refine lv_iload_n hx hb dJ7_copyOfRange_39247_11 rfl (lv_at hl 1 rfl) ?_
      refine lv_iload_n hx hb dJ7_copyOfRange_39247_12 rfl (lv_at hl 2 rfl) ?_
      refine g_callq w (g_runS (As := [.ref v, .int (nI b), .int (nI e9)]) (rest := []) S hE w hl (j_copyOfRangeByte l D ar κ G sz v bs b e9 hv hA (by omega) (by omega) (by omega)) (k_RJ7_339 S.2.2.2.2 ⟨Nat.le_of_ble_eq_true rfl, Nat.le_of_ble_eq_true rfl⟩) rfl rfl (Nat.le_of_ble_eq_true rfl) dJ7_copyOfRange_39247_13 ⟨Nat.le_of_ble_eq_true rfl, Nat.le_of_ble_eq_true rfl⟩) (fun r u H locs hp hnz w => ?_)
      obtain ⟨rfl, rfl⟩ := hp
      try dsimp only at w
      exact g_qret (r := (some sz)) hx hb hr (Or.inr ⟨_, rfl⟩) hlk w (Nat.le_of_ble_eq_true rfl) (Nat.le_of_ble_eq_true rfl) dJ7_copyOfRange_39247_16 ⟨rfl, rfl⟩
set_option maxHeartbeats 4000000 in
set_option maxRecDepth 100000 in
theorem j_String_init (l : Launch) (D : va_G) (ar : Nat → ClassId) (κ : Nat → Nat) (G : gW) (sz : Nat) (o : Nat) (q : Nat) (ho : G o = some (.inr (0, [.null, .int 0, .int 0, .int 0]))) : Met l yJ0_init_031fb (lwC yJ0_init_031fb cJ0_init_031fb 3 none) (rD 1 0 0) (g_Pc D vwCl (gT ar) (EX1 κ) G sz [.ref o, .ref q, .int 0]) (g_Qv D vwCl (g_A G sz) (fun u => u = ((g_up G o (.inr (0, [.ref q, .int 0, .int 0, .int 0]))), sz))) 0 0 (g_A G sz) := by
  refine g_ofW (by decide +kernel) (Nat.le_of_ble_eq_true rfl) ?_
  intro p e s m below meth c ls S hr hlk hin hE w hl
  have hx := S.1
  have hb := S.2.1
  have hl : lv_has ls 3 [(0, .ref o), (1, .ref q), (2, .int 0)] := hl
  have lt_ho : o < sz := g_ltn w ho
  refine lv_aload_n hx hb dJ0_init_031fb_0 rfl (lv_at hl 0 rfl) ?_
  refine W.objInit hx hb S.2.2.2.1 (S.2.2.2.2 _ m_5_84) (S.2.2.2.2 _ m_1_46) (S.2.2.2.2 _ m_obj) rfl (by rw [S.2.2.1]; exact hl.1) rfl dJ0_init_031fb_1 (Nat.le_of_ble_eq_true rfl) (Nat.le_of_ble_eq_true rfl) ?_
  refine W.eq (g2 := F0 m 4 ls []) rfl ?_
  refine lv_aload_n hx hb dJ0_init_031fb_4 rfl (lv_at hl 0 rfl) ?_
  refine lv_aload_n hx hb dJ0_init_031fb_5 rfl (lv_at hl 1 rfl) ?_
  refine pf_RJ0_9_0 (fs1 := [.ref q, .int 0, .int 0, .int 0]) S hE hin w ho rfl rfl (Nat.le_of_ble_eq_true rfl) rfl dJ0_init_031fb_6 (fun H locs w => ?_)
  refine lv_aload_n hx hb dJ0_init_031fb_9 rfl (lv_at hl 0 rfl) ?_
  refine lv_iload_n hx hb dJ0_init_031fb_10 rfl (lv_at hl 2 rfl) ?_
  refine pf_RJ0_15_0 (fs1 := [.ref q, .int 0, .int 0, .int 0]) S hE hin w g_up_s rfl rfl (Nat.le_of_ble_eq_true rfl) rfl dJ0_init_031fb_11 (fun H locs w => ?_)
  have w := g_eqw w g_over
  exact g_vret hx hb hr hlk w (Nat.le_of_ble_eq_true rfl) (Nat.le_of_ble_eq_true rfl) dJ0_init_031fb_14 rfl
set_option maxHeartbeats 4000000 in
set_option maxRecDepth 100000 in
theorem j_newString (l : Launch) (D : va_G) (ar : Nat → ClassId) (κ : Nat → Nat) (G : gW) (sz : Nat) (v : Nat) (bs : List Int32) (b : Nat) (n9 : Nat) (hv : TV ar κ G v bs) (hA : Asc bs) (hel : b + n9 ≤ bs.length) (hL : bs.length ≤ 100) (hn : ¬ (b = 0 ∧ n9 = bs.length)) : Met l yJ1_newString_b4f7a (lwC yJ1_newString_b4f7a cJ1_newString_b4f7a 3 (some (.object "java/lang/String"))) (rD 4 2 104) (g_Pc D vwCl (gT ar) (EX1 κ) G sz [.ref v, .int (nI b), .int (nI n9)]) (g_Qq D vwCl (g_A G sz) (fun r u => (∃ a9 v9, r = some a9 ∧ TX ar κ u.1 a9 v9 (slc bs b (b + n9)) ∧ gLe G u.1))) 2 104 (g_A G sz) := by
  refine g_ofW (by decide +kernel) (Nat.le_of_ble_eq_true rfl) ?_
  intro p e s m below meth c ls S hr hlk hin hE w hl
  have hx := S.1
  have hb := S.2.1
  have hl : lv_has ls 3 [(0, .ref v), (1, .int (nI b)), (2, .int (nI n9))] := hl
  have hfr : ∀ q, sz ≤ q → G q = none := fun q z => g_free w z
  refine lv_iload_n hx hb dJ1_newString_b4f7a_0 rfl (lv_at hl 2 rfl) ?_
  refine lv_if_ne (tgt := 7) hx hb dJ1_newString_b4f7a_1 (by decide) (fun c_1 => ?_) (fun c_1 => ?_)
  · refine nw_RJ1_1 S hE w (Nat.le_of_ble_eq_true rfl) (Nat.le_of_ble_eq_true rfl) dJ1_newString_b4f7a_7 (fun H w => ?_)
    refine lv_dup hx hb dJ1_newString_b4f7a_10 rfl ?_
    refine lv_aload_n hx hb dJ1_newString_b4f7a_11 rfl (lv_at hl 0 rfl) ?_
    refine lv_iload_n hx hb dJ1_newString_b4f7a_12 rfl (lv_at hl 1 rfl) ?_
    refine lv_iload_n hx hb dJ1_newString_b4f7a_13 rfl (lv_at hl 1 rfl) ?_
    refine lv_iload_n hx hb dJ1_newString_b4f7a_14 rfl (lv_at hl 2 rfl) ?_
    refine lv_iadd hx hb dJ1_newString_b4f7a_15 ?_
    rw [show ((nI b) + (nI n9) : Int32) = nI (b + n9) from nI_add _ _]
    refine g_callq w (g_runS (As := [.ref v, .int (nI b), .int (nI (b + n9))]) (rest := [.ref sz, .ref sz]) S hE w hl (j_copyOfRange l D ar κ (g_up G sz (.inr (0, [.null, .int 0, .int 0, .int 0]))) (sz + 1) v bs b (b + n9) (hv.le (gLe.up gLe.r (hfr _ (by omega)))) hA (by omega) (by omega) (by omega) (fun q1 q2 => absurd ⟨q1, by omega⟩ hn)) (k_RJ1_232 S.2.2.2.2 ⟨Nat.le_of_ble_eq_true rfl, Nat.le_of_ble_eq_true rfl⟩) rfl rfl (Nat.le_of_ble_eq_true rfl) dJ1_newString_b4f7a_16 ⟨Nat.le_of_ble_eq_true rfl, Nat.le_of_ble_eq_true rfl⟩) (fun r u H locs hp hnz w => ?_)
    obtain ⟨rfl, rfl⟩ := hp
    try dsimp only at w
    refine lv_iconst (v := 0) hx hb dJ1_newString_b4f7a_19 (by decide) ?_
    refine g_callv w (g_runI (As := [.ref (sz + 1), .int 0]) (rest := [.ref sz]) S hE w hl (j_String_init l D ar κ (g_up (g_up G sz (.inr (0, [.null, .int 0, .int 0, .int 0]))) (sz + 1) (.inl (ar 4, (slc bs b (b + n9)).length, .inl (tyF (slc bs b (b + n9)))))) (sz + 2) sz (sz + 1) (g_up_o (by omega) g_up_s)) (k_RJ1_112 S.2.2.2.2 ⟨Nat.le_of_ble_eq_true rfl, Nat.le_of_ble_eq_true rfl⟩) rfl rfl (Nat.le_of_ble_eq_true rfl) dJ1_newString_b4f7a_20 ⟨Nat.le_of_ble_eq_true rfl, Nat.le_of_ble_eq_true rfl⟩) (fun u H locs hp hnz w => ?_)
    obtain rfl := hp
    try dsimp only at w
    have w := g_eqw w (g_inn g_over (by omega))
    exact g_qret (r := (some sz)) hx hb hr (Or.inl ⟨_, rfl⟩) hlk w (Nat.le_of_ble_eq_true rfl) (Nat.le_of_ble_eq_true rfl) dJ1_newString_b4f7a_23 ⟨sz, sz + 1, rfl, Or.inl ⟨⟨0, 0, (g_up_o (by omega) g_up_s)⟩, g_up_s⟩, (gLe.up (gLe.up gLe.r (hfr _ (by omega))) (hfr _ (by omega)))⟩
  · have hq4 := (hE.2.2.2.2.2.2.1 lwT_4 lwT_m4).1
    refine va_ldcS hx hb (own := RJ1) S.2.2.2.1 hq4 dJ1_newString_b4f7a_4 ?_
    show W p l e _ s m _ below meth c _ _ _ _ _ (F0 m 6 ls [.ref (κ 28)])
    exact g_qret (r := (some (κ 28))) hx hb hr (Or.inl ⟨_, rfl⟩) hlk w (Nat.le_of_ble_eq_true rfl) (Nat.le_of_ble_eq_true rfl) dJ1_newString_b4f7a_6 ⟨κ 28, κ 29, rfl, (by rw [show n9 = 0 from (nI_eq (by omega) (by decide)).mp c_1, Nat.add_zero, slc_0]; exact TX.lit lwT_m4), gLe.r⟩
set_option maxHeartbeats 4000000 in
set_option maxRecDepth 100000 in
theorem j_substring2 (l : Launch) (D : va_G) (ar : Nat → ClassId) (κ : Nat → Nat) (G : gW) (sz : Nat) (a : Nat) (v : Nat) (bs : List Int32) (b : Nat) (e9 : Nat) (ht : TX ar κ G a v bs) (hA : Asc bs) (hbe : b ≤ e9) (hel : e9 ≤ bs.length) (hL : bs.length ≤ 100) : Met l yJ0_substring_37a41 (lwC yJ0_substring_37a41 cJ0_substring_37a41 5 (some (.object "java/lang/String"))) (rD 6 2 104) (g_Pc D vwCl (gT ar) (EX1 κ) G sz [.ref a, .int (nI b), .int (nI e9)]) (g_Qq D vwCl (g_A G sz) (fun r u => (∃ a9 v9, r = some a9 ∧ TX ar κ u.1 a9 v9 (slc bs b e9) ∧ gLe G u.1))) 2 104 (g_A G sz) := by
  refine g_ofW (by decide +kernel) (Nat.le_of_ble_eq_true rfl) ?_
  intro p e s m below meth c ls S hr hlk hin hE w hl
  have hx := S.1
  have hb := S.2.1
  have hl : lv_has ls 5 [(0, .ref a), (1, .int (nI b)), (2, .int (nI e9))] := hl
  refine lv_aload_n hx hb dJ0_substring_37a41_0 rfl (lv_at hl 0 rfl) ?_
  refine g_calli w (g_runT (As := []) (rest := []) S hE w hl (j_length l D ar κ G sz a v bs ht) (k_RJ0_505 S.2.2.2.2  ⟨Nat.le_of_ble_eq_true rfl, Nat.le_of_ble_eq_true rfl⟩) ht rfl rfl (Nat.le_of_ble_eq_true rfl) dJ0_substring_37a41_1 ⟨Nat.le_of_ble_eq_true rfl, Nat.le_of_ble_eq_true rfl⟩) (fun r u H locs hp hnz w => ?_)
  obtain ⟨rfl, rfl⟩ := hp
  try dsimp only at w
  refine lv_istore_n (lv' := [(3, .int (nI bs.length)), (0, .ref a), (1, .int (nI b)), (2, .int (nI e9))]) hx hb dJ0_substring_37a41_4 rfl hl (by decide) rfl (fun ls hl => ?_)
  refine lv_iload_n hx hb dJ0_substring_37a41_5 rfl (lv_at hl 2 rfl) ?_
  refine lv_iload_n hx hb dJ0_substring_37a41_6 rfl (lv_at hl 3 rfl) ?_
  refine lv_iload_n hx hb dJ0_substring_37a41_7 rfl (lv_at hl 0 rfl) ?_
  refine g_callv w (g_runS (As := [.int (nI b), .int (nI e9), .int (nI bs.length)]) (rest := []) S hE w hl (j_bounds l D ar κ G sz (nI b) (nI e9) (nI bs.length) (nI_pos (by omega)) (nI_nlt (by omega) (by omega)) (nI_le (by omega) (by omega))) (k_RJ0_521 S.2.2.2.2 ⟨Nat.le_of_ble_eq_true rfl, Nat.le_of_ble_eq_true rfl⟩) rfl rfl (Nat.le_of_ble_eq_true rfl) dJ0_substring_37a41_8 ⟨Nat.le_of_ble_eq_true rfl, Nat.le_of_ble_eq_true rfl⟩) (fun u H locs hp hnz w => ?_)
  obtain rfl := hp
  try dsimp only at w
  refine lv_iload_n hx hb dJ0_substring_37a41_11 rfl (lv_at hl 2 rfl) ?_
  refine lv_if_ne (tgt := 22) hx hb dJ0_substring_37a41_12 (by decide) (fun c_12 => ?_) (fun c_12 => ?_)
  · refine lv_iload_n hx hb dJ0_substring_37a41_22 rfl (lv_at hl 3 rfl) ?_
    refine lv_iload_n hx hb dJ0_substring_37a41_23 rfl (lv_at hl 2 rfl) ?_
    refine lv_isub hx hb dJ0_substring_37a41_24 ?_
    rw [show ((nI e9) - (nI b) : Int32) = nI (e9 - b) from pk_sub hbe]
    refine lv_istore (lv' := [(4, .int (nI (e9 - b))), (3, .int (nI bs.length)), (0, .ref a), (1, .int (nI b)), (2, .int (nI e9))]) hx hb dJ0_substring_37a41_25 hl (by decide) rfl (fun ls hl => ?_)
    refine lv_aload_n hx hb dJ0_substring_37a41_27 rfl (lv_at hl 2 rfl) ?_
    refine g_calli w (g_runT (As := []) (rest := []) S hE w hl (j_isLatin1 l D ar κ G sz a v bs ht) (k_RJ0_492 S.2.2.2.2  ⟨Nat.le_of_ble_eq_true rfl, Nat.le_of_ble_eq_true rfl⟩) ht rfl rfl (Nat.le_of_ble_eq_true rfl) dJ0_substring_37a41_28 ⟨Nat.le_of_ble_eq_true rfl, Nat.le_of_ble_eq_true rfl⟩) (fun r u H locs hp hnz w => ?_)
    obtain ⟨rfl, rfl⟩ := hp
    try dsimp only at w
    refine lv_if_eq (tgt := 47) hx hb dJ0_substring_37a41_31 (by decide) (fun c => absurd c (by decide)) (fun _ => ?_)
    refine lv_aload_n hx hb dJ0_substring_37a41_34 rfl (lv_at hl 2 rfl) ?_
    refine (fun kk => tx_val S hE w ht (S.2.2.2.2 _ m_5_129) (fun hG hf => gf_RJ0_9_0 S hE w hG hf dJ0_substring_37a41_35 kk) dJ0_substring_37a41_35 kk) ?_
    refine lv_iload_n hx hb dJ0_substring_37a41_38 rfl (lv_at hl 3 rfl) ?_
    refine lv_iload hx hb dJ0_substring_37a41_39 (lv_at hl 0 rfl) ?_
    refine g_callq w (g_runS (As := [.ref v, .int (nI b), .int (nI (e9 - b))]) (rest := []) S hE w hl (j_newString l D ar κ G sz v bs b (e9 - b) (tx_v ht) hA (by omega) (by omega) (fun q => by first | exact c_12 (by rw [q.1]; rfl) | exact c_17 (by rw [show e9 = bs.length by omega]))) (k_RJ0_685 S.2.2.2.2 ⟨Nat.le_of_ble_eq_true rfl, Nat.le_of_ble_eq_true rfl⟩) rfl rfl (Nat.le_of_ble_eq_true rfl) dJ0_substring_37a41_41 ⟨Nat.le_of_ble_eq_true rfl, Nat.le_of_ble_eq_true rfl⟩) (fun r u H locs hp hnz w => ?_)
    obtain ⟨a1, v1, rfl, ht1, hg1⟩ := hp
    obtain ⟨u1, hU1⟩ : ∃ U9, U9 = u := ⟨_, rfl⟩
    rw [← hU1] at w hnz ht1 hg1
    try dsimp only at w
    refine lv_goto (tgt := 57) hx hb dJ0_substring_37a41_44 (by decide) ?_
    exact g_qret (r := (some a1)) hx hb hr (Or.inl ⟨_, rfl⟩) hlk w (Nat.le_of_ble_eq_true rfl) (Nat.le_of_ble_eq_true rfl) dJ0_substring_37a41_57 ⟨a1, v1, rfl, (by rw [show b + (e9 - b) = e9 by omega] at ht1; exact ht1), hg1⟩
  · refine lv_iload_n hx hb dJ0_substring_37a41_15 rfl (lv_at hl 3 rfl) ?_
    refine lv_iload_n hx hb dJ0_substring_37a41_16 rfl (lv_at hl 0 rfl) ?_
    refine lv_icmp_ne (tgt := 22) hx hb dJ0_substring_37a41_17 (by decide) (fun c_17 => ?_) (fun c_17 => ?_)
    · refine lv_iload_n hx hb dJ0_substring_37a41_22 rfl (lv_at hl 3 rfl) ?_
      refine lv_iload_n hx hb dJ0_substring_37a41_23 rfl (lv_at hl 2 rfl) ?_
      refine lv_isub hx hb dJ0_substring_37a41_24 ?_
      rw [show ((nI e9) - (nI b) : Int32) = nI (e9 - b) from pk_sub hbe]
      refine lv_istore (lv' := [(4, .int (nI (e9 - b))), (3, .int (nI bs.length)), (0, .ref a), (1, .int (nI b)), (2, .int (nI e9))]) hx hb dJ0_substring_37a41_25 hl (by decide) rfl (fun ls hl => ?_)
      refine lv_aload_n hx hb dJ0_substring_37a41_27 rfl (lv_at hl 2 rfl) ?_
      refine g_calli w (g_runT (As := []) (rest := []) S hE w hl (j_isLatin1 l D ar κ G sz a v bs ht) (k_RJ0_492 S.2.2.2.2  ⟨Nat.le_of_ble_eq_true rfl, Nat.le_of_ble_eq_true rfl⟩) ht rfl rfl (Nat.le_of_ble_eq_true rfl) dJ0_substring_37a41_28 ⟨Nat.le_of_ble_eq_true rfl, Nat.le_of_ble_eq_true rfl⟩) (fun r u H locs hp hnz w => ?_)
      obtain ⟨rfl, rfl⟩ := hp
      try dsimp only at w
      refine lv_if_eq (tgt := 47) hx hb dJ0_substring_37a41_31 (by decide) (fun c => absurd c (by decide)) (fun _ => ?_)
      refine lv_aload_n hx hb dJ0_substring_37a41_34 rfl (lv_at hl 2 rfl) ?_
      refine (fun kk => tx_val S hE w ht (S.2.2.2.2 _ m_5_129) (fun hG hf => gf_RJ0_9_0 S hE w hG hf dJ0_substring_37a41_35 kk) dJ0_substring_37a41_35 kk) ?_
      refine lv_iload_n hx hb dJ0_substring_37a41_38 rfl (lv_at hl 3 rfl) ?_
      refine lv_iload hx hb dJ0_substring_37a41_39 (lv_at hl 0 rfl) ?_
      refine g_callq w (g_runS (As := [.ref v, .int (nI b), .int (nI (e9 - b))]) (rest := []) S hE w hl (j_newString l D ar κ G sz v bs b (e9 - b) (tx_v ht) hA (by omega) (by omega) (fun q => by first | exact c_12 (by rw [q.1]; rfl) | exact c_17 (by rw [show e9 = bs.length by omega]))) (k_RJ0_685 S.2.2.2.2 ⟨Nat.le_of_ble_eq_true rfl, Nat.le_of_ble_eq_true rfl⟩) rfl rfl (Nat.le_of_ble_eq_true rfl) dJ0_substring_37a41_41 ⟨Nat.le_of_ble_eq_true rfl, Nat.le_of_ble_eq_true rfl⟩) (fun r u H locs hp hnz w => ?_)
      obtain ⟨a2, v2, rfl, ht2, hg2⟩ := hp
      obtain ⟨u2, hU2⟩ : ∃ U9, U9 = u := ⟨_, rfl⟩
      rw [← hU2] at w hnz ht2 hg2
      try dsimp only at w
      refine lv_goto (tgt := 57) hx hb dJ0_substring_37a41_44 (by decide) ?_
      exact g_qret (r := (some a2)) hx hb hr (Or.inl ⟨_, rfl⟩) hlk w (Nat.le_of_ble_eq_true rfl) (Nat.le_of_ble_eq_true rfl) dJ0_substring_37a41_57 ⟨a2, v2, rfl, (by rw [show b + (e9 - b) = e9 by omega] at ht2; exact ht2), hg2⟩
    · refine lv_aload_n hx hb dJ0_substring_37a41_20 rfl (lv_at hl 1 rfl) ?_
      exact g_qret (r := (some a)) hx hb hr (Or.inl ⟨_, rfl⟩) hlk w (Nat.le_of_ble_eq_true rfl) (Nat.le_of_ble_eq_true rfl) dJ0_substring_37a41_21 ⟨a, v, rfl, (by rw [show b = 0 from (nI_eq (by omega) (by decide)).mp c_12, show e9 = bs.length from (nI_eq (by omega) (by omega)).mp c_17, slc_all]; exact ht), gLe.r⟩
set_option maxHeartbeats 4000000 in
set_option maxRecDepth 100000 in
theorem j_substring1 (l : Launch) (D : va_G) (ar : Nat → ClassId) (κ : Nat → Nat) (G : gW) (sz : Nat) (a : Nat) (v : Nat) (bs : List Int32) (b : Nat) (ht : TX ar κ G a v bs) (hA : Asc bs) (hbe : b ≤ bs.length) (hL : bs.length ≤ 100) : Met l yJ0_substring_b52d3 (lwC yJ0_substring_b52d3 cJ0_substring_b52d3 2 (some (.object "java/lang/String"))) (rD 7 2 104) (g_Pc D vwCl (gT ar) (EX1 κ) G sz [.ref a, .int (nI b)]) (g_Qq D vwCl (g_A G sz) (fun r u => (∃ a9 v9, r = some a9 ∧ TX ar κ u.1 a9 v9 (slc bs b bs.length) ∧ gLe G u.1))) 2 104 (g_A G sz) := by
  refine g_ofW (by decide +kernel) (Nat.le_of_ble_eq_true rfl) ?_
  intro p e s m below meth c ls S hr hlk hin hE w hl
  have hx := S.1
  have hb := S.2.1
  have hl : lv_has ls 2 [(0, .ref a), (1, .int (nI b))] := hl
  refine lv_aload_n hx hb dJ0_substring_b52d3_0 rfl (lv_at hl 0 rfl) ?_
  refine lv_iload_n hx hb dJ0_substring_b52d3_1 rfl (lv_at hl 1 rfl) ?_
  refine lv_aload_n hx hb dJ0_substring_b52d3_2 rfl (lv_at hl 0 rfl) ?_
  refine g_calli w (g_runT (As := []) (rest := [.int (nI b), .ref a]) S hE w hl (j_length l D ar κ G sz a v bs ht) (k_RJ0_505 S.2.2.2.2  ⟨Nat.le_of_ble_eq_true rfl, Nat.le_of_ble_eq_true rfl⟩) ht rfl rfl (Nat.le_of_ble_eq_true rfl) dJ0_substring_b52d3_3 ⟨Nat.le_of_ble_eq_true rfl, Nat.le_of_ble_eq_true rfl⟩) (fun r u H locs hp hnz w => ?_)
  obtain ⟨rfl, rfl⟩ := hp
  try dsimp only at w
  refine g_callq w (g_runT (As := [.int (nI b), .int (nI bs.length)]) (rest := []) S hE w hl (j_substring2 l D ar κ G sz a v bs b bs.length ht hA (by omega) (by omega) (by omega)) (k_RJ0_681 S.2.2.2.2  ⟨Nat.le_of_ble_eq_true rfl, Nat.le_of_ble_eq_true rfl⟩) ht rfl rfl (Nat.le_of_ble_eq_true rfl) dJ0_substring_b52d3_6 ⟨Nat.le_of_ble_eq_true rfl, Nat.le_of_ble_eq_true rfl⟩) (fun r u H locs hp hnz w => ?_)
  obtain ⟨a1, v1, rfl, ht1, hg1⟩ := hp
  obtain ⟨u1, hU1⟩ : ∃ U9, U9 = u := ⟨_, rfl⟩
  rw [← hU1] at w hnz ht1 hg1
  try dsimp only at w
  exact g_qret (r := (some a1)) hx hb hr (Or.inl ⟨_, rfl⟩) hlk w (Nat.le_of_ble_eq_true rfl) (Nat.le_of_ble_eq_true rfl) dJ0_substring_b52d3_9 ⟨a1, v1, rfl, ht1, hg1⟩
