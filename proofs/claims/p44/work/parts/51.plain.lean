theorem dL_things_0 : decode cL_things 0 = .ok (.aload_n 0, 1) := by decide +kernel
theorem dL_things_1 : decode cL_things 1 = .ok (.invokevirtual 86, 3) := by decide +kernel
theorem dL_things_4 : decode cL_things 4 = .ok (.i2l, 1) := by decide +kernel
theorem dL_things_5 : decode cL_things 5 = .ok (.lreturn, 1) := by decide +kernel
theorem dL_state_0 : decode cL_state 0 = .ok (.aload_n 0, 1) := by decide +kernel
theorem dL_state_1 : decode cL_state 1 = .ok (.invokevirtual 104, 3) := by decide +kernel
theorem dL_state_4 : decode cL_state 4 = .ok (.i2l, 1) := by decide +kernel
theorem dL_state_5 : decode cL_state 5 = .ok (.lreturn, 1) := by decide +kernel
theorem dL_frames_0 : decode cL_frames 0 = .ok (.aload_n 0, 1) := by decide +kernel
theorem dL_frames_1 : decode cL_frames 1 = .ok (.invokevirtual 120, 3) := by decide +kernel
theorem dL_frames_4 : decode cL_frames 4 = .ok (.i2l, 1) := by decide +kernel
theorem dL_frames_5 : decode cL_frames 5 = .ok (.lreturn, 1) := by decide +kernel
theorem dL_checksum_0 : decode cL_checksum 0 = .ok (.aload_n 0, 1) := by decide +kernel
theorem dL_checksum_1 : decode cL_checksum 1 = .ok (.invokevirtual 135, 3) := by decide +kernel
theorem dL_checksum_4 : decode cL_checksum 4 = .ok (.lreturn, 1) := by decide +kernel
theorem dL_isSound_0 : decode cL_isSound 0 = .ok (.aload_n 0, 1) := by decide +kernel
theorem dL_isSound_1 : decode cL_isSound 1 = .ok (.invokevirtual 139, 3) := by decide +kernel
theorem dL_isSound_4 : decode cL_isSound 4 = .ok (.ifCond .eq 7, 3) := by decide +kernel
theorem dL_isSound_7 : decode cL_isSound 7 = .ok (.lconst 1, 1) := by decide +kernel
theorem dL_isSound_8 : decode cL_isSound 8 = .ok (.goto 4, 3) := by decide +kernel
theorem dL_isSound_11 : decode cL_isSound 11 = .ok (.lconst 0, 1) := by decide +kernel
theorem dL_isSound_12 : decode cL_isSound 12 = .ok (.lreturn, 1) := by decide +kernel
theorem dL_wipe_0 : decode cL_wipe 0 = .ok (.aload_n 0, 1) := by decide +kernel
theorem dL_wipe_1 : decode cL_wipe 1 = .ok (.invokevirtual 39, 3) := by decide +kernel
theorem dL_wipe_4 : decode cL_wipe 4 = .ok (.i2l, 1) := by decide +kernel
theorem dL_wipe_5 : decode cL_wipe 5 = .ok (.lreturn, 1) := by decide +kernel
theorem dL_collect_0 : decode cL_collect 0 = .ok (.aload_n 0, 1) := by decide +kernel
theorem dL_collect_1 : decode cL_collect 1 = .ok (.invokevirtual 89, 3) := by decide +kernel
theorem dL_collect_4 : decode cL_collect 4 = .ok (.i2l, 1) := by decide +kernel
theorem dL_collect_5 : decode cL_collect 5 = .ok (.lreturn, 1) := by decide +kernel
theorem dL_classes3_0 : decode cL_classes3 0 = .ok (.aload_n 0, 1) := by decide +kernel
theorem dL_classes3_1 : decode cL_classes3 1 = .ok (.iconst 0, 1) := by decide +kernel
theorem dL_classes3_2 : decode cL_classes3 2 = .ok (.iconst 2, 1) := by decide +kernel
theorem dL_classes3_3 : decode cL_classes3 3 = .ok (.invokestatic 254, 3) := by decide +kernel
theorem dL_classes3_6 : decode cL_classes3 6 = .ok (.pop2, 1) := by decide +kernel
theorem dL_classes3_7 : decode cL_classes3 7 = .ok (.aload_n 0, 1) := by decide +kernel
theorem dL_classes3_8 : decode cL_classes3 8 = .ok (.iconst 3, 1) := by decide +kernel
theorem dL_classes3_9 : decode cL_classes3 9 = .ok (.iconst 1, 1) := by decide +kernel
theorem dL_classes3_10 : decode cL_classes3 10 = .ok (.invokestatic 254, 3) := by decide +kernel
theorem dL_classes3_13 : decode cL_classes3 13 = .ok (.pop2, 1) := by decide +kernel
theorem dL_classes3_14 : decode cL_classes3 14 = .ok (.aload_n 0, 1) := by decide +kernel
theorem dL_classes3_15 : decode cL_classes3 15 = .ok (.iconst 4, 1) := by decide +kernel
theorem dL_classes3_16 : decode cL_classes3 16 = .ok (.iconst 0, 1) := by decide +kernel
theorem dL_classes3_17 : decode cL_classes3 17 = .ok (.invokestatic 254, 3) := by decide +kernel
theorem dL_classes3_20 : decode cL_classes3 20 = .ok (.pop2, 1) := by decide +kernel
theorem dL_classes3_21 : decode cL_classes3 21 = .ok (.return_, 1) := by decide +kernel
theorem dL_globals_0 : decode cL_globals 0 = .ok (.iload_n 1, 1) := by decide +kernel
theorem dL_globals_1 : decode cL_globals 1 = .ok (.iconst 4, 1) := by decide +kernel
theorem dL_globals_2 : decode cL_globals 2 = .ok (.irem, 1) := by decide +kernel
theorem dL_globals_3 : decode cL_globals 3 = .ok (.istore_n 2, 1) := by decide +kernel
theorem dL_globals_4 : decode cL_globals 4 = .ok (.iload_n 1, 1) := by decide +kernel
theorem dL_globals_5 : decode cL_globals 5 = .ok (.iconst 4, 1) := by decide +kernel
theorem dL_globals_6 : decode cL_globals 6 = .ok (.idiv, 1) := by decide +kernel
theorem dL_globals_7 : decode cL_globals 7 = .ok (.iconst 4, 1) := by decide +kernel
theorem dL_globals_8 : decode cL_globals 8 = .ok (.irem, 1) := by decide +kernel
theorem dL_globals_9 : decode cL_globals 9 = .ok (.lookupswitch 52 #[(0, 27), (1, 43)], 27) := by decide +kernel
theorem dL_globals_36 : decode cL_globals 36 = .ok (.aload_n 0, 1) := by decide +kernel
theorem dL_globals_37 : decode cL_globals 37 = .ok (.iload_n 2, 1) := by decide +kernel
theorem dL_globals_38 : decode cL_globals 38 = .ok (.iload_n 1, 1) := by decide +kernel
theorem dL_globals_39 : decode cL_globals 39 = .ok (.bipush 16, 2) := by decide +kernel
theorem dL_globals_41 : decode cL_globals 41 = .ok (.idiv, 1) := by decide +kernel
theorem dL_globals_42 : decode cL_globals 42 = .ok (.bipush 9, 2) := by decide +kernel
theorem dL_globals_44 : decode cL_globals 44 = .ok (.irem, 1) := by decide +kernel
theorem dL_globals_45 : decode cL_globals 45 = .ok (.invokestatic 257, 3) := by decide +kernel
theorem dL_globals_48 : decode cL_globals 48 = .ok (.pop2, 1) := by decide +kernel
theorem dL_globals_49 : decode cL_globals 49 = .ok (.goto 26, 3) := by decide +kernel
theorem dL_globals_52 : decode cL_globals 52 = .ok (.aload_n 0, 1) := by decide +kernel
theorem dL_globals_53 : decode cL_globals 53 = .ok (.iload_n 2, 1) := by decide +kernel
theorem dL_globals_54 : decode cL_globals 54 = .ok (.invokestatic 259, 3) := by decide +kernel
theorem dL_globals_57 : decode cL_globals 57 = .ok (.pop2, 1) := by decide +kernel
theorem dL_globals_58 : decode cL_globals 58 = .ok (.goto 17, 3) := by decide +kernel
theorem dL_globals_61 : decode cL_globals 61 = .ok (.aload_n 0, 1) := by decide +kernel
theorem dL_globals_62 : decode cL_globals 62 = .ok (.iload_n 2, 1) := by decide +kernel
theorem dL_globals_63 : decode cL_globals 63 = .ok (.iconst 3, 1) := by decide +kernel
theorem dL_globals_64 : decode cL_globals 64 = .ok (.iload_n 1, 1) := by decide +kernel
theorem dL_globals_65 : decode cL_globals 65 = .ok (.bipush 16, 2) := by decide +kernel
theorem dL_globals_67 : decode cL_globals 67 = .ok (.idiv, 1) := by decide +kernel
theorem dL_globals_68 : decode cL_globals 68 = .ok (.iconst 3, 1) := by decide +kernel
theorem dL_globals_69 : decode cL_globals 69 = .ok (.irem, 1) := by decide +kernel
theorem dL_globals_70 : decode cL_globals 70 = .ok (.iadd, 1) := by decide +kernel
theorem dL_globals_71 : decode cL_globals 71 = .ok (.invokestatic 262, 3) := by decide +kernel
theorem dL_globals_74 : decode cL_globals 74 = .ok (.pop2, 1) := by decide +kernel
theorem dL_globals_75 : decode cL_globals 75 = .ok (.return_, 1) := by decide +kernel
section SITES
variable {p : Program} {l : Launch} {e : Env} {R : Room} {s : State} {m : MethodId} {args : Array Value} {below : List Frame} {meth : Method} {c : Code} {H : Heap} {locs : List Loc} {cells slots : Nat} {Q : State → Prop}
variable {pc : Nat} {ls : Array Slot} {rest : List Value} {D : va_G} {ar : Nat → ClassId} {κ : Nat → Nat} {A : Nat → Prop} {a : Nat} {H0 : Heap} {G : gW} {nz nL : Nat} {cc : ByteArray}
theorem m_2_204 : (Cond.code yX8_things cX8_things 1 (some .int)) ∈ lwA := lwA_mk (ck_2 _ (List.mem_of_getElem? (i := 204) rfl)) rfl
theorem m_2_201 : (Cond.methodLink RL 86 yX8_things) ∈ lwA := lwA_mk (ck_2 _ (List.mem_of_getElem? (i := 201) rfl)) rfl
theorem m_2_202 : (Cond.instanceMethod yX8_things) ∈ lwA := lwA_mk (ck_2 _ (List.mem_of_getElem? (i := 202) rfl)) rfl
theorem m_2_203 : (Cond.selects RX8 yX8_things yX8_things) ∈ lwA := lwA_mk (ck_2 _ (List.mem_of_getElem? (i := 203) rfl)) rfl
theorem k_RL_86 {args : Array Value} {s : State} {R rm : Room} (hts : ∀ w ∈ lwA, w.before args s = true) (hR : rm.frames + 1 ≤ R.frames ∧ 8 + (1 + 11) + rm.locals ≤ R.locals) : CallW R s args RL RX8 86 yX8_things cX8_things 1 (some .int) (lwC yX8_things cX8_things 1 (some .int)) rm rm.cells rm.slots 0 := cwV 0 hts (gdV m_2_201 m_2_202 m_2_203 m_1_1 m_2_204) rfl rfl rfl (by decide +kernel) hR
theorem m_8_32 : (Cond.code yX8_state cX8_state 1 (some .char)) ∈ lwA := lwA_mk (ck_8 _ (List.mem_of_getElem? (i := 32) rfl)) rfl
theorem m_8_29 : (Cond.methodLink RL 104 yX8_state) ∈ lwA := lwA_mk (ck_8 _ (List.mem_of_getElem? (i := 29) rfl)) rfl
theorem m_8_30 : (Cond.instanceMethod yX8_state) ∈ lwA := lwA_mk (ck_8 _ (List.mem_of_getElem? (i := 30) rfl)) rfl
theorem m_8_31 : (Cond.selects RX8 yX8_state yX8_state) ∈ lwA := lwA_mk (ck_8 _ (List.mem_of_getElem? (i := 31) rfl)) rfl
theorem k_RL_104 {args : Array Value} {s : State} {R rm : Room} (hts : ∀ w ∈ lwA, w.before args s = true) (hR : rm.frames + 1 ≤ R.frames ∧ 8 + (1 + 11) + rm.locals ≤ R.locals) : CallW R s args RL RX8 104 yX8_state cX8_state 1 (some .char) (lwC yX8_state cX8_state 1 (some .char)) rm rm.cells rm.slots 0 := cwV 0 hts (gdV m_8_29 m_8_30 m_8_31 m_1_1 m_8_32) rfl rfl rfl (by decide +kernel) hR
theorem m_7_192 : (Cond.code yX8_frames cX8_frames 1 (some .int)) ∈ lwA := lwA_mk (ck_7 _ (List.mem_of_getElem? (i := 192) rfl)) rfl
theorem m_7_189 : (Cond.methodLink RL 120 yX8_frames) ∈ lwA := lwA_mk (ck_7 _ (List.mem_of_getElem? (i := 189) rfl)) rfl
theorem m_7_190 : (Cond.instanceMethod yX8_frames) ∈ lwA := lwA_mk (ck_7 _ (List.mem_of_getElem? (i := 190) rfl)) rfl
theorem m_7_191 : (Cond.selects RX8 yX8_frames yX8_frames) ∈ lwA := lwA_mk (ck_7 _ (List.mem_of_getElem? (i := 191) rfl)) rfl
theorem k_RL_120 {args : Array Value} {s : State} {R rm : Room} (hts : ∀ w ∈ lwA, w.before args s = true) (hR : rm.frames + 1 ≤ R.frames ∧ 8 + (1 + 11) + rm.locals ≤ R.locals) : CallW R s args RL RX8 120 yX8_frames cX8_frames 1 (some .int) (lwC yX8_frames cX8_frames 1 (some .int)) rm rm.cells rm.slots 0 := cwV 0 hts (gdV m_7_189 m_7_190 m_7_191 m_1_1 m_7_192) rfl rfl rfl (by decide +kernel) hR
theorem m_8_9 : (Cond.code yX8_checksum cX8_checksum 8 (some .long)) ∈ lwA := lwA_mk (ck_8 _ (List.mem_of_getElem? (i := 9) rfl)) rfl
theorem m_8_6 : (Cond.methodLink RL 135 yX8_checksum) ∈ lwA := lwA_mk (ck_8 _ (List.mem_of_getElem? (i := 6) rfl)) rfl
theorem m_8_7 : (Cond.instanceMethod yX8_checksum) ∈ lwA := lwA_mk (ck_8 _ (List.mem_of_getElem? (i := 7) rfl)) rfl
theorem m_8_8 : (Cond.selects RX8 yX8_checksum yX8_checksum) ∈ lwA := lwA_mk (ck_8 _ (List.mem_of_getElem? (i := 8) rfl)) rfl
theorem k_RL_135 {args : Array Value} {s : State} {R rm : Room} (hts : ∀ w ∈ lwA, w.before args s = true) (hR : rm.frames + 1 ≤ R.frames ∧ 8 + (8 + 11) + rm.locals ≤ R.locals) : CallW R s args RL RX8 135 yX8_checksum cX8_checksum 8 (some .long) (lwC yX8_checksum cX8_checksum 8 (some .long)) rm rm.cells rm.slots 0 := cwV 0 hts (gdV m_8_6 m_8_7 m_8_8 m_1_1 m_8_9) rfl rfl rfl (by decide +kernel) hR
theorem m_8_47 : (Cond.code yX8_isSound cX8_isSound 1 (some .boolean)) ∈ lwA := lwA_mk (ck_8 _ (List.mem_of_getElem? (i := 47) rfl)) rfl
theorem m_8_44 : (Cond.methodLink RL 139 yX8_isSound) ∈ lwA := lwA_mk (ck_8 _ (List.mem_of_getElem? (i := 44) rfl)) rfl
theorem m_8_45 : (Cond.instanceMethod yX8_isSound) ∈ lwA := lwA_mk (ck_8 _ (List.mem_of_getElem? (i := 45) rfl)) rfl
theorem m_8_46 : (Cond.selects RX8 yX8_isSound yX8_isSound) ∈ lwA := lwA_mk (ck_8 _ (List.mem_of_getElem? (i := 46) rfl)) rfl
theorem k_RL_139 {args : Array Value} {s : State} {R rm : Room} (hts : ∀ w ∈ lwA, w.before args s = true) (hR : rm.frames + 1 ≤ R.frames ∧ 8 + (1 + 11) + rm.locals ≤ R.locals) : CallW R s args RL RX8 139 yX8_isSound cX8_isSound 1 (some .boolean) (lwC yX8_isSound cX8_isSound 1 (some .boolean)) rm rm.cells rm.slots 0 := cwV 0 hts (gdV m_8_44 m_8_45 m_8_46 m_1_1 m_8_47) rfl rfl rfl (by decide +kernel) hR
theorem ck_5 : ∀ w ∈ tables_1_5, w ∈ lw_tbl := fun _ h => List.mem_append_right _ (List.mem_append_right _ (List.mem_append_right _ (List.mem_append_right _ (List.mem_append_right _ (List.mem_append_left _ h)))))
theorem m_5_148 : (Cond.code yX8_wipe cX8_wipe 2 (some .int)) ∈ lwA := lwA_mk (ck_5 _ (List.mem_of_getElem? (i := 148) rfl)) rfl
theorem m_5_145 : (Cond.methodLink RL 39 yX8_wipe) ∈ lwA := lwA_mk (ck_5 _ (List.mem_of_getElem? (i := 145) rfl)) rfl
theorem m_5_146 : (Cond.instanceMethod yX8_wipe) ∈ lwA := lwA_mk (ck_5 _ (List.mem_of_getElem? (i := 146) rfl)) rfl
theorem m_5_147 : (Cond.selects RX8 yX8_wipe yX8_wipe) ∈ lwA := lwA_mk (ck_5 _ (List.mem_of_getElem? (i := 147) rfl)) rfl
theorem k_RL_39 {args : Array Value} {s : State} {R rm : Room} (hts : ∀ w ∈ lwA, w.before args s = true) (hR : rm.frames + 1 ≤ R.frames ∧ 8 + (2 + 11) + rm.locals ≤ R.locals) : CallW R s args RL RX8 39 yX8_wipe cX8_wipe 2 (some .int) (lwC yX8_wipe cX8_wipe 2 (some .int)) rm rm.cells rm.slots 0 := cwV 0 hts (gdV m_5_145 m_5_146 m_5_147 m_1_1 m_5_148) rfl rfl rfl (by decide +kernel) hR
theorem m_2_211 : (Cond.code yX8_collect cX8_collect 6 (some .int)) ∈ lwA := lwA_mk (ck_2 _ (List.mem_of_getElem? (i := 211) rfl)) rfl
theorem m_2_208 : (Cond.methodLink RL 89 yX8_collect) ∈ lwA := lwA_mk (ck_2 _ (List.mem_of_getElem? (i := 208) rfl)) rfl
theorem m_2_209 : (Cond.instanceMethod yX8_collect) ∈ lwA := lwA_mk (ck_2 _ (List.mem_of_getElem? (i := 209) rfl)) rfl
theorem m_2_210 : (Cond.selects RX8 yX8_collect yX8_collect) ∈ lwA := lwA_mk (ck_2 _ (List.mem_of_getElem? (i := 210) rfl)) rfl
theorem k_RL_89 {args : Array Value} {s : State} {R rm : Room} (hts : ∀ w ∈ lwA, w.before args s = true) (hR : rm.frames + 1 ≤ R.frames ∧ 8 + (6 + 11) + rm.locals ≤ R.locals) : CallW R s args RL RX8 89 yX8_collect cX8_collect 6 (some .int) (lwC yX8_collect cX8_collect 6 (some .int)) rm rm.cells rm.slots 0 := cwV 0 hts (gdV m_2_208 m_2_209 m_2_210 m_1_1 m_2_211) rfl rfl rfl (by decide +kernel) hR
theorem m_7_82 : (Cond.codeWith yL_add cL_add 4 (some .long) [(0, 7, 8, 17), (0, 7, 13, 23), (0, 7, 18, 27)]) ∈ lwA := lwA_mk (ck_7 _ (List.mem_of_getElem? (i := 82) rfl)) rfl
theorem m_1_0 : (Cond.initialized RL) ∈ lwA := lwA_mk (ck_1 _ (List.mem_of_getElem? (i := 0) rfl)) rfl
theorem m_7_80 : (Cond.methodLink RL 254 yL_add) ∈ lwA := lwA_mk (ck_7 _ (List.mem_of_getElem? (i := 80) rfl)) rfl
theorem m_7_81 : (Cond.static yL_add) ∈ lwA := lwA_mk (ck_7 _ (List.mem_of_getElem? (i := 81) rfl)) rfl
theorem kW_254 {args : Array Value} {s : State} {R rm : Room} (hts : ∀ w ∈ lwA, w.before args s = true) (hR : rm.frames + 1 ≤ R.frames ∧ 8 + (4 + 11) + rm.locals ≤ R.locals) : vx_CSW R s args RL 254 yL_add cL_add 4 (some .long) [(0, 7, 8, 17), (0, 7, 13, 23), (0, 7, 18, 27)] (lwCW yL_add cL_add 4 (some .long) [(0, 7, 8, 17), (0, 7, 13, 23), (0, 7, 18, 27)]) rm rm.cells rm.slots 3 := vx_cwSW 3 hts (gdT m_7_80 m_7_81 m_1_0 m_7_82) rfl rfl rfl (by decide +kernel) hR
theorem m_7_101 : (Cond.codeWith yL_number cL_number 4 (some .long) [(0, 7, 8, 17)]) ∈ lwA := lwA_mk (ck_7 _ (List.mem_of_getElem? (i := 101) rfl)) rfl
theorem m_7_99 : (Cond.methodLink RL 257 yL_number) ∈ lwA := lwA_mk (ck_7 _ (List.mem_of_getElem? (i := 99) rfl)) rfl
theorem m_7_100 : (Cond.static yL_number) ∈ lwA := lwA_mk (ck_7 _ (List.mem_of_getElem? (i := 100) rfl)) rfl
theorem kW_257 {args : Array Value} {s : State} {R rm : Room} (hts : ∀ w ∈ lwA, w.before args s = true) (hR : rm.frames + 1 ≤ R.frames ∧ 8 + (4 + 11) + rm.locals ≤ R.locals) : vx_CSW R s args RL 257 yL_number cL_number 4 (some .long) [(0, 7, 8, 17)] (lwCW yL_number cL_number 4 (some .long) [(0, 7, 8, 17)]) rm rm.cells rm.slots 3 := vx_cwSW 3 hts (gdT m_7_99 m_7_100 m_1_0 m_7_101) rfl rfl rfl (by decide +kernel) hR
theorem m_7_113 : (Cond.codeWith yL_nothing cL_nothing 3 (some .long) [(0, 6, 7, 17)]) ∈ lwA := lwA_mk (ck_7 _ (List.mem_of_getElem? (i := 113) rfl)) rfl
theorem m_7_111 : (Cond.methodLink RL 259 yL_nothing) ∈ lwA := lwA_mk (ck_7 _ (List.mem_of_getElem? (i := 111) rfl)) rfl
theorem m_7_112 : (Cond.static yL_nothing) ∈ lwA := lwA_mk (ck_7 _ (List.mem_of_getElem? (i := 112) rfl)) rfl
theorem kW_259 {args : Array Value} {s : State} {R rm : Room} (hts : ∀ w ∈ lwA, w.before args s = true) (hR : rm.frames + 1 ≤ R.frames ∧ 8 + (3 + 11) + rm.locals ≤ R.locals) : vx_CSW R s args RL 259 yL_nothing cL_nothing 3 (some .long) [(0, 6, 7, 17)] (lwCW yL_nothing cL_nothing 3 (some .long) [(0, 6, 7, 17)]) rm rm.cells rm.slots 2 := vx_cwSW 2 hts (gdT m_7_111 m_7_112 m_1_0 m_7_113) rfl rfl rfl (by decide +kernel) hR
theorem m_7_120 : (Cond.codeWith yL_make cL_make 4 (some .long) [(0, 7, 8, 17), (0, 7, 13, 23), (0, 7, 18, 27)]) ∈ lwA := lwA_mk (ck_7 _ (List.mem_of_getElem? (i := 120) rfl)) rfl
theorem m_7_118 : (Cond.methodLink RL 262 yL_make) ∈ lwA := lwA_mk (ck_7 _ (List.mem_of_getElem? (i := 118) rfl)) rfl
theorem m_7_119 : (Cond.static yL_make) ∈ lwA := lwA_mk (ck_7 _ (List.mem_of_getElem? (i := 119) rfl)) rfl
theorem kW_262 {args : Array Value} {s : State} {R rm : Room} (hts : ∀ w ∈ lwA, w.before args s = true) (hR : rm.frames + 1 ≤ R.frames ∧ 8 + (4 + 11) + rm.locals ≤ R.locals) : vx_CSW R s args RL 262 yL_make cL_make 4 (some .long) [(0, 7, 8, 17), (0, 7, 13, 23), (0, 7, 18, 27)] (lwCW yL_make cL_make 4 (some .long) [(0, 7, 8, 17), (0, 7, 13, 23), (0, 7, 18, 27)]) rm rm.cells rm.slots 3 := vx_cwSW 3 hts (gdT m_7_118 m_7_119 m_1_0 m_7_120) rfl rfl rfl (by decide +kernel) hR
end SITES
def sL_things (Z : Ho) : Int64 := (sX8_things Z).toInt64
theorem sL_things_u (Z : Ho) : sL_things Z = (sX8_things Z).toInt64 := rfl
set_option maxHeartbeats 4000000 in
set_option maxRecDepth 100000 in
theorem hL_things (l : Launch) (D : va_G) (ar : Nat → ClassId) (κ : Nat → Nat) (G : gW) (x : Xo) (Z : Ho) (sz : Nat) (hk : OK x Z) : Met l yL_things (lwC yL_things cL_things 1 (some .long)) (rD 3 0 0) (g_Pc D vwCl (gT ar) (EX1 κ) (ov κ ar x Z G) sz [.ref (x.f .ho)]) (g_Ql D vwCl (g_A (ov κ ar x Z G) sz) (fun r u => r = sL_things Z ∧ u = (ov κ ar x Z G, sz))) 0 0 (g_A (ov κ ar x Z G) sz) := by
  refine g_ofW (by decide +kernel) (Nat.le_of_ble_eq_true rfl) ?_
  intro p e s m below meth c ls S hr hlk hin hE w hl
  have hx := S.1
  have hb := S.2.1
  have hl : lv_has ls 1 [(0, .ref (x.f .ho))] := hl
  refine lv_aload_n hx hb dL_things_0 rfl (lv_at hl 0 rfl) ?_
  refine g_calli w (g_runV (As := []) (rest := []) S hE w hl (hX8_things l D ar κ G x Z sz  hk ) (k_RL_86 S.2.2.2.2 ⟨Nat.le_of_ble_eq_true rfl, Nat.le_of_ble_eq_true rfl⟩) (ov_r (t := .ho) (hk.e (.ho) rfl)) rfl rfl rfl rfl (Nat.le_of_ble_eq_true rfl) dL_things_1 ⟨Nat.le_of_ble_eq_true rfl, Nat.le_of_ble_eq_true rfl⟩) (fun r u H locs hp hnz w => ?_)
  obtain ⟨rfl, rfl⟩ := hp
  dsimp only at w
  refine lv_i2l hx hb dL_things_4 rfl ?_
  exact g_lret hx hb hr hlk w (Nat.le_of_ble_eq_true rfl) (Nat.le_of_ble_eq_true rfl) dL_things_5 ⟨((sL_things_u Z)).symm, rfl⟩
def sL_state (Z : Ho) : Int64 := (sX8_state Z).toInt64
theorem sL_state_u (Z : Ho) : sL_state Z = (sX8_state Z).toInt64 := rfl
set_option maxHeartbeats 4000000 in
set_option maxRecDepth 100000 in
theorem hL_state (l : Launch) (D : va_G) (ar : Nat → ClassId) (κ : Nat → Nat) (G : gW) (x : Xo) (Z : Ho) (sz : Nat) (hk : OK x Z) : Met l yL_state (lwC yL_state cL_state 1 (some .long)) (rD 3 0 0) (g_Pc D vwCl (gT ar) (EX1 κ) (ov κ ar x Z G) sz [.ref (x.f .ho)]) (g_Ql D vwCl (g_A (ov κ ar x Z G) sz) (fun r u => r = sL_state Z ∧ u = (ov κ ar x Z G, sz))) 0 0 (g_A (ov κ ar x Z G) sz) := by
  refine g_ofW (by decide +kernel) (Nat.le_of_ble_eq_true rfl) ?_
  intro p e s m below meth c ls S hr hlk hin hE w hl
  have hx := S.1
  have hb := S.2.1
  have hl : lv_has ls 1 [(0, .ref (x.f .ho))] := hl
  refine lv_aload_n hx hb dL_state_0 rfl (lv_at hl 0 rfl) ?_
  refine g_calli w (g_runV (As := []) (rest := []) S hE w hl (hX8_state l D ar κ G x Z sz  hk ) (k_RL_104 S.2.2.2.2 ⟨Nat.le_of_ble_eq_true rfl, Nat.le_of_ble_eq_true rfl⟩) (ov_r (t := .ho) (hk.e (.ho) rfl)) rfl rfl rfl rfl (Nat.le_of_ble_eq_true rfl) dL_state_1 ⟨Nat.le_of_ble_eq_true rfl, Nat.le_of_ble_eq_true rfl⟩) (fun r u H locs hp hnz w => ?_)
  obtain ⟨rfl, rfl⟩ := hp
  dsimp only at w
  refine lv_i2l hx hb dL_state_4 rfl ?_
  exact g_lret hx hb hr hlk w (Nat.le_of_ble_eq_true rfl) (Nat.le_of_ble_eq_true rfl) dL_state_5 ⟨((sL_state_u Z)).symm, rfl⟩
def sL_frames (Z : Ho) : Int64 := (sX8_frames Z).toInt64
theorem sL_frames_u (Z : Ho) : sL_frames Z = (sX8_frames Z).toInt64 := rfl
set_option maxHeartbeats 4000000 in
set_option maxRecDepth 100000 in
theorem hL_frames (l : Launch) (D : va_G) (ar : Nat → ClassId) (κ : Nat → Nat) (G : gW) (x : Xo) (Z : Ho) (sz : Nat) (hk : OK x Z) : Met l yL_frames (lwC yL_frames cL_frames 1 (some .long)) (rD 3 0 0) (g_Pc D vwCl (gT ar) (EX1 κ) (ov κ ar x Z G) sz [.ref (x.f .ho)]) (g_Ql D vwCl (g_A (ov κ ar x Z G) sz) (fun r u => r = sL_frames Z ∧ u = (ov κ ar x Z G, sz))) 0 0 (g_A (ov κ ar x Z G) sz) := by
  refine g_ofW (by decide +kernel) (Nat.le_of_ble_eq_true rfl) ?_
  intro p e s m below meth c ls S hr hlk hin hE w hl
  have hx := S.1
  have hb := S.2.1
  have hl : lv_has ls 1 [(0, .ref (x.f .ho))] := hl
  refine lv_aload_n hx hb dL_frames_0 rfl (lv_at hl 0 rfl) ?_
  refine g_calli w (g_runV (As := []) (rest := []) S hE w hl (hX8_frames l D ar κ G x Z sz  hk ) (k_RL_120 S.2.2.2.2 ⟨Nat.le_of_ble_eq_true rfl, Nat.le_of_ble_eq_true rfl⟩) (ov_r (t := .ho) (hk.e (.ho) rfl)) rfl rfl rfl rfl (Nat.le_of_ble_eq_true rfl) dL_frames_1 ⟨Nat.le_of_ble_eq_true rfl, Nat.le_of_ble_eq_true rfl⟩) (fun r u H locs hp hnz w => ?_)
  obtain ⟨rfl, rfl⟩ := hp
  dsimp only at w
  refine lv_i2l hx hb dL_frames_4 rfl ?_
  exact g_lret hx hb hr hlk w (Nat.le_of_ble_eq_true rfl) (Nat.le_of_ble_eq_true rfl) dL_frames_5 ⟨((sL_frames_u Z)).symm, rfl⟩
noncomputable def sL_checksum (Z : Ho) : Int64 := sX8_checksum Z
theorem sL_checksum_u (Z : Ho) : sL_checksum Z = sX8_checksum Z := rfl
set_option maxHeartbeats 4000000 in
set_option maxRecDepth 100000 in
theorem hL_checksum (l : Launch) (D : va_G) (ar : Nat → ClassId) (κ : Nat → Nat) (G : gW) (x : Xo) (Z : Ho) (sz : Nat) (hk : OK x Z) : Met l yL_checksum (lwC yL_checksum cL_checksum 1 (some .long)) (rD 10 0 0) (g_Pc D vwCl (gT ar) (EX1 κ) (ov κ ar x Z G) sz [.ref (x.f .ho)]) (g_Ql D vwCl (g_A (ov κ ar x Z G) sz) (fun r u => r = sL_checksum Z ∧ u = (ov κ ar x Z G, sz))) 0 0 (g_A (ov κ ar x Z G) sz) := by
  refine g_ofW (by decide +kernel) (Nat.le_of_ble_eq_true rfl) ?_
  intro p e s m below meth c ls S hr hlk hin hE w hl
  have hx := S.1
  have hb := S.2.1
  have hl : lv_has ls 1 [(0, .ref (x.f .ho))] := hl
  refine lv_aload_n hx hb dL_checksum_0 rfl (lv_at hl 0 rfl) ?_
  refine g_calll w (g_runV (As := []) (rest := []) S hE w hl (hX8_checksum l D ar κ G x Z sz  hk ) (k_RL_135 S.2.2.2.2 ⟨Nat.le_of_ble_eq_true rfl, Nat.le_of_ble_eq_true rfl⟩) (ov_r (t := .ho) (hk.e (.ho) rfl)) rfl rfl rfl rfl (Nat.le_of_ble_eq_true rfl) dL_checksum_1 ⟨Nat.le_of_ble_eq_true rfl, Nat.le_of_ble_eq_true rfl⟩) (fun r u H locs hp hnz w => ?_)
  obtain ⟨rfl, rfl⟩ := hp
  dsimp only at w
  exact g_lret hx hb hr hlk w (Nat.le_of_ble_eq_true rfl) (Nat.le_of_ble_eq_true rfl) dL_checksum_4 ⟨((sL_checksum_u Z)).symm, rfl⟩
noncomputable def sL_isSound (Z : Ho) : Int64 := if sX8_isSound Z = 0 then (0) else (1)
theorem sL_isSound_u (Z : Ho) : sL_isSound Z = if sX8_isSound Z = 0 then (0) else (1) := rfl
set_option maxHeartbeats 4000000 in
set_option maxRecDepth 100000 in
theorem hL_isSound (l : Launch) (D : va_G) (ar : Nat → ClassId) (κ : Nat → Nat) (G : gW) (x : Xo) (Z : Ho) (sz : Nat) (hk : OK x Z) : Met l yL_isSound (lwC yL_isSound cL_isSound 1 (some .long)) (rD 11 0 0) (g_Pc D vwCl (gT ar) (EX1 κ) (ov κ ar x Z G) sz [.ref (x.f .ho)]) (g_Ql D vwCl (g_A (ov κ ar x Z G) sz) (fun r u => r = sL_isSound Z ∧ u = (ov κ ar x Z G, sz))) 0 0 (g_A (ov κ ar x Z G) sz) := by
  refine g_ofW (by decide +kernel) (Nat.le_of_ble_eq_true rfl) ?_
  intro p e s m below meth c ls S hr hlk hin hE w hl
  have hx := S.1
  have hb := S.2.1
  have hl : lv_has ls 1 [(0, .ref (x.f .ho))] := hl
  refine lv_aload_n hx hb dL_isSound_0 rfl (lv_at hl 0 rfl) ?_
  refine g_calli w (g_runV (As := []) (rest := []) S hE w hl (hX8_isSound l D ar κ G x Z sz  hk ) (k_RL_139 S.2.2.2.2 ⟨Nat.le_of_ble_eq_true rfl, Nat.le_of_ble_eq_true rfl⟩) (ov_r (t := .ho) (hk.e (.ho) rfl)) rfl rfl rfl rfl (Nat.le_of_ble_eq_true rfl) dL_isSound_1 ⟨Nat.le_of_ble_eq_true rfl, Nat.le_of_ble_eq_true rfl⟩) (fun r u H locs hp hnz w => ?_)
  obtain ⟨rfl, rfl⟩ := hp
  dsimp only at w
  refine lv_if_eq (tgt := 11) hx hb dL_isSound_4 (by decide) (fun c_4 => ?_) (fun c_4 => ?_)
  · refine lv_lconst (v := 0) hx hb dL_isSound_11 (by decide) ?_
    exact g_lret hx hb hr hlk w (Nat.le_of_ble_eq_true rfl) (Nat.le_of_ble_eq_true rfl) dL_isSound_12 ⟨(((sL_isSound_u Z).trans (if_pos c_4))).symm, rfl⟩
  · refine lv_lconst (v := 1) hx hb dL_isSound_7 (by decide) ?_
    refine lv_goto (tgt := 12) hx hb dL_isSound_8 (by decide) ?_
    exact g_lret hx hb hr hlk w (Nat.le_of_ble_eq_true rfl) (Nat.le_of_ble_eq_true rfl) dL_isSound_12 ⟨(((sL_isSound_u Z).trans (if_neg c_4))).symm, rfl⟩
def sL_wipe (Z : Ho) : Int64 × Ho := pc (sX8_wipe Z) (fun r1 T2 => (r1.toInt64, T2))
theorem sL_wipe_u (Z : Ho) : sL_wipe Z = pc (sX8_wipe Z) (fun r1 T2 => (r1.toInt64, T2)) := rfl
set_option maxHeartbeats 4000000 in
set_option maxRecDepth 100000 in
theorem hL_wipe (l : Launch) (D : va_G) (ar : Nat → ClassId) (κ : Nat → Nat) (G : gW) (x : Xo) (Z : Ho) (sz : Nat) (hk : OK x Z) : Met l yL_wipe (lwC yL_wipe cL_wipe 1 (some .long)) (rD 3 0 0) (g_Pc D vwCl (gT ar) (EX1 κ) (ov κ ar x Z G) sz [.ref (x.f .ho)]) (g_Ql D vwCl (g_A (ov κ ar x Z G) sz) (fun r u => ∃ T9 : Ho, sL_wipe Z = (r, T9) ∧ u = (ov κ ar x T9 G, sz) ∧ OK x T9 ∧ SZ T9 Z)) 0 0 (g_A (ov κ ar x Z G) sz) := by
  refine g_ofW (by decide +kernel) (Nat.le_of_ble_eq_true rfl) ?_
  intro p e s m below meth c ls S hr hlk hin hE w hl
  have hx := S.1
  have hb := S.2.1
  have hl : lv_has ls 1 [(0, .ref (x.f .ho))] := hl
  refine lv_aload_n hx hb dL_wipe_0 rfl (lv_at hl 0 rfl) ?_
  refine g_calli w (g_runV (As := []) (rest := []) S hE w hl (hX8_wipe l D ar κ G x Z sz  hk ) (k_RL_39 S.2.2.2.2 ⟨Nat.le_of_ble_eq_true rfl, Nat.le_of_ble_eq_true rfl⟩) (ov_r (t := .ho) (hk.e (.ho) rfl)) rfl rfl rfl rfl (Nat.le_of_ble_eq_true rfl) dL_wipe_1 ⟨Nat.le_of_ble_eq_true rfl, Nat.le_of_ble_eq_true rfl⟩) (fun r1 u H locs hp hnz w => ?_)
  obtain ⟨T2, e3, hu9, hk4, sq5⟩ := hp
  subst hu9
  dsimp only at w
  refine lv_i2l hx hb dL_wipe_4 rfl ?_
  exact g_lret hx hb hr hlk w (Nat.le_of_ble_eq_true rfl) (Nat.le_of_ble_eq_true rfl) dL_wipe_5 ⟨_, ((sL_wipe_u Z).trans (pc_e e3)), rfl, hk4, (SZ.t sq5 ⟨rfl, rfl, rfl, rfl⟩)⟩
noncomputable def sL_collect (Z : Ho) : Int64 × Ho := pc (sX8_collect Z) (fun r1 T2 => (r1.toInt64, T2))
theorem sL_collect_u (Z : Ho) : sL_collect Z = pc (sX8_collect Z) (fun r1 T2 => (r1.toInt64, T2)) := rfl
set_option maxHeartbeats 4000000 in
set_option maxRecDepth 100000 in
theorem hL_collect (l : Launch) (D : va_G) (ar : Nat → ClassId) (κ : Nat → Nat) (G : gW) (x : Xo) (Z : Ho) (sz : Nat) (hk : OK x Z) : Met l yL_collect (lwC yL_collect cL_collect 1 (some .long)) (rD 10 0 0) (g_Pc D vwCl (gT ar) (EX1 κ) (ov κ ar x Z G) sz [.ref (x.f .ho)]) (g_Ql D vwCl (g_A (ov κ ar x Z G) sz) (fun r u => ∃ T9 : Ho, sL_collect Z = (r, T9) ∧ u = (ov κ ar x T9 G, sz) ∧ OK x T9 ∧ SZ T9 Z)) 0 0 (g_A (ov κ ar x Z G) sz) := by
  refine g_ofW (by decide +kernel) (Nat.le_of_ble_eq_true rfl) ?_
  intro p e s m below meth c ls S hr hlk hin hE w hl
  have hx := S.1
  have hb := S.2.1
  have hl : lv_has ls 1 [(0, .ref (x.f .ho))] := hl
  refine lv_aload_n hx hb dL_collect_0 rfl (lv_at hl 0 rfl) ?_
  refine g_calli w (g_runV (As := []) (rest := []) S hE w hl (hX8_collect l D ar κ G x Z sz  hk ) (k_RL_89 S.2.2.2.2 ⟨Nat.le_of_ble_eq_true rfl, Nat.le_of_ble_eq_true rfl⟩) (ov_r (t := .ho) (hk.e (.ho) rfl)) rfl rfl rfl rfl (Nat.le_of_ble_eq_true rfl) dL_collect_1 ⟨Nat.le_of_ble_eq_true rfl, Nat.le_of_ble_eq_true rfl⟩) (fun r1 u H locs hp hnz w => ?_)
  obtain ⟨T2, e3, hu9, hk4, sq5⟩ := hp
  subst hu9
  dsimp only at w
  refine lv_i2l hx hb dL_collect_4 rfl ?_
  exact g_lret hx hb hr hlk w (Nat.le_of_ble_eq_true rfl) (Nat.le_of_ble_eq_true rfl) dL_collect_5 ⟨_, ((sL_collect_u Z).trans (pc_e e3)), rfl, hk4, (SZ.t sq5 ⟨rfl, rfl, rfl, rfl⟩)⟩
def sL_classes3 (Z : Ho) : Ho := pc (sL_add Z 0 2) (fun r1 T2 => pc (sL_add T2 3 1) (fun r9 T10 => pc (sL_add T10 4 0) (fun r17 T18 => T18)))
theorem sL_classes3_u (Z : Ho) : sL_classes3 Z = pc (sL_add Z 0 2) (fun r1 T2 => pc (sL_add T2 3 1) (fun r9 T10 => pc (sL_add T10 4 0) (fun r17 T18 => T18))) := rfl
set_option maxHeartbeats 4000000 in
set_option maxRecDepth 100000 in
theorem hL_classes3 (l : Launch) (D : va_G) (ar : Nat → ClassId) (κ : Nat → Nat) (G : gW) (x : Xo) (Z : Ho) (sz : Nat) (hk : OK x Z) (hlt : l.stackTraces = false) : Met l yL_classes3 (lwC yL_classes3 cL_classes3 1 none) (rD 13 3 18) (g_Pc D vwCl (gT ar) (EX1 κ) (ov κ ar x Z G) sz [.ref (x.f .ho)]) (g_Qv D vwCl (g_A (ov κ ar x Z G) sz) (fun u => ∃ T9 : Ho, sL_classes3 Z = T9 ∧ u.1 = ov κ ar x T9 G ∧ OK x T9 ∧ SZ T9 Z)) 3 18 (g_A (ov κ ar x Z G) sz) := by
  refine g_ofW (by decide +kernel) (Nat.le_of_ble_eq_true rfl) ?_
  intro p e s m below meth c ls S hr hlk hin hE w hl
  have hx := S.1
  have hb := S.2.1
  have hl : lv_has ls 1 [(0, .ref (x.f .ho))] := hl
  refine lv_aload_n hx hb dL_classes3_0 rfl (lv_at hl 0 rfl) ?_
  refine lv_iconst (v := 0) hx hb dL_classes3_1 (by decide) ?_
  refine lv_iconst (v := 2) hx hb dL_classes3_2 (by decide) ?_
  refine g_calll w (g_runSW (As := [.ref (x.f .ho), .int 0, .int 2]) (rest := []) S hE w hl (hL_add l D ar κ G x Z sz 0 2 hk  hlt) (kW_254 S.2.2.2.2 ⟨Nat.le_of_ble_eq_true rfl, Nat.le_of_ble_eq_true rfl⟩) rfl rfl (Nat.le_of_ble_eq_true rfl) dL_classes3_3 ⟨Nat.le_of_ble_eq_true rfl, Nat.le_of_ble_eq_true rfl⟩) (fun r1 u H locs hp hnz w => ?_)
  obtain ⟨T2, e3, hu9, hk4, sq5⟩ := hp
  obtain ⟨u7, n6⟩ := u
  dsimp only at hu9 w hnz
  subst hu9
  have hz8 := hnz
  refine lv_pop2_2 hx hb dL_classes3_6 rfl ?_
  refine lv_aload_n hx hb dL_classes3_7 rfl (lv_at hl 0 rfl) ?_
  refine lv_iconst (v := 3) hx hb dL_classes3_8 (by decide) ?_
  refine lv_iconst (v := 1) hx hb dL_classes3_9 (by decide) ?_
  refine g_calll w (g_runSW (As := [.ref (x.f .ho), .int 3, .int 1]) (rest := []) S hE w hl (hL_add l D ar κ G x T2 n6 3 1 hk4  hlt) (kW_254 S.2.2.2.2 ⟨Nat.le_of_ble_eq_true rfl, Nat.le_of_ble_eq_true rfl⟩) rfl rfl (Nat.le_of_ble_eq_true rfl) dL_classes3_10 ⟨Nat.le_of_ble_eq_true rfl, Nat.le_of_ble_eq_true rfl⟩) (fun r9 u H locs hp hnz w => ?_)
  obtain ⟨T10, e11, hu9, hk12, sq13⟩ := hp
  obtain ⟨u15, n14⟩ := u
  dsimp only at hu9 w hnz
  subst hu9
  have hz16 := hnz
  refine lv_pop2_2 hx hb dL_classes3_13 rfl ?_
  refine lv_aload_n hx hb dL_classes3_14 rfl (lv_at hl 0 rfl) ?_
  refine lv_iconst (v := 4) hx hb dL_classes3_15 (by decide) ?_
  refine lv_iconst (v := 0) hx hb dL_classes3_16 (by decide) ?_
  refine g_calll w (g_runSW (As := [.ref (x.f .ho), .int 4, .int 0]) (rest := []) S hE w hl (hL_add l D ar κ G x T10 n14 4 0 hk12  hlt) (kW_254 S.2.2.2.2 ⟨Nat.le_of_ble_eq_true rfl, Nat.le_of_ble_eq_true rfl⟩) rfl rfl (Nat.le_of_ble_eq_true rfl) dL_classes3_17 ⟨Nat.le_of_ble_eq_true rfl, Nat.le_of_ble_eq_true rfl⟩) (fun r17 u H locs hp hnz w => ?_)
  obtain ⟨T18, e19, hu9, hk20, sq21⟩ := hp
  obtain ⟨u23, n22⟩ := u
  dsimp only at hu9 w hnz
  subst hu9
  have hz24 := hnz
  refine lv_pop2_2 hx hb dL_classes3_20 rfl ?_
  exact g_vret hx hb hr hlk w (Nat.le_of_ble_eq_true rfl) (Nat.le_of_ble_eq_true rfl) dL_classes3_21 ⟨_, ((sL_classes3_u Z).trans ((pc_e e3).trans ((pc_e e11).trans (pc_e e19)))), rfl, hk20, (SZ.t sq21 (SZ.t sq13 (SZ.t sq5 ⟨rfl, rfl, rfl, rfl⟩)))⟩
def sL_globals (Z : Ho) (v0 : Int32) : Ho := if (v0 / 4) - (v0 / 4) / 4 * 4 = 0 then (pc (sL_number Z (v0 - v0 / 4 * 4) ((v0 / 16) - (v0 / 16) / 9 * 9)) (fun r1 T2 => T2)) else (if (v0 / 4) - (v0 / 4) / 4 * 4 = 1 then (pc (sL_nothing Z (v0 - v0 / 4 * 4)) (fun r9 T10 => T10)) else (pc (sL_make Z (v0 - v0 / 4 * 4) (3 + ((v0 / 16) - (v0 / 16) / 3 * 3))) (fun r17 T18 => T18)))
theorem sL_globals_u (Z : Ho) (v0 : Int32) : sL_globals Z v0 = if (v0 / 4) - (v0 / 4) / 4 * 4 = 0 then (pc (sL_number Z (v0 - v0 / 4 * 4) ((v0 / 16) - (v0 / 16) / 9 * 9)) (fun r1 T2 => T2)) else (if (v0 / 4) - (v0 / 4) / 4 * 4 = 1 then (pc (sL_nothing Z (v0 - v0 / 4 * 4)) (fun r9 T10 => T10)) else (pc (sL_make Z (v0 - v0 / 4 * 4) (3 + ((v0 / 16) - (v0 / 16) / 3 * 3))) (fun r17 T18 => T18))) := rfl
set_option maxHeartbeats 4000000 in
set_option maxRecDepth 100000 in
theorem hL_globals (l : Launch) (D : va_G) (ar : Nat → ClassId) (κ : Nat → Nat) (G : gW) (x : Xo) (Z : Ho) (sz : Nat) (v0 : Int32) (hk : OK x Z) (hlt : l.stackTraces = false) : Met l yL_globals (lwC yL_globals cL_globals 3 none) (rD 16 1 6) (g_Pc D vwCl (gT ar) (EX1 κ) (ov κ ar x Z G) sz [.ref (x.f .ho), .int v0]) (g_Qv D vwCl (g_A (ov κ ar x Z G) sz) (fun u => ∃ T9 : Ho, sL_globals Z v0 = T9 ∧ u.1 = ov κ ar x T9 G ∧ OK x T9 ∧ SZ T9 Z)) 1 6 (g_A (ov κ ar x Z G) sz) := by
  refine g_ofW (by decide +kernel) (Nat.le_of_ble_eq_true rfl) ?_
  intro p e s m below meth c ls S hr hlk hin hE w hl
  have hx := S.1
  have hb := S.2.1
  have hl : lv_has ls 3 [(0, .ref (x.f .ho)), (1, .int v0)] := hl
  refine lv_iload_n hx hb dL_globals_0 rfl (lv_at hl 1 rfl) ?_
  refine lv_iconst (v := 4) hx hb dL_globals_1 (by decide) ?_
  refine lv_irem hx hb dL_globals_2 (by decide) ?_
  refine lv_istore_n (lv' := [(2, .int (v0 - v0 / 4 * 4)), (0, .ref (x.f .ho)), (1, .int v0)]) hx hb dL_globals_3 rfl hl (by decide) rfl (fun ls hl => ?_)
  refine lv_iload_n hx hb dL_globals_4 rfl (lv_at hl 2 rfl) ?_
  refine lv_iconst (v := 4) hx hb dL_globals_5 (by decide) ?_
  refine lv_idiv hx hb dL_globals_6 (by decide) ?_
  refine lv_iconst (v := 4) hx hb dL_globals_7 (by decide) ?_
  refine lv_irem hx hb dL_globals_8 (by decide) ?_
  by_cases c_9_0 : (v0 / 4) - (v0 / 4) / 4 * 4 = 0
  · refine lv_lookup (off := 27) (tgt := 36) hx hb dL_globals_9 (by decide) (by have h9 := c_9_0; (rw [h9]; decide)) (by decide) ?_
    refine lv_aload_n hx hb dL_globals_36 rfl (lv_at hl 1 rfl) ?_
    refine lv_iload_n hx hb dL_globals_37 rfl (lv_at hl 0 rfl) ?_
    refine lv_iload_n hx hb dL_globals_38 rfl (lv_at hl 2 rfl) ?_
    refine lv_bipush (v := 16) hx hb dL_globals_39 (by decide) ?_
    refine lv_idiv hx hb dL_globals_41 (by decide) ?_
    refine lv_bipush (v := 9) hx hb dL_globals_42 (by decide) ?_
    refine lv_irem hx hb dL_globals_44 (by decide) ?_
    refine g_calll w (g_runSW (As := [.ref (x.f .ho), .int (v0 - v0 / 4 * 4), .int ((v0 / 16) - (v0 / 16) / 9 * 9)]) (rest := []) S hE w hl (hL_number l D ar κ G x Z sz (v0 - v0 / 4 * 4) ((v0 / 16) - (v0 / 16) / 9 * 9) hk  hlt) (kW_257 S.2.2.2.2 ⟨Nat.le_of_ble_eq_true rfl, Nat.le_of_ble_eq_true rfl⟩) rfl rfl (Nat.le_of_ble_eq_true rfl) dL_globals_45 ⟨Nat.le_of_ble_eq_true rfl, Nat.le_of_ble_eq_true rfl⟩) (fun r1 u H locs hp hnz w => ?_)
    obtain ⟨T2, e3, hu9, hk4, sq5⟩ := hp
    obtain ⟨u7, n6⟩ := u
    dsimp only at hu9 w hnz
    subst hu9
    have hz8 := hnz
    refine lv_pop2_2 hx hb dL_globals_48 rfl ?_
    refine lv_goto (tgt := 75) hx hb dL_globals_49 (by decide) ?_
    exact g_vret hx hb hr hlk w (Nat.le_of_ble_eq_true rfl) (Nat.le_of_ble_eq_true rfl) dL_globals_75 ⟨_, ((sL_globals_u Z v0).trans ((if_pos c_9_0).trans (pc_e e3))), rfl, hk4, (SZ.t sq5 ⟨rfl, rfl, rfl, rfl⟩)⟩
  by_cases c_9_1 : (v0 / 4) - (v0 / 4) / 4 * 4 = 1
  · refine lv_lookup (off := 43) (tgt := 52) hx hb dL_globals_9 (by decide) (by have h9 := c_9_1; (rw [h9]; decide)) (by decide) ?_
    refine lv_aload_n hx hb dL_globals_52 rfl (lv_at hl 1 rfl) ?_
    refine lv_iload_n hx hb dL_globals_53 rfl (lv_at hl 0 rfl) ?_
    refine g_calll w (g_runSW (As := [.ref (x.f .ho), .int (v0 - v0 / 4 * 4)]) (rest := []) S hE w hl (hL_nothing l D ar κ G x Z sz (v0 - v0 / 4 * 4) hk  hlt) (kW_259 S.2.2.2.2 ⟨Nat.le_of_ble_eq_true rfl, Nat.le_of_ble_eq_true rfl⟩) rfl rfl (Nat.le_of_ble_eq_true rfl) dL_globals_54 ⟨Nat.le_of_ble_eq_true rfl, Nat.le_of_ble_eq_true rfl⟩) (fun r9 u H locs hp hnz w => ?_)
    obtain ⟨T10, e11, hu9, hk12, sq13⟩ := hp
    obtain ⟨u15, n14⟩ := u
    dsimp only at hu9 w hnz
    subst hu9
    have hz16 := hnz
    refine lv_pop2_2 hx hb dL_globals_57 rfl ?_
    refine lv_goto (tgt := 75) hx hb dL_globals_58 (by decide) ?_
    exact g_vret hx hb hr hlk w (Nat.le_of_ble_eq_true rfl) (Nat.le_of_ble_eq_true rfl) dL_globals_75 ⟨_, ((sL_globals_u Z v0).trans ((if_neg c_9_0).trans ((if_pos c_9_1).trans (pc_e e11)))), rfl, hk12, (SZ.t sq13 ⟨rfl, rfl, rfl, rfl⟩)⟩
  refine lv_lookup (off := 52) (tgt := 61) hx hb dL_globals_9 (by decide) (sw_def (ks := [0, 1]) ⟨c_9_0, c_9_1, trivial⟩ (by decide +kernel)) (by decide) ?_
  refine lv_aload_n hx hb dL_globals_61 rfl (lv_at hl 1 rfl) ?_
  refine lv_iload_n hx hb dL_globals_62 rfl (lv_at hl 0 rfl) ?_
  refine lv_iconst (v := 3) hx hb dL_globals_63 (by decide) ?_
  refine lv_iload_n hx hb dL_globals_64 rfl (lv_at hl 2 rfl) ?_
  refine lv_bipush (v := 16) hx hb dL_globals_65 (by decide) ?_
  refine lv_idiv hx hb dL_globals_67 (by decide) ?_
  refine lv_iconst (v := 3) hx hb dL_globals_68 (by decide) ?_
  refine lv_irem hx hb dL_globals_69 (by decide) ?_
  refine lv_iadd hx hb dL_globals_70 ?_
  refine g_calll w (g_runSW (As := [.ref (x.f .ho), .int (v0 - v0 / 4 * 4), .int (3 + ((v0 / 16) - (v0 / 16) / 3 * 3))]) (rest := []) S hE w hl (hL_make l D ar κ G x Z sz (v0 - v0 / 4 * 4) (3 + ((v0 / 16) - (v0 / 16) / 3 * 3)) hk  hlt) (kW_262 S.2.2.2.2 ⟨Nat.le_of_ble_eq_true rfl, Nat.le_of_ble_eq_true rfl⟩) rfl rfl (Nat.le_of_ble_eq_true rfl) dL_globals_71 ⟨Nat.le_of_ble_eq_true rfl, Nat.le_of_ble_eq_true rfl⟩) (fun r17 u H locs hp hnz w => ?_)
  obtain ⟨T18, e19, hu9, hk20, sq21⟩ := hp
  obtain ⟨u23, n22⟩ := u
  dsimp only at hu9 w hnz
  subst hu9
  have hz24 := hnz
  refine lv_pop2_2 hx hb dL_globals_74 rfl ?_
  exact g_vret hx hb hr hlk w (Nat.le_of_ble_eq_true rfl) (Nat.le_of_ble_eq_true rfl) dL_globals_75 ⟨_, ((sL_globals_u Z v0).trans ((if_neg c_9_0).trans ((if_neg c_9_1).trans (pc_e e19)))), rfl, hk20, (SZ.t sq21 ⟨rfl, rfl, rfl, rfl⟩)⟩
