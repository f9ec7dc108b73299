theorem dX15_isPlace_0 : decode cX15_isPlace 0 = .ok (.aload_n 0, 1) := by decide +kernel
theorem dX15_isPlace_1 : decode cX15_isPlace 1 = .ok (.iload_n 1, 1) := by decide +kernel
theorem dX15_isPlace_2 : decode cX15_isPlace 2 = .ok (.invokevirtual 66, 3) := by decide +kernel
theorem dX15_isPlace_5 : decode cX15_isPlace 5 = .ok (.ifCond .eq 17, 3) := by decide +kernel
theorem dX15_isPlace_8 : decode cX15_isPlace 8 = .ok (.iload_n 2, 1) := by decide +kernel
theorem dX15_isPlace_9 : decode cX15_isPlace 9 = .ok (.iconst 0, 1) := by decide +kernel
theorem dX15_isPlace_10 : decode cX15_isPlace 10 = .ok (.bipush 15, 2) := by decide +kernel
theorem dX15_isPlace_12 : decode cX15_isPlace 12 = .ok (.invokestatic 62, 3) := by decide +kernel
theorem dX15_isPlace_15 : decode cX15_isPlace 15 = .ok (.ifCond .eq 7, 3) := by decide +kernel
theorem dX15_isPlace_18 : decode cX15_isPlace 18 = .ok (.iconst 1, 1) := by decide +kernel
theorem dX15_isPlace_19 : decode cX15_isPlace 19 = .ok (.goto 4, 3) := by decide +kernel
theorem dX15_isPlace_22 : decode cX15_isPlace 22 = .ok (.iconst 0, 1) := by decide +kernel
theorem dX15_isPlace_23 : decode cX15_isPlace 23 = .ok (.ireturn, 1) := by decide +kernel
theorem dX15_told_0 : decode cX15_told 0 = .ok (.aload_n 0, 1) := by decide +kernel
theorem dX15_told_1 : decode cX15_told 1 = .ok (.getfield 21, 3) := by decide +kernel
theorem dX15_told_4 : decode cX15_told 4 = .ok (.iload_n 1, 1) := by decide +kernel
theorem dX15_told_5 : decode cX15_told 5 = .ok (.invokevirtual 70, 3) := by decide +kernel
theorem dX15_told_8 : decode cX15_told 8 = .ok (.checkcast 45, 3) := by decide +kernel
theorem dX15_told_11 : decode cX15_told 11 = .ok (.getfield 163, 3) := by decide +kernel
theorem dX15_told_14 : decode cX15_told 14 = .ok (.iload_n 2, 1) := by decide +kernel
theorem dX15_told_15 : decode cX15_told 15 = .ok (.aaload, 1) := by decide +kernel
theorem dX15_told_16 : decode cX15_told 16 = .ok (.areturn, 1) := by decide +kernel
theorem dX15_found_0 : decode cX15_found 0 = .ok (.iload_n 1, 1) := by decide +kernel
theorem dX15_found_1 : decode cX15_found 1 = .ok (.istore_n 3, 1) := by decide +kernel
theorem dX15_found_2 : decode cX15_found 2 = .ok (.iload_n 3, 1) := by decide +kernel
theorem dX15_found_3 : decode cX15_found 3 = .ok (.iconst (-1), 1) := by decide +kernel
theorem dX15_found_4 : decode cX15_found 4 = .ok (.if_icmp .eq 37, 3) := by decide +kernel
theorem dX15_found_7 : decode cX15_found 7 = .ok (.aload_n 0, 1) := by decide +kernel
theorem dX15_found_8 : decode cX15_found 8 = .ok (.iload_n 3, 1) := by decide +kernel
theorem dX15_found_9 : decode cX15_found 9 = .ok (.iload_n 2, 1) := by decide +kernel
theorem dX15_found_10 : decode cX15_found 10 = .ok (.invokevirtual 170, 3) := by decide +kernel
theorem dX15_found_13 : decode cX15_found 13 = .ok (.ifnull 10, 3) := by decide +kernel
theorem dX15_found_16 : decode cX15_found 16 = .ok (.aload_n 0, 1) := by decide +kernel
theorem dX15_found_17 : decode cX15_found 17 = .ok (.iload_n 3, 1) := by decide +kernel
theorem dX15_found_18 : decode cX15_found 18 = .ok (.iload_n 2, 1) := by decide +kernel
theorem dX15_found_19 : decode cX15_found 19 = .ok (.invokevirtual 170, 3) := by decide +kernel
theorem dX15_found_22 : decode cX15_found 22 = .ok (.areturn, 1) := by decide +kernel
theorem dX15_found_23 : decode cX15_found 23 = .ok (.aload_n 0, 1) := by decide +kernel
theorem dX15_found_24 : decode cX15_found 24 = .ok (.getfield 21, 3) := by decide +kernel
theorem dX15_found_27 : decode cX15_found 27 = .ok (.iload_n 3, 1) := by decide +kernel
theorem dX15_found_28 : decode cX15_found 28 = .ok (.invokevirtual 70, 3) := by decide +kernel
theorem dX15_found_31 : decode cX15_found 31 = .ok (.checkcast 45, 3) := by decide +kernel
theorem dX15_found_34 : decode cX15_found 34 = .ok (.getfield 177, 3) := by decide +kernel
theorem dX15_found_37 : decode cX15_found 37 = .ok (.istore_n 3, 1) := by decide +kernel
theorem dX15_found_38 : decode cX15_found 38 = .ok (.goto (-36), 3) := by decide +kernel
theorem dX15_found_41 : decode cX15_found 41 = .ok (.aconst_null, 1) := by decide +kernel
theorem dX15_found_42 : decode cX15_found 42 = .ok (.areturn, 1) := by decide +kernel
theorem dX15_isNoMethod_0 : decode cX15_isNoMethod 0 = .ok (.aload_n 0, 1) := by decide +kernel
theorem dX15_isNoMethod_1 : decode cX15_isNoMethod 1 = .ok (.aload_n 0, 1) := by decide +kernel
theorem dX15_isNoMethod_2 : decode cX15_isNoMethod 2 = .ok (.iload_n 1, 1) := by decide +kernel
theorem dX15_isNoMethod_3 : decode cX15_isNoMethod 3 = .ok (.iload_n 2, 1) := by decide +kernel
theorem dX15_isNoMethod_4 : decode cX15_isNoMethod 4 = .ok (.invokevirtual 144, 3) := by decide +kernel
theorem dX15_isNoMethod_7 : decode cX15_isNoMethod 7 = .ok (.ifCond .ne 7, 3) := by decide +kernel
theorem dX15_isNoMethod_10 : decode cX15_isNoMethod 10 = .ok (.iconst 1, 1) := by decide +kernel
theorem dX15_isNoMethod_11 : decode cX15_isNoMethod 11 = .ok (.goto 27, 3) := by decide +kernel
theorem dX15_isNoMethod_14 : decode cX15_isNoMethod 14 = .ok (.aload_n 0, 1) := by decide +kernel
theorem dX15_isNoMethod_15 : decode cX15_isNoMethod 15 = .ok (.getfield 21, 3) := by decide +kernel
theorem dX15_isNoMethod_18 : decode cX15_isNoMethod 18 = .ok (.iload_n 1, 1) := by decide +kernel
theorem dX15_isNoMethod_19 : decode cX15_isNoMethod 19 = .ok (.invokevirtual 70, 3) := by decide +kernel
theorem dX15_isNoMethod_22 : decode cX15_isNoMethod 22 = .ok (.checkcast 45, 3) := by decide +kernel
theorem dX15_isNoMethod_25 : decode cX15_isNoMethod 25 = .ok (.getfield 163, 3) := by decide +kernel
theorem dX15_isNoMethod_28 : decode cX15_isNoMethod 28 = .ok (.iload_n 2, 1) := by decide +kernel
theorem dX15_isNoMethod_29 : decode cX15_isNoMethod 29 = .ok (.aaload, 1) := by decide +kernel
theorem dX15_isNoMethod_30 : decode cX15_isNoMethod 30 = .ok (.ifnonnull 7, 3) := by decide +kernel
theorem dX15_isNoMethod_33 : decode cX15_isNoMethod 33 = .ok (.iconst 2, 1) := by decide +kernel
theorem dX15_isNoMethod_34 : decode cX15_isNoMethod 34 = .ok (.goto 4, 3) := by decide +kernel
theorem dX15_isNoMethod_37 : decode cX15_isNoMethod 37 = .ok (.iconst 0, 1) := by decide +kernel
theorem dX15_isNoMethod_38 : decode cX15_isNoMethod 38 = .ok (.invokevirtual 77, 3) := by decide +kernel
theorem dX15_isNoMethod_41 : decode cX15_isNoMethod 41 = .ok (.ireturn, 1) := by decide +kernel
theorem dX15_remove_0 : decode cX15_remove 0 = .ok (.aload_n 0, 1) := by decide +kernel
theorem dX15_remove_1 : decode cX15_remove 1 = .ok (.iload_n 1, 1) := by decide +kernel
theorem dX15_remove_2 : decode cX15_remove 2 = .ok (.iload_n 2, 1) := by decide +kernel
theorem dX15_remove_3 : decode cX15_remove 3 = .ok (.invokevirtual 167, 3) := by decide +kernel
theorem dX15_remove_6 : decode cX15_remove 6 = .ok (.ifCond .eq 5, 3) := by decide +kernel
theorem dX15_remove_9 : decode cX15_remove 9 = .ok (.iconst 0, 1) := by decide +kernel
theorem dX15_remove_10 : decode cX15_remove 10 = .ok (.ireturn, 1) := by decide +kernel
theorem dX15_remove_11 : decode cX15_remove 11 = .ok (.aload_n 0, 1) := by decide +kernel
theorem dX15_remove_12 : decode cX15_remove 12 = .ok (.iload_n 1, 1) := by decide +kernel
theorem dX15_remove_13 : decode cX15_remove 13 = .ok (.iload_n 2, 1) := by decide +kernel
theorem dX15_remove_14 : decode cX15_remove 14 = .ok (.invokevirtual 170, 3) := by decide +kernel
theorem dX15_remove_17 : decode cX15_remove 17 = .ok (.getfield 174, 3) := by decide +kernel
theorem dX15_remove_20 : decode cX15_remove 20 = .ok (.istore_n 3, 1) := by decide +kernel
theorem dX15_remove_21 : decode cX15_remove 21 = .ok (.aload_n 0, 1) := by decide +kernel
theorem dX15_remove_22 : decode cX15_remove 22 = .ok (.getfield 21, 3) := by decide +kernel
theorem dX15_remove_25 : decode cX15_remove 25 = .ok (.iload_n 1, 1) := by decide +kernel
theorem dX15_remove_26 : decode cX15_remove 26 = .ok (.invokevirtual 70, 3) := by decide +kernel
theorem dX15_remove_29 : decode cX15_remove 29 = .ok (.checkcast 45, 3) := by decide +kernel
theorem dX15_remove_32 : decode cX15_remove 32 = .ok (.getfield 163, 3) := by decide +kernel
theorem dX15_remove_35 : decode cX15_remove 35 = .ok (.iload_n 2, 1) := by decide +kernel
theorem dX15_remove_36 : decode cX15_remove 36 = .ok (.aconst_null, 1) := by decide +kernel
theorem dX15_remove_37 : decode cX15_remove 37 = .ok (.aastore, 1) := by decide +kernel
theorem dX15_remove_38 : decode cX15_remove 38 = .ok (.iload_n 3, 1) := by decide +kernel
theorem dX15_remove_39 : decode cX15_remove 39 = .ok (.ireturn, 1) := by decide +kernel
theorem dX15_calls_0 : decode cX15_calls 0 = .ok (.aload_n 0, 1) := by decide +kernel
theorem dX15_calls_1 : decode cX15_calls 1 = .ok (.iload_n 1, 1) := by decide +kernel
theorem dX15_calls_2 : decode cX15_calls 2 = .ok (.iload_n 2, 1) := by decide +kernel
theorem dX15_calls_3 : decode cX15_calls 3 = .ok (.invokevirtual 167, 3) := by decide +kernel
theorem dX15_calls_6 : decode cX15_calls 6 = .ok (.ifCond .eq 7, 3) := by decide +kernel
theorem dX15_calls_9 : decode cX15_calls 9 = .ok (.iconst 0, 1) := by decide +kernel
theorem dX15_calls_10 : decode cX15_calls 10 = .ok (.goto 12, 3) := by decide +kernel
theorem dX15_calls_13 : decode cX15_calls 13 = .ok (.aload_n 0, 1) := by decide +kernel
theorem dX15_calls_14 : decode cX15_calls 14 = .ok (.iload_n 1, 1) := by decide +kernel
theorem dX15_calls_15 : decode cX15_calls 15 = .ok (.iload_n 2, 1) := by decide +kernel
theorem dX15_calls_16 : decode cX15_calls 16 = .ok (.invokevirtual 170, 3) := by decide +kernel
theorem dX15_calls_19 : decode cX15_calls 19 = .ok (.getfield 174, 3) := by decide +kernel
theorem dX15_calls_22 : decode cX15_calls 22 = .ok (.ireturn, 1) := by decide +kernel
theorem dX15_compile_0 : decode cX15_compile 0 = .ok (.aload_n 0, 1) := by decide +kernel
theorem dX15_compile_1 : decode cX15_compile 1 = .ok (.iload_n 1, 1) := by decide +kernel
theorem dX15_compile_2 : decode cX15_compile 2 = .ok (.iload_n 2, 1) := by decide +kernel
theorem dX15_compile_3 : decode cX15_compile 3 = .ok (.invokevirtual 167, 3) := by decide +kernel
theorem dX15_compile_6 : decode cX15_compile 6 = .ok (.ifCond .eq 5, 3) := by decide +kernel
theorem dX15_compile_9 : decode cX15_compile 9 = .ok (.iconst 0, 1) := by decide +kernel
theorem dX15_compile_10 : decode cX15_compile 10 = .ok (.ireturn, 1) := by decide +kernel
theorem dX15_compile_11 : decode cX15_compile 11 = .ok (.aload_n 0, 1) := by decide +kernel
theorem dX15_compile_12 : decode cX15_compile 12 = .ok (.iload_n 1, 1) := by decide +kernel
theorem dX15_compile_13 : decode cX15_compile 13 = .ok (.iload_n 2, 1) := by decide +kernel
theorem dX15_compile_14 : decode cX15_compile 14 = .ok (.invokevirtual 170, 3) := by decide +kernel
theorem dX15_compile_17 : decode cX15_compile 17 = .ok (.iconst 1, 1) := by decide +kernel
theorem dX15_compile_18 : decode cX15_compile 18 = .ok (.putfield 196, 3) := by decide +kernel
theorem dX15_compile_21 : decode cX15_compile 21 = .ok (.aload_n 0, 1) := by decide +kernel
theorem dX15_compile_22 : decode cX15_compile 22 = .ok (.iconst 0, 1) := by decide +kernel
theorem dX15_compile_23 : decode cX15_compile 23 = .ok (.invokevirtual 200, 3) := by decide +kernel
theorem dX15_compile_26 : decode cX15_compile 26 = .ok (.ireturn, 1) := by decide +kernel
theorem dX15_isCompiled_0 : decode cX15_isCompiled 0 = .ok (.aload_n 0, 1) := by decide +kernel
theorem dX15_isCompiled_1 : decode cX15_isCompiled 1 = .ok (.iload_n 1, 1) := by decide +kernel
theorem dX15_isCompiled_2 : decode cX15_isCompiled 2 = .ok (.iload_n 2, 1) := by decide +kernel
theorem dX15_isCompiled_3 : decode cX15_isCompiled 3 = .ok (.invokevirtual 167, 3) := by decide +kernel
theorem dX15_isCompiled_6 : decode cX15_isCompiled 6 = .ok (.ifCond .ne 19, 3) := by decide +kernel
theorem dX15_isCompiled_9 : decode cX15_isCompiled 9 = .ok (.aload_n 0, 1) := by decide +kernel
theorem dX15_isCompiled_10 : decode cX15_isCompiled 10 = .ok (.iload_n 1, 1) := by decide +kernel
theorem dX15_isCompiled_11 : decode cX15_isCompiled 11 = .ok (.iload_n 2, 1) := by decide +kernel
theorem dX15_isCompiled_12 : decode cX15_isCompiled 12 = .ok (.invokevirtual 170, 3) := by decide +kernel
theorem dX15_isCompiled_15 : decode cX15_isCompiled 15 = .ok (.getfield 196, 3) := by decide +kernel
theorem dX15_isCompiled_18 : decode cX15_isCompiled 18 = .ok (.ifCond .eq 7, 3) := by decide +kernel
theorem dX15_isCompiled_21 : decode cX15_isCompiled 21 = .ok (.iconst 1, 1) := by decide +kernel
theorem dX15_isCompiled_22 : decode cX15_isCompiled 22 = .ok (.goto 4, 3) := by decide +kernel
theorem dX15_isCompiled_25 : decode cX15_isCompiled 25 = .ok (.iconst 0, 1) := by decide +kernel
theorem dX15_isCompiled_26 : decode cX15_isCompiled 26 = .ok (.ireturn, 1) := by decide +kernel
theorem dX15_find_0 : decode cX15_find 0 = .ok (.aload_n 0, 1) := by decide +kernel
theorem dX15_find_1 : decode cX15_find 1 = .ok (.aload_n 0, 1) := by decide +kernel
theorem dX15_find_2 : decode cX15_find 2 = .ok (.iload_n 1, 1) := by decide +kernel
theorem dX15_find_3 : decode cX15_find 3 = .ok (.iload_n 2, 1) := by decide +kernel
theorem dX15_find_4 : decode cX15_find 4 = .ok (.invokevirtual 144, 3) := by decide +kernel
theorem dX15_find_7 : decode cX15_find 7 = .ok (.ifCond .ne 7, 3) := by decide +kernel
theorem dX15_find_10 : decode cX15_find 10 = .ok (.iconst 1, 1) := by decide +kernel
theorem dX15_find_11 : decode cX15_find 11 = .ok (.goto 17, 3) := by decide +kernel
theorem dX15_find_14 : decode cX15_find 14 = .ok (.aload_n 0, 1) := by decide +kernel
theorem dX15_find_15 : decode cX15_find 15 = .ok (.iload_n 1, 1) := by decide +kernel
theorem dX15_find_16 : decode cX15_find 16 = .ok (.iload_n 2, 1) := by decide +kernel
theorem dX15_find_17 : decode cX15_find 17 = .ok (.invokevirtual 180, 3) := by decide +kernel
theorem dX15_find_20 : decode cX15_find 20 = .ok (.ifnonnull 7, 3) := by decide +kernel
theorem dX15_find_23 : decode cX15_find 23 = .ok (.iconst 2, 1) := by decide +kernel
theorem dX15_find_24 : decode cX15_find 24 = .ok (.goto 4, 3) := by decide +kernel
theorem dX15_find_27 : decode cX15_find 27 = .ok (.iconst 0, 1) := by decide +kernel
theorem dX15_find_28 : decode cX15_find 28 = .ok (.invokevirtual 77, 3) := by decide +kernel
theorem dX15_find_31 : decode cX15_find 31 = .ok (.ifCond .eq 5, 3) := by decide +kernel
theorem dX15_find_34 : decode cX15_find 34 = .ok (.iconst 0, 1) := by decide +kernel
theorem dX15_find_35 : decode cX15_find 35 = .ok (.ireturn, 1) := by decide +kernel
theorem dX15_find_36 : decode cX15_find 36 = .ok (.aload_n 0, 1) := by decide +kernel
theorem dX15_find_37 : decode cX15_find 37 = .ok (.iload_n 1, 1) := by decide +kernel
theorem dX15_find_38 : decode cX15_find 38 = .ok (.iload_n 2, 1) := by decide +kernel
theorem dX15_find_39 : decode cX15_find 39 = .ok (.invokevirtual 180, 3) := by decide +kernel
theorem dX15_find_42 : decode cX15_find 42 = .ok (.getfield 119, 3) := by decide +kernel
theorem dX15_find_45 : decode cX15_find 45 = .ok (.ireturn, 1) := by decide +kernel
section SITES
variable {p : Program} {l : Launch} {e : Env} {R : Room} {s : State} {m : MethodId} {args : Array Value} {below : List Frame} {meth : Method} {c : Code} {H : Heap} {locs : List Loc} {cells slots : Nat} {Q : State → Prop}
variable {pc : Nat} {ls : Array Slot} {rest : List Value} {D : va_G} {ar : Nat → ClassId} {κ : Nat → Nat} {A : Nat → Prop} {a : Nat} {H0 : Heap} {G : gW} {nz nL : Nat} {cc : ByteArray}
theorem gf_RX15_163_14 {A9 : Nat → Prop} {H9 : Heap} {fs : List Value} {v : Value} (S : CallFix p m c cc nL s args lwA RX15) (hE : g_E D vwCl (gT ar) (EX1 κ) A9 s H9) (w : g_S D vwCl A H0 G H locs nz) (ha : G a = some (.inr (14, fs))) (hv : fs[2]? = some v) (hdg : decode cc pc = .ok (.getfield 163, 3)) (kk : W p l e R s m args below meth c H locs cells slots Q (F0 m (pc + 3) ls (v :: rest))) : W p l e R s m args below meth c H locs cells slots Q (F0 m pc ls (.ref a :: rest)) :=
  va_getN (ci := 14) (C := RX10) (T := TX10) (N := 3) S.1 S.2.1 S.2.2.2.2 inA_RX10 S.2.2.2.1 hE.1 (g_1 w.1 ha) 0 rfl rfl 2 (by decide) (va_Nw.use rfl (hE.2.1.1 _ (ckN_1 _ (List.mem_of_getElem? (i := 39) rfl)))) (fun _ h => h) hv hdg kk
theorem m_7_191 : (Cond.code yX15_told cX15_told 3 (some (.object "SendhouseModel$Method"))) ∈ lwA := lwA_mk (ck_7 _ (List.mem_of_getElem? (i := 191) rfl)) rfl
theorem m_7_188 : (Cond.methodLink RX15 170 yX15_told) ∈ lwA := lwA_mk (ck_7 _ (List.mem_of_getElem? (i := 188) rfl)) rfl
theorem m_7_190 : (Cond.instanceMethod yX15_told) ∈ lwA := lwA_mk (ck_7 _ (List.mem_of_getElem? (i := 190) rfl)) rfl
theorem ms_46 : (Cond.selects RX15 yX15_told yX15_told) ∈ lwA := lwA_mk (List.mem_append_left _ (List.mem_of_getElem? (i := 46) rfl)) rfl
theorem k_RX15_170 {args : Array Value} {s : State} {R rm : Room} (hts : ∀ w ∈ lwA, w.before args s = true) (hR : rm.frames + 1 ≤ R.frames ∧ 8 + (3 + 11) + rm.locals ≤ R.locals) : CallW R s args RX15 RX15 170 yX15_told cX15_told 3 (some (.object "SendhouseModel$Method")) (lwC yX15_told cX15_told 3 (some (.object "SendhouseModel$Method"))) rm rm.cells rm.slots 2 := cwV 2 hts (gdV m_7_188 m_7_190 ms_46 m_1_12 m_7_191) rfl rfl rfl (by decide +kernel) hR
theorem gf_RX15_177_14 {A9 : Nat → Prop} {H9 : Heap} {fs : List Value} {v : Value} (S : CallFix p m c cc nL s args lwA RX15) (hE : g_E D vwCl (gT ar) (EX1 κ) A9 s H9) (w : g_S D vwCl A H0 G H locs nz) (ha : G a = some (.inr (14, fs))) (hv : fs[0]? = some v) (hdg : decode cc pc = .ok (.getfield 177, 3)) (kk : W p l e R s m args below meth c H locs cells slots Q (F0 m (pc + 3) ls (v :: rest))) : W p l e R s m args below meth c H locs cells slots Q (F0 m pc ls (.ref a :: rest)) :=
  va_getN (ci := 14) (C := RX10) (T := TX10) (N := 3) S.1 S.2.1 S.2.2.2.2 inA_RX10 S.2.2.2.1 hE.1 (g_1 w.1 ha) 0 rfl rfl 0 (by decide) (va_Nw.use rfl (hE.2.1.1 _ (ckN_1 _ (List.mem_of_getElem? (i := 37) rfl)))) (fun _ h => h) hv hdg kk
theorem m_7_98 : (Cond.code yX15_isPlace cX15_isPlace 3 (some .boolean)) ∈ lwA := lwA_mk (ck_7 _ (List.mem_of_getElem? (i := 98) rfl)) rfl
theorem m_7_95 : (Cond.methodLink RX15 144 yX15_isPlace) ∈ lwA := lwA_mk (ck_7 _ (List.mem_of_getElem? (i := 95) rfl)) rfl
theorem m_7_97 : (Cond.instanceMethod yX15_isPlace) ∈ lwA := lwA_mk (ck_7 _ (List.mem_of_getElem? (i := 97) rfl)) rfl
theorem ms_42 : (Cond.selects RX15 yX15_isPlace yX15_isPlace) ∈ lwA := lwA_mk (List.mem_append_left _ (List.mem_of_getElem? (i := 42) rfl)) rfl
theorem k_RX15_144 {args : Array Value} {s : State} {R rm : Room} (hts : ∀ w ∈ lwA, w.before args s = true) (hR : rm.frames + 1 ≤ R.frames ∧ 8 + (3 + 11) + rm.locals ≤ R.locals) : CallW R s args RX15 RX15 144 yX15_isPlace cX15_isPlace 3 (some .boolean) (lwC yX15_isPlace cX15_isPlace 3 (some .boolean)) rm rm.cells rm.slots 2 := cwV 2 hts (gdV m_7_95 m_7_97 ms_42 m_1_12 m_7_98) rfl rfl rfl (by decide +kernel) hR
theorem m_7_187 : (Cond.code yX15_isNoMethod cX15_isNoMethod 3 (some .boolean)) ∈ lwA := lwA_mk (ck_7 _ (List.mem_of_getElem? (i := 187) rfl)) rfl
theorem m_7_184 : (Cond.methodLink RX15 167 yX15_isNoMethod) ∈ lwA := lwA_mk (ck_7 _ (List.mem_of_getElem? (i := 184) rfl)) rfl
theorem m_7_186 : (Cond.instanceMethod yX15_isNoMethod) ∈ lwA := lwA_mk (ck_7 _ (List.mem_of_getElem? (i := 186) rfl)) rfl
theorem ms_45 : (Cond.selects RX15 yX15_isNoMethod yX15_isNoMethod) ∈ lwA := lwA_mk (List.mem_append_left _ (List.mem_of_getElem? (i := 45) rfl)) rfl
theorem k_RX15_167 {args : Array Value} {s : State} {R rm : Room} (hts : ∀ w ∈ lwA, w.before args s = true) (hR : rm.frames + 1 ≤ R.frames ∧ 8 + (3 + 11) + rm.locals ≤ R.locals) : CallW R s args RX15 RX15 167 yX15_isNoMethod cX15_isNoMethod 3 (some .boolean) (lwC yX15_isNoMethod cX15_isNoMethod 3 (some .boolean)) rm rm.cells rm.slots 2 := cwV 2 hts (gdV m_7_184 m_7_186 ms_45 m_1_12 m_7_187) rfl rfl rfl (by decide +kernel) hR
theorem m_7_199 : (Cond.code yX15_found cX15_found 4 (some (.object "SendhouseModel$Method"))) ∈ lwA := lwA_mk (ck_7 _ (List.mem_of_getElem? (i := 199) rfl)) rfl
theorem m_7_196 : (Cond.methodLink RX15 180 yX15_found) ∈ lwA := lwA_mk (ck_7 _ (List.mem_of_getElem? (i := 196) rfl)) rfl
theorem m_7_198 : (Cond.instanceMethod yX15_found) ∈ lwA := lwA_mk (ck_7 _ (List.mem_of_getElem? (i := 198) rfl)) rfl
theorem ms_47 : (Cond.selects RX15 yX15_found yX15_found) ∈ lwA := lwA_mk (List.mem_append_left _ (List.mem_of_getElem? (i := 47) rfl)) rfl
theorem k_RX15_180 {args : Array Value} {s : State} {R rm : Room} (hts : ∀ w ∈ lwA, w.before args s = true) (hR : rm.frames + 1 ≤ R.frames ∧ 8 + (4 + 11) + rm.locals ≤ R.locals) : CallW R s args RX15 RX15 180 yX15_found cX15_found 4 (some (.object "SendhouseModel$Method")) (lwC yX15_found cX15_found 4 (some (.object "SendhouseModel$Method"))) rm rm.cells rm.slots 2 := cwV 2 hts (gdV m_7_196 m_7_198 ms_47 m_1_12 m_7_199) rfl rfl rfl (by decide +kernel) hR
end SITES
set_option maxHeartbeats 4000000 in
set_option maxRecDepth 100000 in
theorem c_isPlaceA (l : Launch) (D : va_G) (ar : Nat → ClassId) (κ : Nat → Nat) (G : gW) (sz : Nat) (y : Nat) (cl : Int32) (se : Int32) (g0 : Option Nat) (g1 : Nat) (g2 : Option Nat) (g3 : Option Nat) (g4 : Option Nat) (g5 : Option Nat) (g6 : Option Nat) (g7 : Int32) (g8 : Int32) (g9 : Int32) (g10 : Int32) (g11 : Int32) (g12 : Int32) (g13 : Option Nat) (mc0 : Int32) (ed : Option Nat) (hy : G y = some (.inr (19, [va_rf g0, .ref g1, va_rf g2, va_rf g3, va_rf g4, va_rf g5, va_rf g6, .int g7, .int g8, .int g9, .int g10, .int g11, .int g12, va_rf g13]))) (hg : G g1 = some (.inr (3, [.int mc0, va_rf ed, .int 3]))) (h : isB cl 3 = 0) : Met l yX15_isPlace (lwC yX15_isPlace cX15_isPlace 3 (some .boolean)) (rD 4 0 0) (g_Pc D vwCl (gT ar) (EX1 κ) G sz [.ref y, .int cl, .int se]) (g_Qi D vwCl (g_A G sz) (fun r u => r = 0 ∧ u = (G, sz))) 0 0 (g_A G sz) := by
  refine g_ofW (by decide +kernel) (Nat.le_of_ble_eq_true rfl) ?_
  intro p e s m below meth c ls S hr hlk hin hE w hl
  have hx := S.1
  have hb := S.2.1
  have hl : lv_has ls 3 [(0, .ref y), (1, .int cl), (2, .int se)] := hl
  have lt_hy : y < sz := g_ltn w hy
  have lt_hg : g1 < sz := g_ltn w hg
  refine lv_aload_n hx hb dX15_isPlace_0 rfl (lv_at hl 0 rfl) ?_
  refine lv_iload_n hx hb dX15_isPlace_1 rfl (lv_at hl 1 rfl) ?_
  refine g_calli w (g_runV (As := [.int cl]) (rest := []) S hE w hl (c_isClass l D ar κ G sz y cl g0 g1 g2 g3 g4 g5 g6 g7 g8 g9 g10 g11 g12 g13 mc0 ed 3 hy hg) (k_RX15_66 S.2.2.2.2 ⟨Nat.le_of_ble_eq_true rfl, Nat.le_of_ble_eq_true rfl⟩) hy rfl rfl rfl rfl (Nat.le_of_ble_eq_true rfl) dX15_isPlace_2 ⟨Nat.le_of_ble_eq_true rfl, Nat.le_of_ble_eq_true rfl⟩) (fun r u H locs hp hnz w => ?_)
  obtain ⟨rfl, rfl⟩ := hp
  rw [show (isW cl 0 (3 - 1)) = isB cl 3 from isW_B rfl (by decide) (by decide)]
  dsimp only at w
  refine lv_if_eq (tgt := 22) hx hb dX15_isPlace_5 (by decide) (fun c_5 => ?_) (fun c_5 => absurd h c_5)
  refine lv_iconst (v := 0) hx hb dX15_isPlace_22 (by decide) ?_
  exact g_zret hx hb hr hlk w (Nat.le_of_ble_eq_true rfl) (Nat.le_of_ble_eq_true rfl) dX15_isPlace_23 rfl ⟨rfl, rfl⟩
set_option maxHeartbeats 4000000 in
set_option maxRecDepth 100000 in
theorem c_isPlaceB (l : Launch) (D : va_G) (ar : Nat → ClassId) (κ : Nat → Nat) (G : gW) (sz : Nat) (y : Nat) (cl : Int32) (se : Int32) (g0 : Option Nat) (g1 : Nat) (g2 : Option Nat) (g3 : Option Nat) (g4 : Option Nat) (g5 : Option Nat) (g6 : Option Nat) (g7 : Int32) (g8 : Int32) (g9 : Int32) (g10 : Int32) (g11 : Int32) (g12 : Int32) (g13 : Option Nat) (mc0 : Int32) (ed : Option Nat) (hy : G y = some (.inr (19, [va_rf g0, .ref g1, va_rf g2, va_rf g3, va_rf g4, va_rf g5, va_rf g6, .int g7, .int g8, .int g9, .int g10, .int g11, .int g12, va_rf g13]))) (hg : G g1 = some (.inr (3, [.int mc0, va_rf ed, .int 3]))) (h : ¬ isB cl 3 = 0) (h2 : isB se 16 = 0) : Met l yX15_isPlace (lwC yX15_isPlace cX15_isPlace 3 (some .boolean)) (rD 4 0 0) (g_Pc D vwCl (gT ar) (EX1 κ) G sz [.ref y, .int cl, .int se]) (g_Qi D vwCl (g_A G sz) (fun r u => r = 0 ∧ u = (G, sz))) 0 0 (g_A G sz) := by
  refine g_ofW (by decide +kernel) (Nat.le_of_ble_eq_true rfl) ?_
  intro p e s m below meth c ls S hr hlk hin hE w hl
  have hx := S.1
  have hb := S.2.1
  have hl : lv_has ls 3 [(0, .ref y), (1, .int cl), (2, .int se)] := hl
  have lt_hy : y < sz := g_ltn w hy
  have lt_hg : g1 < sz := g_ltn w hg
  refine lv_aload_n hx hb dX15_isPlace_0 rfl (lv_at hl 0 rfl) ?_
  refine lv_iload_n hx hb dX15_isPlace_1 rfl (lv_at hl 1 rfl) ?_
  refine g_calli w (g_runV (As := [.int cl]) (rest := []) S hE w hl (c_isClass l D ar κ G sz y cl g0 g1 g2 g3 g4 g5 g6 g7 g8 g9 g10 g11 g12 g13 mc0 ed 3 hy hg) (k_RX15_66 S.2.2.2.2 ⟨Nat.le_of_ble_eq_true rfl, Nat.le_of_ble_eq_true rfl⟩) hy rfl rfl rfl rfl (Nat.le_of_ble_eq_true rfl) dX15_isPlace_2 ⟨Nat.le_of_ble_eq_true rfl, Nat.le_of_ble_eq_true rfl⟩) (fun r u H locs hp hnz w => ?_)
  obtain ⟨rfl, rfl⟩ := hp
  rw [show (isW cl 0 (3 - 1)) = isB cl 3 from isW_B rfl (by decide) (by decide)]
  dsimp only at w
  refine lv_if_eq (tgt := 22) hx hb dX15_isPlace_5 (by decide) (fun c_5 => absurd c_5 h) (fun c_5 => ?_)
  refine lv_iload_n hx hb dX15_isPlace_8 rfl (lv_at hl 2 rfl) ?_
  refine lv_iconst (v := 0) hx hb dX15_isPlace_9 (by decide) ?_
  refine lv_bipush (v := 15) hx hb dX15_isPlace_10 (by decide) ?_
  refine g_calli w (g_runS (As := [.int se, .int 0, .int 15]) (rest := []) S hE w hl (c_isBetween l D ar κ G sz se 0 15) (k_RX15_62 S.2.2.2.2 ⟨Nat.le_of_ble_eq_true rfl, Nat.le_of_ble_eq_true rfl⟩) rfl rfl (Nat.le_of_ble_eq_true rfl) dX15_isPlace_12 ⟨Nat.le_of_ble_eq_true rfl, Nat.le_of_ble_eq_true rfl⟩) (fun r u H locs hp hnz w => ?_)
  obtain ⟨rfl, rfl⟩ := hp
  rw [show (isW se 0 15) = isB se 16 from isW_B rfl (by decide) (by decide)]
  dsimp only at w
  refine lv_if_eq (tgt := 22) hx hb dX15_isPlace_15 (by decide) (fun c_15 => ?_) (fun c_15 => absurd h2 c_15)
  refine lv_iconst (v := 0) hx hb dX15_isPlace_22 (by decide) ?_
  exact g_zret hx hb hr hlk w (Nat.le_of_ble_eq_true rfl) (Nat.le_of_ble_eq_true rfl) dX15_isPlace_23 rfl ⟨rfl, rfl⟩
set_option maxHeartbeats 4000000 in
set_option maxRecDepth 100000 in
theorem c_isPlaceC (l : Launch) (D : va_G) (ar : Nat → ClassId) (κ : Nat → Nat) (G : gW) (sz : Nat) (y : Nat) (cl : Int32) (se : Int32) (g0 : Option Nat) (g1 : Nat) (g2 : Option Nat) (g3 : Option Nat) (g4 : Option Nat) (g5 : Option Nat) (g6 : Option Nat) (g7 : Int32) (g8 : Int32) (g9 : Int32) (g10 : Int32) (g11 : Int32) (g12 : Int32) (g13 : Option Nat) (mc0 : Int32) (ed : Option Nat) (hy : G y = some (.inr (19, [va_rf g0, .ref g1, va_rf g2, va_rf g3, va_rf g4, va_rf g5, va_rf g6, .int g7, .int g8, .int g9, .int g10, .int g11, .int g12, va_rf g13]))) (hg : G g1 = some (.inr (3, [.int mc0, va_rf ed, .int 3]))) (h : ¬ isB cl 3 = 0) (h2 : ¬ isB se 16 = 0) : Met l yX15_isPlace (lwC yX15_isPlace cX15_isPlace 3 (some .boolean)) (rD 4 0 0) (g_Pc D vwCl (gT ar) (EX1 κ) G sz [.ref y, .int cl, .int se]) (g_Qi D vwCl (g_A G sz) (fun r u => r = 1 ∧ u = (G, sz))) 0 0 (g_A G sz) := by
  refine g_ofW (by decide +kernel) (Nat.le_of_ble_eq_true rfl) ?_
  intro p e s m below meth c ls S hr hlk hin hE w hl
  have hx := S.1
  have hb := S.2.1
  have hl : lv_has ls 3 [(0, .ref y), (1, .int cl), (2, .int se)] := hl
  have lt_hy : y < sz := g_ltn w hy
  have lt_hg : g1 < sz := g_ltn w hg
  refine lv_aload_n hx hb dX15_isPlace_0 rfl (lv_at hl 0 rfl) ?_
  refine lv_iload_n hx hb dX15_isPlace_1 rfl (lv_at hl 1 rfl) ?_
  refine g_calli w (g_runV (As := [.int cl]) (rest := []) S hE w hl (c_isClass l D ar κ G sz y cl g0 g1 g2 g3 g4 g5 g6 g7 g8 g9 g10 g11 g12 g13 mc0 ed 3 hy hg) (k_RX15_66 S.2.2.2.2 ⟨Nat.le_of_ble_eq_true rfl, Nat.le_of_ble_eq_true rfl⟩) hy rfl rfl rfl rfl (Nat.le_of_ble_eq_true rfl) dX15_isPlace_2 ⟨Nat.le_of_ble_eq_true rfl, Nat.le_of_ble_eq_true rfl⟩) (fun r u H locs hp hnz w => ?_)
  obtain ⟨rfl, rfl⟩ := hp
  rw [show (isW cl 0 (3 - 1)) = isB cl 3 from isW_B rfl (by decide) (by decide)]
  dsimp only at w
  refine lv_if_eq (tgt := 22) hx hb dX15_isPlace_5 (by decide) (fun c_5 => absurd c_5 h) (fun c_5 => ?_)
  refine lv_iload_n hx hb dX15_isPlace_8 rfl (lv_at hl 2 rfl) ?_
  refine lv_iconst (v := 0) hx hb dX15_isPlace_9 (by decide) ?_
  refine lv_bipush (v := 15) hx hb dX15_isPlace_10 (by decide) ?_
  refine g_calli w (g_runS (As := [.int se, .int 0, .int 15]) (rest := []) S hE w hl (c_isBetween l D ar κ G sz se 0 15) (k_RX15_62 S.2.2.2.2 ⟨Nat.le_of_ble_eq_true rfl, Nat.le_of_ble_eq_true rfl⟩) rfl rfl (Nat.le_of_ble_eq_true rfl) dX15_isPlace_12 ⟨Nat.le_of_ble_eq_true rfl, Nat.le_of_ble_eq_true rfl⟩) (fun r u H locs hp hnz w => ?_)
  obtain ⟨rfl, rfl⟩ := hp
  rw [show (isW se 0 15) = isB se 16 from isW_B rfl (by decide) (by decide)]
  dsimp only at w
  refine lv_if_eq (tgt := 22) hx hb dX15_isPlace_15 (by decide) (fun c_15 => absurd c_15 h2) (fun c_15 => ?_)
  refine lv_iconst (v := 1) hx hb dX15_isPlace_18 (by decide) ?_
  refine lv_goto (tgt := 23) hx hb dX15_isPlace_19 (by decide) ?_
  exact g_zret hx hb hr hlk w (Nat.le_of_ble_eq_true rfl) (Nat.le_of_ble_eq_true rfl) dX15_isPlace_23 rfl ⟨rfl, rfl⟩
set_option maxHeartbeats 4000000 in
set_option maxRecDepth 100000 in
theorem c_told_0 (l : Launch) (D : va_G) (ar : Nat → ClassId) (κ : Nat → Nat) (G : gW) (sz : Nat) (y : Nat) (se : Int32) (q : Nat) (t : Int32) (m0 : G y = some (.inr (19, [.ref q, .ref (q + 1), .ref (q + 2), .ref (q + 3), .ref (q + 4), .ref (q + 5), .ref (q + 6), .int t, .int 0, .int 0, .int 0, .int 45, .int 0, .null]))) (m1 : G q = some (.inr (18, [.int 117, .int 0]))) (m2 : G (q + 1) = some (.inr (3, [.int 3, .ref (q + 9), .int 3]))) (m3 : G (q + 2) = some (.inr (3, [.int 0, .ref (κ 0), .int 0]))) (m4 : G (q + 3) = some (.inr (3, [.int 0, .ref (κ 0), .int 0]))) (m5 : G (q + 4) = some (.inr (3, [.int 0, .ref (κ 0), .int 0]))) (m6 : G (q + 5) = some (.inr (3, [.int 0, .ref (κ 0), .int 0]))) (m7 : G (q + 6) = some (.inl (ar 10, 8, .inr (.inr (.inr (.inr (va_up (va_up (va_up (va_up (va_up (va_up (va_up (va_up (fun _ => none) (Int32.toNatClampNeg 0) (some q)) (Int32.toNatClampNeg 1) (some q)) (Int32.toNatClampNeg 2) (some q)) (Int32.toNatClampNeg 3) (some q)) (Int32.toNatClampNeg 4) (some q)) (Int32.toNatClampNeg 5) (some q)) (Int32.toNatClampNeg 6) (some q)) (Int32.toNatClampNeg 7) (some q)))))))) (m8 : G (q + 7) = some (.inr (14, [.int (-1), .int 0, .ref (q + 8)]))) (m9 : G (q + 8) = some (.inl (ar 9, 16, .inr (.inr (.inr (.inr (fun _ => none))))))) (m10 : G (q + 9) = some (.inl (ar 11, 10, .inr (.inr (.inr (.inr (va_up (va_up (va_up (fun _ => none) (Int32.toNatClampNeg 0) (some (q + 7))) (Int32.toNatClampNeg 1) (some (q + 10))) (Int32.toNatClampNeg 2) (some (q + 12))))))))) (m11 : G (q + 10) = some (.inr (14, [.int 0, .int 0, .ref (q + 11)]))) (m12 : G (q + 11) = some (.inl (ar 9, 16, .inr (.inr (.inr (.inr (fun _ => none))))))) (m13 : G (q + 12) = some (.inr (14, [.int 0, .int 0, .ref (q + 13)]))) (m14 : G (q + 13) = some (.inl (ar 9, 16, .inr (.inr (.inr (.inr (fun _ => none))))))) (h2 : ¬ isB se 16 = 0) : Met l yX15_told (lwC yX15_told cX15_told 3 (some (.object "SendhouseModel$Method"))) (rD 4 0 0) (g_Pc D vwCl (gT ar) (EX1 κ) G sz [.ref y, .int 0, .int se]) (g_Qq D vwCl (g_A G sz) (fun r u => r = none ∧ u = (G, sz))) 0 0 (g_A G sz) := by
  refine g_ofW (by decide +kernel) (Nat.le_of_ble_eq_true rfl) ?_
  intro p e s m below meth c ls S hr hlk hin hE w hl
  have hx := S.1
  have hb := S.2.1
  have hl : lv_has ls 3 [(0, .ref y), (1, .int 0), (2, .int se)] := hl
  have lt_m0 : y < sz := g_ltn w m0
  have lt_m1 : q < sz := g_ltn w m1
  have lt_m2 : q + 1 < sz := g_ltn w m2
  have lt_m3 : q + 2 < sz := g_ltn w m3
  have lt_m4 : q + 3 < sz := g_ltn w m4
  have lt_m5 : q + 4 < sz := g_ltn w m5
  have lt_m6 : q + 5 < sz := g_ltn w m6
  have lt_m7 : q + 6 < sz := g_ltn w m7
  have lt_m8 : q + 7 < sz := g_ltn w m8
  have lt_m9 : q + 8 < sz := g_ltn w m9
  have lt_m10 : q + 9 < sz := g_ltn w m10
  have lt_m11 : q + 10 < sz := g_ltn w m11
  have lt_m12 : q + 11 < sz := g_ltn w m12
  have lt_m13 : q + 12 < sz := g_ltn w m13
  have lt_m14 : q + 13 < sz := g_ltn w m14
  refine lv_aload_n hx hb dX15_told_0 rfl (lv_at hl 0 rfl) ?_
  refine gf_RX15_21_19 S hE w m0 rfl dX15_told_1 ?_
  refine lv_iload_n hx hb dX15_told_4 rfl (lv_at hl 1 rfl) ?_
  refine g_callq w (g_runV (As := [.int 0]) (rest := []) S hE w hl (c_get l D ar κ G sz (q + 1) 0 3 (q + 9) 3 (va_up (va_up (va_up (fun _ => none) (Int32.toNatClampNeg 0) (some (q + 7))) (Int32.toNatClampNeg 1) (some (q + 10))) (Int32.toNatClampNeg 2) (some (q + 12))) m2 m10 (vp_in_nI (n := 0) (by decide) (by decide)) (by decide) (by decide)) (k_RX15_70 S.2.2.2.2 ⟨Nat.le_of_ble_eq_true rfl, Nat.le_of_ble_eq_true rfl⟩) m2 rfl rfl rfl rfl (Nat.le_of_ble_eq_true rfl) dX15_told_5 ⟨Nat.le_of_ble_eq_true rfl, Nat.le_of_ble_eq_true rfl⟩) (fun r u H locs hp hnz w => ?_)
  obtain ⟨rfl, rfl⟩ := hp
  rw [show (va_up (va_up (va_up (fun _ => none) (Int32.toNatClampNeg 0) (some (q + 7))) (Int32.toNatClampNeg 1) (some (q + 10))) (Int32.toNatClampNeg 2) (some (q + 12))) (Int32.toNatClampNeg 0) = some (q + 7) from rfl]
  show W p l e _ s m _ below meth c _ _ _ _ _ (F0 m _ ls (.ref (q + 7) :: _))
  dsimp only at w
  refine g_castS S hE w m_6_123 m8 rfl rfl dX15_told_8 ?_
  refine gf_RX15_163_14 S hE w m8 rfl dX15_told_11 ?_
  refine lv_iload_n hx hb dX15_told_14 rfl (lv_at hl 2 rfl) ?_
  refine va_aldq hx hb hE.1 (g_1 w.1 m9) 0 9 rfl rfl (vinB (n := 16) rfl (by decide) h2) dX15_told_15 ?_
  show W p l e _ s m _ below meth c _ _ _ _ _ (F0 m 16 ls (.null :: _))
  exact g_qret (r := none) hx hb hr (Or.inl ⟨_, rfl⟩) hlk w (Nat.le_of_ble_eq_true rfl) (Nat.le_of_ble_eq_true rfl) dX15_told_16 ⟨rfl, rfl⟩
set_option maxHeartbeats 4000000 in
set_option maxRecDepth 100000 in
theorem c_told_1 (l : Launch) (D : va_G) (ar : Nat → ClassId) (κ : Nat → Nat) (G : gW) (sz : Nat) (y : Nat) (se : Int32) (q : Nat) (t : Int32) (m0 : G y = some (.inr (19, [.ref q, .ref (q + 1), .ref (q + 2), .ref (q + 3), .ref (q + 4), .ref (q + 5), .ref (q + 6), .int t, .int 0, .int 0, .int 0, .int 45, .int 0, .null]))) (m1 : G q = some (.inr (18, [.int 117, .int 0]))) (m2 : G (q + 1) = some (.inr (3, [.int 3, .ref (q + 9), .int 3]))) (m3 : G (q + 2) = some (.inr (3, [.int 0, .ref (κ 0), .int 0]))) (m4 : G (q + 3) = some (.inr (3, [.int 0, .ref (κ 0), .int 0]))) (m5 : G (q + 4) = some (.inr (3, [.int 0, .ref (κ 0), .int 0]))) (m6 : G (q + 5) = some (.inr (3, [.int 0, .ref (κ 0), .int 0]))) (m7 : G (q + 6) = some (.inl (ar 10, 8, .inr (.inr (.inr (.inr (va_up (va_up (va_up (va_up (va_up (va_up (va_up (va_up (fun _ => none) (Int32.toNatClampNeg 0) (some q)) (Int32.toNatClampNeg 1) (some q)) (Int32.toNatClampNeg 2) (some q)) (Int32.toNatClampNeg 3) (some q)) (Int32.toNatClampNeg 4) (some q)) (Int32.toNatClampNeg 5) (some q)) (Int32.toNatClampNeg 6) (some q)) (Int32.toNatClampNeg 7) (some q)))))))) (m8 : G (q + 7) = some (.inr (14, [.int (-1), .int 0, .ref (q + 8)]))) (m9 : G (q + 8) = some (.inl (ar 9, 16, .inr (.inr (.inr (.inr (fun _ => none))))))) (m10 : G (q + 9) = some (.inl (ar 11, 10, .inr (.inr (.inr (.inr (va_up (va_up (va_up (fun _ => none) (Int32.toNatClampNeg 0) (some (q + 7))) (Int32.toNatClampNeg 1) (some (q + 10))) (Int32.toNatClampNeg 2) (some (q + 12))))))))) (m11 : G (q + 10) = some (.inr (14, [.int 0, .int 0, .ref (q + 11)]))) (m12 : G (q + 11) = some (.inl (ar 9, 16, .inr (.inr (.inr (.inr (fun _ => none))))))) (m13 : G (q + 12) = some (.inr (14, [.int 0, .int 0, .ref (q + 13)]))) (m14 : G (q + 13) = some (.inl (ar 9, 16, .inr (.inr (.inr (.inr (fun _ => none))))))) (h2 : ¬ isB se 16 = 0) : Met l yX15_told (lwC yX15_told cX15_told 3 (some (.object "SendhouseModel$Method"))) (rD 4 0 0) (g_Pc D vwCl (gT ar) (EX1 κ) G sz [.ref y, .int 1, .int se]) (g_Qq D vwCl (g_A G sz) (fun r u => r = none ∧ u = (G, sz))) 0 0 (g_A G sz) := by
  refine g_ofW (by decide +kernel) (Nat.le_of_ble_eq_true rfl) ?_
  intro p e s m below meth c ls S hr hlk hin hE w hl
  have hx := S.1
  have hb := S.2.1
  have hl : lv_has ls 3 [(0, .ref y), (1, .int 1), (2, .int se)] := hl
  have lt_m0 : y < sz := g_ltn w m0
  have lt_m1 : q < sz := g_ltn w m1
  have lt_m2 : q + 1 < sz := g_ltn w m2
  have lt_m3 : q + 2 < sz := g_ltn w m3
  have lt_m4 : q + 3 < sz := g_ltn w m4
  have lt_m5 : q + 4 < sz := g_ltn w m5
  have lt_m6 : q + 5 < sz := g_ltn w m6
  have lt_m7 : q + 6 < sz := g_ltn w m7
  have lt_m8 : q + 7 < sz := g_ltn w m8
  have lt_m9 : q + 8 < sz := g_ltn w m9
  have lt_m10 : q + 9 < sz := g_ltn w m10
  have lt_m11 : q + 10 < sz := g_ltn w m11
  have lt_m12 : q + 11 < sz := g_ltn w m12
  have lt_m13 : q + 12 < sz := g_ltn w m13
  have lt_m14 : q + 13 < sz := g_ltn w m14
  refine lv_aload_n hx hb dX15_told_0 rfl (lv_at hl 0 rfl) ?_
  refine gf_RX15_21_19 S hE w m0 rfl dX15_told_1 ?_
  refine lv_iload_n hx hb dX15_told_4 rfl (lv_at hl 1 rfl) ?_
  refine g_callq w (g_runV (As := [.int 1]) (rest := []) S hE w hl (c_get l D ar κ G sz (q + 1) 1 3 (q + 9) 3 (va_up (va_up (va_up (fun _ => none) (Int32.toNatClampNeg 0) (some (q + 7))) (Int32.toNatClampNeg 1) (some (q + 10))) (Int32.toNatClampNeg 2) (some (q + 12))) m2 m10 (vp_in_nI (n := 1) (by decide) (by decide)) (by decide) (by decide)) (k_RX15_70 S.2.2.2.2 ⟨Nat.le_of_ble_eq_true rfl, Nat.le_of_ble_eq_true rfl⟩) m2 rfl rfl rfl rfl (Nat.le_of_ble_eq_true rfl) dX15_told_5 ⟨Nat.le_of_ble_eq_true rfl, Nat.le_of_ble_eq_true rfl⟩) (fun r u H locs hp hnz w => ?_)
  obtain ⟨rfl, rfl⟩ := hp
  rw [show (va_up (va_up (va_up (fun _ => none) (Int32.toNatClampNeg 0) (some (q + 7))) (Int32.toNatClampNeg 1) (some (q + 10))) (Int32.toNatClampNeg 2) (some (q + 12))) (Int32.toNatClampNeg 1) = some (q + 10) from rfl]
  show W p l e _ s m _ below meth c _ _ _ _ _ (F0 m _ ls (.ref (q + 10) :: _))
  dsimp only at w
  refine g_castS S hE w m_6_123 m11 rfl rfl dX15_told_8 ?_
  refine gf_RX15_163_14 S hE w m11 rfl dX15_told_11 ?_
  refine lv_iload_n hx hb dX15_told_14 rfl (lv_at hl 2 rfl) ?_
  refine va_aldq hx hb hE.1 (g_1 w.1 m12) 0 9 rfl rfl (vinB (n := 16) rfl (by decide) h2) dX15_told_15 ?_
  show W p l e _ s m _ below meth c _ _ _ _ _ (F0 m 16 ls (.null :: _))
  exact g_qret (r := none) hx hb hr (Or.inl ⟨_, rfl⟩) hlk w (Nat.le_of_ble_eq_true rfl) (Nat.le_of_ble_eq_true rfl) dX15_told_16 ⟨rfl, rfl⟩
set_option maxHeartbeats 4000000 in
set_option maxRecDepth 100000 in
theorem c_told_2 (l : Launch) (D : va_G) (ar : Nat → ClassId) (κ : Nat → Nat) (G : gW) (sz : Nat) (y : Nat) (se : Int32) (q : Nat) (t : Int32) (m0 : G y = some (.inr (19, [.ref q, .ref (q + 1), .ref (q + 2), .ref (q + 3), .ref (q + 4), .ref (q + 5), .ref (q + 6), .int t, .int 0, .int 0, .int 0, .int 45, .int 0, .null]))) (m1 : G q = some (.inr (18, [.int 117, .int 0]))) (m2 : G (q + 1) = some (.inr (3, [.int 3, .ref (q + 9), .int 3]))) (m3 : G (q + 2) = some (.inr (3, [.int 0, .ref (κ 0), .int 0]))) (m4 : G (q + 3) = some (.inr (3, [.int 0, .ref (κ 0), .int 0]))) (m5 : G (q + 4) = some (.inr (3, [.int 0, .ref (κ 0), .int 0]))) (m6 : G (q + 5) = some (.inr (3, [.int 0, .ref (κ 0), .int 0]))) (m7 : G (q + 6) = some (.inl (ar 10, 8, .inr (.inr (.inr (.inr (va_up (va_up (va_up (va_up (va_up (va_up (va_up (va_up (fun _ => none) (Int32.toNatClampNeg 0) (some q)) (Int32.toNatClampNeg 1) (some q)) (Int32.toNatClampNeg 2) (some q)) (Int32.toNatClampNeg 3) (some q)) (Int32.toNatClampNeg 4) (some q)) (Int32.toNatClampNeg 5) (some q)) (Int32.toNatClampNeg 6) (some q)) (Int32.toNatClampNeg 7) (some q)))))))) (m8 : G (q + 7) = some (.inr (14, [.int (-1), .int 0, .ref (q + 8)]))) (m9 : G (q + 8) = some (.inl (ar 9, 16, .inr (.inr (.inr (.inr (fun _ => none))))))) (m10 : G (q + 9) = some (.inl (ar 11, 10, .inr (.inr (.inr (.inr (va_up (va_up (va_up (fun _ => none) (Int32.toNatClampNeg 0) (some (q + 7))) (Int32.toNatClampNeg 1) (some (q + 10))) (Int32.toNatClampNeg 2) (some (q + 12))))))))) (m11 : G (q + 10) = some (.inr (14, [.int 0, .int 0, .ref (q + 11)]))) (m12 : G (q + 11) = some (.inl (ar 9, 16, .inr (.inr (.inr (.inr (fun _ => none))))))) (m13 : G (q + 12) = some (.inr (14, [.int 0, .int 0, .ref (q + 13)]))) (m14 : G (q + 13) = some (.inl (ar 9, 16, .inr (.inr (.inr (.inr (fun _ => none))))))) (h2 : ¬ isB se 16 = 0) : Met l yX15_told (lwC yX15_told cX15_told 3 (some (.object "SendhouseModel$Method"))) (rD 4 0 0) (g_Pc D vwCl (gT ar) (EX1 κ) G sz [.ref y, .int 2, .int se]) (g_Qq D vwCl (g_A G sz) (fun r u => r = none ∧ u = (G, sz))) 0 0 (g_A G sz) := by
  refine g_ofW (by decide +kernel) (Nat.le_of_ble_eq_true rfl) ?_
  intro p e s m below meth c ls S hr hlk hin hE w hl
  have hx := S.1
  have hb := S.2.1
  have hl : lv_has ls 3 [(0, .ref y), (1, .int 2), (2, .int se)] := hl
  have lt_m0 : y < sz := g_ltn w m0
  have lt_m1 : q < sz := g_ltn w m1
  have lt_m2 : q + 1 < sz := g_ltn w m2
  have lt_m3 : q + 2 < sz := g_ltn w m3
  have lt_m4 : q + 3 < sz := g_ltn w m4
  have lt_m5 : q + 4 < sz := g_ltn w m5
  have lt_m6 : q + 5 < sz := g_ltn w m6
  have lt_m7 : q + 6 < sz := g_ltn w m7
  have lt_m8 : q + 7 < sz := g_ltn w m8
  have lt_m9 : q + 8 < sz := g_ltn w m9
  have lt_m10 : q + 9 < sz := g_ltn w m10
  have lt_m11 : q + 10 < sz := g_ltn w m11
  have lt_m12 : q + 11 < sz := g_ltn w m12
  have lt_m13 : q + 12 < sz := g_ltn w m13
  have lt_m14 : q + 13 < sz := g_ltn w m14
  refine lv_aload_n hx hb dX15_told_0 rfl (lv_at hl 0 rfl) ?_
  refine gf_RX15_21_19 S hE w m0 rfl dX15_told_1 ?_
  refine lv_iload_n hx hb dX15_told_4 rfl (lv_at hl 1 rfl) ?_
  refine g_callq w (g_runV (As := [.int 2]) (rest := []) S hE w hl (c_get l D ar κ G sz (q + 1) 2 3 (q + 9) 3 (va_up (va_up (va_up (fun _ => none) (Int32.toNatClampNeg 0) (some (q + 7))) (Int32.toNatClampNeg 1) (some (q + 10))) (Int32.toNatClampNeg 2) (some (q + 12))) m2 m10 (vp_in_nI (n := 2) (by decide) (by decide)) (by decide) (by decide)) (k_RX15_70 S.2.2.2.2 ⟨Nat.le_of_ble_eq_true rfl, Nat.le_of_ble_eq_true rfl⟩) m2 rfl rfl rfl rfl (Nat.le_of_ble_eq_true rfl) dX15_told_5 ⟨Nat.le_of_ble_eq_true rfl, Nat.le_of_ble_eq_true rfl⟩) (fun r u H locs hp hnz w => ?_)
  obtain ⟨rfl, rfl⟩ := hp
  rw [show (va_up (va_up (va_up (fun _ => none) (Int32.toNatClampNeg 0) (some (q + 7))) (Int32.toNatClampNeg 1) (some (q + 10))) (Int32.toNatClampNeg 2) (some (q + 12))) (Int32.toNatClampNeg 2) = some (q + 12) from rfl]
  show W p l e _ s m _ below meth c _ _ _ _ _ (F0 m _ ls (.ref (q + 12) :: _))
  dsimp only at w
  refine g_castS S hE w m_6_123 m13 rfl rfl dX15_told_8 ?_
  refine gf_RX15_163_14 S hE w m13 rfl dX15_told_11 ?_
  refine lv_iload_n hx hb dX15_told_14 rfl (lv_at hl 2 rfl) ?_
  refine va_aldq hx hb hE.1 (g_1 w.1 m14) 0 9 rfl rfl (vinB (n := 16) rfl (by decide) h2) dX15_told_15 ?_
  show W p l e _ s m _ below meth c _ _ _ _ _ (F0 m 16 ls (.null :: _))
  exact g_qret (r := none) hx hb hr (Or.inl ⟨_, rfl⟩) hlk w (Nat.le_of_ble_eq_true rfl) (Nat.le_of_ble_eq_true rfl) dX15_told_16 ⟨rfl, rfl⟩
set_option maxHeartbeats 4000000 in
set_option maxRecDepth 100000 in
theorem c_found_0 (l : Launch) (D : va_G) (ar : Nat → ClassId) (κ : Nat → Nat) (G : gW) (sz : Nat) (y : Nat) (se : Int32) (q : Nat) (t : Int32) (m0 : G y = some (.inr (19, [.ref q, .ref (q + 1), .ref (q + 2), .ref (q + 3), .ref (q + 4), .ref (q + 5), .ref (q + 6), .int t, .int 0, .int 0, .int 0, .int 45, .int 0, .null]))) (m1 : G q = some (.inr (18, [.int 117, .int 0]))) (m2 : G (q + 1) = some (.inr (3, [.int 3, .ref (q + 9), .int 3]))) (m3 : G (q + 2) = some (.inr (3, [.int 0, .ref (κ 0), .int 0]))) (m4 : G (q + 3) = some (.inr (3, [.int 0, .ref (κ 0), .int 0]))) (m5 : G (q + 4) = some (.inr (3, [.int 0, .ref (κ 0), .int 0]))) (m6 : G (q + 5) = some (.inr (3, [.int 0, .ref (κ 0), .int 0]))) (m7 : G (q + 6) = some (.inl (ar 10, 8, .inr (.inr (.inr (.inr (va_up (va_up (va_up (va_up (va_up (va_up (va_up (va_up (fun _ => none) (Int32.toNatClampNeg 0) (some q)) (Int32.toNatClampNeg 1) (some q)) (Int32.toNatClampNeg 2) (some q)) (Int32.toNatClampNeg 3) (some q)) (Int32.toNatClampNeg 4) (some q)) (Int32.toNatClampNeg 5) (some q)) (Int32.toNatClampNeg 6) (some q)) (Int32.toNatClampNeg 7) (some q)))))))) (m8 : G (q + 7) = some (.inr (14, [.int (-1), .int 0, .ref (q + 8)]))) (m9 : G (q + 8) = some (.inl (ar 9, 16, .inr (.inr (.inr (.inr (fun _ => none))))))) (m10 : G (q + 9) = some (.inl (ar 11, 10, .inr (.inr (.inr (.inr (va_up (va_up (va_up (fun _ => none) (Int32.toNatClampNeg 0) (some (q + 7))) (Int32.toNatClampNeg 1) (some (q + 10))) (Int32.toNatClampNeg 2) (some (q + 12))))))))) (m11 : G (q + 10) = some (.inr (14, [.int 0, .int 0, .ref (q + 11)]))) (m12 : G (q + 11) = some (.inl (ar 9, 16, .inr (.inr (.inr (.inr (fun _ => none))))))) (m13 : G (q + 12) = some (.inr (14, [.int 0, .int 0, .ref (q + 13)]))) (m14 : G (q + 13) = some (.inl (ar 9, 16, .inr (.inr (.inr (.inr (fun _ => none))))))) (h2 : ¬ isB se 16 = 0) : Met l yX15_found (lwC yX15_found cX15_found 4 (some (.object "SendhouseModel$Method"))) (rD 5 0 0) (g_Pc D vwCl (gT ar) (EX1 κ) G sz [.ref y, .int 0, .int se]) (g_Qq D vwCl (g_A G sz) (fun r u => r = none ∧ u = (G, sz))) 0 0 (g_A G sz) := by
  refine g_ofW (by decide +kernel) (Nat.le_of_ble_eq_true rfl) ?_
  intro p e s m below meth c ls S hr hlk hin hE w hl
  have hx := S.1
  have hb := S.2.1
  have hl : lv_has ls 4 [(0, .ref y), (1, .int 0), (2, .int se)] := hl
  have lt_m0 : y < sz := g_ltn w m0
  have lt_m1 : q < sz := g_ltn w m1
  have lt_m2 : q + 1 < sz := g_ltn w m2
  have lt_m3 : q + 2 < sz := g_ltn w m3
  have lt_m4 : q + 3 < sz := g_ltn w m4
  have lt_m5 : q + 4 < sz := g_ltn w m5
  have lt_m6 : q + 5 < sz := g_ltn w m6
  have lt_m7 : q + 6 < sz := g_ltn w m7
  have lt_m8 : q + 7 < sz := g_ltn w m8
  have lt_m9 : q + 8 < sz := g_ltn w m9
  have lt_m10 : q + 9 < sz := g_ltn w m10
  have lt_m11 : q + 10 < sz := g_ltn w m11
  have lt_m12 : q + 11 < sz := g_ltn w m12
  have lt_m13 : q + 12 < sz := g_ltn w m13
  have lt_m14 : q + 13 < sz := g_ltn w m14
  refine lv_iload_n hx hb dX15_found_0 rfl (lv_at hl 1 rfl) ?_
  refine lv_istore_n (lv' := [(3, .int 0), (0, .ref y), (1, .int 0), (2, .int se)]) hx hb dX15_found_1 rfl hl (by decide) rfl (fun ls hl => ?_)
  refine lv_iload_n hx hb dX15_found_2 rfl (lv_at hl 0 rfl) ?_
  refine lv_iconst (v := (-1)) hx hb dX15_found_3 (by decide) ?_
  refine lv_icmp_eq (tgt := 41) hx hb dX15_found_4 (by decide) (fun c => absurd c (by decide)) (fun _ => ?_)
  refine lv_aload_n hx hb dX15_found_7 rfl (lv_at hl 1 rfl) ?_
  refine lv_iload_n hx hb dX15_found_8 rfl (lv_at hl 0 rfl) ?_
  refine lv_iload_n hx hb dX15_found_9 rfl (lv_at hl 3 rfl) ?_
  refine g_callq w (g_runV (As := [.int 0, .int se]) (rest := []) S hE w hl (c_told_0 l D ar κ G sz y se q t m0 m1 m2 m3 m4 m5 m6 m7 m8 m9 m10 m11 m12 m13 m14 h2) (k_RX15_170 S.2.2.2.2 ⟨Nat.le_of_ble_eq_true rfl, Nat.le_of_ble_eq_true rfl⟩) m0 rfl rfl rfl rfl (Nat.le_of_ble_eq_true rfl) dX15_found_10 ⟨Nat.le_of_ble_eq_true rfl, Nat.le_of_ble_eq_true rfl⟩) (fun r u H locs hp hnz w => ?_)
  obtain ⟨rfl, rfl⟩ := hp
  dsimp only at w
  refine lv_ifnullN (tgt := 23) hx hb dX15_found_13 (by decide) ?_
  refine lv_aload_n hx hb dX15_found_23 rfl (lv_at hl 1 rfl) ?_
  refine gf_RX15_21_19 S hE w m0 rfl dX15_found_24 ?_
  refine lv_iload_n hx hb dX15_found_27 rfl (lv_at hl 0 rfl) ?_
  refine g_callq w (g_runV (As := [.int 0]) (rest := []) S hE w hl (c_get l D ar κ G sz (q + 1) 0 3 (q + 9) 3 (va_up (va_up (va_up (fun _ => none) (Int32.toNatClampNeg 0) (some (q + 7))) (Int32.toNatClampNeg 1) (some (q + 10))) (Int32.toNatClampNeg 2) (some (q + 12))) m2 m10 (vp_in_nI (n := 0) (by decide) (by decide)) (by decide) (by decide)) (k_RX15_70 S.2.2.2.2 ⟨Nat.le_of_ble_eq_true rfl, Nat.le_of_ble_eq_true rfl⟩) m2 rfl rfl rfl rfl (Nat.le_of_ble_eq_true rfl) dX15_found_28 ⟨Nat.le_of_ble_eq_true rfl, Nat.le_of_ble_eq_true rfl⟩) (fun r u H locs hp hnz w => ?_)
  obtain ⟨rfl, rfl⟩ := hp
  rw [show (va_up (va_up (va_up (fun _ => none) (Int32.toNatClampNeg 0) (some (q + 7))) (Int32.toNatClampNeg 1) (some (q + 10))) (Int32.toNatClampNeg 2) (some (q + 12))) (Int32.toNatClampNeg 0) = some (q + 7) from rfl]
  show W p l e _ s m _ below meth c _ _ _ _ _ (F0 m _ ls (.ref (q + 7) :: _))
  dsimp only at w
  refine g_castS S hE w m_6_123 m8 rfl rfl dX15_found_31 ?_
  refine gf_RX15_177_14 S hE w m8 rfl dX15_found_34 ?_
  refine lv_istore_n (lv' := [(3, .int (-1)), (0, .ref y), (1, .int 0), (2, .int se)]) hx hb dX15_found_37 rfl hl (by decide) rfl (fun ls hl => ?_)
  refine lv_goto (tgt := 2) hx hb dX15_found_38 (by decide) ?_
  refine lv_iload_n hx hb dX15_found_2 rfl (lv_at hl 0 rfl) ?_
  refine lv_iconst (v := (-1)) hx hb dX15_found_3 (by decide) ?_
  refine lv_icmp_eq (tgt := 41) hx hb dX15_found_4 (by decide) (fun _ => ?_) (fun c => absurd (by decide) c)
  refine lv_null hx hb dX15_found_41 ?_
  exact g_qret (r := none) hx hb hr (Or.inl ⟨_, rfl⟩) hlk w (Nat.le_of_ble_eq_true rfl) (Nat.le_of_ble_eq_true rfl) dX15_found_42 ⟨rfl, rfl⟩
set_option maxHeartbeats 4000000 in
set_option maxRecDepth 100000 in
theorem c_found_1 (l : Launch) (D : va_G) (ar : Nat → ClassId) (κ : Nat → Nat) (G : gW) (sz : Nat) (y : Nat) (se : Int32) (q : Nat) (t : Int32) (m0 : G y = some (.inr (19, [.ref q, .ref (q + 1), .ref (q + 2), .ref (q + 3), .ref (q + 4), .ref (q + 5), .ref (q + 6), .int t, .int 0, .int 0, .int 0, .int 45, .int 0, .null]))) (m1 : G q = some (.inr (18, [.int 117, .int 0]))) (m2 : G (q + 1) = some (.inr (3, [.int 3, .ref (q + 9), .int 3]))) (m3 : G (q + 2) = some (.inr (3, [.int 0, .ref (κ 0), .int 0]))) (m4 : G (q + 3) = some (.inr (3, [.int 0, .ref (κ 0), .int 0]))) (m5 : G (q + 4) = some (.inr (3, [.int 0, .ref (κ 0), .int 0]))) (m6 : G (q + 5) = some (.inr (3, [.int 0, .ref (κ 0), .int 0]))) (m7 : G (q + 6) = some (.inl (ar 10, 8, .inr (.inr (.inr (.inr (va_up (va_up (va_up (va_up (va_up (va_up (va_up (va_up (fun _ => none) (Int32.toNatClampNeg 0) (some q)) (Int32.toNatClampNeg 1) (some q)) (Int32.toNatClampNeg 2) (some q)) (Int32.toNatClampNeg 3) (some q)) (Int32.toNatClampNeg 4) (some q)) (Int32.toNatClampNeg 5) (some q)) (Int32.toNatClampNeg 6) (some q)) (Int32.toNatClampNeg 7) (some q)))))))) (m8 : G (q + 7) = some (.inr (14, [.int (-1), .int 0, .ref (q + 8)]))) (m9 : G (q + 8) = some (.inl (ar 9, 16, .inr (.inr (.inr (.inr (fun _ => none))))))) (m10 : G (q + 9) = some (.inl (ar 11, 10, .inr (.inr (.inr (.inr (va_up (va_up (va_up (fun _ => none) (Int32.toNatClampNeg 0) (some (q + 7))) (Int32.toNatClampNeg 1) (some (q + 10))) (Int32.toNatClampNeg 2) (some (q + 12))))))))) (m11 : G (q + 10) = some (.inr (14, [.int 0, .int 0, .ref (q + 11)]))) (m12 : G (q + 11) = some (.inl (ar 9, 16, .inr (.inr (.inr (.inr (fun _ => none))))))) (m13 : G (q + 12) = some (.inr (14, [.int 0, .int 0, .ref (q + 13)]))) (m14 : G (q + 13) = some (.inl (ar 9, 16, .inr (.inr (.inr (.inr (fun _ => none))))))) (h2 : ¬ isB se 16 = 0) : Met l yX15_found (lwC yX15_found cX15_found 4 (some (.object "SendhouseModel$Method"))) (rD 5 0 0) (g_Pc D vwCl (gT ar) (EX1 κ) G sz [.ref y, .int 1, .int se]) (g_Qq D vwCl (g_A G sz) (fun r u => r = none ∧ u = (G, sz))) 0 0 (g_A G sz) := by
  refine g_ofW (by decide +kernel) (Nat.le_of_ble_eq_true rfl) ?_
  intro p e s m below meth c ls S hr hlk hin hE w hl
  have hx := S.1
  have hb := S.2.1
  have hl : lv_has ls 4 [(0, .ref y), (1, .int 1), (2, .int se)] := hl
  have lt_m0 : y < sz := g_ltn w m0
  have lt_m1 : q < sz := g_ltn w m1
  have lt_m2 : q + 1 < sz := g_ltn w m2
  have lt_m3 : q + 2 < sz := g_ltn w m3
  have lt_m4 : q + 3 < sz := g_ltn w m4
  have lt_m5 : q + 4 < sz := g_ltn w m5
  have lt_m6 : q + 5 < sz := g_ltn w m6
  have lt_m7 : q + 6 < sz := g_ltn w m7
  have lt_m8 : q + 7 < sz := g_ltn w m8
  have lt_m9 : q + 8 < sz := g_ltn w m9
  have lt_m10 : q + 9 < sz := g_ltn w m10
  have lt_m11 : q + 10 < sz := g_ltn w m11
  have lt_m12 : q + 11 < sz := g_ltn w m12
  have lt_m13 : q + 12 < sz := g_ltn w m13
  have lt_m14 : q + 13 < sz := g_ltn w m14
  refine lv_iload_n hx hb dX15_found_0 rfl (lv_at hl 1 rfl) ?_
  refine lv_istore_n (lv' := [(3, .int 1), (0, .ref y), (1, .int 1), (2, .int se)]) hx hb dX15_found_1 rfl hl (by decide) rfl (fun ls hl => ?_)
  refine lv_iload_n hx hb dX15_found_2 rfl (lv_at hl 0 rfl) ?_
  refine lv_iconst (v := (-1)) hx hb dX15_found_3 (by decide) ?_
  refine lv_icmp_eq (tgt := 41) hx hb dX15_found_4 (by decide) (fun c => absurd c (by decide)) (fun _ => ?_)
  refine lv_aload_n hx hb dX15_found_7 rfl (lv_at hl 1 rfl) ?_
  refine lv_iload_n hx hb dX15_found_8 rfl (lv_at hl 0 rfl) ?_
  refine lv_iload_n hx hb dX15_found_9 rfl (lv_at hl 3 rfl) ?_
  refine g_callq w (g_runV (As := [.int 1, .int se]) (rest := []) S hE w hl (c_told_1 l D ar κ G sz y se q t m0 m1 m2 m3 m4 m5 m6 m7 m8 m9 m10 m11 m12 m13 m14 h2) (k_RX15_170 S.2.2.2.2 ⟨Nat.le_of_ble_eq_true rfl, Nat.le_of_ble_eq_true rfl⟩) m0 rfl rfl rfl rfl (Nat.le_of_ble_eq_true rfl) dX15_found_10 ⟨Nat.le_of_ble_eq_true rfl, Nat.le_of_ble_eq_true rfl⟩) (fun r u H locs hp hnz w => ?_)
  obtain ⟨rfl, rfl⟩ := hp
  dsimp only at w
  refine lv_ifnullN (tgt := 23) hx hb dX15_found_13 (by decide) ?_
  refine lv_aload_n hx hb dX15_found_23 rfl (lv_at hl 1 rfl) ?_
  refine gf_RX15_21_19 S hE w m0 rfl dX15_found_24 ?_
  refine lv_iload_n hx hb dX15_found_27 rfl (lv_at hl 0 rfl) ?_
  refine g_callq w (g_runV (As := [.int 1]) (rest := []) S hE w hl (c_get l D ar κ G sz (q + 1) 1 3 (q + 9) 3 (va_up (va_up (va_up (fun _ => none) (Int32.toNatClampNeg 0) (some (q + 7))) (Int32.toNatClampNeg 1) (some (q + 10))) (Int32.toNatClampNeg 2) (some (q + 12))) m2 m10 (vp_in_nI (n := 1) (by decide) (by decide)) (by decide) (by decide)) (k_RX15_70 S.2.2.2.2 ⟨Nat.le_of_ble_eq_true rfl, Nat.le_of_ble_eq_true rfl⟩) m2 rfl rfl rfl rfl (Nat.le_of_ble_eq_true rfl) dX15_found_28 ⟨Nat.le_of_ble_eq_true rfl, Nat.le_of_ble_eq_true rfl⟩) (fun r u H locs hp hnz w => ?_)
  obtain ⟨rfl, rfl⟩ := hp
  rw [show (va_up (va_up (va_up (fun _ => none) (Int32.toNatClampNeg 0) (some (q + 7))) (Int32.toNatClampNeg 1) (some (q + 10))) (Int32.toNatClampNeg 2) (some (q + 12))) (Int32.toNatClampNeg 1) = some (q + 10) from rfl]
  show W p l e _ s m _ below meth c _ _ _ _ _ (F0 m _ ls (.ref (q + 10) :: _))
  dsimp only at w
  refine g_castS S hE w m_6_123 m11 rfl rfl dX15_found_31 ?_
  refine gf_RX15_177_14 S hE w m11 rfl dX15_found_34 ?_
  refine lv_istore_n (lv' := [(3, .int 0), (0, .ref y), (1, .int 1), (2, .int se)]) hx hb dX15_found_37 rfl hl (by decide) rfl (fun ls hl => ?_)
  refine lv_goto (tgt := 2) hx hb dX15_found_38 (by decide) ?_
  refine lv_iload_n hx hb dX15_found_2 rfl (lv_at hl 0 rfl) ?_
  refine lv_iconst (v := (-1)) hx hb dX15_found_3 (by decide) ?_
  refine lv_icmp_eq (tgt := 41) hx hb dX15_found_4 (by decide) (fun c => absurd c (by decide)) (fun _ => ?_)
  refine lv_aload_n hx hb dX15_found_7 rfl (lv_at hl 1 rfl) ?_
  refine lv_iload_n hx hb dX15_found_8 rfl (lv_at hl 0 rfl) ?_
  refine lv_iload_n hx hb dX15_found_9 rfl (lv_at hl 3 rfl) ?_
  refine g_callq w (g_runV (As := [.int 0, .int se]) (rest := []) S hE w hl (c_told_0 l D ar κ G sz y se q t m0 m1 m2 m3 m4 m5 m6 m7 m8 m9 m10 m11 m12 m13 m14 h2) (k_RX15_170 S.2.2.2.2 ⟨Nat.le_of_ble_eq_true rfl, Nat.le_of_ble_eq_true rfl⟩) m0 rfl rfl rfl rfl (Nat.le_of_ble_eq_true rfl) dX15_found_10 ⟨Nat.le_of_ble_eq_true rfl, Nat.le_of_ble_eq_true rfl⟩) (fun r u H locs hp hnz w => ?_)
  obtain ⟨rfl, rfl⟩ := hp
  dsimp only at w
  refine lv_ifnullN (tgt := 23) hx hb dX15_found_13 (by decide) ?_
  refine lv_aload_n hx hb dX15_found_23 rfl (lv_at hl 1 rfl) ?_
  refine gf_RX15_21_19 S hE w m0 rfl dX15_found_24 ?_
  refine lv_iload_n hx hb dX15_found_27 rfl (lv_at hl 0 rfl) ?_
  refine g_callq w (g_runV (As := [.int 0]) (rest := []) S hE w hl (c_get l D ar κ G sz (q + 1) 0 3 (q + 9) 3 (va_up (va_up (va_up (fun _ => none) (Int32.toNatClampNeg 0) (some (q + 7))) (Int32.toNatClampNeg 1) (some (q + 10))) (Int32.toNatClampNeg 2) (some (q + 12))) m2 m10 (vp_in_nI (n := 0) (by decide) (by decide)) (by decide) (by decide)) (k_RX15_70 S.2.2.2.2 ⟨Nat.le_of_ble_eq_true rfl, Nat.le_of_ble_eq_true rfl⟩) m2 rfl rfl rfl rfl (Nat.le_of_ble_eq_true rfl) dX15_found_28 ⟨Nat.le_of_ble_eq_true rfl, Nat.le_of_ble_eq_true rfl⟩) (fun r u H locs hp hnz w => ?_)
  obtain ⟨rfl, rfl⟩ := hp
  rw [show (va_up (va_up (va_up (fun _ => none) (Int32.toNatClampNeg 0) (some (q + 7))) (Int32.toNatClampNeg 1) (some (q + 10))) (Int32.toNatClampNeg 2) (some (q + 12))) (Int32.toNatClampNeg 0) = some (q + 7) from rfl]
  show W p l e _ s m _ below meth c _ _ _ _ _ (F0 m _ ls (.ref (q + 7) :: _))
  dsimp only at w
  refine g_castS S hE w m_6_123 m8 rfl rfl dX15_found_31 ?_
  refine gf_RX15_177_14 S hE w m8 rfl dX15_found_34 ?_
  refine lv_istore_n (lv' := [(3, .int (-1)), (0, .ref y), (1, .int 1), (2, .int se)]) hx hb dX15_found_37 rfl hl (by decide) rfl (fun ls hl => ?_)
  refine lv_goto (tgt := 2) hx hb dX15_found_38 (by decide) ?_
  refine lv_iload_n hx hb dX15_found_2 rfl (lv_at hl 0 rfl) ?_
  refine lv_iconst (v := (-1)) hx hb dX15_found_3 (by decide) ?_
  refine lv_icmp_eq (tgt := 41) hx hb dX15_found_4 (by decide) (fun _ => ?_) (fun c => absurd (by decide) c)
  refine lv_null hx hb dX15_found_41 ?_
  exact g_qret (r := none) hx hb hr (Or.inl ⟨_, rfl⟩) hlk w (Nat.le_of_ble_eq_true rfl) (Nat.le_of_ble_eq_true rfl) dX15_found_42 ⟨rfl, rfl⟩
set_option maxHeartbeats 4000000 in
set_option maxRecDepth 100000 in
theorem c_found_2 (l : Launch) (D : va_G) (ar : Nat → ClassId) (κ : Nat → Nat) (G : gW) (sz : Nat) (y : Nat) (se : Int32) (q : Nat) (t : Int32) (m0 : G y = some (.inr (19, [.ref q, .ref (q + 1), .ref (q + 2), .ref (q + 3), .ref (q + 4), .ref (q + 5), .ref (q + 6), .int t, .int 0, .int 0, .int 0, .int 45, .int 0, .null]))) (m1 : G q = some (.inr (18, [.int 117, .int 0]))) (m2 : G (q + 1) = some (.inr (3, [.int 3, .ref (q + 9), .int 3]))) (m3 : G (q + 2) = some (.inr (3, [.int 0, .ref (κ 0), .int 0]))) (m4 : G (q + 3) = some (.inr (3, [.int 0, .ref (κ 0), .int 0]))) (m5 : G (q + 4) = some (.inr (3, [.int 0, .ref (κ 0), .int 0]))) (m6 : G (q + 5) = some (.inr (3, [.int 0, .ref (κ 0), .int 0]))) (m7 : G (q + 6) = some (.inl (ar 10, 8, .inr (.inr (.inr (.inr (va_up (va_up (va_up (va_up (va_up (va_up (va_up (va_up (fun _ => none) (Int32.toNatClampNeg 0) (some q)) (Int32.toNatClampNeg 1) (some q)) (Int32.toNatClampNeg 2) (some q)) (Int32.toNatClampNeg 3) (some q)) (Int32.toNatClampNeg 4) (some q)) (Int32.toNatClampNeg 5) (some q)) (Int32.toNatClampNeg 6) (some q)) (Int32.toNatClampNeg 7) (some q)))))))) (m8 : G (q + 7) = some (.inr (14, [.int (-1), .int 0, .ref (q + 8)]))) (m9 : G (q + 8) = some (.inl (ar 9, 16, .inr (.inr (.inr (.inr (fun _ => none))))))) (m10 : G (q + 9) = some (.inl (ar 11, 10, .inr (.inr (.inr (.inr (va_up (va_up (va_up (fun _ => none) (Int32.toNatClampNeg 0) (some (q + 7))) (Int32.toNatClampNeg 1) (some (q + 10))) (Int32.toNatClampNeg 2) (some (q + 12))))))))) (m11 : G (q + 10) = some (.inr (14, [.int 0, .int 0, .ref (q + 11)]))) (m12 : G (q + 11) = some (.inl (ar 9, 16, .inr (.inr (.inr (.inr (fun _ => none))))))) (m13 : G (q + 12) = some (.inr (14, [.int 0, .int 0, .ref (q + 13)]))) (m14 : G (q + 13) = some (.inl (ar 9, 16, .inr (.inr (.inr (.inr (fun _ => none))))))) (h2 : ¬ isB se 16 = 0) : Met l yX15_found (lwC yX15_found cX15_found 4 (some (.object "SendhouseModel$Method"))) (rD 5 0 0) (g_Pc D vwCl (gT ar) (EX1 κ) G sz [.ref y, .int 2, .int se]) (g_Qq D vwCl (g_A G sz) (fun r u => r = none ∧ u = (G, sz))) 0 0 (g_A G sz) := by
  refine g_ofW (by decide +kernel) (Nat.le_of_ble_eq_true rfl) ?_
  intro p e s m below meth c ls S hr hlk hin hE w hl
  have hx := S.1
  have hb := S.2.1
  have hl : lv_has ls 4 [(0, .ref y), (1, .int 2), (2, .int se)] := hl
  have lt_m0 : y < sz := g_ltn w m0
  have lt_m1 : q < sz := g_ltn w m1
  have lt_m2 : q + 1 < sz := g_ltn w m2
  have lt_m3 : q + 2 < sz := g_ltn w m3
  have lt_m4 : q + 3 < sz := g_ltn w m4
  have lt_m5 : q + 4 < sz := g_ltn w m5
  have lt_m6 : q + 5 < sz := g_ltn w m6
  have lt_m7 : q + 6 < sz := g_ltn w m7
  have lt_m8 : q + 7 < sz := g_ltn w m8
  have lt_m9 : q + 8 < sz := g_ltn w m9
  have lt_m10 : q + 9 < sz := g_ltn w m10
  have lt_m11 : q + 10 < sz := g_ltn w m11
  have lt_m12 : q + 11 < sz := g_ltn w m12
  have lt_m13 : q + 12 < sz := g_ltn w m13
  have lt_m14 : q + 13 < sz := g_ltn w m14
  refine lv_iload_n hx hb dX15_found_0 rfl (lv_at hl 1 rfl) ?_
  refine lv_istore_n (lv' := [(3, .int 2), (0, .ref y), (1, .int 2), (2, .int se)]) hx hb dX15_found_1 rfl hl (by decide) rfl (fun ls hl => ?_)
  refine lv_iload_n hx hb dX15_found_2 rfl (lv_at hl 0 rfl) ?_
  refine lv_iconst (v := (-1)) hx hb dX15_found_3 (by decide) ?_
  refine lv_icmp_eq (tgt := 41) hx hb dX15_found_4 (by decide) (fun c => absurd c (by decide)) (fun _ => ?_)
  refine lv_aload_n hx hb dX15_found_7 rfl (lv_at hl 1 rfl) ?_
  refine lv_iload_n hx hb dX15_found_8 rfl (lv_at hl 0 rfl) ?_
  refine lv_iload_n hx hb dX15_found_9 rfl (lv_at hl 3 rfl) ?_
  refine g_callq w (g_runV (As := [.int 2, .int se]) (rest := []) S hE w hl (c_told_2 l D ar κ G sz y se q t m0 m1 m2 m3 m4 m5 m6 m7 m8 m9 m10 m11 m12 m13 m14 h2) (k_RX15_170 S.2.2.2.2 ⟨Nat.le_of_ble_eq_true rfl, Nat.le_of_ble_eq_true rfl⟩) m0 rfl rfl rfl rfl (Nat.le_of_ble_eq_true rfl) dX15_found_10 ⟨Nat.le_of_ble_eq_true rfl, Nat.le_of_ble_eq_true rfl⟩) (fun r u H locs hp hnz w => ?_)
  obtain ⟨rfl, rfl⟩ := hp
  dsimp only at w
  refine lv_ifnullN (tgt := 23) hx hb dX15_found_13 (by decide) ?_
  refine lv_aload_n hx hb dX15_found_23 rfl (lv_at hl 1 rfl) ?_
  refine gf_RX15_21_19 S hE w m0 rfl dX15_found_24 ?_
  refine lv_iload_n hx hb dX15_found_27 rfl (lv_at hl 0 rfl) ?_
  refine g_callq w (g_runV (As := [.int 2]) (rest := []) S hE w hl (c_get l D ar κ G sz (q + 1) 2 3 (q + 9) 3 (va_up (va_up (va_up (fun _ => none) (Int32.toNatClampNeg 0) (some (q + 7))) (Int32.toNatClampNeg 1) (some (q + 10))) (Int32.toNatClampNeg 2) (some (q + 12))) m2 m10 (vp_in_nI (n := 2) (by decide) (by decide)) (by decide) (by decide)) (k_RX15_70 S.2.2.2.2 ⟨Nat.le_of_ble_eq_true rfl, Nat.le_of_ble_eq_true rfl⟩) m2 rfl rfl rfl rfl (Nat.le_of_ble_eq_true rfl) dX15_found_28 ⟨Nat.le_of_ble_eq_true rfl, Nat.le_of_ble_eq_true rfl⟩) (fun r u H locs hp hnz w => ?_)
  obtain ⟨rfl, rfl⟩ := hp
  rw [show (va_up (va_up (va_up (fun _ => none) (Int32.toNatClampNeg 0) (some (q + 7))) (Int32.toNatClampNeg 1) (some (q + 10))) (Int32.toNatClampNeg 2) (some (q + 12))) (Int32.toNatClampNeg 2) = some (q + 12) from rfl]
  show W p l e _ s m _ below meth c _ _ _ _ _ (F0 m _ ls (.ref (q + 12) :: _))
  dsimp only at w
  refine g_castS S hE w m_6_123 m13 rfl rfl dX15_found_31 ?_
  refine gf_RX15_177_14 S hE w m13 rfl dX15_found_34 ?_
  refine lv_istore_n (lv' := [(3, .int 0), (0, .ref y), (1, .int 2), (2, .int se)]) hx hb dX15_found_37 rfl hl (by decide) rfl (fun ls hl => ?_)
  refine lv_goto (tgt := 2) hx hb dX15_found_38 (by decide) ?_
  refine lv_iload_n hx hb dX15_found_2 rfl (lv_at hl 0 rfl) ?_
  refine lv_iconst (v := (-1)) hx hb dX15_found_3 (by decide) ?_
  refine lv_icmp_eq (tgt := 41) hx hb dX15_found_4 (by decide) (fun c => absurd c (by decide)) (fun _ => ?_)
  refine lv_aload_n hx hb dX15_found_7 rfl (lv_at hl 1 rfl) ?_
  refine lv_iload_n hx hb dX15_found_8 rfl (lv_at hl 0 rfl) ?_
  refine lv_iload_n hx hb dX15_found_9 rfl (lv_at hl 3 rfl) ?_
  refine g_callq w (g_runV (As := [.int 0, .int se]) (rest := []) S hE w hl (c_told_0 l D ar κ G sz y se q t m0 m1 m2 m3 m4 m5 m6 m7 m8 m9 m10 m11 m12 m13 m14 h2) (k_RX15_170 S.2.2.2.2 ⟨Nat.le_of_ble_eq_true rfl, Nat.le_of_ble_eq_true rfl⟩) m0 rfl rfl rfl rfl (Nat.le_of_ble_eq_true rfl) dX15_found_10 ⟨Nat.le_of_ble_eq_true rfl, Nat.le_of_ble_eq_true rfl⟩) (fun r u H locs hp hnz w => ?_)
  obtain ⟨rfl, rfl⟩ := hp
  dsimp only at w
  refine lv_ifnullN (tgt := 23) hx hb dX15_found_13 (by decide) ?_
  refine lv_aload_n hx hb dX15_found_23 rfl (lv_at hl 1 rfl) ?_
  refine gf_RX15_21_19 S hE w m0 rfl dX15_found_24 ?_
  refine lv_iload_n hx hb dX15_found_27 rfl (lv_at hl 0 rfl) ?_
  refine g_callq w (g_runV (As := [.int 0]) (rest := []) S hE w hl (c_get l D ar κ G sz (q + 1) 0 3 (q + 9) 3 (va_up (va_up (va_up (fun _ => none) (Int32.toNatClampNeg 0) (some (q + 7))) (Int32.toNatClampNeg 1) (some (q + 10))) (Int32.toNatClampNeg 2) (some (q + 12))) m2 m10 (vp_in_nI (n := 0) (by decide) (by decide)) (by decide) (by decide)) (k_RX15_70 S.2.2.2.2 ⟨Nat.le_of_ble_eq_true rfl, Nat.le_of_ble_eq_true rfl⟩) m2 rfl rfl rfl rfl (Nat.le_of_ble_eq_true rfl) dX15_found_28 ⟨Nat.le_of_ble_eq_true rfl, Nat.le_of_ble_eq_true rfl⟩) (fun r u H locs hp hnz w => ?_)
  obtain ⟨rfl, rfl⟩ := hp
  rw [show (va_up (va_up (va_up (fun _ => none) (Int32.toNatClampNeg 0) (some (q + 7))) (Int32.toNatClampNeg 1) (some (q + 10))) (Int32.toNatClampNeg 2) (some (q + 12))) (Int32.toNatClampNeg 0) = some (q + 7) from rfl]
  show W p l e _ s m _ below meth c _ _ _ _ _ (F0 m _ ls (.ref (q + 7) :: _))
  dsimp only at w
  refine g_castS S hE w m_6_123 m8 rfl rfl dX15_found_31 ?_
  refine gf_RX15_177_14 S hE w m8 rfl dX15_found_34 ?_
  refine lv_istore_n (lv' := [(3, .int (-1)), (0, .ref y), (1, .int 2), (2, .int se)]) hx hb dX15_found_37 rfl hl (by decide) rfl (fun ls hl => ?_)
  refine lv_goto (tgt := 2) hx hb dX15_found_38 (by decide) ?_
  refine lv_iload_n hx hb dX15_found_2 rfl (lv_at hl 0 rfl) ?_
  refine lv_iconst (v := (-1)) hx hb dX15_found_3 (by decide) ?_
  refine lv_icmp_eq (tgt := 41) hx hb dX15_found_4 (by decide) (fun _ => ?_) (fun c => absurd (by decide) c)
  refine lv_null hx hb dX15_found_41 ?_
  exact g_qret (r := none) hx hb hr (Or.inl ⟨_, rfl⟩) hlk w (Nat.le_of_ble_eq_true rfl) (Nat.le_of_ble_eq_true rfl) dX15_found_42 ⟨rfl, rfl⟩
set_option maxHeartbeats 4000000 in
set_option maxRecDepth 100000 in
theorem m_isNoMethod (l : Launch) (D : va_G) (ar : Nat → ClassId) (κ : Nat → Nat) (G : gW) (sz : Nat) (y : Nat) (cl : Int32) (se : Int32) (q : Nat) (t : Int32) (hM : FM ar κ G y q t) : Met l yX15_isNoMethod (lwC yX15_isNoMethod cX15_isNoMethod 3 (some .boolean)) (rD 6 0 0) (g_Pc D vwCl (gT ar) (EX1 κ) G sz [.ref y, .int cl, .int se]) (g_Qi D vwCl (g_A G sz) (fun r u => r = 1 ∧ u = (g_up G y (.inr (19, [.ref q, .ref (q + 1), .ref (q + 2), .ref (q + 3), .ref (q + 4), .ref (q + 5), .ref (q + 6), .int (K_meth cl se), .int 0, .int 0, .int 0, .int 45, .int 0, .null])), sz))) 0 0 (g_A G sz) := by
  refine g_ofW (by decide +kernel) (Nat.le_of_ble_eq_true rfl) ?_
  intro p e s m below meth c ls S hr hlk hin hE w hl
  have hx := S.1
  have hb := S.2.1
  have hl : lv_has ls 3 [(0, .ref y), (1, .int cl), (2, .int se)] := hl
  obtain ⟨hyq, m0, m1, m2, m3, m4, m5, m6, m7, m8, m9, m10, m11, m12, m13, m14⟩ := id hM
  have lt13 : q + 13 < sz := g_ltn w m14
  by_cases c0 : isB cl 3 = 0
  · refine lv_aload_n hx hb dX15_isNoMethod_0 rfl (lv_at hl 0 rfl) ?_
    refine lv_aload_n hx hb dX15_isNoMethod_1 rfl (lv_at hl 0 rfl) ?_
    refine lv_iload_n hx hb dX15_isNoMethod_2 rfl (lv_at hl 1 rfl) ?_
    refine lv_iload_n hx hb dX15_isNoMethod_3 rfl (lv_at hl 2 rfl) ?_
    refine g_calli w (g_runV (As := [.int cl, .int se]) (rest := [.ref y]) S hE w hl (c_isPlaceA l D ar κ G sz y cl se (some q) (q + 1) (some (q + 2)) (some (q + 3)) (some (q + 4)) (some (q + 5)) (some (q + 6)) t 0 0 0 45 0 none 3 (some (q + 9)) m0 m2 c0) (k_RX15_144 S.2.2.2.2 ⟨Nat.le_of_ble_eq_true rfl, Nat.le_of_ble_eq_true rfl⟩) m0 rfl rfl rfl rfl (Nat.le_of_ble_eq_true rfl) dX15_isNoMethod_4 ⟨Nat.le_of_ble_eq_true rfl, Nat.le_of_ble_eq_true rfl⟩) (fun r u H locs hp hnz w => ?_)
    obtain ⟨rfl, rfl⟩ := hp
    dsimp only at w
    refine lv_if_ne (tgt := 14) hx hb dX15_isNoMethod_7 (by decide) (fun c => absurd (by decide) c) (fun _ => ?_)
    refine lv_iconst (v := 1) hx hb dX15_isNoMethod_10 (by decide) ?_
    refine lv_goto (tgt := 38) hx hb dX15_isNoMethod_11 (by decide) ?_
    refine g_calli w (g_runV (As := [.int 1]) (rest := []) S hE w hl (c_isWrong l D ar κ G sz y 1 (some q) (some (q + 1)) (some (q + 2)) (some (q + 3)) (some (q + 4)) (some (q + 5)) (some (q + 6)) t 0 0 0 45 0 none m0) (k_RX15_77 S.2.2.2.2 ⟨Nat.le_of_ble_eq_true rfl, Nat.le_of_ble_eq_true rfl⟩) m0 rfl rfl rfl rfl (Nat.le_of_ble_eq_true rfl) dX15_isNoMethod_38 ⟨Nat.le_of_ble_eq_true rfl, Nat.le_of_ble_eq_true rfl⟩) (fun r u H locs hp hnz w => ?_)
    obtain ⟨rfl, rfl⟩ := hp
    rw [show (if (1 : Int32) = 0 then (0 : Int32) else 1) = 1 from by decide]
    dsimp only at w
    exact g_zret hx hb hr hlk w (Nat.le_of_ble_eq_true rfl) (Nat.le_of_ble_eq_true rfl) dX15_isNoMethod_41 rfl ⟨rfl, by rw [show K_meth cl se = 1 from by simp [K_meth, isB03, isB13, isB23, isPl0, isPl1, isPl2, c0]]; first | done | rfl⟩
  rcases isB3 c0 with rfl | rfl | rfl
  · by_cases d0 : isB se 16 = 0
    · refine lv_aload_n hx hb dX15_isNoMethod_0 rfl (lv_at hl 0 rfl) ?_
      refine lv_aload_n hx hb dX15_isNoMethod_1 rfl (lv_at hl 0 rfl) ?_
      refine lv_iload_n hx hb dX15_isNoMethod_2 rfl (lv_at hl 1 rfl) ?_
      refine lv_iload_n hx hb dX15_isNoMethod_3 rfl (lv_at hl 2 rfl) ?_
      refine g_calli w (g_runV (As := [.int 0, .int se]) (rest := [.ref y]) S hE w hl (c_isPlaceB l D ar κ G sz y 0 se (some q) (q + 1) (some (q + 2)) (some (q + 3)) (some (q + 4)) (some (q + 5)) (some (q + 6)) t 0 0 0 45 0 none 3 (some (q + 9)) m0 m2 (by decide) d0) (k_RX15_144 S.2.2.2.2 ⟨Nat.le_of_ble_eq_true rfl, Nat.le_of_ble_eq_true rfl⟩) m0 rfl rfl rfl rfl (Nat.le_of_ble_eq_true rfl) dX15_isNoMethod_4 ⟨Nat.le_of_ble_eq_true rfl, Nat.le_of_ble_eq_true rfl⟩) (fun r u H locs hp hnz w => ?_)
      obtain ⟨rfl, rfl⟩ := hp
      dsimp only at w
      refine lv_if_ne (tgt := 14) hx hb dX15_isNoMethod_7 (by decide) (fun c => absurd (by decide) c) (fun _ => ?_)
      refine lv_iconst (v := 1) hx hb dX15_isNoMethod_10 (by decide) ?_
      refine lv_goto (tgt := 38) hx hb dX15_isNoMethod_11 (by decide) ?_
      refine g_calli w (g_runV (As := [.int 1]) (rest := []) S hE w hl (c_isWrong l D ar κ G sz y 1 (some q) (some (q + 1)) (some (q + 2)) (some (q + 3)) (some (q + 4)) (some (q + 5)) (some (q + 6)) t 0 0 0 45 0 none m0) (k_RX15_77 S.2.2.2.2 ⟨Nat.le_of_ble_eq_true rfl, Nat.le_of_ble_eq_true rfl⟩) m0 rfl rfl rfl rfl (Nat.le_of_ble_eq_true rfl) dX15_isNoMethod_38 ⟨Nat.le_of_ble_eq_true rfl, Nat.le_of_ble_eq_true rfl⟩) (fun r u H locs hp hnz w => ?_)
      obtain ⟨rfl, rfl⟩ := hp
      rw [show (if (1 : Int32) = 0 then (0 : Int32) else 1) = 1 from by decide]
      dsimp only at w
      exact g_zret hx hb hr hlk w (Nat.le_of_ble_eq_true rfl) (Nat.le_of_ble_eq_true rfl) dX15_isNoMethod_41 rfl ⟨rfl, by rw [show K_meth 0 se = 1 from by simp [K_meth, isB03, isB13, isB23, isPl0, isPl1, isPl2, d0]]; first | done | rfl⟩
    · refine lv_aload_n hx hb dX15_isNoMethod_0 rfl (lv_at hl 0 rfl) ?_
      refine lv_aload_n hx hb dX15_isNoMethod_1 rfl (lv_at hl 0 rfl) ?_
      refine lv_iload_n hx hb dX15_isNoMethod_2 rfl (lv_at hl 1 rfl) ?_
      refine lv_iload_n hx hb dX15_isNoMethod_3 rfl (lv_at hl 2 rfl) ?_
      refine g_calli w (g_runV (As := [.int 0, .int se]) (rest := [.ref y]) S hE w hl (c_isPlaceC l D ar κ G sz y 0 se (some q) (q + 1) (some (q + 2)) (some (q + 3)) (some (q + 4)) (some (q + 5)) (some (q + 6)) t 0 0 0 45 0 none 3 (some (q + 9)) m0 m2 (by decide) d0) (k_RX15_144 S.2.2.2.2 ⟨Nat.le_of_ble_eq_true rfl, Nat.le_of_ble_eq_true rfl⟩) m0 rfl rfl rfl rfl (Nat.le_of_ble_eq_true rfl) dX15_isNoMethod_4 ⟨Nat.le_of_ble_eq_true rfl, Nat.le_of_ble_eq_true rfl⟩) (fun r u H locs hp hnz w => ?_)
      obtain ⟨rfl, rfl⟩ := hp
      dsimp only at w
      refine lv_if_ne (tgt := 14) hx hb dX15_isNoMethod_7 (by decide) (fun _ => ?_) (fun c => absurd c (by decide))
      refine lv_aload_n hx hb dX15_isNoMethod_14 rfl (lv_at hl 0 rfl) ?_
      refine gf_RX15_21_19 S hE w m0 rfl dX15_isNoMethod_15 ?_
      refine lv_iload_n hx hb dX15_isNoMethod_18 rfl (lv_at hl 1 rfl) ?_
      refine g_callq w (g_runV (As := [.int 0]) (rest := [.ref y]) S hE w hl (c_get l D ar κ G sz (q + 1) 0 3 (q + 9) 3 (va_up (va_up (va_up (fun _ => none) (Int32.toNatClampNeg 0) (some (q + 7))) (Int32.toNatClampNeg 1) (some (q + 10))) (Int32.toNatClampNeg 2) (some (q + 12))) m2 m10 (vp_in_nI (n := 0) (by decide) (by decide)) (by decide) (by decide)) (k_RX15_70 S.2.2.2.2 ⟨Nat.le_of_ble_eq_true rfl, Nat.le_of_ble_eq_true rfl⟩) m2 rfl rfl rfl rfl (Nat.le_of_ble_eq_true rfl) dX15_isNoMethod_19 ⟨Nat.le_of_ble_eq_true rfl, Nat.le_of_ble_eq_true rfl⟩) (fun r u H locs hp hnz w => ?_)
      obtain ⟨rfl, rfl⟩ := hp
      rw [show (va_up (va_up (va_up (fun _ => none) (Int32.toNatClampNeg 0) (some (q + 7))) (Int32.toNatClampNeg 1) (some (q + 10))) (Int32.toNatClampNeg 2) (some (q + 12))) (Int32.toNatClampNeg 0) = some (q + 7) from rfl]
      show W p l e _ s m _ below meth c _ _ _ _ _ (F0 m _ ls (.ref (q + 7) :: _))
      dsimp only at w
      refine g_castS S hE w m_6_123 m8 rfl rfl dX15_isNoMethod_22 ?_
      refine gf_RX15_163_14 S hE w m8 rfl dX15_isNoMethod_25 ?_
      refine lv_iload_n hx hb dX15_isNoMethod_28 rfl (lv_at hl 2 rfl) ?_
      refine va_aldq hx hb hE.1 (g_1 w.1 m9) 0 9 rfl rfl (vinB (n := 16) rfl (by decide) d0) dX15_isNoMethod_29 ?_
      show W p l e _ s m _ below meth c _ _ _ _ _ (F0 m 30 ls (.null :: _))
      refine lv_ifnonnullN hx hb dX15_isNoMethod_30 ?_
      refine lv_iconst (v := 2) hx hb dX15_isNoMethod_33 (by decide) ?_
      refine lv_goto (tgt := 38) hx hb dX15_isNoMethod_34 (by decide) ?_
      refine g_calli w (g_runV (As := [.int 2]) (rest := []) S hE w hl (c_isWrong l D ar κ G sz y 2 (some q) (some (q + 1)) (some (q + 2)) (some (q + 3)) (some (q + 4)) (some (q + 5)) (some (q + 6)) t 0 0 0 45 0 none m0) (k_RX15_77 S.2.2.2.2 ⟨Nat.le_of_ble_eq_true rfl, Nat.le_of_ble_eq_true rfl⟩) m0 rfl rfl rfl rfl (Nat.le_of_ble_eq_true rfl) dX15_isNoMethod_38 ⟨Nat.le_of_ble_eq_true rfl, Nat.le_of_ble_eq_true rfl⟩) (fun r u H locs hp hnz w => ?_)
      obtain ⟨rfl, rfl⟩ := hp
      rw [show (if (2 : Int32) = 0 then (0 : Int32) else 1) = 1 from by decide]
      dsimp only at w
      exact g_zret hx hb hr hlk w (Nat.le_of_ble_eq_true rfl) (Nat.le_of_ble_eq_true rfl) dX15_isNoMethod_41 rfl ⟨rfl, by rw [show K_meth 0 se = 2 from by simp [K_meth, isB03, isB13, isB23, isPl0, isPl1, isPl2, d0]]; first | done | rfl⟩
  · by_cases d0 : isB se 16 = 0
    · refine lv_aload_n hx hb dX15_isNoMethod_0 rfl (lv_at hl 0 rfl) ?_
      refine lv_aload_n hx hb dX15_isNoMethod_1 rfl (lv_at hl 0 rfl) ?_
      refine lv_iload_n hx hb dX15_isNoMethod_2 rfl (lv_at hl 1 rfl) ?_
      refine lv_iload_n hx hb dX15_isNoMethod_3 rfl (lv_at hl 2 rfl) ?_
      refine g_calli w (g_runV (As := [.int 1, .int se]) (rest := [.ref y]) S hE w hl (c_isPlaceB l D ar κ G sz y 1 se (some q) (q + 1) (some (q + 2)) (some (q + 3)) (some (q + 4)) (some (q + 5)) (some (q + 6)) t 0 0 0 45 0 none 3 (some (q + 9)) m0 m2 (by decide) d0) (k_RX15_144 S.2.2.2.2 ⟨Nat.le_of_ble_eq_true rfl, Nat.le_of_ble_eq_true rfl⟩) m0 rfl rfl rfl rfl (Nat.le_of_ble_eq_true rfl) dX15_isNoMethod_4 ⟨Nat.le_of_ble_eq_true rfl, Nat.le_of_ble_eq_true rfl⟩) (fun r u H locs hp hnz w => ?_)
      obtain ⟨rfl, rfl⟩ := hp
      dsimp only at w
      refine lv_if_ne (tgt := 14) hx hb dX15_isNoMethod_7 (by decide) (fun c => absurd (by decide) c) (fun _ => ?_)
      refine lv_iconst (v := 1) hx hb dX15_isNoMethod_10 (by decide) ?_
      refine lv_goto (tgt := 38) hx hb dX15_isNoMethod_11 (by decide) ?_
      refine g_calli w (g_runV (As := [.int 1]) (rest := []) S hE w hl (c_isWrong l D ar κ G sz y 1 (some q) (some (q + 1)) (some (q + 2)) (some (q + 3)) (some (q + 4)) (some (q + 5)) (some (q + 6)) t 0 0 0 45 0 none m0) (k_RX15_77 S.2.2.2.2 ⟨Nat.le_of_ble_eq_true rfl, Nat.le_of_ble_eq_true rfl⟩) m0 rfl rfl rfl rfl (Nat.le_of_ble_eq_true rfl) dX15_isNoMethod_38 ⟨Nat.le_of_ble_eq_true rfl, Nat.le_of_ble_eq_true rfl⟩) (fun r u H locs hp hnz w => ?_)
      obtain ⟨rfl, rfl⟩ := hp
      rw [show (if (1 : Int32) = 0 then (0 : Int32) else 1) = 1 from by decide]
      dsimp only at w
      exact g_zret hx hb hr hlk w (Nat.le_of_ble_eq_true rfl) (Nat.le_of_ble_eq_true rfl) dX15_isNoMethod_41 rfl ⟨rfl, by rw [show K_meth 1 se = 1 from by simp [K_meth, isB03, isB13, isB23, isPl0, isPl1, isPl2, d0]]; first | done | rfl⟩
    · refine lv_aload_n hx hb dX15_isNoMethod_0 rfl (lv_at hl 0 rfl) ?_
      refine lv_aload_n hx hb dX15_isNoMethod_1 rfl (lv_at hl 0 rfl) ?_
      refine lv_iload_n hx hb dX15_isNoMethod_2 rfl (lv_at hl 1 rfl) ?_
      refine lv_iload_n hx hb dX15_isNoMethod_3 rfl (lv_at hl 2 rfl) ?_
      refine g_calli w (g_runV (As := [.int 1, .int se]) (rest := [.ref y]) S hE w hl (c_isPlaceC l D ar κ G sz y 1 se (some q) (q + 1) (some (q + 2)) (some (q + 3)) (some (q + 4)) (some (q + 5)) (some (q + 6)) t 0 0 0 45 0 none 3 (some (q + 9)) m0 m2 (by decide) d0) (k_RX15_144 S.2.2.2.2 ⟨Nat.le_of_ble_eq_true rfl, Nat.le_of_ble_eq_true rfl⟩) m0 rfl rfl rfl rfl (Nat.le_of_ble_eq_true rfl) dX15_isNoMethod_4 ⟨Nat.le_of_ble_eq_true rfl, Nat.le_of_ble_eq_true rfl⟩) (fun r u H locs hp hnz w => ?_)
      obtain ⟨rfl, rfl⟩ := hp
      dsimp only at w
      refine lv_if_ne (tgt := 14) hx hb dX15_isNoMethod_7 (by decide) (fun _ => ?_) (fun c => absurd c (by decide))
      refine lv_aload_n hx hb dX15_isNoMethod_14 rfl (lv_at hl 0 rfl) ?_
      refine gf_RX15_21_19 S hE w m0 rfl dX15_isNoMethod_15 ?_
      refine lv_iload_n hx hb dX15_isNoMethod_18 rfl (lv_at hl 1 rfl) ?_
      refine g_callq w (g_runV (As := [.int 1]) (rest := [.ref y]) S hE w hl (c_get l D ar κ G sz (q + 1) 1 3 (q + 9) 3 (va_up (va_up (va_up (fun _ => none) (Int32.toNatClampNeg 0) (some (q + 7))) (Int32.toNatClampNeg 1) (some (q + 10))) (Int32.toNatClampNeg 2) (some (q + 12))) m2 m10 (vp_in_nI (n := 1) (by decide) (by decide)) (by decide) (by decide)) (k_RX15_70 S.2.2.2.2 ⟨Nat.le_of_ble_eq_true rfl, Nat.le_of_ble_eq_true rfl⟩) m2 rfl rfl rfl rfl (Nat.le_of_ble_eq_true rfl) dX15_isNoMethod_19 ⟨Nat.le_of_ble_eq_true rfl, Nat.le_of_ble_eq_true rfl⟩) (fun r u H locs hp hnz w => ?_)
      obtain ⟨rfl, rfl⟩ := hp
      rw [show (va_up (va_up (va_up (fun _ => none) (Int32.toNatClampNeg 0) (some (q + 7))) (Int32.toNatClampNeg 1) (some (q + 10))) (Int32.toNatClampNeg 2) (some (q + 12))) (Int32.toNatClampNeg 1) = some (q + 10) from rfl]
      show W p l e _ s m _ below meth c _ _ _ _ _ (F0 m _ ls (.ref (q + 10) :: _))
      dsimp only at w
      refine g_castS S hE w m_6_123 m11 rfl rfl dX15_isNoMethod_22 ?_
      refine gf_RX15_163_14 S hE w m11 rfl dX15_isNoMethod_25 ?_
      refine lv_iload_n hx hb dX15_isNoMethod_28 rfl (lv_at hl 2 rfl) ?_
      refine va_aldq hx hb hE.1 (g_1 w.1 m12) 0 9 rfl rfl (vinB (n := 16) rfl (by decide) d0) dX15_isNoMethod_29 ?_
      show W p l e _ s m _ below meth c _ _ _ _ _ (F0 m 30 ls (.null :: _))
      refine lv_ifnonnullN hx hb dX15_isNoMethod_30 ?_
      refine lv_iconst (v := 2) hx hb dX15_isNoMethod_33 (by decide) ?_
      refine lv_goto (tgt := 38) hx hb dX15_isNoMethod_34 (by decide) ?_
      refine g_calli w (g_runV (As := [.int 2]) (rest := []) S hE w hl (c_isWrong l D ar κ G sz y 2 (some q) (some (q + 1)) (some (q + 2)) (some (q + 3)) (some (q + 4)) (some (q + 5)) (some (q + 6)) t 0 0 0 45 0 none m0) (k_RX15_77 S.2.2.2.2 ⟨Nat.le_of_ble_eq_true rfl, Nat.le_of_ble_eq_true rfl⟩) m0 rfl rfl rfl rfl (Nat.le_of_ble_eq_true rfl) dX15_isNoMethod_38 ⟨Nat.le_of_ble_eq_true rfl, Nat.le_of_ble_eq_true rfl⟩) (fun r u H locs hp hnz w => ?_)
      obtain ⟨rfl, rfl⟩ := hp
      rw [show (if (2 : Int32) = 0 then (0 : Int32) else 1) = 1 from by decide]
      dsimp only at w
      exact g_zret hx hb hr hlk w (Nat.le_of_ble_eq_true rfl) (Nat.le_of_ble_eq_true rfl) dX15_isNoMethod_41 rfl ⟨rfl, by rw [show K_meth 1 se = 2 from by simp [K_meth, isB03, isB13, isB23, isPl0, isPl1, isPl2, d0]]; first | done | rfl⟩
  · by_cases d0 : isB se 16 = 0
    · refine lv_aload_n hx hb dX15_isNoMethod_0 rfl (lv_at hl 0 rfl) ?_
      refine lv_aload_n hx hb dX15_isNoMethod_1 rfl (lv_at hl 0 rfl) ?_
      refine lv_iload_n hx hb dX15_isNoMethod_2 rfl (lv_at hl 1 rfl) ?_
      refine lv_iload_n hx hb dX15_isNoMethod_3 rfl (lv_at hl 2 rfl) ?_
      refine g_calli w (g_runV (As := [.int 2, .int se]) (rest := [.ref y]) S hE w hl (c_isPlaceB l D ar κ G sz y 2 se (some q) (q + 1) (some (q + 2)) (some (q + 3)) (some (q + 4)) (some (q + 5)) (some (q + 6)) t 0 0 0 45 0 none 3 (some (q + 9)) m0 m2 (by decide) d0) (k_RX15_144 S.2.2.2.2 ⟨Nat.le_of_ble_eq_true rfl, Nat.le_of_ble_eq_true rfl⟩) m0 rfl rfl rfl rfl (Nat.le_of_ble_eq_true rfl) dX15_isNoMethod_4 ⟨Nat.le_of_ble_eq_true rfl, Nat.le_of_ble_eq_true rfl⟩) (fun r u H locs hp hnz w => ?_)
      obtain ⟨rfl, rfl⟩ := hp
      dsimp only at w
      refine lv_if_ne (tgt := 14) hx hb dX15_isNoMethod_7 (by decide) (fun c => absurd (by decide) c) (fun _ => ?_)
      refine lv_iconst (v := 1) hx hb dX15_isNoMethod_10 (by decide) ?_
      refine lv_goto (tgt := 38) hx hb dX15_isNoMethod_11 (by decide) ?_
      refine g_calli w (g_runV (As := [.int 1]) (rest := []) S hE w hl (c_isWrong l D ar κ G sz y 1 (some q) (some (q + 1)) (some (q + 2)) (some (q + 3)) (some (q + 4)) (some (q + 5)) (some (q + 6)) t 0 0 0 45 0 none m0) (k_RX15_77 S.2.2.2.2 ⟨Nat.le_of_ble_eq_true rfl, Nat.le_of_ble_eq_true rfl⟩) m0 rfl rfl rfl rfl (Nat.le_of_ble_eq_true rfl) dX15_isNoMethod_38 ⟨Nat.le_of_ble_eq_true rfl, Nat.le_of_ble_eq_true rfl⟩) (fun r u H locs hp hnz w => ?_)
      obtain ⟨rfl, rfl⟩ := hp
      rw [show (if (1 : Int32) = 0 then (0 : Int32) else 1) = 1 from by decide]
      dsimp only at w
      exact g_zret hx hb hr hlk w (Nat.le_of_ble_eq_true rfl) (Nat.le_of_ble_eq_true rfl) dX15_isNoMethod_41 rfl ⟨rfl, by rw [show K_meth 2 se = 1 from by simp [K_meth, isB03, isB13, isB23, isPl0, isPl1, isPl2, d0]]; first | done | rfl⟩
    · refine lv_aload_n hx hb dX15_isNoMethod_0 rfl (lv_at hl 0 rfl) ?_
      refine lv_aload_n hx hb dX15_isNoMethod_1 rfl (lv_at hl 0 rfl) ?_
      refine lv_iload_n hx hb dX15_isNoMethod_2 rfl (lv_at hl 1 rfl) ?_
      refine lv_iload_n hx hb dX15_isNoMethod_3 rfl (lv_at hl 2 rfl) ?_
      refine g_calli w (g_runV (As := [.int 2, .int se]) (rest := [.ref y]) S hE w hl (c_isPlaceC l D ar κ G sz y 2 se (some q) (q + 1) (some (q + 2)) (some (q + 3)) (some (q + 4)) (some (q + 5)) (some (q + 6)) t 0 0 0 45 0 none 3 (some (q + 9)) m0 m2 (by decide) d0) (k_RX15_144 S.2.2.2.2 ⟨Nat.le_of_ble_eq_true rfl, Nat.le_of_ble_eq_true rfl⟩) m0 rfl rfl rfl rfl (Nat.le_of_ble_eq_true rfl) dX15_isNoMethod_4 ⟨Nat.le_of_ble_eq_true rfl, Nat.le_of_ble_eq_true rfl⟩) (fun r u H locs hp hnz w => ?_)
      obtain ⟨rfl, rfl⟩ := hp
      dsimp only at w
      refine lv_if_ne (tgt := 14) hx hb dX15_isNoMethod_7 (by decide) (fun _ => ?_) (fun c => absurd c (by decide))
      refine lv_aload_n hx hb dX15_isNoMethod_14 rfl (lv_at hl 0 rfl) ?_
      refine gf_RX15_21_19 S hE w m0 rfl dX15_isNoMethod_15 ?_
      refine lv_iload_n hx hb dX15_isNoMethod_18 rfl (lv_at hl 1 rfl) ?_
      refine g_callq w (g_runV (As := [.int 2]) (rest := [.ref y]) S hE w hl (c_get l D ar κ G sz (q + 1) 2 3 (q + 9) 3 (va_up (va_up (va_up (fun _ => none) (Int32.toNatClampNeg 0) (some (q + 7))) (Int32.toNatClampNeg 1) (some (q + 10))) (Int32.toNatClampNeg 2) (some (q + 12))) m2 m10 (vp_in_nI (n := 2) (by decide) (by decide)) (by decide) (by decide)) (k_RX15_70 S.2.2.2.2 ⟨Nat.le_of_ble_eq_true rfl, Nat.le_of_ble_eq_true rfl⟩) m2 rfl rfl rfl rfl (Nat.le_of_ble_eq_true rfl) dX15_isNoMethod_19 ⟨Nat.le_of_ble_eq_true rfl, Nat.le_of_ble_eq_true rfl⟩) (fun r u H locs hp hnz w => ?_)
      obtain ⟨rfl, rfl⟩ := hp
      rw [show (va_up (va_up (va_up (fun _ => none) (Int32.toNatClampNeg 0) (some (q + 7))) (Int32.toNatClampNeg 1) (some (q + 10))) (Int32.toNatClampNeg 2) (some (q + 12))) (Int32.toNatClampNeg 2) = some (q + 12) from rfl]
      show W p l e _ s m _ below meth c _ _ _ _ _ (F0 m _ ls (.ref (q + 12) :: _))
      dsimp only at w
      refine g_castS S hE w m_6_123 m13 rfl rfl dX15_isNoMethod_22 ?_
      refine gf_RX15_163_14 S hE w m13 rfl dX15_isNoMethod_25 ?_
      refine lv_iload_n hx hb dX15_isNoMethod_28 rfl (lv_at hl 2 rfl) ?_
      refine va_aldq hx hb hE.1 (g_1 w.1 m14) 0 9 rfl rfl (vinB (n := 16) rfl (by decide) d0) dX15_isNoMethod_29 ?_
      show W p l e _ s m _ below meth c _ _ _ _ _ (F0 m 30 ls (.null :: _))
      refine lv_ifnonnullN hx hb dX15_isNoMethod_30 ?_
      refine lv_iconst (v := 2) hx hb dX15_isNoMethod_33 (by decide) ?_
      refine lv_goto (tgt := 38) hx hb dX15_isNoMethod_34 (by decide) ?_
      refine g_calli w (g_runV (As := [.int 2]) (rest := []) S hE w hl (c_isWrong l D ar κ G sz y 2 (some q) (some (q + 1)) (some (q + 2)) (some (q + 3)) (some (q + 4)) (some (q + 5)) (some (q + 6)) t 0 0 0 45 0 none m0) (k_RX15_77 S.2.2.2.2 ⟨Nat.le_of_ble_eq_true rfl, Nat.le_of_ble_eq_true rfl⟩) m0 rfl rfl rfl rfl (Nat.le_of_ble_eq_true rfl) dX15_isNoMethod_38 ⟨Nat.le_of_ble_eq_true rfl, Nat.le_of_ble_eq_true rfl⟩) (fun r u H locs hp hnz w => ?_)
      obtain ⟨rfl, rfl⟩ := hp
      rw [show (if (2 : Int32) = 0 then (0 : Int32) else 1) = 1 from by decide]
      dsimp only at w
      exact g_zret hx hb hr hlk w (Nat.le_of_ble_eq_true rfl) (Nat.le_of_ble_eq_true rfl) dX15_isNoMethod_41 rfl ⟨rfl, by rw [show K_meth 2 se = 2 from by simp [K_meth, isB03, isB13, isB23, isPl0, isPl1, isPl2, d0]]; first | done | rfl⟩
set_option maxHeartbeats 4000000 in
set_option maxRecDepth 100000 in
theorem m_remove (l : Launch) (D : va_G) (ar : Nat → ClassId) (κ : Nat → Nat) (G : gW) (sz : Nat) (y : Nat) (cl : Int32) (se : Int32) (q : Nat) (t : Int32) (hM : FM ar κ G y q t) : Met l yX15_remove (lwC yX15_remove cX15_remove 4 (some .int)) (rD 7 0 0) (g_Pc D vwCl (gT ar) (EX1 κ) G sz [.ref y, .int cl, .int se]) (g_Qi D vwCl (g_A G sz) (fun r u => ((K_meth cl se : Int32) = 0 → r = 0) ∧ TH y (K_meth cl se) u)) 0 0 (g_A G sz) := by
  refine g_ofW (by decide +kernel) (Nat.le_of_ble_eq_true rfl) ?_
  intro p e s m below meth c ls S hr hlk hin hE w hl
  have hx := S.1
  have hb := S.2.1
  have hl : lv_has ls 4 [(0, .ref y), (1, .int cl), (2, .int se)] := hl
  obtain ⟨hyq, m0, m1, m2, m3, m4, m5, m6, m7, m8, m9, m10, m11, m12, m13, m14⟩ := id hM
  have lt13 : q + 13 < sz := g_ltn w m14
  refine lv_aload_n hx hb dX15_remove_0 rfl (lv_at hl 0 rfl) ?_
  refine lv_iload_n hx hb dX15_remove_1 rfl (lv_at hl 1 rfl) ?_
  refine lv_iload_n hx hb dX15_remove_2 rfl (lv_at hl 2 rfl) ?_
  refine g_calli w (g_runV (As := [.int cl, .int se]) (rest := []) S hE w hl (m_isNoMethod l D ar κ G sz y cl se q t hM) (k_RX15_167 S.2.2.2.2 ⟨Nat.le_of_ble_eq_true rfl, Nat.le_of_ble_eq_true rfl⟩) m0 rfl rfl rfl rfl (Nat.le_of_ble_eq_true rfl) dX15_remove_3 ⟨Nat.le_of_ble_eq_true rfl, Nat.le_of_ble_eq_true rfl⟩) (fun r u H locs hp hnz w => ?_)
  obtain ⟨rfl, rfl⟩ := hp
  dsimp only at w
  refine lv_if_eq (tgt := 11) hx hb dX15_remove_6 (by decide) (fun c => absurd c (by decide)) (fun _ => ?_)
  refine lv_iconst (v := 0) hx hb dX15_remove_9 (by decide) ?_
  exact g_iret hx hb hr hlk w (Nat.le_of_ble_eq_true rfl) (Nat.le_of_ble_eq_true rfl) dX15_remove_10 ⟨(fun h => absurd h K_meth_n), TH_mk (T := K_meth cl se) g_up_s rfl rfl⟩
set_option maxHeartbeats 4000000 in
set_option maxRecDepth 100000 in
theorem m_calls (l : Launch) (D : va_G) (ar : Nat → ClassId) (κ : Nat → Nat) (G : gW) (sz : Nat) (y : Nat) (cl : Int32) (se : Int32) (q : Nat) (t : Int32) (hM : FM ar κ G y q t) : Met l yX15_calls (lwC yX15_calls cX15_calls 3 (some .int)) (rD 7 0 0) (g_Pc D vwCl (gT ar) (EX1 κ) G sz [.ref y, .int cl, .int se]) (g_Qi D vwCl (g_A G sz) (fun r u => ((K_meth cl se : Int32) = 0 → r = 0) ∧ TH y (K_meth cl se) u)) 0 0 (g_A G sz) := by
  refine g_ofW (by decide +kernel) (Nat.le_of_ble_eq_true rfl) ?_
  intro p e s m below meth c ls S hr hlk hin hE w hl
  have hx := S.1
  have hb := S.2.1
  have hl : lv_has ls 3 [(0, .ref y), (1, .int cl), (2, .int se)] := hl
  obtain ⟨hyq, m0, m1, m2, m3, m4, m5, m6, m7, m8, m9, m10, m11, m12, m13, m14⟩ := id hM
  have lt13 : q + 13 < sz := g_ltn w m14
  refine lv_aload_n hx hb dX15_calls_0 rfl (lv_at hl 0 rfl) ?_
  refine lv_iload_n hx hb dX15_calls_1 rfl (lv_at hl 1 rfl) ?_
  refine lv_iload_n hx hb dX15_calls_2 rfl (lv_at hl 2 rfl) ?_
  refine g_calli w (g_runV (As := [.int cl, .int se]) (rest := []) S hE w hl (m_isNoMethod l D ar κ G sz y cl se q t hM) (k_RX15_167 S.2.2.2.2 ⟨Nat.le_of_ble_eq_true rfl, Nat.le_of_ble_eq_true rfl⟩) m0 rfl rfl rfl rfl (Nat.le_of_ble_eq_true rfl) dX15_calls_3 ⟨Nat.le_of_ble_eq_true rfl, Nat.le_of_ble_eq_true rfl⟩) (fun r u H locs hp hnz w => ?_)
  obtain ⟨rfl, rfl⟩ := hp
  dsimp only at w
  refine lv_if_eq (tgt := 13) hx hb dX15_calls_6 (by decide) (fun c => absurd c (by decide)) (fun _ => ?_)
  refine lv_iconst (v := 0) hx hb dX15_calls_9 (by decide) ?_
  refine lv_goto (tgt := 22) hx hb dX15_calls_10 (by decide) ?_
  exact g_iret hx hb hr hlk w (Nat.le_of_ble_eq_true rfl) (Nat.le_of_ble_eq_true rfl) dX15_calls_22 ⟨(fun h => absurd h K_meth_n), TH_mk (T := K_meth cl se) g_up_s rfl rfl⟩
set_option maxHeartbeats 4000000 in
set_option maxRecDepth 100000 in
theorem m_compile (l : Launch) (D : va_G) (ar : Nat → ClassId) (κ : Nat → Nat) (G : gW) (sz : Nat) (y : Nat) (cl : Int32) (se : Int32) (q : Nat) (t : Int32) (hM : FM ar κ G y q t) : Met l yX15_compile (lwC yX15_compile cX15_compile 3 (some .int)) (rD 7 0 0) (g_Pc D vwCl (gT ar) (EX1 κ) G sz [.ref y, .int cl, .int se]) (g_Qi D vwCl (g_A G sz) (fun r u => ((K_meth cl se : Int32) = 0 → r = 0) ∧ TH y (K_meth cl se) u)) 0 0 (g_A G sz) := by
  refine g_ofW (by decide +kernel) (Nat.le_of_ble_eq_true rfl) ?_
  intro p e s m below meth c ls S hr hlk hin hE w hl
  have hx := S.1
  have hb := S.2.1
  have hl : lv_has ls 3 [(0, .ref y), (1, .int cl), (2, .int se)] := hl
  obtain ⟨hyq, m0, m1, m2, m3, m4, m5, m6, m7, m8, m9, m10, m11, m12, m13, m14⟩ := id hM
  have lt13 : q + 13 < sz := g_ltn w m14
  refine lv_aload_n hx hb dX15_compile_0 rfl (lv_at hl 0 rfl) ?_
  refine lv_iload_n hx hb dX15_compile_1 rfl (lv_at hl 1 rfl) ?_
  refine lv_iload_n hx hb dX15_compile_2 rfl (lv_at hl 2 rfl) ?_
  refine g_calli w (g_runV (As := [.int cl, .int se]) (rest := []) S hE w hl (m_isNoMethod l D ar κ G sz y cl se q t hM) (k_RX15_167 S.2.2.2.2 ⟨Nat.le_of_ble_eq_true rfl, Nat.le_of_ble_eq_true rfl⟩) m0 rfl rfl rfl rfl (Nat.le_of_ble_eq_true rfl) dX15_compile_3 ⟨Nat.le_of_ble_eq_true rfl, Nat.le_of_ble_eq_true rfl⟩) (fun r u H locs hp hnz w => ?_)
  obtain ⟨rfl, rfl⟩ := hp
  dsimp only at w
  refine lv_if_eq (tgt := 11) hx hb dX15_compile_6 (by decide) (fun c => absurd c (by decide)) (fun _ => ?_)
  refine lv_iconst (v := 0) hx hb dX15_compile_9 (by decide) ?_
  exact g_iret hx hb hr hlk w (Nat.le_of_ble_eq_true rfl) (Nat.le_of_ble_eq_true rfl) dX15_compile_10 ⟨(fun h => absurd h K_meth_n), TH_mk (T := K_meth cl se) g_up_s rfl rfl⟩
set_option maxHeartbeats 4000000 in
set_option maxRecDepth 100000 in
theorem m_isCompiled (l : Launch) (D : va_G) (ar : Nat → ClassId) (κ : Nat → Nat) (G : gW) (sz : Nat) (y : Nat) (cl : Int32) (se : Int32) (q : Nat) (t : Int32) (hM : FM ar κ G y q t) : Met l yX15_isCompiled (lwC yX15_isCompiled cX15_isCompiled 3 (some .boolean)) (rD 7 0 0) (g_Pc D vwCl (gT ar) (EX1 κ) G sz [.ref y, .int cl, .int se]) (g_Qi D vwCl (g_A G sz) (fun r u => ((K_meth cl se : Int32) = 0 → r = 0) ∧ TH y (K_meth cl se) u)) 0 0 (g_A G sz) := by
  refine g_ofW (by decide +kernel) (Nat.le_of_ble_eq_true rfl) ?_
  intro p e s m below meth c ls S hr hlk hin hE w hl
  have hx := S.1
  have hb := S.2.1
  have hl : lv_has ls 3 [(0, .ref y), (1, .int cl), (2, .int se)] := hl
  obtain ⟨hyq, m0, m1, m2, m3, m4, m5, m6, m7, m8, m9, m10, m11, m12, m13, m14⟩ := id hM
  have lt13 : q + 13 < sz := g_ltn w m14
  refine lv_aload_n hx hb dX15_isCompiled_0 rfl (lv_at hl 0 rfl) ?_
  refine lv_iload_n hx hb dX15_isCompiled_1 rfl (lv_at hl 1 rfl) ?_
  refine lv_iload_n hx hb dX15_isCompiled_2 rfl (lv_at hl 2 rfl) ?_
  refine g_calli w (g_runV (As := [.int cl, .int se]) (rest := []) S hE w hl (m_isNoMethod l D ar κ G sz y cl se q t hM) (k_RX15_167 S.2.2.2.2 ⟨Nat.le_of_ble_eq_true rfl, Nat.le_of_ble_eq_true rfl⟩) m0 rfl rfl rfl rfl (Nat.le_of_ble_eq_true rfl) dX15_isCompiled_3 ⟨Nat.le_of_ble_eq_true rfl, Nat.le_of_ble_eq_true rfl⟩) (fun r u H locs hp hnz w => ?_)
  obtain ⟨rfl, rfl⟩ := hp
  dsimp only at w
  refine lv_if_ne (tgt := 25) hx hb dX15_isCompiled_6 (by decide) (fun _ => ?_) (fun c => absurd c (by decide))
  refine lv_iconst (v := 0) hx hb dX15_isCompiled_25 (by decide) ?_
  exact g_zret hx hb hr hlk w (Nat.le_of_ble_eq_true rfl) (Nat.le_of_ble_eq_true rfl) dX15_isCompiled_26 rfl ⟨(fun h => absurd h K_meth_n), TH_mk (T := K_meth cl se) g_up_s rfl rfl⟩
set_option maxHeartbeats 4000000 in
set_option maxRecDepth 100000 in
theorem m_find (l : Launch) (D : va_G) (ar : Nat → ClassId) (κ : Nat → Nat) (G : gW) (sz : Nat) (y : Nat) (cl : Int32) (se : Int32) (q : Nat) (t : Int32) (hM : FM ar κ G y q t) : Met l yX15_find (lwC yX15_find cX15_find 3 (some .int)) (rD 7 0 0) (g_Pc D vwCl (gT ar) (EX1 κ) G sz [.ref y, .int cl, .int se]) (g_Qi D vwCl (g_A G sz) (fun r u => ((K_meth cl se : Int32) = 0 → r = 0) ∧ TH y (K_meth cl se) u)) 0 0 (g_A G sz) := by
  refine g_ofW (by decide +kernel) (Nat.le_of_ble_eq_true rfl) ?_
  intro p e s m below meth c ls S hr hlk hin hE w hl
  have hx := S.1
  have hb := S.2.1
  have hl : lv_has ls 3 [(0, .ref y), (1, .int cl), (2, .int se)] := hl
  obtain ⟨hyq, m0, m1, m2, m3, m4, m5, m6, m7, m8, m9, m10, m11, m12, m13, m14⟩ := id hM
  have lt13 : q + 13 < sz := g_ltn w m14
  by_cases c0 : isB cl 3 = 0
  · refine lv_aload_n hx hb dX15_find_0 rfl (lv_at hl 0 rfl) ?_
    refine lv_aload_n hx hb dX15_find_1 rfl (lv_at hl 0 rfl) ?_
    refine lv_iload_n hx hb dX15_find_2 rfl (lv_at hl 1 rfl) ?_
    refine lv_iload_n hx hb dX15_find_3 rfl (lv_at hl 2 rfl) ?_
    refine g_calli w (g_runV (As := [.int cl, .int se]) (rest := [.ref y]) S hE w hl (c_isPlaceA l D ar κ G sz y cl se (some q) (q + 1) (some (q + 2)) (some (q + 3)) (some (q + 4)) (some (q + 5)) (some (q + 6)) t 0 0 0 45 0 none 3 (some (q + 9)) m0 m2 c0) (k_RX15_144 S.2.2.2.2 ⟨Nat.le_of_ble_eq_true rfl, Nat.le_of_ble_eq_true rfl⟩) m0 rfl rfl rfl rfl (Nat.le_of_ble_eq_true rfl) dX15_find_4 ⟨Nat.le_of_ble_eq_true rfl, Nat.le_of_ble_eq_true rfl⟩) (fun r u H locs hp hnz w => ?_)
    obtain ⟨rfl, rfl⟩ := hp
    dsimp only at w
    refine lv_if_ne (tgt := 14) hx hb dX15_find_7 (by decide) (fun c => absurd (by decide) c) (fun _ => ?_)
    refine lv_iconst (v := 1) hx hb dX15_find_10 (by decide) ?_
    refine lv_goto (tgt := 28) hx hb dX15_find_11 (by decide) ?_
    refine g_calli w (g_runV (As := [.int 1]) (rest := []) S hE w hl (c_isWrong l D ar κ G sz y 1 (some q) (some (q + 1)) (some (q + 2)) (some (q + 3)) (some (q + 4)) (some (q + 5)) (some (q + 6)) t 0 0 0 45 0 none m0) (k_RX15_77 S.2.2.2.2 ⟨Nat.le_of_ble_eq_true rfl, Nat.le_of_ble_eq_true rfl⟩) m0 rfl rfl rfl rfl (Nat.le_of_ble_eq_true rfl) dX15_find_28 ⟨Nat.le_of_ble_eq_true rfl, Nat.le_of_ble_eq_true rfl⟩) (fun r u H locs hp hnz w => ?_)
    obtain ⟨rfl, rfl⟩ := hp
    rw [show (if (1 : Int32) = 0 then (0 : Int32) else 1) = 1 from by decide]
    dsimp only at w
    refine lv_if_eq (tgt := 36) hx hb dX15_find_31 (by decide) (fun c => absurd c (by decide)) (fun _ => ?_)
    refine lv_iconst (v := 0) hx hb dX15_find_34 (by decide) ?_
    exact g_iret hx hb hr hlk w (Nat.le_of_ble_eq_true rfl) (Nat.le_of_ble_eq_true rfl) dX15_find_35 ⟨(nz_first (T := 1) (by simp [K_meth, isB03, isB13, isB23, isPl0, isPl1, isPl2, c0]) (by decide)), TH_mk (T := 1) g_up_s rfl (by simp [K_meth, isB03, isB13, isB23, isPl0, isPl1, isPl2, c0])⟩
  rcases isB3 c0 with rfl | rfl | rfl
  · by_cases d0 : isB se 16 = 0
    · refine lv_aload_n hx hb dX15_find_0 rfl (lv_at hl 0 rfl) ?_
      refine lv_aload_n hx hb dX15_find_1 rfl (lv_at hl 0 rfl) ?_
      refine lv_iload_n hx hb dX15_find_2 rfl (lv_at hl 1 rfl) ?_
      refine lv_iload_n hx hb dX15_find_3 rfl (lv_at hl 2 rfl) ?_
      refine g_calli w (g_runV (As := [.int 0, .int se]) (rest := [.ref y]) S hE w hl (c_isPlaceB l D ar κ G sz y 0 se (some q) (q + 1) (some (q + 2)) (some (q + 3)) (some (q + 4)) (some (q + 5)) (some (q + 6)) t 0 0 0 45 0 none 3 (some (q + 9)) m0 m2 (by decide) d0) (k_RX15_144 S.2.2.2.2 ⟨Nat.le_of_ble_eq_true rfl, Nat.le_of_ble_eq_true rfl⟩) m0 rfl rfl rfl rfl (Nat.le_of_ble_eq_true rfl) dX15_find_4 ⟨Nat.le_of_ble_eq_true rfl, Nat.le_of_ble_eq_true rfl⟩) (fun r u H locs hp hnz w => ?_)
      obtain ⟨rfl, rfl⟩ := hp
      dsimp only at w
      refine lv_if_ne (tgt := 14) hx hb dX15_find_7 (by decide) (fun c => absurd (by decide) c) (fun _ => ?_)
      refine lv_iconst (v := 1) hx hb dX15_find_10 (by decide) ?_
      refine lv_goto (tgt := 28) hx hb dX15_find_11 (by decide) ?_
      refine g_calli w (g_runV (As := [.int 1]) (rest := []) S hE w hl (c_isWrong l D ar κ G sz y 1 (some q) (some (q + 1)) (some (q + 2)) (some (q + 3)) (some (q + 4)) (some (q + 5)) (some (q + 6)) t 0 0 0 45 0 none m0) (k_RX15_77 S.2.2.2.2 ⟨Nat.le_of_ble_eq_true rfl, Nat.le_of_ble_eq_true rfl⟩) m0 rfl rfl rfl rfl (Nat.le_of_ble_eq_true rfl) dX15_find_28 ⟨Nat.le_of_ble_eq_true rfl, Nat.le_of_ble_eq_true rfl⟩) (fun r u H locs hp hnz w => ?_)
      obtain ⟨rfl, rfl⟩ := hp
      rw [show (if (1 : Int32) = 0 then (0 : Int32) else 1) = 1 from by decide]
      dsimp only at w
      refine lv_if_eq (tgt := 36) hx hb dX15_find_31 (by decide) (fun c => absurd c (by decide)) (fun _ => ?_)
      refine lv_iconst (v := 0) hx hb dX15_find_34 (by decide) ?_
      exact g_iret hx hb hr hlk w (Nat.le_of_ble_eq_true rfl) (Nat.le_of_ble_eq_true rfl) dX15_find_35 ⟨(nz_first (T := 1) (by simp [K_meth, isB03, isB13, isB23, isPl0, isPl1, isPl2, d0]) (by decide)), TH_mk (T := 1) g_up_s rfl (by simp [K_meth, isB03, isB13, isB23, isPl0, isPl1, isPl2, d0])⟩
    · refine lv_aload_n hx hb dX15_find_0 rfl (lv_at hl 0 rfl) ?_
      refine lv_aload_n hx hb dX15_find_1 rfl (lv_at hl 0 rfl) ?_
      refine lv_iload_n hx hb dX15_find_2 rfl (lv_at hl 1 rfl) ?_
      refine lv_iload_n hx hb dX15_find_3 rfl (lv_at hl 2 rfl) ?_
      refine g_calli w (g_runV (As := [.int 0, .int se]) (rest := [.ref y]) S hE w hl (c_isPlaceC l D ar κ G sz y 0 se (some q) (q + 1) (some (q + 2)) (some (q + 3)) (some (q + 4)) (some (q + 5)) (some (q + 6)) t 0 0 0 45 0 none 3 (some (q + 9)) m0 m2 (by decide) d0) (k_RX15_144 S.2.2.2.2 ⟨Nat.le_of_ble_eq_true rfl, Nat.le_of_ble_eq_true rfl⟩) m0 rfl rfl rfl rfl (Nat.le_of_ble_eq_true rfl) dX15_find_4 ⟨Nat.le_of_ble_eq_true rfl, Nat.le_of_ble_eq_true rfl⟩) (fun r u H locs hp hnz w => ?_)
      obtain ⟨rfl, rfl⟩ := hp
      dsimp only at w
      refine lv_if_ne (tgt := 14) hx hb dX15_find_7 (by decide) (fun _ => ?_) (fun c => absurd c (by decide))
      refine lv_aload_n hx hb dX15_find_14 rfl (lv_at hl 0 rfl) ?_
      refine lv_iload_n hx hb dX15_find_15 rfl (lv_at hl 1 rfl) ?_
      refine lv_iload_n hx hb dX15_find_16 rfl (lv_at hl 2 rfl) ?_
      refine g_callq w (g_runV (As := [.int 0, .int se]) (rest := [.ref y]) S hE w hl (c_found_0 l D ar κ G sz y se q t m0 m1 m2 m3 m4 m5 m6 m7 m8 m9 m10 m11 m12 m13 m14 d0) (k_RX15_180 S.2.2.2.2 ⟨Nat.le_of_ble_eq_true rfl, Nat.le_of_ble_eq_true rfl⟩) m0 rfl rfl rfl rfl (Nat.le_of_ble_eq_true rfl) dX15_find_17 ⟨Nat.le_of_ble_eq_true rfl, Nat.le_of_ble_eq_true rfl⟩) (fun r u H locs hp hnz w => ?_)
      obtain ⟨rfl, rfl⟩ := hp
      dsimp only at w
      refine lv_ifnonnullN hx hb dX15_find_20 ?_
      refine lv_iconst (v := 2) hx hb dX15_find_23 (by decide) ?_
      refine lv_goto (tgt := 28) hx hb dX15_find_24 (by decide) ?_
      refine g_calli w (g_runV (As := [.int 2]) (rest := []) S hE w hl (c_isWrong l D ar κ G sz y 2 (some q) (some (q + 1)) (some (q + 2)) (some (q + 3)) (some (q + 4)) (some (q + 5)) (some (q + 6)) t 0 0 0 45 0 none m0) (k_RX15_77 S.2.2.2.2 ⟨Nat.le_of_ble_eq_true rfl, Nat.le_of_ble_eq_true rfl⟩) m0 rfl rfl rfl rfl (Nat.le_of_ble_eq_true rfl) dX15_find_28 ⟨Nat.le_of_ble_eq_true rfl, Nat.le_of_ble_eq_true rfl⟩) (fun r u H locs hp hnz w => ?_)
      obtain ⟨rfl, rfl⟩ := hp
      rw [show (if (2 : Int32) = 0 then (0 : Int32) else 1) = 1 from by decide]
      dsimp only at w
      refine lv_if_eq (tgt := 36) hx hb dX15_find_31 (by decide) (fun c => absurd c (by decide)) (fun _ => ?_)
      refine lv_iconst (v := 0) hx hb dX15_find_34 (by decide) ?_
      exact g_iret hx hb hr hlk w (Nat.le_of_ble_eq_true rfl) (Nat.le_of_ble_eq_true rfl) dX15_find_35 ⟨(nz_first (T := 2) (by simp [K_meth, isB03, isB13, isB23, isPl0, isPl1, isPl2, d0]) (by decide)), TH_mk (T := 2) g_up_s rfl (by simp [K_meth, isB03, isB13, isB23, isPl0, isPl1, isPl2, d0])⟩
  · by_cases d0 : isB se 16 = 0
    · refine lv_aload_n hx hb dX15_find_0 rfl (lv_at hl 0 rfl) ?_
      refine lv_aload_n hx hb dX15_find_1 rfl (lv_at hl 0 rfl) ?_
      refine lv_iload_n hx hb dX15_find_2 rfl (lv_at hl 1 rfl) ?_
      refine lv_iload_n hx hb dX15_find_3 rfl (lv_at hl 2 rfl) ?_
      refine g_calli w (g_runV (As := [.int 1, .int se]) (rest := [.ref y]) S hE w hl (c_isPlaceB l D ar κ G sz y 1 se (some q) (q + 1) (some (q + 2)) (some (q + 3)) (some (q + 4)) (some (q + 5)) (some (q + 6)) t 0 0 0 45 0 none 3 (some (q + 9)) m0 m2 (by decide) d0) (k_RX15_144 S.2.2.2.2 ⟨Nat.le_of_ble_eq_true rfl, Nat.le_of_ble_eq_true rfl⟩) m0 rfl rfl rfl rfl (Nat.le_of_ble_eq_true rfl) dX15_find_4 ⟨Nat.le_of_ble_eq_true rfl, Nat.le_of_ble_eq_true rfl⟩) (fun r u H locs hp hnz w => ?_)
      obtain ⟨rfl, rfl⟩ := hp
      dsimp only at w
      refine lv_if_ne (tgt := 14) hx hb dX15_find_7 (by decide) (fun c => absurd (by decide) c) (fun _ => ?_)
      refine lv_iconst (v := 1) hx hb dX15_find_10 (by decide) ?_
      refine lv_goto (tgt := 28) hx hb dX15_find_11 (by decide) ?_
      refine g_calli w (g_runV (As := [.int 1]) (rest := []) S hE w hl (c_isWrong l D ar κ G sz y 1 (some q) (some (q + 1)) (some (q + 2)) (some (q + 3)) (some (q + 4)) (some (q + 5)) (some (q + 6)) t 0 0 0 45 0 none m0) (k_RX15_77 S.2.2.2.2 ⟨Nat.le_of_ble_eq_true rfl, Nat.le_of_ble_eq_true rfl⟩) m0 rfl rfl rfl rfl (Nat.le_of_ble_eq_true rfl) dX15_find_28 ⟨Nat.le_of_ble_eq_true rfl, Nat.le_of_ble_eq_true rfl⟩) (fun r u H locs hp hnz w => ?_)
      obtain ⟨rfl, rfl⟩ := hp
      rw [show (if (1 : Int32) = 0 then (0 : Int32) else 1) = 1 from by decide]
      dsimp only at w
      refine lv_if_eq (tgt := 36) hx hb dX15_find_31 (by decide) (fun c => absurd c (by decide)) (fun _ => ?_)
      refine lv_iconst (v := 0) hx hb dX15_find_34 (by decide) ?_
      exact g_iret hx hb hr hlk w (Nat.le_of_ble_eq_true rfl) (Nat.le_of_ble_eq_true rfl) dX15_find_35 ⟨(nz_first (T := 1) (by simp [K_meth, isB03, isB13, isB23, isPl0, isPl1, isPl2, d0]) (by decide)), TH_mk (T := 1) g_up_s rfl (by simp [K_meth, isB03, isB13, isB23, isPl0, isPl1, isPl2, d0])⟩
    · refine lv_aload_n hx hb dX15_find_0 rfl (lv_at hl 0 rfl) ?_
      refine lv_aload_n hx hb dX15_find_1 rfl (lv_at hl 0 rfl) ?_
      refine lv_iload_n hx hb dX15_find_2 rfl (lv_at hl 1 rfl) ?_
      refine lv_iload_n hx hb dX15_find_3 rfl (lv_at hl 2 rfl) ?_
      refine g_calli w (g_runV (As := [.int 1, .int se]) (rest := [.ref y]) S hE w hl (c_isPlaceC l D ar κ G sz y 1 se (some q) (q + 1) (some (q + 2)) (some (q + 3)) (some (q + 4)) (some (q + 5)) (some (q + 6)) t 0 0 0 45 0 none 3 (some (q + 9)) m0 m2 (by decide) d0) (k_RX15_144 S.2.2.2.2 ⟨Nat.le_of_ble_eq_true rfl, Nat.le_of_ble_eq_true rfl⟩) m0 rfl rfl rfl rfl (Nat.le_of_ble_eq_true rfl) dX15_find_4 ⟨Nat.le_of_ble_eq_true rfl, Nat.le_of_ble_eq_true rfl⟩) (fun r u H locs hp hnz w => ?_)
      obtain ⟨rfl, rfl⟩ := hp
      dsimp only at w
      refine lv_if_ne (tgt := 14) hx hb dX15_find_7 (by decide) (fun _ => ?_) (fun c => absurd c (by decide))
      refine lv_aload_n hx hb dX15_find_14 rfl (lv_at hl 0 rfl) ?_
      refine lv_iload_n hx hb dX15_find_15 rfl (lv_at hl 1 rfl) ?_
      refine lv_iload_n hx hb dX15_find_16 rfl (lv_at hl 2 rfl) ?_
      refine g_callq w (g_runV (As := [.int 1, .int se]) (rest := [.ref y]) S hE w hl (c_found_1 l D ar κ G sz y se q t m0 m1 m2 m3 m4 m5 m6 m7 m8 m9 m10 m11 m12 m13 m14 d0) (k_RX15_180 S.2.2.2.2 ⟨Nat.le_of_ble_eq_true rfl, Nat.le_of_ble_eq_true rfl⟩) m0 rfl rfl rfl rfl (Nat.le_of_ble_eq_true rfl) dX15_find_17 ⟨Nat.le_of_ble_eq_true rfl, Nat.le_of_ble_eq_true rfl⟩) (fun r u H locs hp hnz w => ?_)
      obtain ⟨rfl, rfl⟩ := hp
      dsimp only at w
      refine lv_ifnonnullN hx hb dX15_find_20 ?_
      refine lv_iconst (v := 2) hx hb dX15_find_23 (by decide) ?_
      refine lv_goto (tgt := 28) hx hb dX15_find_24 (by decide) ?_
      refine g_calli w (g_runV (As := [.int 2]) (rest := []) S hE w hl (c_isWrong l D ar κ G sz y 2 (some q) (some (q + 1)) (some (q + 2)) (some (q + 3)) (some (q + 4)) (some (q + 5)) (some (q + 6)) t 0 0 0 45 0 none m0) (k_RX15_77 S.2.2.2.2 ⟨Nat.le_of_ble_eq_true rfl, Nat.le_of_ble_eq_true rfl⟩) m0 rfl rfl rfl rfl (Nat.le_of_ble_eq_true rfl) dX15_find_28 ⟨Nat.le_of_ble_eq_true rfl, Nat.le_of_ble_eq_true rfl⟩) (fun r u H locs hp hnz w => ?_)
      obtain ⟨rfl, rfl⟩ := hp
      rw [show (if (2 : Int32) = 0 then (0 : Int32) else 1) = 1 from by decide]
      dsimp only at w
      refine lv_if_eq (tgt := 36) hx hb dX15_find_31 (by decide) (fun c => absurd c (by decide)) (fun _ => ?_)
      refine lv_iconst (v := 0) hx hb dX15_find_34 (by decide) ?_
      exact g_iret hx hb hr hlk w (Nat.le_of_ble_eq_true rfl) (Nat.le_of_ble_eq_true rfl) dX15_find_35 ⟨(nz_first (T := 2) (by simp [K_meth, isB03, isB13, isB23, isPl0, isPl1, isPl2, d0]) (by decide)), TH_mk (T := 2) g_up_s rfl (by simp [K_meth, isB03, isB13, isB23, isPl0, isPl1, isPl2, d0])⟩
  · by_cases d0 : isB se 16 = 0
    · refine lv_aload_n hx hb dX15_find_0 rfl (lv_at hl 0 rfl) ?_
      refine lv_aload_n hx hb dX15_find_1 rfl (lv_at hl 0 rfl) ?_
      refine lv_iload_n hx hb dX15_find_2 rfl (lv_at hl 1 rfl) ?_
      refine lv_iload_n hx hb dX15_find_3 rfl (lv_at hl 2 rfl) ?_
      refine g_calli w (g_runV (As := [.int 2, .int se]) (rest := [.ref y]) S hE w hl (c_isPlaceB l D ar κ G sz y 2 se (some q) (q + 1) (some (q + 2)) (some (q + 3)) (some (q + 4)) (some (q + 5)) (some (q + 6)) t 0 0 0 45 0 none 3 (some (q + 9)) m0 m2 (by decide) d0) (k_RX15_144 S.2.2.2.2 ⟨Nat.le_of_ble_eq_true rfl, Nat.le_of_ble_eq_true rfl⟩) m0 rfl rfl rfl rfl (Nat.le_of_ble_eq_true rfl) dX15_find_4 ⟨Nat.le_of_ble_eq_true rfl, Nat.le_of_ble_eq_true rfl⟩) (fun r u H locs hp hnz w => ?_)
      obtain ⟨rfl, rfl⟩ := hp
      dsimp only at w
      refine lv_if_ne (tgt := 14) hx hb dX15_find_7 (by decide) (fun c => absurd (by decide) c) (fun _ => ?_)
      refine lv_iconst (v := 1) hx hb dX15_find_10 (by decide) ?_
      refine lv_goto (tgt := 28) hx hb dX15_find_11 (by decide) ?_
      refine g_calli w (g_runV (As := [.int 1]) (rest := []) S hE w hl (c_isWrong l D ar κ G sz y 1 (some q) (some (q + 1)) (some (q + 2)) (some (q + 3)) (some (q + 4)) (some (q + 5)) (some (q + 6)) t 0 0 0 45 0 none m0) (k_RX15_77 S.2.2.2.2 ⟨Nat.le_of_ble_eq_true rfl, Nat.le_of_ble_eq_true rfl⟩) m0 rfl rfl rfl rfl (Nat.le_of_ble_eq_true rfl) dX15_find_28 ⟨Nat.le_of_ble_eq_true rfl, Nat.le_of_ble_eq_true rfl⟩) (fun r u H locs hp hnz w => ?_)
      obtain ⟨rfl, rfl⟩ := hp
      rw [show (if (1 : Int32) = 0 then (0 : Int32) else 1) = 1 from by decide]
      dsimp only at w
      refine lv_if_eq (tgt := 36) hx hb dX15_find_31 (by decide) (fun c => absurd c (by decide)) (fun _ => ?_)
      refine lv_iconst (v := 0) hx hb dX15_find_34 (by decide) ?_
      exact g_iret hx hb hr hlk w (Nat.le_of_ble_eq_true rfl) (Nat.le_of_ble_eq_true rfl) dX15_find_35 ⟨(nz_first (T := 1) (by simp [K_meth, isB03, isB13, isB23, isPl0, isPl1, isPl2, d0]) (by decide)), TH_mk (T := 1) g_up_s rfl (by simp [K_meth, isB03, isB13, isB23, isPl0, isPl1, isPl2, d0])⟩
    · refine lv_aload_n hx hb dX15_find_0 rfl (lv_at hl 0 rfl) ?_
      refine lv_aload_n hx hb dX15_find_1 rfl (lv_at hl 0 rfl) ?_
      refine lv_iload_n hx hb dX15_find_2 rfl (lv_at hl 1 rfl) ?_
      refine lv_iload_n hx hb dX15_find_3 rfl (lv_at hl 2 rfl) ?_
      refine g_calli w (g_runV (As := [.int 2, .int se]) (rest := [.ref y]) S hE w hl (c_isPlaceC l D ar κ G sz y 2 se (some q) (q + 1) (some (q + 2)) (some (q + 3)) (some (q + 4)) (some (q + 5)) (some (q + 6)) t 0 0 0 45 0 none 3 (some (q + 9)) m0 m2 (by decide) d0) (k_RX15_144 S.2.2.2.2 ⟨Nat.le_of_ble_eq_true rfl, Nat.le_of_ble_eq_true rfl⟩) m0 rfl rfl rfl rfl (Nat.le_of_ble_eq_true rfl) dX15_find_4 ⟨Nat.le_of_ble_eq_true rfl, Nat.le_of_ble_eq_true rfl⟩) (fun r u H locs hp hnz w => ?_)
      obtain ⟨rfl, rfl⟩ := hp
      dsimp only at w
      refine lv_if_ne (tgt := 14) hx hb dX15_find_7 (by decide) (fun _ => ?_) (fun c => absurd c (by decide))
      refine lv_aload_n hx hb dX15_find_14 rfl (lv_at hl 0 rfl) ?_
      refine lv_iload_n hx hb dX15_find_15 rfl (lv_at hl 1 rfl) ?_
      refine lv_iload_n hx hb dX15_find_16 rfl (lv_at hl 2 rfl) ?_
      refine g_callq w (g_runV (As := [.int 2, .int se]) (rest := [.ref y]) S hE w hl (c_found_2 l D ar κ G sz y se q t m0 m1 m2 m3 m4 m5 m6 m7 m8 m9 m10 m11 m12 m13 m14 d0) (k_RX15_180 S.2.2.2.2 ⟨Nat.le_of_ble_eq_true rfl, Nat.le_of_ble_eq_true rfl⟩) m0 rfl rfl rfl rfl (Nat.le_of_ble_eq_true rfl) dX15_find_17 ⟨Nat.le_of_ble_eq_true rfl, Nat.le_of_ble_eq_true rfl⟩) (fun r u H locs hp hnz w => ?_)
      obtain ⟨rfl, rfl⟩ := hp
      dsimp only at w
      refine lv_ifnonnullN hx hb dX15_find_20 ?_
      refine lv_iconst (v := 2) hx hb dX15_find_23 (by decide) ?_
      refine lv_goto (tgt := 28) hx hb dX15_find_24 (by decide) ?_
      refine g_calli w (g_runV (As := [.int 2]) (rest := []) S hE w hl (c_isWrong l D ar κ G sz y 2 (some q) (some (q + 1)) (some (q + 2)) (some (q + 3)) (some (q + 4)) (some (q + 5)) (some (q + 6)) t 0 0 0 45 0 none m0) (k_RX15_77 S.2.2.2.2 ⟨Nat.le_of_ble_eq_true rfl, Nat.le_of_ble_eq_true rfl⟩) m0 rfl rfl rfl rfl (Nat.le_of_ble_eq_true rfl) dX15_find_28 ⟨Nat.le_of_ble_eq_true rfl, Nat.le_of_ble_eq_true rfl⟩) (fun r u H locs hp hnz w => ?_)
      obtain ⟨rfl, rfl⟩ := hp
      rw [show (if (2 : Int32) = 0 then (0 : Int32) else 1) = 1 from by decide]
      dsimp only at w
      refine lv_if_eq (tgt := 36) hx hb dX15_find_31 (by decide) (fun c => absurd c (by decide)) (fun _ => ?_)
      refine lv_iconst (v := 0) hx hb dX15_find_34 (by decide) ?_
      exact g_iret hx hb hr hlk w (Nat.le_of_ble_eq_true rfl) (Nat.le_of_ble_eq_true rfl) dX15_find_35 ⟨(nz_first (T := 2) (by simp [K_meth, isB03, isB13, isB23, isPl0, isPl1, isPl2, d0]) (by decide)), TH_mk (T := 2) g_up_s rfl (by simp [K_meth, isB03, isB13, isB23, isPl0, isPl1, isPl2, d0])⟩
