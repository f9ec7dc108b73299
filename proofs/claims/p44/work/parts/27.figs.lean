theorem dX8_hasGlobalsThere_0 : decode cX8_hasGlobalsThere 0 = .ok (.aload_n 0, 1) := by decide +kernel
theorem dX8_hasGlobalsThere_1 : decode cX8_hasGlobalsThere 1 = .ok (.getfield 33, 3) := by decide +kernel
theorem dX8_hasGlobalsThere_4 : decode cX8_hasGlobalsThere 4 = .ok (.astore_n 1, 1) := by decide +kernel
theorem dX8_hasGlobalsThere_5 : decode cX8_hasGlobalsThere 5 = .ok (.aload_n 1, 1) := by decide +kernel
theorem dX8_hasGlobalsThere_6 : decode cX8_hasGlobalsThere 6 = .ok (.arraylength, 1) := by decide +kernel
theorem dX8_hasGlobalsThere_7 : decode cX8_hasGlobalsThere 7 = .ok (.istore_n 2, 1) := by decide +kernel
theorem dX8_hasGlobalsThere_8 : decode cX8_hasGlobalsThere 8 = .ok (.iconst 0, 1) := by decide +kernel
theorem dX8_hasGlobalsThere_9 : decode cX8_hasGlobalsThere 9 = .ok (.istore_n 3, 1) := by decide +kernel
theorem dX8_hasGlobalsThere_10 : decode cX8_hasGlobalsThere 10 = .ok (.iload_n 3, 1) := by decide +kernel
theorem dX8_hasGlobalsThere_11 : decode cX8_hasGlobalsThere 11 = .ok (.iload_n 2, 1) := by decide +kernel
theorem dX8_hasGlobalsThere_12 : decode cX8_hasGlobalsThere 12 = .ok (.if_icmp .ge 28, 3) := by decide +kernel
theorem dX8_hasGlobalsThere_15 : decode cX8_hasGlobalsThere 15 = .ok (.aload_n 1, 1) := by decide +kernel
theorem dX8_hasGlobalsThere_16 : decode cX8_hasGlobalsThere 16 = .ok (.iload_n 3, 1) := by decide +kernel
theorem dX8_hasGlobalsThere_17 : decode cX8_hasGlobalsThere 17 = .ok (.laload, 1) := by decide +kernel
theorem dX8_hasGlobalsThere_18 : decode cX8_hasGlobalsThere 18 = .ok (.lstore 4, 2) := by decide +kernel
theorem dX8_hasGlobalsThere_20 : decode cX8_hasGlobalsThere 20 = .ok (.aload_n 0, 1) := by decide +kernel
theorem dX8_hasGlobalsThere_21 : decode cX8_hasGlobalsThere 21 = .ok (.getfield 40, 3) := by decide +kernel
theorem dX8_hasGlobalsThere_24 : decode cX8_hasGlobalsThere 24 = .ok (.lload 4, 2) := by decide +kernel
theorem dX8_hasGlobalsThere_26 : decode cX8_hasGlobalsThere 26 = .ok (.invokevirtual 477, 3) := by decide +kernel
theorem dX8_hasGlobalsThere_29 : decode cX8_hasGlobalsThere 29 = .ok (.ifCond .ne 5, 3) := by decide +kernel
theorem dX8_hasGlobalsThere_32 : decode cX8_hasGlobalsThere 32 = .ok (.iconst 0, 1) := by decide +kernel
theorem dX8_hasGlobalsThere_33 : decode cX8_hasGlobalsThere 33 = .ok (.ireturn, 1) := by decide +kernel
theorem dX8_hasGlobalsThere_34 : decode cX8_hasGlobalsThere 34 = .ok (.iinc 3 1, 3) := by decide +kernel
theorem dX8_hasGlobalsThere_37 : decode cX8_hasGlobalsThere 37 = .ok (.goto (-27), 3) := by decide +kernel
theorem dX8_hasGlobalsThere_40 : decode cX8_hasGlobalsThere 40 = .ok (.iconst 1, 1) := by decide +kernel
theorem dX8_hasGlobalsThere_41 : decode cX8_hasGlobalsThere 41 = .ok (.ireturn, 1) := by decide +kernel
theorem dX8_hasPlacesThere_0 : decode cX8_hasPlacesThere 0 = .ok (.iconst 0, 1) := by decide +kernel
theorem dX8_hasPlacesThere_1 : decode cX8_hasPlacesThere 1 = .ok (.istore_n 2, 1) := by decide +kernel
theorem dX8_hasPlacesThere_2 : decode cX8_hasPlacesThere 2 = .ok (.iload_n 2, 1) := by decide +kernel
theorem dX8_hasPlacesThere_3 : decode cX8_hasPlacesThere 3 = .ok (.aload_n 1, 1) := by decide +kernel
theorem dX8_hasPlacesThere_4 : decode cX8_hasPlacesThere 4 = .ok (.invokevirtual 275, 3) := by decide +kernel
theorem dX8_hasPlacesThere_7 : decode cX8_hasPlacesThere 7 = .ok (.if_icmp .ge 26, 3) := by decide +kernel
theorem dX8_hasPlacesThere_10 : decode cX8_hasPlacesThere 10 = .ok (.aload_n 0, 1) := by decide +kernel
theorem dX8_hasPlacesThere_11 : decode cX8_hasPlacesThere 11 = .ok (.getfield 40, 3) := by decide +kernel
theorem dX8_hasPlacesThere_14 : decode cX8_hasPlacesThere 14 = .ok (.aload_n 1, 1) := by decide +kernel
theorem dX8_hasPlacesThere_15 : decode cX8_hasPlacesThere 15 = .ok (.iload_n 2, 1) := by decide +kernel
theorem dX8_hasPlacesThere_16 : decode cX8_hasPlacesThere 16 = .ok (.invokevirtual 277, 3) := by decide +kernel
theorem dX8_hasPlacesThere_19 : decode cX8_hasPlacesThere 19 = .ok (.invokevirtual 477, 3) := by decide +kernel
theorem dX8_hasPlacesThere_22 : decode cX8_hasPlacesThere 22 = .ok (.ifCond .ne 5, 3) := by decide +kernel
theorem dX8_hasPlacesThere_25 : decode cX8_hasPlacesThere 25 = .ok (.iconst 0, 1) := by decide +kernel
theorem dX8_hasPlacesThere_26 : decode cX8_hasPlacesThere 26 = .ok (.ireturn, 1) := by decide +kernel
theorem dX8_hasPlacesThere_27 : decode cX8_hasPlacesThere 27 = .ok (.iinc 2 1, 3) := by decide +kernel
theorem dX8_hasPlacesThere_30 : decode cX8_hasPlacesThere 30 = .ok (.goto (-28), 3) := by decide +kernel
theorem dX8_hasPlacesThere_33 : decode cX8_hasPlacesThere 33 = .ok (.iconst 1, 1) := by decide +kernel
theorem dX8_hasPlacesThere_34 : decode cX8_hasPlacesThere 34 = .ok (.ireturn, 1) := by decide +kernel
theorem dX8_hasFramesThere_0 : decode cX8_hasFramesThere 0 = .ok (.iconst 0, 1) := by decide +kernel
theorem dX8_hasFramesThere_1 : decode cX8_hasFramesThere 1 = .ok (.istore_n 1, 1) := by decide +kernel
theorem dX8_hasFramesThere_2 : decode cX8_hasFramesThere 2 = .ok (.iload_n 1, 1) := by decide +kernel
theorem dX8_hasFramesThere_3 : decode cX8_hasFramesThere 3 = .ok (.aload_n 0, 1) := by decide +kernel
theorem dX8_hasFramesThere_4 : decode cX8_hasFramesThere 4 = .ok (.getfield 50, 3) := by decide +kernel
theorem dX8_hasFramesThere_7 : decode cX8_hasFramesThere 7 = .ok (.if_icmp .ge 29, 3) := by decide +kernel
theorem dX8_hasFramesThere_10 : decode cX8_hasFramesThere 10 = .ok (.aload_n 0, 1) := by decide +kernel
theorem dX8_hasFramesThere_11 : decode cX8_hasFramesThere 11 = .ok (.iload_n 1, 1) := by decide +kernel
theorem dX8_hasFramesThere_12 : decode cX8_hasFramesThere 12 = .ok (.invokevirtual 251, 3) := by decide +kernel
theorem dX8_hasFramesThere_15 : decode cX8_hasFramesThere 15 = .ok (.astore_n 2, 1) := by decide +kernel
theorem dX8_hasFramesThere_16 : decode cX8_hasFramesThere 16 = .ok (.aload_n 2, 1) := by decide +kernel
theorem dX8_hasFramesThere_17 : decode cX8_hasFramesThere 17 = .ok (.ifnull 11, 3) := by decide +kernel
theorem dX8_hasFramesThere_20 : decode cX8_hasFramesThere 20 = .ok (.aload_n 0, 1) := by decide +kernel
theorem dX8_hasFramesThere_21 : decode cX8_hasFramesThere 21 = .ok (.aload_n 2, 1) := by decide +kernel
theorem dX8_hasFramesThere_22 : decode cX8_hasFramesThere 22 = .ok (.invokevirtual 499, 3) := by decide +kernel
theorem dX8_hasFramesThere_25 : decode cX8_hasFramesThere 25 = .ok (.ifCond .ne 5, 3) := by decide +kernel
theorem dX8_hasFramesThere_28 : decode cX8_hasFramesThere 28 = .ok (.iconst 0, 1) := by decide +kernel
theorem dX8_hasFramesThere_29 : decode cX8_hasFramesThere 29 = .ok (.ireturn, 1) := by decide +kernel
theorem dX8_hasFramesThere_30 : decode cX8_hasFramesThere 30 = .ok (.iinc 1 1, 3) := by decide +kernel
theorem dX8_hasFramesThere_33 : decode cX8_hasFramesThere 33 = .ok (.goto (-31), 3) := by decide +kernel
theorem dX8_hasFramesThere_36 : decode cX8_hasFramesThere 36 = .ok (.iconst 1, 1) := by decide +kernel
theorem dX8_hasFramesThere_37 : decode cX8_hasFramesThere 37 = .ok (.ireturn, 1) := by decide +kernel
theorem dX8_hasDepthAsTold_0 : decode cX8_hasDepthAsTold 0 = .ok (.aload_n 0, 1) := by decide +kernel
theorem dX8_hasDepthAsTold_1 : decode cX8_hasDepthAsTold 1 = .ok (.getfield 50, 3) := by decide +kernel
theorem dX8_hasDepthAsTold_4 : decode cX8_hasDepthAsTold 4 = .ok (.ifCond .ne 5, 3) := by decide +kernel
theorem dX8_hasDepthAsTold_7 : decode cX8_hasDepthAsTold 7 = .ok (.iconst 1, 1) := by decide +kernel
theorem dX8_hasDepthAsTold_8 : decode cX8_hasDepthAsTold 8 = .ok (.ireturn, 1) := by decide +kernel
theorem dX8_hasDepthAsTold_9 : decode cX8_hasDepthAsTold 9 = .ok (.aload_n 0, 1) := by decide +kernel
theorem dX8_hasDepthAsTold_10 : decode cX8_hasDepthAsTold 10 = .ok (.aload_n 0, 1) := by decide +kernel
theorem dX8_hasDepthAsTold_11 : decode cX8_hasDepthAsTold 11 = .ok (.getfield 50, 3) := by decide +kernel
theorem dX8_hasDepthAsTold_14 : decode cX8_hasDepthAsTold 14 = .ok (.iconst 1, 1) := by decide +kernel
theorem dX8_hasDepthAsTold_15 : decode cX8_hasDepthAsTold 15 = .ok (.isub, 1) := by decide +kernel
theorem dX8_hasDepthAsTold_16 : decode cX8_hasDepthAsTold 16 = .ok (.invokevirtual 251, 3) := by decide +kernel
theorem dX8_hasDepthAsTold_19 : decode cX8_hasDepthAsTold 19 = .ok (.astore_n 1, 1) := by decide +kernel
theorem dX8_hasDepthAsTold_20 : decode cX8_hasDepthAsTold 20 = .ok (.aload_n 1, 1) := by decide +kernel
theorem dX8_hasDepthAsTold_21 : decode cX8_hasDepthAsTold 21 = .ok (.ifnull 18, 3) := by decide +kernel
theorem dX8_hasDepthAsTold_24 : decode cX8_hasDepthAsTold 24 = .ok (.aload_n 1, 1) := by decide +kernel
theorem dX8_hasDepthAsTold_25 : decode cX8_hasDepthAsTold 25 = .ok (.getfield 327, 3) := by decide +kernel
theorem dX8_hasDepthAsTold_28 : decode cX8_hasDepthAsTold 28 = .ok (.aload_n 1, 1) := by decide +kernel
theorem dX8_hasDepthAsTold_29 : decode cX8_hasDepthAsTold 29 = .ok (.invokevirtual 502, 3) := by decide +kernel
theorem dX8_hasDepthAsTold_32 : decode cX8_hasDepthAsTold 32 = .ok (.if_icmp .ne 7, 3) := by decide +kernel
theorem dX8_hasDepthAsTold_35 : decode cX8_hasDepthAsTold 35 = .ok (.iconst 1, 1) := by decide +kernel
theorem dX8_hasDepthAsTold_36 : decode cX8_hasDepthAsTold 36 = .ok (.goto 4, 3) := by decide +kernel
theorem dX8_hasDepthAsTold_39 : decode cX8_hasDepthAsTold 39 = .ok (.iconst 0, 1) := by decide +kernel
theorem dX8_hasDepthAsTold_40 : decode cX8_hasDepthAsTold 40 = .ok (.ireturn, 1) := by decide +kernel
theorem dX8_isSound_0 : decode cX8_isSound 0 = .ok (.aload_n 0, 1) := by decide +kernel
theorem dX8_isSound_1 : decode cX8_isSound 1 = .ok (.getfield 40, 3) := by decide +kernel
theorem dX8_isSound_4 : decode cX8_isSound 4 = .ok (.getfield 207, 3) := by decide +kernel
theorem dX8_isSound_7 : decode cX8_isSound 7 = .ok (.bipush 60, 2) := by decide +kernel
theorem dX8_isSound_9 : decode cX8_isSound 9 = .ok (.if_icmp .gt 12, 3) := by decide +kernel
theorem dX8_isSound_12 : decode cX8_isSound 12 = .ok (.aload_n 0, 1) := by decide +kernel
theorem dX8_isSound_13 : decode cX8_isSound 13 = .ok (.getfield 50, 3) := by decide +kernel
theorem dX8_isSound_16 : decode cX8_isSound 16 = .ok (.bipush 12, 2) := by decide +kernel
theorem dX8_isSound_18 : decode cX8_isSound 18 = .ok (.if_icmp .le 5, 3) := by decide +kernel
theorem dX8_isSound_21 : decode cX8_isSound 21 = .ok (.iconst 0, 1) := by decide +kernel
theorem dX8_isSound_22 : decode cX8_isSound 22 = .ok (.ireturn, 1) := by decide +kernel
theorem dX8_isSound_23 : decode cX8_isSound 23 = .ok (.aload_n 0, 1) := by decide +kernel
theorem dX8_isSound_24 : decode cX8_isSound 24 = .ok (.getfield 53, 3) := by decide +kernel
theorem dX8_isSound_27 : decode cX8_isSound 27 = .ok (.bipush 114, 2) := by decide +kernel
theorem dX8_isSound_29 : decode cX8_isSound 29 = .ok (.if_icmp .ne 19, 3) := by decide +kernel
theorem dX8_isSound_32 : decode cX8_isSound 32 = .ok (.aload_n 0, 1) := by decide +kernel
theorem dX8_isSound_33 : decode cX8_isSound 33 = .ok (.getfield 40, 3) := by decide +kernel
theorem dX8_isSound_36 : decode cX8_isSound 36 = .ok (.aload_n 0, 1) := by decide +kernel
theorem dX8_isSound_37 : decode cX8_isSound 37 = .ok (.getfield 62, 3) := by decide +kernel
theorem dX8_isSound_40 : decode cX8_isSound 40 = .ok (.invokevirtual 477, 3) := by decide +kernel
theorem dX8_isSound_43 : decode cX8_isSound 43 = .ok (.ifCond .ne 5, 3) := by decide +kernel
theorem dX8_isSound_46 : decode cX8_isSound 46 = .ok (.iconst 0, 1) := by decide +kernel
theorem dX8_isSound_47 : decode cX8_isSound 47 = .ok (.ireturn, 1) := by decide +kernel
theorem dX8_isSound_48 : decode cX8_isSound 48 = .ok (.aload_n 0, 1) := by decide +kernel
theorem dX8_isSound_49 : decode cX8_isSound 49 = .ok (.invokevirtual 479, 3) := by decide +kernel
theorem dX8_isSound_52 : decode cX8_isSound 52 = .ok (.ifCond .eq 31, 3) := by decide +kernel
theorem dX8_isSound_55 : decode cX8_isSound 55 = .ok (.aload_n 0, 1) := by decide +kernel
theorem dX8_isSound_56 : decode cX8_isSound 56 = .ok (.getfield 40, 3) := by decide +kernel
theorem dX8_isSound_59 : decode cX8_isSound 59 = .ok (.invokevirtual 482, 3) := by decide +kernel
theorem dX8_isSound_62 : decode cX8_isSound 62 = .ok (.ifCond .eq 21, 3) := by decide +kernel
theorem dX8_isSound_65 : decode cX8_isSound 65 = .ok (.aload_n 0, 1) := by decide +kernel
theorem dX8_isSound_66 : decode cX8_isSound 66 = .ok (.invokevirtual 485, 3) := by decide +kernel
theorem dX8_isSound_69 : decode cX8_isSound 69 = .ok (.ifCond .eq 14, 3) := by decide +kernel
theorem dX8_isSound_72 : decode cX8_isSound 72 = .ok (.aload_n 0, 1) := by decide +kernel
theorem dX8_isSound_73 : decode cX8_isSound 73 = .ok (.invokevirtual 488, 3) := by decide +kernel
theorem dX8_isSound_76 : decode cX8_isSound 76 = .ok (.ifCond .eq 7, 3) := by decide +kernel
theorem dX8_isSound_79 : decode cX8_isSound 79 = .ok (.iconst 1, 1) := by decide +kernel
theorem dX8_isSound_80 : decode cX8_isSound 80 = .ok (.goto 4, 3) := by decide +kernel
theorem dX8_isSound_83 : decode cX8_isSound 83 = .ok (.iconst 0, 1) := by decide +kernel
theorem dX8_isSound_84 : decode cX8_isSound 84 = .ok (.ireturn, 1) := by decide +kernel
section SITES
variable {p : Program} {l : Launch} {e : Env} {R : Room} {s : State} {m : MethodId} {args : Array Value} {below : List Frame} {meth : Method} {c : Code} {H : Heap} {locs : List Loc} {cells slots : Nat} {Q : State → Prop}
variable {pc : Nat} {ls : Array Slot} {rest : List Value} {D : va_G} {ar : Nat → ClassId} {κ : Nat → Nat} {A : Nat → Prop} {a : Nat} {H0 : Heap} {G : gW} {nz nL : Nat} {cc : ByteArray}
theorem m_8_48 : (Cond.methodLink RX8 477 yX5_has) ∈ lwA := lwA_mk (ck_8 _ (List.mem_of_getElem? (i := 48) rfl)) rfl
theorem k_RX8_477 {args : Array Value} {s : State} {R rm : Room} (hts : ∀ w ∈ lwA, w.before args s = true) (hR : rm.frames + 1 ≤ R.frames ∧ 8 + (3 + 11) + rm.locals ≤ R.locals) : CallW R s args RX8 RX5 477 yX5_has cX5_has 3 (some .boolean) (lwC yX5_has cX5_has 3 (some .boolean)) rm rm.cells rm.slots 1 := cwV 1 hts (gdV m_8_48 m_8_49 m_8_50 m_1_4 m_8_51) rfl rfl rfl (by decide +kernel) hR
theorem m_8_73 : (Cond.code yX8_hasPlacesThere cX8_hasPlacesThere 3 (some .boolean)) ∈ lwA := lwA_mk (ck_8 _ (List.mem_of_getElem? (i := 73) rfl)) rfl
theorem m_8_70 : (Cond.methodLink RX8 499 yX8_hasPlacesThere) ∈ lwA := lwA_mk (ck_8 _ (List.mem_of_getElem? (i := 70) rfl)) rfl
theorem m_8_72 : (Cond.instanceMethod yX8_hasPlacesThere) ∈ lwA := lwA_mk (ck_8 _ (List.mem_of_getElem? (i := 72) rfl)) rfl
theorem ms_39 : (Cond.selects RX8 yX8_hasPlacesThere yX8_hasPlacesThere) ∈ lwA := lwA_mk (List.mem_append_left _ (List.mem_of_getElem? (i := 39) rfl)) rfl
theorem k_RX8_499 {args : Array Value} {s : State} {R rm : Room} (hts : ∀ w ∈ lwA, w.before args s = true) (hR : rm.frames + 1 ≤ R.frames ∧ 8 + (3 + 11) + rm.locals ≤ R.locals) : CallW R s args RX8 RX8 499 yX8_hasPlacesThere cX8_hasPlacesThere 3 (some .boolean) (lwC yX8_hasPlacesThere cX8_hasPlacesThere 3 (some .boolean)) rm rm.cells rm.slots 1 := cwV 1 hts (gdV m_8_70 m_8_72 ms_39 m_1_1 m_8_73) rfl rfl rfl (by decide +kernel) hR
theorem gf_RX8_327_7 {A9 : Nat → Prop} {H9 : Heap} {fs : List Value} {v : Value} (S : CallFix p m c cc nL s args lwA RX8) (hE : g_E D vwCl (gT ar) (EX1 κ) A9 s H9) (w : g_S D vwCl A H0 G H locs nz) (ha : G a = some (.inr (7, fs))) (hv : fs[6]? = some v) (hdg : decode cc pc = .ok (.getfield 327, 3)) (kk : W p l e R s m args below meth c H locs cells slots Q (F0 m (pc + 3) ls (v :: rest))) : W p l e R s m args below meth c H locs cells slots Q (F0 m pc ls (.ref a :: rest)) :=
  va_getN (ci := 7) (C := RX1) (T := TX1) (N := 7) S.1 S.2.1 S.2.2.2.2 inA_RX1 S.2.2.2.1 hE.1 (g_1 w.1 ha) 0 rfl rfl 6 (by decide) (va_Nw.use rfl (hE.2.1.1 _ (ckN_0 _ (List.mem_of_getElem? (i := 26) rfl)))) (fun _ h => h) hv hdg kk
theorem m_8_81 : (Cond.code yX1_depthAsTold cX1_depthAsTold 1 (some .int)) ∈ lwA := lwA_mk (ck_8 _ (List.mem_of_getElem? (i := 81) rfl)) rfl
theorem m_8_78 : (Cond.methodLink RX8 502 yX1_depthAsTold) ∈ lwA := lwA_mk (ck_8 _ (List.mem_of_getElem? (i := 78) rfl)) rfl
theorem m_8_79 : (Cond.instanceMethod yX1_depthAsTold) ∈ lwA := lwA_mk (ck_8 _ (List.mem_of_getElem? (i := 79) rfl)) rfl
theorem m_8_80 : (Cond.selects RX1 yX1_depthAsTold yX1_depthAsTold) ∈ lwA := lwA_mk (ck_8 _ (List.mem_of_getElem? (i := 80) rfl)) rfl
theorem k_RX8_502 {args : Array Value} {s : State} {R rm : Room} (hts : ∀ w ∈ lwA, w.before args s = true) (hR : rm.frames + 1 ≤ R.frames ∧ 8 + (1 + 11) + rm.locals ≤ R.locals) : CallW R s args RX8 RX1 502 yX1_depthAsTold cX1_depthAsTold 1 (some .int) (lwC yX1_depthAsTold cX1_depthAsTold 1 (some .int)) rm rm.cells rm.slots 0 := cwV 0 hts (gdV m_8_78 m_8_79 m_8_80 m_1_11 m_8_81) rfl rfl rfl (by decide +kernel) hR
theorem m_8_55 : (Cond.code yX8_hasGlobalsThere cX8_hasGlobalsThere 6 (some .boolean)) ∈ lwA := lwA_mk (ck_8 _ (List.mem_of_getElem? (i := 55) rfl)) rfl
theorem m_8_52 : (Cond.methodLink RX8 479 yX8_hasGlobalsThere) ∈ lwA := lwA_mk (ck_8 _ (List.mem_of_getElem? (i := 52) rfl)) rfl
theorem m_8_54 : (Cond.instanceMethod yX8_hasGlobalsThere) ∈ lwA := lwA_mk (ck_8 _ (List.mem_of_getElem? (i := 54) rfl)) rfl
theorem ms_36 : (Cond.selects RX8 yX8_hasGlobalsThere yX8_hasGlobalsThere) ∈ lwA := lwA_mk (List.mem_append_left _ (List.mem_of_getElem? (i := 36) rfl)) rfl
theorem k_RX8_479 {args : Array Value} {s : State} {R rm : Room} (hts : ∀ w ∈ lwA, w.before args s = true) (hR : rm.frames + 1 ≤ R.frames ∧ 8 + (6 + 11) + rm.locals ≤ R.locals) : CallW R s args RX8 RX8 479 yX8_hasGlobalsThere cX8_hasGlobalsThere 6 (some .boolean) (lwC yX8_hasGlobalsThere cX8_hasGlobalsThere 6 (some .boolean)) rm rm.cells rm.slots 0 := cwV 0 hts (gdV m_8_52 m_8_54 ms_36 m_1_1 m_8_55) rfl rfl rfl (by decide +kernel) hR
theorem m_8_59 : (Cond.code yX5_hasFieldsThere cX5_hasFieldsThere 3 (some .boolean)) ∈ lwA := lwA_mk (ck_8 _ (List.mem_of_getElem? (i := 59) rfl)) rfl
theorem m_8_56 : (Cond.methodLink RX8 482 yX5_hasFieldsThere) ∈ lwA := lwA_mk (ck_8 _ (List.mem_of_getElem? (i := 56) rfl)) rfl
theorem m_8_57 : (Cond.instanceMethod yX5_hasFieldsThere) ∈ lwA := lwA_mk (ck_8 _ (List.mem_of_getElem? (i := 57) rfl)) rfl
theorem m_8_58 : (Cond.selects RX5 yX5_hasFieldsThere yX5_hasFieldsThere) ∈ lwA := lwA_mk (ck_8 _ (List.mem_of_getElem? (i := 58) rfl)) rfl
theorem k_RX8_482 {args : Array Value} {s : State} {R rm : Room} (hts : ∀ w ∈ lwA, w.before args s = true) (hR : rm.frames + 1 ≤ R.frames ∧ 8 + (3 + 11) + rm.locals ≤ R.locals) : CallW R s args RX8 RX5 482 yX5_hasFieldsThere cX5_hasFieldsThere 3 (some .boolean) (lwC yX5_hasFieldsThere cX5_hasFieldsThere 3 (some .boolean)) rm rm.cells rm.slots 0 := cwV 0 hts (gdV m_8_56 m_8_57 m_8_58 m_1_4 m_8_59) rfl rfl rfl (by decide +kernel) hR
theorem m_8_69 : (Cond.code yX8_hasFramesThere cX8_hasFramesThere 3 (some .boolean)) ∈ lwA := lwA_mk (ck_8 _ (List.mem_of_getElem? (i := 69) rfl)) rfl
theorem m_8_66 : (Cond.methodLink RX8 485 yX8_hasFramesThere) ∈ lwA := lwA_mk (ck_8 _ (List.mem_of_getElem? (i := 66) rfl)) rfl
theorem m_8_68 : (Cond.instanceMethod yX8_hasFramesThere) ∈ lwA := lwA_mk (ck_8 _ (List.mem_of_getElem? (i := 68) rfl)) rfl
theorem ms_38 : (Cond.selects RX8 yX8_hasFramesThere yX8_hasFramesThere) ∈ lwA := lwA_mk (List.mem_append_left _ (List.mem_of_getElem? (i := 38) rfl)) rfl
theorem k_RX8_485 {args : Array Value} {s : State} {R rm : Room} (hts : ∀ w ∈ lwA, w.before args s = true) (hR : rm.frames + 1 ≤ R.frames ∧ 8 + (3 + 11) + rm.locals ≤ R.locals) : CallW R s args RX8 RX8 485 yX8_hasFramesThere cX8_hasFramesThere 3 (some .boolean) (lwC yX8_hasFramesThere cX8_hasFramesThere 3 (some .boolean)) rm rm.cells rm.slots 0 := cwV 0 hts (gdV m_8_66 m_8_68 ms_38 m_1_1 m_8_69) rfl rfl rfl (by decide +kernel) hR
theorem m_8_77 : (Cond.code yX8_hasDepthAsTold cX8_hasDepthAsTold 2 (some .boolean)) ∈ lwA := lwA_mk (ck_8 _ (List.mem_of_getElem? (i := 77) rfl)) rfl
theorem m_8_74 : (Cond.methodLink RX8 488 yX8_hasDepthAsTold) ∈ lwA := lwA_mk (ck_8 _ (List.mem_of_getElem? (i := 74) rfl)) rfl
theorem m_8_76 : (Cond.instanceMethod yX8_hasDepthAsTold) ∈ lwA := lwA_mk (ck_8 _ (List.mem_of_getElem? (i := 76) rfl)) rfl
theorem ms_40 : (Cond.selects RX8 yX8_hasDepthAsTold yX8_hasDepthAsTold) ∈ lwA := lwA_mk (List.mem_append_left _ (List.mem_of_getElem? (i := 40) rfl)) rfl
theorem k_RX8_488 {args : Array Value} {s : State} {R rm : Room} (hts : ∀ w ∈ lwA, w.before args s = true) (hR : rm.frames + 1 ≤ R.frames ∧ 8 + (2 + 11) + rm.locals ≤ R.locals) : CallW R s args RX8 RX8 488 yX8_hasDepthAsTold cX8_hasDepthAsTold 2 (some .boolean) (lwC yX8_hasDepthAsTold cX8_hasDepthAsTold 2 (some .boolean)) rm rm.cells rm.slots 0 := cwV 0 hts (gdV m_8_74 m_8_76 ms_40 m_1_1 m_8_77) rfl rfl rfl (by decide +kernel) hR
end SITES
def LX8_hasGlobalsThere_10 : Nat → Int32 → Ho → Int32
  | 0, _, Z => 0
  | nx1 + 1, x1, Z => if 8 ≤ x1 then (1) else (if sX5_has Z (Z.gl (Int32.toNatClampNeg x1)) = 0 then (0) else (LX8_hasGlobalsThere_10 nx1 (x1 + 1) Z))
theorem LX8_hasGlobalsThere_10_u (nx1 : Nat) (x1 : Int32) (Z : Ho) : LX8_hasGlobalsThere_10 (nx1 + 1) x1 Z = if 8 ≤ x1 then (1) else (if sX5_has Z (Z.gl (Int32.toNatClampNeg x1)) = 0 then (0) else (LX8_hasGlobalsThere_10 nx1 (x1 + 1) Z)) := rfl
def sX8_hasGlobalsThere (Z : Ho) : Int32 := LX8_hasGlobalsThere_10 9 0 Z
theorem sX8_hasGlobalsThere_u (Z : Ho) : sX8_hasGlobalsThere Z = LX8_hasGlobalsThere_10 9 0 Z := rfl
set_option maxHeartbeats 4000000 in
set_option maxRecDepth 100000 in
theorem hX8_hasGlobalsThere (l : Launch) (D : va_G) (ar : Nat → ClassId) (κ : Nat → Nat) (G : gW) (x : Xo) (Z : Ho) (sz : Nat) (hk : OK x Z) : Met l yX8_hasGlobalsThere (lwC yX8_hasGlobalsThere cX8_hasGlobalsThere 6 (some .boolean)) (rD 8 0 0) (g_Pc D vwCl (gT ar) (EX1 κ) (ov κ ar x Z G) sz [.ref (x.f .ho)]) (g_Qi D vwCl (g_A (ov κ ar x Z G) sz) (fun r u => r = sX8_hasGlobalsThere Z ∧ u = (ov κ ar x Z G, sz))) 0 0 (g_A (ov κ ar x Z G) sz) := by
  refine g_ofW (by decide +kernel) (Nat.le_of_ble_eq_true rfl) ?_
  intro p e s m below meth c ls S hr hlk hin hE w hl
  have hx := S.1
  have hb := S.2.1
  have hl : lv_has ls 6 [(0, .ref (x.f .ho))] := hl
  refine lv_aload_n hx hb dX8_hasGlobalsThere_0 rfl (lv_at hl 0 rfl) ?_
  refine gf_RX8_33_14 (v := .ref (x.f .gl)) S hE w (ov_r (t := .ho) (hk.e (.ho) rfl)) rfl dX8_hasGlobalsThere_1 ?_
  refine lv_astore_n (lv' := [(1, .ref (x.f .gl)), (0, .ref (x.f .ho))]) hx hb dX8_hasGlobalsThere_4 rfl hl (by decide) rfl (fun ls hl => ?_)
  refine lv_aload_n hx hb dX8_hasGlobalsThere_5 rfl (lv_at hl 0 rfl) ?_
  refine va_alen (v := 8) hx hb hE.1 (g_1 w.1 (ov_r (t := .gl) (hk.e (.gl) rfl))) 0 1 rfl rfl rfl dX8_hasGlobalsThere_6 ?_
  refine lv_istore_n (lv' := [(2, .int 8), (1, .ref (x.f .gl)), (0, .ref (x.f .ho))]) hx hb dX8_hasGlobalsThere_7 rfl hl (by decide) rfl (fun ls hl => ?_)
  refine lv_iconst (v := 0) hx hb dX8_hasGlobalsThere_8 (by decide) ?_
  refine lv_istore_n (lv' := [(3, .int 0), (2, .int 8), (1, .ref (x.f .gl)), (0, .ref (x.f .ho))]) hx hb dX8_hasGlobalsThere_9 rfl hl (by decide) rfl (fun ls hl => ?_)
  have key4 : ∀ (nx1 ix1 : Nat), ix1 ≤ 8 → 8 + 1 ≤ ix1 + nx1 → ∀ (x1 : Int32), x1 = nI ix1 → sX8_hasGlobalsThere Z = LX8_hasGlobalsThere_10 nx1 x1 Z → ∀ (H : Heap) (locs : List Loc) (ls : Array Slot), g_S D vwCl (g_A (ov κ ar x Z G) sz) s.heap (ov κ ar x Z G) H locs sz → lv_has ls 6 [(3, .int x1), (2, .int 8), (1, .ref (x.f .gl)), (0, .ref (x.f .ho))] → W p l e (rD 8 0 0) s m ([.ref (x.f .ho)] : List Value).toArray below meth c H locs 0 0 (MQ below (g_Qi D vwCl (g_A (ov κ ar x Z G) sz) (fun r u => r = sX8_hasGlobalsThere Z ∧ u = (ov κ ar x Z G, sz))) ([.ref (x.f .ho)] : List Value).toArray s 0 0 (g_A (ov κ ar x Z G) sz)) (F0 m 10 ls []) := by
    intro nx1
    induction nx1 with
    | zero => intro ix1 hix1 hi2; exact absurd hi2 (by omega)
    | succ nx1 ihx1 =>
      intro ix1 hix1 hi2 x1 exx1 hsp3 H locs ls w hl
      refine lv_iload_n hx hb dX8_hasGlobalsThere_10 rfl (lv_at hl 0 rfl) ?_
      refine lv_iload_n hx hb dX8_hasGlobalsThere_11 rfl (lv_at hl 1 rfl) ?_
      refine lv_icmp_ge (tgt := 40) hx hb dX8_hasGlobalsThere_12 (by decide) (fun c_12 => ?_) (fun c_12 => ?_)
      · refine lv_iconst (v := 1) hx hb dX8_hasGlobalsThere_40 (by decide) ?_
        exact g_zret hx hb hr hlk w (Nat.le_of_ble_eq_true rfl) (Nat.le_of_ble_eq_true rfl) dX8_hasGlobalsThere_41 rfl ⟨(((hsp3).trans ((LX8_hasGlobalsThere_10_u nx1 x1 Z).trans (if_pos c_12)))).symm, rfl⟩
      · refine lv_aload_n hx hb dX8_hasGlobalsThere_15 rfl (lv_at hl 2 rfl) ?_
        refine lv_iload_n hx hb dX8_hasGlobalsThere_16 rfl (lv_at hl 0 rfl) ?_
        refine va_lald hx hb hE.1 (g_1 w.1 (ov_r (t := .gl) (hk.e (.gl) rfl))) 0 1 rfl rfl (in_lt (n := 8) rfl exx1 hix1 (by decide) (by decide) c_12) dX8_hasGlobalsThere_17 ?_
        show W p l e _ s m _ below meth c _ _ _ _ _ (F0 m 18 ls [.long (Z.gl (Int32.toNatClampNeg x1))])
        refine lv_lstore (lv' := [(4, .long (Z.gl (Int32.toNatClampNeg x1))), (3, .int x1), (2, .int 8), (1, .ref (x.f .gl)), (0, .ref (x.f .ho))]) hx hb dX8_hasGlobalsThere_18 hl (by decide) rfl (fun ls hl => ?_)
        refine lv_aload_n hx hb dX8_hasGlobalsThere_20 rfl (lv_at hl 4 rfl) ?_
        refine gf_RX8_40_14 (v := .ref (x.f .ts)) S hE w (ov_r (t := .ho) (hk.e (.ho) rfl)) rfl dX8_hasGlobalsThere_21 ?_
        refine lv_lload hx hb dX8_hasGlobalsThere_24 (lv_at hl 0 rfl) ?_
        refine g_calli w (g_runV (As := [.long (Z.gl (Int32.toNatClampNeg x1))]) (rest := []) S hE w hl (hX5_has l D ar κ G x Z sz (Z.gl (Int32.toNatClampNeg x1)) hk ) (k_RX8_477 S.2.2.2.2 ⟨Nat.le_of_ble_eq_true rfl, Nat.le_of_ble_eq_true rfl⟩) (ov_r (t := .ts) (hk.e (.ts) rfl)) rfl rfl rfl rfl (Nat.le_of_ble_eq_true rfl) dX8_hasGlobalsThere_26 ⟨Nat.le_of_ble_eq_true rfl, Nat.le_of_ble_eq_true rfl⟩) (fun r u H locs hp hnz w => ?_)
        obtain ⟨rfl, rfl⟩ := hp
        dsimp only at w
        refine lv_if_ne (tgt := 34) hx hb dX8_hasGlobalsThere_29 (by decide) (fun c_29 => ?_) (fun c_29 => ?_)
        · refine lv_iinc (v := x1 + 1) (lv' := [(3, .int (x1 + 1)), (4, .long (Z.gl (Int32.toNatClampNeg x1))), (2, .int 8), (1, .ref (x.f .gl)), (0, .ref (x.f .ho))]) hx hb dX8_hasGlobalsThere_34 hl (k := 1) rfl rfl (by decide) rfl (fun ls hl => ?_)
          refine lv_goto (tgt := 10) hx hb dX8_hasGlobalsThere_37 (by decide) ?_
          exact ihx1 (ix1 + 1) (lp_up (n := 8) rfl exx1 hix1 (by decide) (by decide) (by decide) c_12) (by omega) (x1 + 1) (by rw [exx1]; exact nI_1 ix1) ((hsp3).trans ((LX8_hasGlobalsThere_10_u nx1 x1 Z).trans ((if_neg c_12).trans (if_neg c_29)))) H _ ls w (lv_sub hl [0, 2, 3, 4] rfl)
        · refine lv_iconst (v := 0) hx hb dX8_hasGlobalsThere_32 (by decide) ?_
          exact g_zret hx hb hr hlk w (Nat.le_of_ble_eq_true rfl) (Nat.le_of_ble_eq_true rfl) dX8_hasGlobalsThere_33 rfl ⟨(((hsp3).trans ((LX8_hasGlobalsThere_10_u nx1 x1 Z).trans ((if_neg c_12).trans (if_pos c_29))))).symm, rfl⟩
  exact key4 9 0 (Nat.zero_le _) (by decide) 0 rfl (sX8_hasGlobalsThere_u Z) _ _ _ w (lv_sub hl [0, 1, 2, 3] rfl)
noncomputable def LX8_hasPlacesThere_2 (i0 : Fin 12) : Nat → Int32 → Ho → Int32
  | 0, _, Z => 0
  | nx1 + 1, x1, Z => if sX1_places Z i0 ≤ x1 then (1) else (if sX5_has Z (sX1_place Z i0 x1) = 0 then (0) else (LX8_hasPlacesThere_2 i0 nx1 (x1 + 1) Z))
theorem LX8_hasPlacesThere_2_u (i0 : Fin 12) (nx1 : Nat) (x1 : Int32) (Z : Ho) : LX8_hasPlacesThere_2 i0 (nx1 + 1) x1 Z = if sX1_places Z i0 ≤ x1 then (1) else (if sX5_has Z (sX1_place Z i0 x1) = 0 then (0) else (LX8_hasPlacesThere_2 i0 nx1 (x1 + 1) Z)) := rfl
noncomputable def sX8_hasPlacesThere (Z : Ho) (i0 : Fin 12) : Int32 := LX8_hasPlacesThere_2 i0 FU 0 Z
theorem sX8_hasPlacesThere_u (Z : Ho) (i0 : Fin 12) : sX8_hasPlacesThere Z i0 = LX8_hasPlacesThere_2 i0 FU 0 Z := rfl
set_option maxHeartbeats 4000000 in
set_option maxRecDepth 100000 in
theorem hX8_hasPlacesThere (l : Launch) (D : va_G) (ar : Nat → ClassId) (κ : Nat → Nat) (G : gW) (x : Xo) (Z : Ho) (sz : Nat) (i0 : Fin 12) (hk : OK x Z) : Met l yX8_hasPlacesThere (lwC yX8_hasPlacesThere cX8_hasPlacesThere 3 (some .boolean)) (rD 8 0 0) (g_Pc D vwCl (gT ar) (EX1 κ) (ov κ ar x Z G) sz [.ref (x.f .ho), .ref (x.f (.fr i0))]) (g_Qi D vwCl (g_A (ov κ ar x Z G) sz) (fun r u => r = sX8_hasPlacesThere Z i0 ∧ u = (ov κ ar x Z G, sz))) 0 0 (g_A (ov κ ar x Z G) sz) := by
  refine g_ofW (by decide +kernel) (Nat.le_of_ble_eq_true rfl) ?_
  intro p e s m below meth c ls S hr hlk hin hE w hl
  have hx := S.1
  have hb := S.2.1
  have hl : lv_has ls 3 [(0, .ref (x.f .ho)), (1, .ref (x.f (.fr i0)))] := hl
  refine lv_iconst (v := 0) hx hb dX8_hasPlacesThere_0 (by decide) ?_
  refine lv_istore_n (lv' := [(2, .int 0), (0, .ref (x.f .ho)), (1, .ref (x.f (.fr i0)))]) hx hb dX8_hasPlacesThere_1 rfl hl (by decide) rfl (fun ls hl => ?_)
  have key4 : ∀ (nx1 ix1 : Nat), ix1 ≤ 2147483647 → 2147483647 + 1 ≤ ix1 + nx1 → ∀ (x1 : Int32), x1 = nI ix1 → sX8_hasPlacesThere Z i0 = LX8_hasPlacesThere_2 i0 nx1 x1 Z → ∀ (H : Heap) (locs : List Loc) (ls : Array Slot), g_S D vwCl (g_A (ov κ ar x Z G) sz) s.heap (ov κ ar x Z G) H locs sz → lv_has ls 3 [(2, .int x1), (0, .ref (x.f .ho)), (1, .ref (x.f (.fr i0)))] → W p l e (rD 8 0 0) s m ([.ref (x.f .ho), .ref (x.f (.fr i0))] : List Value).toArray below meth c H locs 0 0 (MQ below (g_Qi D vwCl (g_A (ov κ ar x Z G) sz) (fun r u => r = sX8_hasPlacesThere Z i0 ∧ u = (ov κ ar x Z G, sz))) ([.ref (x.f .ho), .ref (x.f (.fr i0))] : List Value).toArray s 0 0 (g_A (ov κ ar x Z G) sz)) (F0 m 2 ls []) := by
    intro nx1
    induction nx1 with
    | zero => intro ix1 hix1 hi2; exact absurd hi2 (by omega)
    | succ nx1 ihx1 =>
      intro ix1 hix1 hi2 x1 exx1 hsp3 H locs ls w hl
      refine lv_iload_n hx hb dX8_hasPlacesThere_2 rfl (lv_at hl 0 rfl) ?_
      refine lv_aload_n hx hb dX8_hasPlacesThere_3 rfl (lv_at hl 2 rfl) ?_
      refine g_calli w (g_runV (As := []) (rest := [.int x1]) S hE w hl (hX1_places l D ar κ G x Z sz i0 hk ) (k_RX8_275 S.2.2.2.2 ⟨Nat.le_of_ble_eq_true rfl, Nat.le_of_ble_eq_true rfl⟩) (ov_r (t := .fr i0) (hk.e (.fr i0) rfl)) rfl rfl rfl rfl (Nat.le_of_ble_eq_true rfl) dX8_hasPlacesThere_4 ⟨Nat.le_of_ble_eq_true rfl, Nat.le_of_ble_eq_true rfl⟩) (fun r u H locs hp hnz w => ?_)
      obtain ⟨rfl, rfl⟩ := hp
      dsimp only at w
      refine lv_icmp_ge (tgt := 33) hx hb dX8_hasPlacesThere_7 (by decide) (fun c_7 => ?_) (fun c_7 => ?_)
      · refine lv_iconst (v := 1) hx hb dX8_hasPlacesThere_33 (by decide) ?_
        exact g_zret hx hb hr hlk w (Nat.le_of_ble_eq_true rfl) (Nat.le_of_ble_eq_true rfl) dX8_hasPlacesThere_34 rfl ⟨(((hsp3).trans ((LX8_hasPlacesThere_2_u i0 nx1 x1 Z).trans (if_pos c_7)))).symm, rfl⟩
      · refine lv_aload_n hx hb dX8_hasPlacesThere_10 rfl (lv_at hl 1 rfl) ?_
        refine gf_RX8_40_14 (v := .ref (x.f .ts)) S hE w (ov_r (t := .ho) (hk.e (.ho) rfl)) rfl dX8_hasPlacesThere_11 ?_
        refine lv_aload_n hx hb dX8_hasPlacesThere_14 rfl (lv_at hl 2 rfl) ?_
        refine lv_iload_n hx hb dX8_hasPlacesThere_15 rfl (lv_at hl 0 rfl) ?_
        refine g_calll w (g_runV (As := [.int x1]) (rest := [.ref (x.f .ts)]) S hE w hl (hX1_place l D ar κ G x Z sz i0 x1 hk ) (k_RX8_277 S.2.2.2.2 ⟨Nat.le_of_ble_eq_true rfl, Nat.le_of_ble_eq_true rfl⟩) (ov_r (t := .fr i0) (hk.e (.fr i0) rfl)) rfl rfl rfl rfl (Nat.le_of_ble_eq_true rfl) dX8_hasPlacesThere_16 ⟨Nat.le_of_ble_eq_true rfl, Nat.le_of_ble_eq_true rfl⟩) (fun r u H locs hp hnz w => ?_)
        obtain ⟨rfl, rfl⟩ := hp
        dsimp only at w
        refine g_calli w (g_runV (As := [.long (sX1_place Z i0 x1)]) (rest := []) S hE w hl (hX5_has l D ar κ G x Z sz (sX1_place Z i0 x1) hk ) (k_RX8_477 S.2.2.2.2 ⟨Nat.le_of_ble_eq_true rfl, Nat.le_of_ble_eq_true rfl⟩) (ov_r (t := .ts) (hk.e (.ts) rfl)) rfl rfl rfl rfl (Nat.le_of_ble_eq_true rfl) dX8_hasPlacesThere_19 ⟨Nat.le_of_ble_eq_true rfl, Nat.le_of_ble_eq_true rfl⟩) (fun r u H locs hp hnz w => ?_)
        obtain ⟨rfl, rfl⟩ := hp
        dsimp only at w
        refine lv_if_ne (tgt := 27) hx hb dX8_hasPlacesThere_22 (by decide) (fun c_22 => ?_) (fun c_22 => ?_)
        · refine lv_iinc (v := x1 + 1) (lv' := [(2, .int (x1 + 1)), (0, .ref (x.f .ho)), (1, .ref (x.f (.fr i0)))]) hx hb dX8_hasPlacesThere_27 hl (k := 0) rfl rfl (by decide) rfl (fun ls hl => ?_)
          refine lv_goto (tgt := 2) hx hb dX8_hasPlacesThere_30 (by decide) ?_
          exact ihx1 (ix1 + 1) (lp_fu exx1 hix1 c_7) (by omega) (x1 + 1) (by rw [exx1]; exact nI_1 ix1) ((hsp3).trans ((LX8_hasPlacesThere_2_u i0 nx1 x1 Z).trans ((if_neg c_7).trans (if_neg c_22)))) H _ ls w (lv_sub hl [0, 1, 2] rfl)
        · refine lv_iconst (v := 0) hx hb dX8_hasPlacesThere_25 (by decide) ?_
          exact g_zret hx hb hr hlk w (Nat.le_of_ble_eq_true rfl) (Nat.le_of_ble_eq_true rfl) dX8_hasPlacesThere_26 rfl ⟨(((hsp3).trans ((LX8_hasPlacesThere_2_u i0 nx1 x1 Z).trans ((if_neg c_7).trans (if_pos c_22))))).symm, rfl⟩
  exact key4 FU 0 (Nat.zero_le _) (by rw [FU_e]; decide) 0 rfl (sX8_hasPlacesThere_u Z i0) _ _ _ w (lv_sub hl [0, 1, 2] rfl)
noncomputable def LX8_hasFramesThere_2 : Nat → Int32 → Ho → Int32
  | 0, _, Z => 0
  | nx1 + 1, x1, Z => if Z.fn ≤ x1 then (1) else (oc (sX8_frameAt Z x1) (0) (fun k5 => if sX8_hasPlacesThere Z k5 = 0 then (0) else (LX8_hasFramesThere_2 nx1 (x1 + 1) Z)))
theorem LX8_hasFramesThere_2_u (nx1 : Nat) (x1 : Int32) (Z : Ho) : LX8_hasFramesThere_2 (nx1 + 1) x1 Z = if Z.fn ≤ x1 then (1) else (oc (sX8_frameAt Z x1) (0) (fun k5 => if sX8_hasPlacesThere Z k5 = 0 then (0) else (LX8_hasFramesThere_2 nx1 (x1 + 1) Z))) := rfl
noncomputable def sX8_hasFramesThere (Z : Ho) : Int32 := LX8_hasFramesThere_2 FU 0 Z
theorem sX8_hasFramesThere_u (Z : Ho) : sX8_hasFramesThere Z = LX8_hasFramesThere_2 FU 0 Z := rfl
set_option maxHeartbeats 4000000 in
set_option maxRecDepth 100000 in
theorem hX8_hasFramesThere (l : Launch) (D : va_G) (ar : Nat → ClassId) (κ : Nat → Nat) (G : gW) (x : Xo) (Z : Ho) (sz : Nat) (hk : OK x Z) : Met l yX8_hasFramesThere (lwC yX8_hasFramesThere cX8_hasFramesThere 3 (some .boolean)) (rD 9 0 0) (g_Pc D vwCl (gT ar) (EX1 κ) (ov κ ar x Z G) sz [.ref (x.f .ho)]) (g_Qi D vwCl (g_A (ov κ ar x Z G) sz) (fun r u => r = sX8_hasFramesThere Z ∧ u = (ov κ ar x Z G, sz))) 0 0 (g_A (ov κ ar x Z G) sz) := by
  refine g_ofW (by decide +kernel) (Nat.le_of_ble_eq_true rfl) ?_
  intro p e s m below meth c ls S hr hlk hin hE w hl
  have hx := S.1
  have hb := S.2.1
  have hl : lv_has ls 3 [(0, .ref (x.f .ho))] := hl
  refine lv_iconst (v := 0) hx hb dX8_hasFramesThere_0 (by decide) ?_
  refine lv_istore_n (lv' := [(1, .int 0), (0, .ref (x.f .ho))]) hx hb dX8_hasFramesThere_1 rfl hl (by decide) rfl (fun ls hl => ?_)
  have key4 : ∀ (nx1 ix1 : Nat), ix1 ≤ 2147483647 → 2147483647 + 1 ≤ ix1 + nx1 → ∀ (x1 : Int32), x1 = nI ix1 → sX8_hasFramesThere Z = LX8_hasFramesThere_2 nx1 x1 Z → ∀ (H : Heap) (locs : List Loc) (ls : Array Slot), g_S D vwCl (g_A (ov κ ar x Z G) sz) s.heap (ov κ ar x Z G) H locs sz → lv_has ls 3 [(1, .int x1), (0, .ref (x.f .ho))] → W p l e (rD 9 0 0) s m ([.ref (x.f .ho)] : List Value).toArray below meth c H locs 0 0 (MQ below (g_Qi D vwCl (g_A (ov κ ar x Z G) sz) (fun r u => r = sX8_hasFramesThere Z ∧ u = (ov κ ar x Z G, sz))) ([.ref (x.f .ho)] : List Value).toArray s 0 0 (g_A (ov κ ar x Z G) sz)) (F0 m 2 ls []) := by
    intro nx1
    induction nx1 with
    | zero => intro ix1 hix1 hi2; exact absurd hi2 (by omega)
    | succ nx1 ihx1 =>
      intro ix1 hix1 hi2 x1 exx1 hsp3 H locs ls w hl
      refine lv_iload_n hx hb dX8_hasFramesThere_2 rfl (lv_at hl 0 rfl) ?_
      refine lv_aload_n hx hb dX8_hasFramesThere_3 rfl (lv_at hl 1 rfl) ?_
      refine gf_RX8_50_14 (v := .int Z.fn) S hE w (ov_r (t := .ho) (hk.e (.ho) rfl)) rfl dX8_hasFramesThere_4 ?_
      refine lv_icmp_ge (tgt := 36) hx hb dX8_hasFramesThere_7 (by decide) (fun c_7 => ?_) (fun c_7 => ?_)
      · refine lv_iconst (v := 1) hx hb dX8_hasFramesThere_36 (by decide) ?_
        exact g_zret hx hb hr hlk w (Nat.le_of_ble_eq_true rfl) (Nat.le_of_ble_eq_true rfl) dX8_hasFramesThere_37 rfl ⟨(((hsp3).trans ((LX8_hasFramesThere_2_u nx1 x1 Z).trans (if_pos c_7)))).symm, rfl⟩
      · refine lv_aload_n hx hb dX8_hasFramesThere_10 rfl (lv_at hl 1 rfl) ?_
        refine lv_iload_n hx hb dX8_hasFramesThere_11 rfl (lv_at hl 0 rfl) ?_
        refine g_callq w (g_runV (As := [.int x1]) (rest := []) S hE w hl (hX8_frameAt l D ar κ G x Z sz x1 hk ) (k_RX8_251 S.2.2.2.2 ⟨Nat.le_of_ble_eq_true rfl, Nat.le_of_ble_eq_true rfl⟩) (ov_r (t := .ho) (hk.e (.ho) rfl)) rfl rfl rfl rfl (Nat.le_of_ble_eq_true rfl) dX8_hasFramesThere_12 ⟨Nat.le_of_ble_eq_true rfl, Nat.le_of_ble_eq_true rfl⟩) (fun r u H locs hp hnz w => ?_)
        obtain ⟨rfl, rfl⟩ := hp
        dsimp only at w
        refine lv_astore_nQ (lv' := [(2, va_rf ((sX8_frameAt Z x1).map (fun k9 => x.f (.fr k9)))), (1, .int x1), (0, .ref (x.f .ho))]) hx hb dX8_hasFramesThere_15 rfl hl (by decide) rfl (fun ls hl => ?_)
        refine lv_aload_nQ hx hb dX8_hasFramesThere_16 rfl (lv_at hl 0 rfl) ?_
        rcases he6 : sX8_frameAt Z x1 with _ | k5
        · have hl : lv_has ls 3 [(2, .null), (1, .int x1), (0, .ref (x.f .ho))] := by rw [he6] at hl; exact hl
          show W p l e _ s m _ below meth c _ _ _ _ _ (F0 m 17 ls [.null])
          refine lv_ifnullN (tgt := 28) hx hb dX8_hasFramesThere_17 (by decide) ?_
          refine lv_iconst (v := 0) hx hb dX8_hasFramesThere_28 (by decide) ?_
          exact g_zret hx hb hr hlk w (Nat.le_of_ble_eq_true rfl) (Nat.le_of_ble_eq_true rfl) dX8_hasFramesThere_29 rfl ⟨(((hsp3).trans ((LX8_hasFramesThere_2_u nx1 x1 Z).trans ((if_neg c_7).trans (oc_n he6))))).symm, rfl⟩
        · have hl : lv_has ls 3 [(2, .ref (x.f (.fr k5))), (1, .int x1), (0, .ref (x.f .ho))] := by rw [he6] at hl; exact hl
          show W p l e _ s m _ below meth c _ _ _ _ _ (F0 m 17 ls [.ref (x.f (.fr k5))])
          refine lv_ifnull hx hb dX8_hasFramesThere_17 ?_
          refine lv_aload_n hx hb dX8_hasFramesThere_20 rfl (lv_at hl 2 rfl) ?_
          refine lv_aload_n hx hb dX8_hasFramesThere_21 rfl (lv_at hl 0 rfl) ?_
          refine g_calli w (g_runV (As := [.ref (x.f (.fr k5))]) (rest := []) S hE w hl (hX8_hasPlacesThere l D ar κ G x Z sz k5 hk ) (k_RX8_499 S.2.2.2.2 ⟨Nat.le_of_ble_eq_true rfl, Nat.le_of_ble_eq_true rfl⟩) (ov_r (t := .ho) (hk.e (.ho) rfl)) rfl rfl rfl rfl (Nat.le_of_ble_eq_true rfl) dX8_hasFramesThere_22 ⟨Nat.le_of_ble_eq_true rfl, Nat.le_of_ble_eq_true rfl⟩) (fun r u H locs hp hnz w => ?_)
          obtain ⟨rfl, rfl⟩ := hp
          dsimp only at w
          refine lv_if_ne (tgt := 30) hx hb dX8_hasFramesThere_25 (by decide) (fun c_25 => ?_) (fun c_25 => ?_)
          · refine lv_iinc (v := x1 + 1) (lv' := [(1, .int (x1 + 1)), (2, .ref (x.f (.fr k5))), (0, .ref (x.f .ho))]) hx hb dX8_hasFramesThere_30 hl (k := 1) rfl rfl (by decide) rfl (fun ls hl => ?_)
            refine lv_goto (tgt := 2) hx hb dX8_hasFramesThere_33 (by decide) ?_
            exact ihx1 (ix1 + 1) (lp_fu exx1 hix1 c_7) (by omega) (x1 + 1) (by rw [exx1]; exact nI_1 ix1) ((hsp3).trans ((LX8_hasFramesThere_2_u nx1 x1 Z).trans ((if_neg c_7).trans ((oc_s he6).trans (if_neg c_25))))) H _ ls w (lv_sub hl [0, 2] rfl)
          · refine lv_iconst (v := 0) hx hb dX8_hasFramesThere_28 (by decide) ?_
            exact g_zret hx hb hr hlk w (Nat.le_of_ble_eq_true rfl) (Nat.le_of_ble_eq_true rfl) dX8_hasFramesThere_29 rfl ⟨(((hsp3).trans ((LX8_hasFramesThere_2_u nx1 x1 Z).trans ((if_neg c_7).trans ((oc_s he6).trans (if_pos c_25)))))).symm, rfl⟩
  exact key4 FU 0 (Nat.zero_le _) (by rw [FU_e]; decide) 0 rfl (sX8_hasFramesThere_u Z) _ _ _ w (lv_sub hl [0, 1] rfl)
def sX8_hasDepthAsTold (Z : Ho) : Int32 := if Z.fn = 0 then (1) else (oc (sX8_frameAt Z (Z.fn - 1)) (0) (fun k1 => if (Z.fr k1).d = sX1_depthAsTold Z k1 then (1) else (0)))
theorem sX8_hasDepthAsTold_u (Z : Ho) : sX8_hasDepthAsTold Z = if Z.fn = 0 then (1) else (oc (sX8_frameAt Z (Z.fn - 1)) (0) (fun k1 => if (Z.fr k1).d = sX1_depthAsTold Z k1 then (1) else (0))) := rfl
set_option maxHeartbeats 4000000 in
set_option maxRecDepth 100000 in
theorem hX8_hasDepthAsTold (l : Launch) (D : va_G) (ar : Nat → ClassId) (κ : Nat → Nat) (G : gW) (x : Xo) (Z : Ho) (sz : Nat) (hk : OK x Z) : Met l yX8_hasDepthAsTold (lwC yX8_hasDepthAsTold cX8_hasDepthAsTold 2 (some .boolean)) (rD 8 0 0) (g_Pc D vwCl (gT ar) (EX1 κ) (ov κ ar x Z G) sz [.ref (x.f .ho)]) (g_Qi D vwCl (g_A (ov κ ar x Z G) sz) (fun r u => r = sX8_hasDepthAsTold Z ∧ u = (ov κ ar x Z G, sz))) 0 0 (g_A (ov κ ar x Z G) sz) := by
  refine g_ofW (by decide +kernel) (Nat.le_of_ble_eq_true rfl) ?_
  intro p e s m below meth c ls S hr hlk hin hE w hl
  have hx := S.1
  have hb := S.2.1
  have hl : lv_has ls 2 [(0, .ref (x.f .ho))] := hl
  refine lv_aload_n hx hb dX8_hasDepthAsTold_0 rfl (lv_at hl 0 rfl) ?_
  refine gf_RX8_50_14 (v := .int Z.fn) S hE w (ov_r (t := .ho) (hk.e (.ho) rfl)) rfl dX8_hasDepthAsTold_1 ?_
  refine lv_if_ne (tgt := 9) hx hb dX8_hasDepthAsTold_4 (by decide) (fun c_4 => ?_) (fun c_4 => ?_)
  · refine lv_aload_n hx hb dX8_hasDepthAsTold_9 rfl (lv_at hl 0 rfl) ?_
    refine lv_aload_n hx hb dX8_hasDepthAsTold_10 rfl (lv_at hl 0 rfl) ?_
    refine gf_RX8_50_14 (v := .int Z.fn) S hE w (ov_r (t := .ho) (hk.e (.ho) rfl)) rfl dX8_hasDepthAsTold_11 ?_
    refine lv_iconst (v := 1) hx hb dX8_hasDepthAsTold_14 (by decide) ?_
    refine lv_isub hx hb dX8_hasDepthAsTold_15 ?_
    refine g_callq w (g_runV (As := [.int (Z.fn - 1)]) (rest := []) S hE w hl (hX8_frameAt l D ar κ G x Z sz (Z.fn - 1) hk ) (k_RX8_251 S.2.2.2.2 ⟨Nat.le_of_ble_eq_true rfl, Nat.le_of_ble_eq_true rfl⟩) (ov_r (t := .ho) (hk.e (.ho) rfl)) rfl rfl rfl rfl (Nat.le_of_ble_eq_true rfl) dX8_hasDepthAsTold_16 ⟨Nat.le_of_ble_eq_true rfl, Nat.le_of_ble_eq_true rfl⟩) (fun r u H locs hp hnz w => ?_)
    obtain ⟨rfl, rfl⟩ := hp
    dsimp only at w
    refine lv_astore_nQ (lv' := [(1, va_rf ((sX8_frameAt Z (Z.fn - 1)).map (fun k9 => x.f (.fr k9)))), (0, .ref (x.f .ho))]) hx hb dX8_hasDepthAsTold_19 rfl hl (by decide) rfl (fun ls hl => ?_)
    refine lv_aload_nQ hx hb dX8_hasDepthAsTold_20 rfl (lv_at hl 0 rfl) ?_
    rcases he2 : sX8_frameAt Z (Z.fn - 1) with _ | k1
    · have hl : lv_has ls 2 [(1, .null), (0, .ref (x.f .ho))] := by rw [he2] at hl; exact hl
      show W p l e _ s m _ below meth c _ _ _ _ _ (F0 m 21 ls [.null])
      refine lv_ifnullN (tgt := 39) hx hb dX8_hasDepthAsTold_21 (by decide) ?_
      refine lv_iconst (v := 0) hx hb dX8_hasDepthAsTold_39 (by decide) ?_
      exact g_zret hx hb hr hlk w (Nat.le_of_ble_eq_true rfl) (Nat.le_of_ble_eq_true rfl) dX8_hasDepthAsTold_40 rfl ⟨(((sX8_hasDepthAsTold_u Z).trans ((if_neg c_4).trans (oc_n he2)))).symm, rfl⟩
    · have hl : lv_has ls 2 [(1, .ref (x.f (.fr k1))), (0, .ref (x.f .ho))] := by rw [he2] at hl; exact hl
      show W p l e _ s m _ below meth c _ _ _ _ _ (F0 m 21 ls [.ref (x.f (.fr k1))])
      refine lv_ifnull hx hb dX8_hasDepthAsTold_21 ?_
      refine lv_aload_n hx hb dX8_hasDepthAsTold_24 rfl (lv_at hl 0 rfl) ?_
      refine gf_RX8_327_7 (v := .int ((Z.fr k1).d)) S hE w (ov_r (t := .fr k1) (hk.e (.fr k1) rfl)) rfl dX8_hasDepthAsTold_25 ?_
      refine lv_aload_n hx hb dX8_hasDepthAsTold_28 rfl (lv_at hl 0 rfl) ?_
      refine g_calli w (g_runV (As := []) (rest := [.int ((Z.fr k1).d)]) S hE w hl (hX1_depthAsTold l D ar κ G x Z sz k1 hk ) (k_RX8_502 S.2.2.2.2 ⟨Nat.le_of_ble_eq_true rfl, Nat.le_of_ble_eq_true rfl⟩) (ov_r (t := .fr k1) (hk.e (.fr k1) rfl)) rfl rfl rfl rfl (Nat.le_of_ble_eq_true rfl) dX8_hasDepthAsTold_29 ⟨Nat.le_of_ble_eq_true rfl, Nat.le_of_ble_eq_true rfl⟩) (fun r u H locs hp hnz w => ?_)
      obtain ⟨rfl, rfl⟩ := hp
      dsimp only at w
      refine lv_icmp_ne (tgt := 39) hx hb dX8_hasDepthAsTold_32 (by decide) (fun c_32 => ?_) (fun c_32 => ?_)
      · refine lv_iconst (v := 0) hx hb dX8_hasDepthAsTold_39 (by decide) ?_
        exact g_zret hx hb hr hlk w (Nat.le_of_ble_eq_true rfl) (Nat.le_of_ble_eq_true rfl) dX8_hasDepthAsTold_40 rfl ⟨(((sX8_hasDepthAsTold_u Z).trans ((if_neg c_4).trans ((oc_s he2).trans (if_neg c_32))))).symm, rfl⟩
      · refine lv_iconst (v := 1) hx hb dX8_hasDepthAsTold_35 (by decide) ?_
        refine lv_goto (tgt := 40) hx hb dX8_hasDepthAsTold_36 (by decide) ?_
        exact g_zret hx hb hr hlk w (Nat.le_of_ble_eq_true rfl) (Nat.le_of_ble_eq_true rfl) dX8_hasDepthAsTold_40 rfl ⟨(((sX8_hasDepthAsTold_u Z).trans ((if_neg c_4).trans ((oc_s he2).trans (if_pos c_32))))).symm, rfl⟩
  · refine lv_iconst (v := 1) hx hb dX8_hasDepthAsTold_7 (by decide) ?_
    exact g_zret hx hb hr hlk w (Nat.le_of_ble_eq_true rfl) (Nat.le_of_ble_eq_true rfl) dX8_hasDepthAsTold_8 rfl ⟨(((sX8_hasDepthAsTold_u Z).trans (if_pos c_4))).symm, rfl⟩
noncomputable def sX8_isSound (Z : Ho) : Int32 := if 60 < Z.tc then (0) else (if Z.fn ≤ 12 then (if Z.st = 114 then (if sX5_has Z Z.an = 0 then (0) else (if sX8_hasGlobalsThere Z = 0 then (0) else (if sX5_hasFieldsThere Z = 0 then (0) else (if sX8_hasFramesThere Z = 0 then (0) else (if sX8_hasDepthAsTold Z = 0 then (0) else (1)))))) else (if sX8_hasGlobalsThere Z = 0 then (0) else (if sX5_hasFieldsThere Z = 0 then (0) else (if sX8_hasFramesThere Z = 0 then (0) else (if sX8_hasDepthAsTold Z = 0 then (0) else (1)))))) else (0))
theorem sX8_isSound_u (Z : Ho) : sX8_isSound Z = if 60 < Z.tc then (0) else (if Z.fn ≤ 12 then (if Z.st = 114 then (if sX5_has Z Z.an = 0 then (0) else (if sX8_hasGlobalsThere Z = 0 then (0) else (if sX5_hasFieldsThere Z = 0 then (0) else (if sX8_hasFramesThere Z = 0 then (0) else (if sX8_hasDepthAsTold Z = 0 then (0) else (1)))))) else (if sX8_hasGlobalsThere Z = 0 then (0) else (if sX5_hasFieldsThere Z = 0 then (0) else (if sX8_hasFramesThere Z = 0 then (0) else (if sX8_hasDepthAsTold Z = 0 then (0) else (1)))))) else (0)) := rfl
set_option maxHeartbeats 4000000 in
set_option maxRecDepth 100000 in
theorem hX8_isSound (l : Launch) (D : va_G) (ar : Nat → ClassId) (κ : Nat → Nat) (G : gW) (x : Xo) (Z : Ho) (sz : Nat) (hk : OK x Z) : Met l yX8_isSound (lwC yX8_isSound cX8_isSound 1 (some .boolean)) (rD 10 0 0) (g_Pc D vwCl (gT ar) (EX1 κ) (ov κ ar x Z G) sz [.ref (x.f .ho)]) (g_Qi D vwCl (g_A (ov κ ar x Z G) sz) (fun r u => r = sX8_isSound Z ∧ u = (ov κ ar x Z G, sz))) 0 0 (g_A (ov κ ar x Z G) sz) := by
  refine g_ofW (by decide +kernel) (Nat.le_of_ble_eq_true rfl) ?_
  intro p e s m below meth c ls S hr hlk hin hE w hl
  have hx := S.1
  have hb := S.2.1
  have hl : lv_has ls 1 [(0, .ref (x.f .ho))] := hl
  refine lv_aload_n hx hb dX8_isSound_0 rfl (lv_at hl 0 rfl) ?_
  refine gf_RX8_40_14 (v := .ref (x.f .ts)) S hE w (ov_r (t := .ho) (hk.e (.ho) rfl)) rfl dX8_isSound_1 ?_
  refine gf_RX8_207_11 (v := .int Z.tc) S hE w (ov_r (t := .ts) (hk.e (.ts) rfl)) rfl dX8_isSound_4 ?_
  refine lv_bipush (v := 60) hx hb dX8_isSound_7 (by decide) ?_
  refine lv_icmp_gt (tgt := 21) hx hb dX8_isSound_9 (by decide) (fun c_9 => ?_) (fun c_9 => ?_)
  · refine lv_iconst (v := 0) hx hb dX8_isSound_21 (by decide) ?_
    exact g_zret hx hb hr hlk w (Nat.le_of_ble_eq_true rfl) (Nat.le_of_ble_eq_true rfl) dX8_isSound_22 rfl ⟨(((sX8_isSound_u Z).trans (if_pos c_9))).symm, rfl⟩
  · refine lv_aload_n hx hb dX8_isSound_12 rfl (lv_at hl 0 rfl) ?_
    refine gf_RX8_50_14 (v := .int Z.fn) S hE w (ov_r (t := .ho) (hk.e (.ho) rfl)) rfl dX8_isSound_13 ?_
    refine lv_bipush (v := 12) hx hb dX8_isSound_16 (by decide) ?_
    refine lv_icmp_le (tgt := 23) hx hb dX8_isSound_18 (by decide) (fun c_18 => ?_) (fun c_18 => ?_)
    · refine lv_aload_n hx hb dX8_isSound_23 rfl (lv_at hl 0 rfl) ?_
      refine gf_RX8_53_14 (v := .int Z.st) S hE w (ov_r (t := .ho) (hk.e (.ho) rfl)) rfl dX8_isSound_24 ?_
      refine lv_bipush (v := 114) hx hb dX8_isSound_27 (by decide) ?_
      refine lv_icmp_ne (tgt := 48) hx hb dX8_isSound_29 (by decide) (fun c_29 => ?_) (fun c_29 => ?_)
      · refine lv_aload_n hx hb dX8_isSound_48 rfl (lv_at hl 0 rfl) ?_
        refine g_calli w (g_runV (As := []) (rest := []) S hE w hl (hX8_hasGlobalsThere l D ar κ G x Z sz  hk ) (k_RX8_479 S.2.2.2.2 ⟨Nat.le_of_ble_eq_true rfl, Nat.le_of_ble_eq_true rfl⟩) (ov_r (t := .ho) (hk.e (.ho) rfl)) rfl rfl rfl rfl (Nat.le_of_ble_eq_true rfl) dX8_isSound_49 ⟨Nat.le_of_ble_eq_true rfl, Nat.le_of_ble_eq_true rfl⟩) (fun r u H locs hp hnz w => ?_)
        obtain ⟨rfl, rfl⟩ := hp
        dsimp only at w
        refine lv_if_eq (tgt := 83) hx hb dX8_isSound_52 (by decide) (fun c_52 => ?_) (fun c_52 => ?_)
        · refine lv_iconst (v := 0) hx hb dX8_isSound_83 (by decide) ?_
          exact g_zret hx hb hr hlk w (Nat.le_of_ble_eq_true rfl) (Nat.le_of_ble_eq_true rfl) dX8_isSound_84 rfl ⟨(((sX8_isSound_u Z).trans ((if_neg c_9).trans ((if_pos c_18).trans ((if_neg c_29).trans (if_pos c_52)))))).symm, rfl⟩
        · refine lv_aload_n hx hb dX8_isSound_55 rfl (lv_at hl 0 rfl) ?_
          refine gf_RX8_40_14 (v := .ref (x.f .ts)) S hE w (ov_r (t := .ho) (hk.e (.ho) rfl)) rfl dX8_isSound_56 ?_
          refine g_calli w (g_runV (As := []) (rest := []) S hE w hl (hX5_hasFieldsThere l D ar κ G x Z sz  hk ) (k_RX8_482 S.2.2.2.2 ⟨Nat.le_of_ble_eq_true rfl, Nat.le_of_ble_eq_true rfl⟩) (ov_r (t := .ts) (hk.e (.ts) rfl)) rfl rfl rfl rfl (Nat.le_of_ble_eq_true rfl) dX8_isSound_59 ⟨Nat.le_of_ble_eq_true rfl, Nat.le_of_ble_eq_true rfl⟩) (fun r u H locs hp hnz w => ?_)
          obtain ⟨rfl, rfl⟩ := hp
          dsimp only at w
          refine lv_if_eq (tgt := 83) hx hb dX8_isSound_62 (by decide) (fun c_62 => ?_) (fun c_62 => ?_)
          · refine lv_iconst (v := 0) hx hb dX8_isSound_83 (by decide) ?_
            exact g_zret hx hb hr hlk w (Nat.le_of_ble_eq_true rfl) (Nat.le_of_ble_eq_true rfl) dX8_isSound_84 rfl ⟨(((sX8_isSound_u Z).trans ((if_neg c_9).trans ((if_pos c_18).trans ((if_neg c_29).trans ((if_neg c_52).trans (if_pos c_62))))))).symm, rfl⟩
          · refine lv_aload_n hx hb dX8_isSound_65 rfl (lv_at hl 0 rfl) ?_
            refine g_calli w (g_runV (As := []) (rest := []) S hE w hl (hX8_hasFramesThere l D ar κ G x Z sz  hk ) (k_RX8_485 S.2.2.2.2 ⟨Nat.le_of_ble_eq_true rfl, Nat.le_of_ble_eq_true rfl⟩) (ov_r (t := .ho) (hk.e (.ho) rfl)) rfl rfl rfl rfl (Nat.le_of_ble_eq_true rfl) dX8_isSound_66 ⟨Nat.le_of_ble_eq_true rfl, Nat.le_of_ble_eq_true rfl⟩) (fun r u H locs hp hnz w => ?_)
            obtain ⟨rfl, rfl⟩ := hp
            dsimp only at w
            refine lv_if_eq (tgt := 83) hx hb dX8_isSound_69 (by decide) (fun c_69 => ?_) (fun c_69 => ?_)
            · refine lv_iconst (v := 0) hx hb dX8_isSound_83 (by decide) ?_
              exact g_zret hx hb hr hlk w (Nat.le_of_ble_eq_true rfl) (Nat.le_of_ble_eq_true rfl) dX8_isSound_84 rfl ⟨(((sX8_isSound_u Z).trans ((if_neg c_9).trans ((if_pos c_18).trans ((if_neg c_29).trans ((if_neg c_52).trans ((if_neg c_62).trans (if_pos c_69)))))))).symm, rfl⟩
            · refine lv_aload_n hx hb dX8_isSound_72 rfl (lv_at hl 0 rfl) ?_
              refine g_calli w (g_runV (As := []) (rest := []) S hE w hl (hX8_hasDepthAsTold l D ar κ G x Z sz  hk ) (k_RX8_488 S.2.2.2.2 ⟨Nat.le_of_ble_eq_true rfl, Nat.le_of_ble_eq_true rfl⟩) (ov_r (t := .ho) (hk.e (.ho) rfl)) rfl rfl rfl rfl (Nat.le_of_ble_eq_true rfl) dX8_isSound_73 ⟨Nat.le_of_ble_eq_true rfl, Nat.le_of_ble_eq_true rfl⟩) (fun r u H locs hp hnz w => ?_)
              obtain ⟨rfl, rfl⟩ := hp
              dsimp only at w
              refine lv_if_eq (tgt := 83) hx hb dX8_isSound_76 (by decide) (fun c_76 => ?_) (fun c_76 => ?_)
              · refine lv_iconst (v := 0) hx hb dX8_isSound_83 (by decide) ?_
                exact g_zret hx hb hr hlk w (Nat.le_of_ble_eq_true rfl) (Nat.le_of_ble_eq_true rfl) dX8_isSound_84 rfl ⟨(((sX8_isSound_u Z).trans ((if_neg c_9).trans ((if_pos c_18).trans ((if_neg c_29).trans ((if_neg c_52).trans ((if_neg c_62).trans ((if_neg c_69).trans (if_pos c_76))))))))).symm, rfl⟩
              · refine lv_iconst (v := 1) hx hb dX8_isSound_79 (by decide) ?_
                refine lv_goto (tgt := 84) hx hb dX8_isSound_80 (by decide) ?_
                exact g_zret hx hb hr hlk w (Nat.le_of_ble_eq_true rfl) (Nat.le_of_ble_eq_true rfl) dX8_isSound_84 rfl ⟨(((sX8_isSound_u Z).trans ((if_neg c_9).trans ((if_pos c_18).trans ((if_neg c_29).trans ((if_neg c_52).trans ((if_neg c_62).trans ((if_neg c_69).trans (if_neg c_76))))))))).symm, rfl⟩
      · refine lv_aload_n hx hb dX8_isSound_32 rfl (lv_at hl 0 rfl) ?_
        refine gf_RX8_40_14 (v := .ref (x.f .ts)) S hE w (ov_r (t := .ho) (hk.e (.ho) rfl)) rfl dX8_isSound_33 ?_
        refine lv_aload_n hx hb dX8_isSound_36 rfl (lv_at hl 0 rfl) ?_
        refine gf_RX8_62_14 (v := .long Z.an) S hE w (ov_r (t := .ho) (hk.e (.ho) rfl)) rfl dX8_isSound_37 ?_
        refine g_calli w (g_runV (As := [.long Z.an]) (rest := []) S hE w hl (hX5_has l D ar κ G x Z sz Z.an hk ) (k_RX8_477 S.2.2.2.2 ⟨Nat.le_of_ble_eq_true rfl, Nat.le_of_ble_eq_true rfl⟩) (ov_r (t := .ts) (hk.e (.ts) rfl)) rfl rfl rfl rfl (Nat.le_of_ble_eq_true rfl) dX8_isSound_40 ⟨Nat.le_of_ble_eq_true rfl, Nat.le_of_ble_eq_true rfl⟩) (fun r u H locs hp hnz w => ?_)
        obtain ⟨rfl, rfl⟩ := hp
        dsimp only at w
        refine lv_if_ne (tgt := 48) hx hb dX8_isSound_43 (by decide) (fun c_43 => ?_) (fun c_43 => ?_)
        · refine lv_aload_n hx hb dX8_isSound_48 rfl (lv_at hl 0 rfl) ?_
          refine g_calli w (g_runV (As := []) (rest := []) S hE w hl (hX8_hasGlobalsThere l D ar κ G x Z sz  hk ) (k_RX8_479 S.2.2.2.2 ⟨Nat.le_of_ble_eq_true rfl, Nat.le_of_ble_eq_true rfl⟩) (ov_r (t := .ho) (hk.e (.ho) rfl)) rfl rfl rfl rfl (Nat.le_of_ble_eq_true rfl) dX8_isSound_49 ⟨Nat.le_of_ble_eq_true rfl, Nat.le_of_ble_eq_true rfl⟩) (fun r u H locs hp hnz w => ?_)
          obtain ⟨rfl, rfl⟩ := hp
          dsimp only at w
          refine lv_if_eq (tgt := 83) hx hb dX8_isSound_52 (by decide) (fun c_52_1 => ?_) (fun c_52_1 => ?_)
          · refine lv_iconst (v := 0) hx hb dX8_isSound_83 (by decide) ?_
            exact g_zret hx hb hr hlk w (Nat.le_of_ble_eq_true rfl) (Nat.le_of_ble_eq_true rfl) dX8_isSound_84 rfl ⟨(((sX8_isSound_u Z).trans ((if_neg c_9).trans ((if_pos c_18).trans ((if_pos c_29).trans ((if_neg c_43).trans (if_pos c_52_1))))))).symm, rfl⟩
          · refine lv_aload_n hx hb dX8_isSound_55 rfl (lv_at hl 0 rfl) ?_
            refine gf_RX8_40_14 (v := .ref (x.f .ts)) S hE w (ov_r (t := .ho) (hk.e (.ho) rfl)) rfl dX8_isSound_56 ?_
            refine g_calli w (g_runV (As := []) (rest := []) S hE w hl (hX5_hasFieldsThere l D ar κ G x Z sz  hk ) (k_RX8_482 S.2.2.2.2 ⟨Nat.le_of_ble_eq_true rfl, Nat.le_of_ble_eq_true rfl⟩) (ov_r (t := .ts) (hk.e (.ts) rfl)) rfl rfl rfl rfl (Nat.le_of_ble_eq_true rfl) dX8_isSound_59 ⟨Nat.le_of_ble_eq_true rfl, Nat.le_of_ble_eq_true rfl⟩) (fun r u H locs hp hnz w => ?_)
            obtain ⟨rfl, rfl⟩ := hp
            dsimp only at w
            refine lv_if_eq (tgt := 83) hx hb dX8_isSound_62 (by decide) (fun c_62_1 => ?_) (fun c_62_1 => ?_)
            · refine lv_iconst (v := 0) hx hb dX8_isSound_83 (by decide) ?_
              exact g_zret hx hb hr hlk w (Nat.le_of_ble_eq_true rfl) (Nat.le_of_ble_eq_true rfl) dX8_isSound_84 rfl ⟨(((sX8_isSound_u Z).trans ((if_neg c_9).trans ((if_pos c_18).trans ((if_pos c_29).trans ((if_neg c_43).trans ((if_neg c_52_1).trans (if_pos c_62_1)))))))).symm, rfl⟩
            · refine lv_aload_n hx hb dX8_isSound_65 rfl (lv_at hl 0 rfl) ?_
              refine g_calli w (g_runV (As := []) (rest := []) S hE w hl (hX8_hasFramesThere l D ar κ G x Z sz  hk ) (k_RX8_485 S.2.2.2.2 ⟨Nat.le_of_ble_eq_true rfl, Nat.le_of_ble_eq_true rfl⟩) (ov_r (t := .ho) (hk.e (.ho) rfl)) rfl rfl rfl rfl (Nat.le_of_ble_eq_true rfl) dX8_isSound_66 ⟨Nat.le_of_ble_eq_true rfl, Nat.le_of_ble_eq_true rfl⟩) (fun r u H locs hp hnz w => ?_)
              obtain ⟨rfl, rfl⟩ := hp
              dsimp only at w
              refine lv_if_eq (tgt := 83) hx hb dX8_isSound_69 (by decide) (fun c_69_1 => ?_) (fun c_69_1 => ?_)
              · refine lv_iconst (v := 0) hx hb dX8_isSound_83 (by decide) ?_
                exact g_zret hx hb hr hlk w (Nat.le_of_ble_eq_true rfl) (Nat.le_of_ble_eq_true rfl) dX8_isSound_84 rfl ⟨(((sX8_isSound_u Z).trans ((if_neg c_9).trans ((if_pos c_18).trans ((if_pos c_29).trans ((if_neg c_43).trans ((if_neg c_52_1).trans ((if_neg c_62_1).trans (if_pos c_69_1))))))))).symm, rfl⟩
              · refine lv_aload_n hx hb dX8_isSound_72 rfl (lv_at hl 0 rfl) ?_
                refine g_calli w (g_runV (As := []) (rest := []) S hE w hl (hX8_hasDepthAsTold l D ar κ G x Z sz  hk ) (k_RX8_488 S.2.2.2.2 ⟨Nat.le_of_ble_eq_true rfl, Nat.le_of_ble_eq_true rfl⟩) (ov_r (t := .ho) (hk.e (.ho) rfl)) rfl rfl rfl rfl (Nat.le_of_ble_eq_true rfl) dX8_isSound_73 ⟨Nat.le_of_ble_eq_true rfl, Nat.le_of_ble_eq_true rfl⟩) (fun r u H locs hp hnz w => ?_)
                obtain ⟨rfl, rfl⟩ := hp
                dsimp only at w
                refine lv_if_eq (tgt := 83) hx hb dX8_isSound_76 (by decide) (fun c_76_1 => ?_) (fun c_76_1 => ?_)
                · refine lv_iconst (v := 0) hx hb dX8_isSound_83 (by decide) ?_
                  exact g_zret hx hb hr hlk w (Nat.le_of_ble_eq_true rfl) (Nat.le_of_ble_eq_true rfl) dX8_isSound_84 rfl ⟨(((sX8_isSound_u Z).trans ((if_neg c_9).trans ((if_pos c_18).trans ((if_pos c_29).trans ((if_neg c_43).trans ((if_neg c_52_1).trans ((if_neg c_62_1).trans ((if_neg c_69_1).trans (if_pos c_76_1)))))))))).symm, rfl⟩
                · refine lv_iconst (v := 1) hx hb dX8_isSound_79 (by decide) ?_
                  refine lv_goto (tgt := 84) hx hb dX8_isSound_80 (by decide) ?_
                  exact g_zret hx hb hr hlk w (Nat.le_of_ble_eq_true rfl) (Nat.le_of_ble_eq_true rfl) dX8_isSound_84 rfl ⟨(((sX8_isSound_u Z).trans ((if_neg c_9).trans ((if_pos c_18).trans ((if_pos c_29).trans ((if_neg c_43).trans ((if_neg c_52_1).trans ((if_neg c_62_1).trans ((if_neg c_69_1).trans (if_neg c_76_1)))))))))).symm, rfl⟩
        · refine lv_iconst (v := 0) hx hb dX8_isSound_46 (by decide) ?_
          exact g_zret hx hb hr hlk w (Nat.le_of_ble_eq_true rfl) (Nat.le_of_ble_eq_true rfl) dX8_isSound_47 rfl ⟨(((sX8_isSound_u Z).trans ((if_neg c_9).trans ((if_pos c_18).trans ((if_pos c_29).trans (if_pos c_43)))))).symm, rfl⟩
    · refine lv_iconst (v := 0) hx hb dX8_isSound_21 (by decide) ?_
      exact g_zret hx hb hr hlk w (Nat.le_of_ble_eq_true rfl) (Nat.le_of_ble_eq_true rfl) dX8_isSound_22 rfl ⟨(((sX8_isSound_u Z).trans ((if_neg c_9).trans (if_neg c_18)))).symm, rfl⟩
