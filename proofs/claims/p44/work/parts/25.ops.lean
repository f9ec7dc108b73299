theorem dX8_add_0 : decode cX8_add 0 = .ok (.aload_n 0, 1) := by decide +kernel
theorem dX8_add_1 : decode cX8_add 1 = .ok (.getfield 10, 3) := by decide +kernel
theorem dX8_add_4 : decode cX8_add 4 = .ok (.iload_n 1, 1) := by decide +kernel
theorem dX8_add_5 : decode cX8_add 5 = .ok (.invokevirtual 83, 3) := by decide +kernel
theorem dX8_add_8 : decode cX8_add 8 = .ok (.ifCond .ne 13, 3) := by decide +kernel
theorem dX8_add_11 : decode cX8_add 11 = .ok (.new 87, 3) := by decide +kernel
theorem dX8_add_14 : decode cX8_add 14 = .ok (.dup, 1) := by decide +kernel
theorem dX8_add_15 : decode cX8_add 15 = .ok (.ldc 89, 2) := by decide +kernel
theorem dX8_add_17 : decode cX8_add 17 = .ok (.invokespecial 91, 3) := by decide +kernel
theorem dX8_add_20 : decode cX8_add 20 = .ok (.athrow, 1) := by decide +kernel
theorem dX8_add_21 : decode cX8_add 21 = .ok (.iload_n 1, 1) := by decide +kernel
theorem dX8_add_22 : decode cX8_add 22 = .ok (.invokestatic 94, 3) := by decide +kernel
theorem dX8_add_25 : decode cX8_add 25 = .ok (.ifCond .ne 26, 3) := by decide +kernel
theorem dX8_add_28 : decode cX8_add 28 = .ok (.iload_n 2, 1) := by decide +kernel
theorem dX8_add_29 : decode cX8_add 29 = .ok (.iconst 5, 1) := by decide +kernel
theorem dX8_add_30 : decode cX8_add 30 = .ok (.invokestatic 97, 3) := by decide +kernel
theorem dX8_add_33 : decode cX8_add 33 = .ok (.ifCond .eq 18, 3) := by decide +kernel
theorem dX8_add_36 : decode cX8_add 36 = .ok (.aload_n 0, 1) := by decide +kernel
theorem dX8_add_37 : decode cX8_add 37 = .ok (.getfield 10, 3) := by decide +kernel
theorem dX8_add_40 : decode cX8_add 40 = .ok (.iload_n 1, 1) := by decide +kernel
theorem dX8_add_41 : decode cX8_add 41 = .ok (.invokevirtual 101, 3) := by decide +kernel
theorem dX8_add_44 : decode cX8_add 44 = .ok (.iload_n 2, 1) := by decide +kernel
theorem dX8_add_45 : decode cX8_add 45 = .ok (.iadd, 1) := by decide +kernel
theorem dX8_add_46 : decode cX8_add 46 = .ok (.bipush 8, 2) := by decide +kernel
theorem dX8_add_48 : decode cX8_add 48 = .ok (.if_icmp .le 13, 3) := by decide +kernel
theorem dX8_add_51 : decode cX8_add 51 = .ok (.new 105, 3) := by decide +kernel
theorem dX8_add_54 : decode cX8_add 54 = .ok (.dup, 1) := by decide +kernel
theorem dX8_add_55 : decode cX8_add 55 = .ok (.ldc 107, 2) := by decide +kernel
theorem dX8_add_57 : decode cX8_add 57 = .ok (.invokespecial 109, 3) := by decide +kernel
theorem dX8_add_60 : decode cX8_add 60 = .ok (.athrow, 1) := by decide +kernel
theorem dX8_add_61 : decode cX8_add 61 = .ok (.aload_n 0, 1) := by decide +kernel
theorem dX8_add_62 : decode cX8_add 62 = .ok (.getfield 10, 3) := by decide +kernel
theorem dX8_add_65 : decode cX8_add 65 = .ok (.getfield 110, 3) := by decide +kernel
theorem dX8_add_68 : decode cX8_add 68 = .ok (.bipush 12, 2) := by decide +kernel
theorem dX8_add_70 : decode cX8_add 70 = .ok (.if_icmp .lt 13, 3) := by decide +kernel
theorem dX8_add_73 : decode cX8_add 73 = .ok (.new 113, 3) := by decide +kernel
theorem dX8_add_76 : decode cX8_add 76 = .ok (.dup, 1) := by decide +kernel
theorem dX8_add_77 : decode cX8_add 77 = .ok (.ldc 115, 2) := by decide +kernel
theorem dX8_add_79 : decode cX8_add 79 = .ok (.invokespecial 117, 3) := by decide +kernel
theorem dX8_add_82 : decode cX8_add 82 = .ok (.athrow, 1) := by decide +kernel
theorem dX8_add_83 : decode cX8_add 83 = .ok (.aload_n 0, 1) := by decide +kernel
theorem dX8_add_84 : decode cX8_add 84 = .ok (.getfield 10, 3) := by decide +kernel
theorem dX8_add_87 : decode cX8_add 87 = .ok (.iload_n 1, 1) := by decide +kernel
theorem dX8_add_88 : decode cX8_add 88 = .ok (.iload_n 2, 1) := by decide +kernel
theorem dX8_add_89 : decode cX8_add 89 = .ok (.invokevirtual 118, 3) := by decide +kernel
theorem dX8_add_92 : decode cX8_add 92 = .ok (.ireturn, 1) := by decide +kernel
theorem dX8_row_0 : decode cX8_row 0 = .ok (.iload_n 1, 1) := by decide +kernel
theorem dX8_row_1 : decode cX8_row 1 = .ok (.invokestatic 122, 3) := by decide +kernel
theorem dX8_row_4 : decode cX8_row 4 = .ok (.ifCond .ne 13, 3) := by decide +kernel
theorem dX8_row_7 : decode cX8_row 7 = .ok (.new 105, 3) := by decide +kernel
theorem dX8_row_10 : decode cX8_row 10 = .ok (.dup, 1) := by decide +kernel
theorem dX8_row_11 : decode cX8_row 11 = .ok (.ldc 126, 2) := by decide +kernel
theorem dX8_row_13 : decode cX8_row 13 = .ok (.invokespecial 109, 3) := by decide +kernel
theorem dX8_row_16 : decode cX8_row 16 = .ok (.athrow, 1) := by decide +kernel
theorem dX8_row_17 : decode cX8_row 17 = .ok (.aload_n 0, 1) := by decide +kernel
theorem dX8_row_18 : decode cX8_row 18 = .ok (.getfield 25, 3) := by decide +kernel
theorem dX8_row_21 : decode cX8_row 21 = .ok (.getfield 128, 3) := by decide +kernel
theorem dX8_row_24 : decode cX8_row 24 = .ok (.bipush 24, 2) := by decide +kernel
theorem dX8_row_26 : decode cX8_row 26 = .ok (.if_icmp .lt 13, 3) := by decide +kernel
theorem dX8_row_29 : decode cX8_row 29 = .ok (.new 113, 3) := by decide +kernel
theorem dX8_row_32 : decode cX8_row 32 = .ok (.dup, 1) := by decide +kernel
theorem dX8_row_33 : decode cX8_row 33 = .ok (.ldc 129, 2) := by decide +kernel
theorem dX8_row_35 : decode cX8_row 35 = .ok (.invokespecial 117, 3) := by decide +kernel
theorem dX8_row_38 : decode cX8_row 38 = .ok (.athrow, 1) := by decide +kernel
theorem dX8_row_39 : decode cX8_row 39 = .ok (.aload_n 0, 1) := by decide +kernel
theorem dX8_row_40 : decode cX8_row 40 = .ok (.getfield 25, 3) := by decide +kernel
theorem dX8_row_43 : decode cX8_row 43 = .ok (.iload_n 1, 1) := by decide +kernel
theorem dX8_row_44 : decode cX8_row 44 = .ok (.iload_n 2, 1) := by decide +kernel
theorem dX8_row_45 : decode cX8_row 45 = .ok (.iload_n 3, 1) := by decide +kernel
theorem dX8_row_46 : decode cX8_row 46 = .ok (.invokevirtual 131, 3) := by decide +kernel
theorem dX8_row_49 : decode cX8_row 49 = .ok (.aload_n 0, 1) := by decide +kernel
theorem dX8_row_50 : decode cX8_row 50 = .ok (.getfield 25, 3) := by decide +kernel
theorem dX8_row_53 : decode cX8_row 53 = .ok (.getfield 128, 3) := by decide +kernel
theorem dX8_row_56 : decode cX8_row 56 = .ok (.ireturn, 1) := by decide +kernel
theorem dX8_wipe_0 : decode cX8_wipe 0 = .ok (.aload_n 0, 1) := by decide +kernel
theorem dX8_wipe_1 : decode cX8_wipe 1 = .ok (.getfield 25, 3) := by decide +kernel
theorem dX8_wipe_4 : decode cX8_wipe 4 = .ok (.getfield 128, 3) := by decide +kernel
theorem dX8_wipe_7 : decode cX8_wipe 7 = .ok (.istore_n 1, 1) := by decide +kernel
theorem dX8_wipe_8 : decode cX8_wipe 8 = .ok (.aload_n 0, 1) := by decide +kernel
theorem dX8_wipe_9 : decode cX8_wipe 9 = .ok (.getfield 25, 3) := by decide +kernel
theorem dX8_wipe_12 : decode cX8_wipe 12 = .ok (.iconst 0, 1) := by decide +kernel
theorem dX8_wipe_13 : decode cX8_wipe 13 = .ok (.putfield 128, 3) := by decide +kernel
theorem dX8_wipe_16 : decode cX8_wipe 16 = .ok (.iload_n 1, 1) := by decide +kernel
theorem dX8_wipe_17 : decode cX8_wipe 17 = .ok (.ireturn, 1) := by decide +kernel
theorem dX8_checkPlaceOfMethod_0 : decode cX8_checkPlaceOfMethod 0 = .ok (.aload_n 0, 1) := by decide +kernel
theorem dX8_checkPlaceOfMethod_1 : decode cX8_checkPlaceOfMethod 1 = .ok (.getfield 10, 3) := by decide +kernel
theorem dX8_checkPlaceOfMethod_4 : decode cX8_checkPlaceOfMethod 4 = .ok (.iload_n 1, 1) := by decide +kernel
theorem dX8_checkPlaceOfMethod_5 : decode cX8_checkPlaceOfMethod 5 = .ok (.invokevirtual 83, 3) := by decide +kernel
theorem dX8_checkPlaceOfMethod_8 : decode cX8_checkPlaceOfMethod 8 = .ok (.ifCond .eq 12, 3) := by decide +kernel
theorem dX8_checkPlaceOfMethod_11 : decode cX8_checkPlaceOfMethod 11 = .ok (.iload_n 2, 1) := by decide +kernel
theorem dX8_checkPlaceOfMethod_12 : decode cX8_checkPlaceOfMethod 12 = .ok (.bipush 16, 2) := by decide +kernel
theorem dX8_checkPlaceOfMethod_14 : decode cX8_checkPlaceOfMethod 14 = .ok (.invokestatic 97, 3) := by decide +kernel
theorem dX8_checkPlaceOfMethod_17 : decode cX8_checkPlaceOfMethod 17 = .ok (.ifCond .ne 13, 3) := by decide +kernel
theorem dX8_checkPlaceOfMethod_20 : decode cX8_checkPlaceOfMethod 20 = .ok (.new 87, 3) := by decide +kernel
theorem dX8_checkPlaceOfMethod_23 : decode cX8_checkPlaceOfMethod 23 = .ok (.dup, 1) := by decide +kernel
theorem dX8_checkPlaceOfMethod_24 : decode cX8_checkPlaceOfMethod 24 = .ok (.ldc 177, 2) := by decide +kernel
theorem dX8_checkPlaceOfMethod_26 : decode cX8_checkPlaceOfMethod 26 = .ok (.invokespecial 91, 3) := by decide +kernel
theorem dX8_checkPlaceOfMethod_29 : decode cX8_checkPlaceOfMethod 29 = .ok (.athrow, 1) := by decide +kernel
theorem dX8_checkPlaceOfMethod_30 : decode cX8_checkPlaceOfMethod 30 = .ok (.return_, 1) := by decide +kernel
theorem dX8_checkedMethod_0 : decode cX8_checkedMethod 0 = .ok (.aload_n 0, 1) := by decide +kernel
theorem dX8_checkedMethod_1 : decode cX8_checkedMethod 1 = .ok (.iload_n 1, 1) := by decide +kernel
theorem dX8_checkedMethod_2 : decode cX8_checkedMethod 2 = .ok (.iload_n 2, 1) := by decide +kernel
theorem dX8_checkedMethod_3 : decode cX8_checkedMethod 3 = .ok (.invokevirtual 134, 3) := by decide +kernel
theorem dX8_checkedMethod_6 : decode cX8_checkedMethod 6 = .ok (.aload_n 0, 1) := by decide +kernel
theorem dX8_checkedMethod_7 : decode cX8_checkedMethod 7 = .ok (.iload_n 1, 1) := by decide +kernel
theorem dX8_checkedMethod_8 : decode cX8_checkedMethod 8 = .ok (.iload_n 2, 1) := by decide +kernel
theorem dX8_checkedMethod_9 : decode cX8_checkedMethod 9 = .ok (.invokevirtual 179, 3) := by decide +kernel
theorem dX8_checkedMethod_12 : decode cX8_checkedMethod 12 = .ok (.astore_n 3, 1) := by decide +kernel
theorem dX8_checkedMethod_13 : decode cX8_checkedMethod 13 = .ok (.aload_n 3, 1) := by decide +kernel
theorem dX8_checkedMethod_14 : decode cX8_checkedMethod 14 = .ok (.ifnonnull 13, 3) := by decide +kernel
theorem dX8_checkedMethod_17 : decode cX8_checkedMethod 17 = .ok (.new 169, 3) := by decide +kernel
theorem dX8_checkedMethod_20 : decode cX8_checkedMethod 20 = .ok (.dup, 1) := by decide +kernel
theorem dX8_checkedMethod_21 : decode cX8_checkedMethod 21 = .ok (.ldc 182, 2) := by decide +kernel
theorem dX8_checkedMethod_23 : decode cX8_checkedMethod 23 = .ok (.invokespecial 173, 3) := by decide +kernel
theorem dX8_checkedMethod_26 : decode cX8_checkedMethod 26 = .ok (.athrow, 1) := by decide +kernel
theorem dX8_checkedMethod_27 : decode cX8_checkedMethod 27 = .ok (.aload_n 3, 1) := by decide +kernel
theorem dX8_checkedMethod_28 : decode cX8_checkedMethod 28 = .ok (.areturn, 1) := by decide +kernel
theorem dX8_remove_0 : decode cX8_remove 0 = .ok (.aload_n 0, 1) := by decide +kernel
theorem dX8_remove_1 : decode cX8_remove 1 = .ok (.iload_n 1, 1) := by decide +kernel
theorem dX8_remove_2 : decode cX8_remove 2 = .ok (.iload_n 2, 1) := by decide +kernel
theorem dX8_remove_3 : decode cX8_remove 3 = .ok (.invokevirtual 159, 3) := by decide +kernel
theorem dX8_remove_6 : decode cX8_remove 6 = .ok (.astore_n 3, 1) := by decide +kernel
theorem dX8_remove_7 : decode cX8_remove 7 = .ok (.aload_n 0, 1) := by decide +kernel
theorem dX8_remove_8 : decode cX8_remove 8 = .ok (.iload_n 1, 1) := by decide +kernel
theorem dX8_remove_9 : decode cX8_remove 9 = .ok (.iload_n 2, 1) := by decide +kernel
theorem dX8_remove_10 : decode cX8_remove 10 = .ok (.aconst_null, 1) := by decide +kernel
theorem dX8_remove_11 : decode cX8_remove 11 = .ok (.invokevirtual 152, 3) := by decide +kernel
theorem dX8_remove_14 : decode cX8_remove 14 = .ok (.aload_n 3, 1) := by decide +kernel
theorem dX8_remove_15 : decode cX8_remove 15 = .ok (.getfield 163, 3) := by decide +kernel
theorem dX8_remove_18 : decode cX8_remove 18 = .ok (.ireturn, 1) := by decide +kernel
section SITES
variable {p : Program} {l : Launch} {e : Env} {R : Room} {s : State} {m : MethodId} {args : Array Value} {below : List Frame} {meth : Method} {c : Code} {H : Heap} {locs : List Loc} {cells slots : Nat} {Q : State → Prop}
variable {pc : Nat} {ls : Array Slot} {rest : List Value} {D : va_G} {ar : Nat → ClassId} {κ : Nat → Nat} {A : Nat → Prop} {a : Nat} {H0 : Heap} {G : gW} {nz nL : Nat} {cc : ByteArray}
theorem gf_RX8_110_6 {A9 : Nat → Prop} {H9 : Heap} {fs : List Value} {v : Value} (S : CallFix p m c cc nL s args lwA RX8) (hE : g_E D vwCl (gT ar) (EX1 κ) A9 s H9) (w : g_S D vwCl A H0 G H locs nz) (ha : G a = some (.inr (6, fs))) (hv : fs[2]? = some v) (hdg : decode cc pc = .ok (.getfield 110, 3)) (kk : W p l e R s m args below meth c H locs cells slots Q (F0 m (pc + 3) ls (v :: rest))) : W p l e R s m args below meth c H locs cells slots Q (F0 m pc ls (.ref a :: rest)) :=
  va_getN (ci := 6) (C := RX0) (T := TX0) (N := 3) S.1 S.2.1 S.2.2.2.2 inA_RX0 S.2.2.2.1 hE.1 (g_1 w.1 ha) 0 rfl rfl 2 (by decide) (va_Nw.use rfl (hE.2.1.1 _ (ckN_0 _ (List.mem_of_getElem? (i := 0) rfl)))) (fun _ h => h) hv hdg kk
theorem m_7_94 : (Cond.code yX0_enlist cX0_enlist 3 (some .int)) ∈ lwA := lwA_mk (ck_7 _ (List.mem_of_getElem? (i := 94) rfl)) rfl
theorem m_7_91 : (Cond.methodLink RX8 118 yX0_enlist) ∈ lwA := lwA_mk (ck_7 _ (List.mem_of_getElem? (i := 91) rfl)) rfl
theorem m_7_92 : (Cond.instanceMethod yX0_enlist) ∈ lwA := lwA_mk (ck_7 _ (List.mem_of_getElem? (i := 92) rfl)) rfl
theorem m_7_93 : (Cond.selects RX0 yX0_enlist yX0_enlist) ∈ lwA := lwA_mk (ck_7 _ (List.mem_of_getElem? (i := 93) rfl)) rfl
theorem k_RX8_118 {args : Array Value} {s : State} {R rm : Room} (hts : ∀ w ∈ lwA, w.before args s = true) (hR : rm.frames + 1 ≤ R.frames ∧ 8 + (3 + 11) + rm.locals ≤ R.locals) : CallW R s args RX8 RX0 118 yX0_enlist cX0_enlist 3 (some .int) (lwC yX0_enlist cX0_enlist 3 (some .int)) rm rm.cells rm.slots 2 := cwV 2 hts (gdV m_7_91 m_7_92 m_7_93 m_1_2 m_7_94) rfl rfl rfl (by decide +kernel) hR
theorem m_6_193 : (Cond.code yX8_isLetter cX8_isLetter 1 (some .boolean)) ∈ lwA := lwA_mk (ck_6 _ (List.mem_of_getElem? (i := 193) rfl)) rfl
theorem m_6_191 : (Cond.methodLink RX8 122 yX8_isLetter) ∈ lwA := lwA_mk (ck_6 _ (List.mem_of_getElem? (i := 191) rfl)) rfl
theorem m_6_192 : (Cond.static yX8_isLetter) ∈ lwA := lwA_mk (ck_6 _ (List.mem_of_getElem? (i := 192) rfl)) rfl
theorem k_RX8_122 {args : Array Value} {s : State} {R rm : Room} (hts : ∀ w ∈ lwA, w.before args s = true) (hR : rm.frames + 1 ≤ R.frames ∧ 8 + (1 + 11) + rm.locals ≤ R.locals) : CallB R s args RX8 122 yX8_isLetter cX8_isLetter 1 (some .boolean) (lwC yX8_isLetter cX8_isLetter 1 (some .boolean)) rm rm.cells rm.slots 1 ∧ (Cond.static yX8_isLetter).before args s = true := cwS 1 hts (gdS m_6_191 m_6_192 m_1_1 m_6_193) rfl rfl rfl (by decide +kernel) hR
theorem gf_RX8_25_14 {A9 : Nat → Prop} {H9 : Heap} {fs : List Value} {v : Value} (S : CallFix p m c cc nL s args lwA RX8) (hE : g_E D vwCl (gT ar) (EX1 κ) A9 s H9) (w : g_S D vwCl A H0 G H locs nz) (ha : G a = some (.inr (14, fs))) (hv : fs[2]? = some v) (hdg : decode cc pc = .ok (.getfield 25, 3)) (kk : W p l e R s m args below meth c H locs cells slots Q (F0 m (pc + 3) ls (v :: rest))) : W p l e R s m args below meth c H locs cells slots Q (F0 m pc ls (.ref a :: rest)) :=
  va_get (ci := 14) (C := RX8) (T := TX8) (N := 13) S.1 S.2.1 S.2.2.2.2 inA_RX8 S.2.2.2.1 hE.1 (g_1 w.1 ha) 0 rfl rfl 2 (by decide) (S.2.2.2.2 _ m_2_7) (fun _ h => h) hv hdg kk
theorem gf_RX8_128_9 {A9 : Nat → Prop} {H9 : Heap} {fs : List Value} {v : Value} (S : CallFix p m c cc nL s args lwA RX8) (hE : g_E D vwCl (gT ar) (EX1 κ) A9 s H9) (w : g_S D vwCl A H0 G H locs nz) (ha : G a = some (.inr (9, fs))) (hv : fs[5]? = some v) (hdg : decode cc pc = .ok (.getfield 128, 3)) (kk : W p l e R s m args below meth c H locs cells slots Q (F0 m (pc + 3) ls (v :: rest))) : W p l e R s m args below meth c H locs cells slots Q (F0 m pc ls (.ref a :: rest)) :=
  va_getN (ci := 9) (C := RX3) (T := TX3) (N := 7) S.1 S.2.1 S.2.2.2.2 inA_RX3 S.2.2.2.1 hE.1 (g_1 w.1 ha) 0 rfl rfl 5 (by decide) (va_Nw.use rfl (hE.2.1.1 _ (ckN_0 _ (List.mem_of_getElem? (i := 3) rfl)))) (fun _ h => h) hv hdg kk
theorem m_6_199 : (Cond.code yX3_enlist cX3_enlist 4 none) ∈ lwA := lwA_mk (ck_6 _ (List.mem_of_getElem? (i := 199) rfl)) rfl
theorem m_6_196 : (Cond.methodLink RX8 131 yX3_enlist) ∈ lwA := lwA_mk (ck_6 _ (List.mem_of_getElem? (i := 196) rfl)) rfl
theorem m_6_197 : (Cond.instanceMethod yX3_enlist) ∈ lwA := lwA_mk (ck_6 _ (List.mem_of_getElem? (i := 197) rfl)) rfl
theorem m_6_198 : (Cond.selects RX3 yX3_enlist yX3_enlist) ∈ lwA := lwA_mk (ck_6 _ (List.mem_of_getElem? (i := 198) rfl)) rfl
theorem k_RX8_131 {args : Array Value} {s : State} {R rm : Room} (hts : ∀ w ∈ lwA, w.before args s = true) (hR : rm.frames + 1 ≤ R.frames ∧ 8 + (4 + 11) + rm.locals ≤ R.locals) : CallW R s args RX8 RX3 131 yX3_enlist cX3_enlist 4 none (lwC yX3_enlist cX3_enlist 4 none) rm rm.cells rm.slots 3 := cwV 3 hts (gdV m_6_196 m_6_197 m_6_198 m_1_3 m_6_199) rfl rfl rfl (by decide +kernel) hR
theorem pf_RX8_128_9 {A9 : Nat → Prop} {H9 : Heap} {fs : List Value} {v : Value} (S : CallFix p m c cc nL s args lwA RX8) (hE : g_E D vwCl (gT ar) (EX1 κ) A9 s H9) (w : g_S D vwCl A H0 G H locs nz) (ha : G a = some (.inr (9, fs))) (hn : narrow .int v = v) (hfit : fits .int v = true) (hl : 5 < fs.length) {fs1 : List Value} (hfs : fs.set 5 v = fs1) (hdg : decode cc pc = .ok (.putfield 128, 3)) (kk : ∀ (H1 : Heap) (locs1 : List Loc), g_S D vwCl A H0 (g_up G a (.inr (9, fs1))) H1 locs1 nz → W p l e R s m args below meth c H1 locs1 cells slots Q (F0 m (pc + 3) ls rest)) : W p l e R s m args below meth c H locs cells slots Q (F0 m pc ls (v :: .ref a :: rest)) :=
  g_putN (ci := 9) (ty := .int) (C := RX3) (T := TX3) (N := 7) S.1 S.2.1 S.2.2.2.2 inA_RX3 tyX3 tyX3_ok nmX3 S.2.2.2.1 hE.1 w ha rfl 5 (by decide) (va_Nw.use rfl (hE.2.1.1 _ (ckN_0 _ (List.mem_of_getElem? (i := 3) rfl)))) (fun _ h => h) rfl (by decide +kernel) hn hfit hl hdg (fun H1 l1 w1 => kk H1 l1 (by rw [← hfs]; exact w1))
theorem m_2_150 : (Cond.code yX8_checkPlaceOfMethod cX8_checkPlaceOfMethod 3 none) ∈ lwA := lwA_mk (ck_2 _ (List.mem_of_getElem? (i := 150) rfl)) rfl
theorem m_2_147 : (Cond.methodLink RX8 134 yX8_checkPlaceOfMethod) ∈ lwA := lwA_mk (ck_2 _ (List.mem_of_getElem? (i := 147) rfl)) rfl
theorem m_2_149 : (Cond.instanceMethod yX8_checkPlaceOfMethod) ∈ lwA := lwA_mk (ck_2 _ (List.mem_of_getElem? (i := 149) rfl)) rfl
theorem ms_2 : (Cond.selects RX8 yX8_checkPlaceOfMethod yX8_checkPlaceOfMethod) ∈ lwA := lwA_mk (List.mem_append_left _ (List.mem_of_getElem? (i := 2) rfl)) rfl
theorem k_RX8_134 {args : Array Value} {s : State} {R rm : Room} (hts : ∀ w ∈ lwA, w.before args s = true) (hR : rm.frames + 1 ≤ R.frames ∧ 8 + (3 + 11) + rm.locals ≤ R.locals) : CallW R s args RX8 RX8 134 yX8_checkPlaceOfMethod cX8_checkPlaceOfMethod 3 none (lwC yX8_checkPlaceOfMethod cX8_checkPlaceOfMethod 3 none) rm rm.cells rm.slots 2 := cwV 2 hts (gdV m_2_147 m_2_149 ms_2 m_1_1 m_2_150) rfl rfl rfl (by decide +kernel) hR
theorem m_2_146 : (Cond.code yX8_checkedMethod cX8_checkedMethod 4 (some (.object "Sendhouse$Told"))) ∈ lwA := lwA_mk (ck_2 _ (List.mem_of_getElem? (i := 146) rfl)) rfl
theorem m_2_143 : (Cond.methodLink RX8 159 yX8_checkedMethod) ∈ lwA := lwA_mk (ck_2 _ (List.mem_of_getElem? (i := 143) rfl)) rfl
theorem m_2_145 : (Cond.instanceMethod yX8_checkedMethod) ∈ lwA := lwA_mk (ck_2 _ (List.mem_of_getElem? (i := 145) rfl)) rfl
theorem ms_1 : (Cond.selects RX8 yX8_checkedMethod yX8_checkedMethod) ∈ lwA := lwA_mk (List.mem_append_left _ (List.mem_of_getElem? (i := 1) rfl)) rfl
theorem k_RX8_159 {args : Array Value} {s : State} {R rm : Room} (hts : ∀ w ∈ lwA, w.before args s = true) (hR : rm.frames + 1 ≤ R.frames ∧ 8 + (4 + 11) + rm.locals ≤ R.locals) : CallW R s args RX8 RX8 159 yX8_checkedMethod cX8_checkedMethod 4 (some (.object "Sendhouse$Told")) (lwC yX8_checkedMethod cX8_checkedMethod 4 (some (.object "Sendhouse$Told"))) rm rm.cells rm.slots 2 := cwV 2 hts (gdV m_2_143 m_2_145 ms_1 m_1_1 m_2_146) rfl rfl rfl (by decide +kernel) hR
theorem m_2_195 : (Cond.code yX8_placeMethod cX8_placeMethod 4 none) ∈ lwA := lwA_mk (ck_2 _ (List.mem_of_getElem? (i := 195) rfl)) rfl
theorem m_2_192 : (Cond.methodLink RX8 152 yX8_placeMethod) ∈ lwA := lwA_mk (ck_2 _ (List.mem_of_getElem? (i := 192) rfl)) rfl
theorem m_2_194 : (Cond.instanceMethod yX8_placeMethod) ∈ lwA := lwA_mk (ck_2 _ (List.mem_of_getElem? (i := 194) rfl)) rfl
theorem ms_4 : (Cond.selects RX8 yX8_placeMethod yX8_placeMethod) ∈ lwA := lwA_mk (List.mem_append_left _ (List.mem_of_getElem? (i := 4) rfl)) rfl
theorem k_RX8_152 {args : Array Value} {s : State} {R rm : Room} (hts : ∀ w ∈ lwA, w.before args s = true) (hR : rm.frames + 1 ≤ R.frames ∧ 8 + (4 + 11) + rm.locals ≤ R.locals) : CallW R s args RX8 RX8 152 yX8_placeMethod cX8_placeMethod 4 none (lwC yX8_placeMethod cX8_placeMethod 4 none) rm rm.cells rm.slots 3 := cwV 3 hts (gdV m_2_192 m_2_194 ms_4 m_1_1 m_2_195) rfl rfl rfl (by decide +kernel) hR
end SITES
def sX8_add (Z : Ho) (a0 : Int32) (n0 : Int32) : Rs Int32 := if isB a0 Z.cn = 0 then (.inr ("java/lang/IndexOutOfBoundsException", Z)) else (if isPl a0 = 0 then (if isB n0 5 = 0 then (.inr ("java/lang/IllegalArgumentException", Z)) else (if (aA Z.fc 0 a0) + n0 ≤ 8 then (if Z.cn < 12 then (pc (sX0_enlist Z a0 n0) (fun r1 T2 => .inl (r1, T2))) else (.inr ("java/lang/IllegalStateException", Z))) else (.inr ("java/lang/IllegalArgumentException", Z)))) else (.inr ("java/lang/IllegalArgumentException", Z)))
theorem sX8_add_u (Z : Ho) (a0 : Int32) (n0 : Int32) : sX8_add Z a0 n0 = if isB a0 Z.cn = 0 then (.inr ("java/lang/IndexOutOfBoundsException", Z)) else (if isPl a0 = 0 then (if isB n0 5 = 0 then (.inr ("java/lang/IllegalArgumentException", Z)) else (if (aA Z.fc 0 a0) + n0 ≤ 8 then (if Z.cn < 12 then (pc (sX0_enlist Z a0 n0) (fun r1 T2 => .inl (r1, T2))) else (.inr ("java/lang/IllegalStateException", Z))) else (.inr ("java/lang/IllegalArgumentException", Z)))) else (.inr ("java/lang/IllegalArgumentException", Z))) := rfl
set_option maxHeartbeats 4000000 in
set_option maxRecDepth 100000 in
theorem hX8_add (l : Launch) (D : va_G) (ar : Nat → ClassId) (κ : Nat → Nat) (G : gW) (x : Xo) (Z : Ho) (sz : Nat) (a0 : Int32) (n0 : Int32) (hk : OK x Z) (hlt : l.stackTraces = false) : vx_Met l yX8_add (lwC yX8_add cX8_add 3 (some .int)) (rD 10 1 6) (g_Pc D vwCl (gT ar) (EX1 κ) (ov κ ar x Z G) sz [.ref (x.f .ho), .int a0, .int n0]) (g_Qi D vwCl (g_A (ov κ ar x Z G) sz) (fun r u => ∃ T9 : Ho, sX8_add Z a0 n0 = .inl (r, T9) ∧ u = (ov κ ar x T9 G, sz) ∧ OK x T9 ∧ SZ T9 Z)) (gX D (g_A (ov κ ar x Z G) sz) (fun E u => ∃ T9 : Ho, sX8_add Z a0 n0 = .inr (E, T9) ∧ u.1 = ov κ ar x T9 G ∧ OK x T9 ∧ SZ T9 Z)) 1 6 (g_A (ov κ ar x Z G) sz) := by
  refine gx_ofW (by decide +kernel) (Nat.le_of_ble_eq_true rfl) ?_
  intro p e s m below meth c ls S hr hlk ht hE w hl
  have hx := S.1
  have hb := S.2.1
  have hl : lv_has ls 3 [(0, .ref (x.f .ho)), (1, .int a0), (2, .int n0)] := hl
  refine lv_aload_n hx hb dX8_add_0 rfl (lv_at hl 0 rfl) ?_
  refine gf_RX8_10_14 (v := .ref (x.f .cl)) S hE w (ov_r (t := .ho) (hk.e (.ho) rfl)) rfl dX8_add_1 ?_
  refine lv_iload_n hx hb dX8_add_4 rfl (lv_at hl 1 rfl) ?_
  refine g_calli w (g_runV (As := [.int a0]) (rest := []) S hE w hl (c_X0_has l D ar κ (ov κ ar x Z G) sz (x.f .cl) a0 (x.f .ab) (x.f .fc) Z.cn (ov_r (t := .cl) (hk.e (.cl) rfl))) (k_RX8_83 S.2.2.2.2 ⟨Nat.le_of_ble_eq_true rfl, Nat.le_of_ble_eq_true rfl⟩) (ov_r (t := .cl) (hk.e (.cl) rfl)) rfl rfl rfl rfl (Nat.le_of_ble_eq_true rfl) dX8_add_5 ⟨Nat.le_of_ble_eq_true rfl, Nat.le_of_ble_eq_true rfl⟩) (fun r u H locs hp hnz w => ?_)
  obtain ⟨rfl, rfl⟩ := hp
  dsimp only at w
  refine lv_if_ne (tgt := 21) hx hb dX8_add_8 (by decide) (fun c_8 => ?_) (fun c_8 => ?_)
  · refine lv_iload_n hx hb dX8_add_21 rfl (lv_at hl 1 rfl) ?_
    refine g_calli w (g_runS (As := [.int a0]) (rest := []) S hE w hl (c_X8_isOfPlainValues l D ar κ (ov κ ar x Z G) sz a0) (k_RX8_94 S.2.2.2.2 ⟨Nat.le_of_ble_eq_true rfl, Nat.le_of_ble_eq_true rfl⟩) rfl rfl (Nat.le_of_ble_eq_true rfl) dX8_add_22 ⟨Nat.le_of_ble_eq_true rfl, Nat.le_of_ble_eq_true rfl⟩) (fun r u H locs hp hnz w => ?_)
    obtain ⟨rfl, rfl⟩ := hp
    dsimp only at w
    refine lv_if_ne (tgt := 51) hx hb dX8_add_25 (by decide) (fun c_25 => ?_) (fun c_25 => ?_)
    · exact g_throwS (names := ["java/lang/RuntimeException", "java/lang/Exception"]) hlt S hE w hl ht hlk (by decide +kernel) (by decide +kernel) m_3_42 m_1_18 (List.mem_of_getElem? (i := 55) rfl) th_RX8_105_109_1 th_RX8_105_109_2 th_RX8_105_109_3 dX8_add_51 dX8_add_54 dX8_add_55 dX8_add_57 dX8_add_60 (Nat.le_of_ble_eq_true rfl) (Nat.le_of_ble_eq_true rfl) (Nat.le_of_ble_eq_true rfl) (Nat.le_of_ble_eq_true rfl) (Nat.le_of_ble_eq_true rfl) (Nat.le_of_ble_eq_true rfl) (fun n9 hn9 => ⟨_, ((sX8_add_u Z a0 n0).trans ((if_neg c_8).trans (if_neg c_25))), rfl, hk, ⟨rfl, rfl, rfl, rfl⟩⟩)
    · refine lv_iload_n hx hb dX8_add_28 rfl (lv_at hl 2 rfl) ?_
      refine lv_iconst (v := 5) hx hb dX8_add_29 (by decide) ?_
      refine g_calli w (g_runS (As := [.int n0, .int 5]) (rest := []) S hE w hl (c_X8_isBelow l D ar κ (ov κ ar x Z G) sz n0 5) (k_RX8_97 S.2.2.2.2 ⟨Nat.le_of_ble_eq_true rfl, Nat.le_of_ble_eq_true rfl⟩) rfl rfl (Nat.le_of_ble_eq_true rfl) dX8_add_30 ⟨Nat.le_of_ble_eq_true rfl, Nat.le_of_ble_eq_true rfl⟩) (fun r u H locs hp hnz w => ?_)
      obtain ⟨rfl, rfl⟩ := hp
      dsimp only at w
      refine lv_if_eq (tgt := 51) hx hb dX8_add_33 (by decide) (fun c_33 => ?_) (fun c_33 => ?_)
      · exact g_throwS (names := ["java/lang/RuntimeException", "java/lang/Exception"]) hlt S hE w hl ht hlk (by decide +kernel) (by decide +kernel) m_3_42 m_1_18 (List.mem_of_getElem? (i := 55) rfl) th_RX8_105_109_1 th_RX8_105_109_2 th_RX8_105_109_3 dX8_add_51 dX8_add_54 dX8_add_55 dX8_add_57 dX8_add_60 (Nat.le_of_ble_eq_true rfl) (Nat.le_of_ble_eq_true rfl) (Nat.le_of_ble_eq_true rfl) (Nat.le_of_ble_eq_true rfl) (Nat.le_of_ble_eq_true rfl) (Nat.le_of_ble_eq_true rfl) (fun n9 hn9 => ⟨_, ((sX8_add_u Z a0 n0).trans ((if_neg c_8).trans ((if_pos c_25).trans (if_pos c_33)))), rfl, hk, ⟨rfl, rfl, rfl, rfl⟩⟩)
      · refine lv_aload_n hx hb dX8_add_36 rfl (lv_at hl 0 rfl) ?_
        refine gf_RX8_10_14 (v := .ref (x.f .cl)) S hE w (ov_r (t := .ho) (hk.e (.ho) rfl)) rfl dX8_add_37 ?_
        refine lv_iload_n hx hb dX8_add_40 rfl (lv_at hl 1 rfl) ?_
        refine g_calli w (g_runV (As := [.int a0]) (rest := []) S hE w hl (c_X0_fieldsOf l D ar κ (ov κ ar x Z G) sz (x.f .cl) a0 (x.f .ab) (x.f .fc) Z.cn Z.fc (ov_r (t := .cl) (hk.e (.cl) rfl)) (ov_r (t := .fc) (hk.e (.fc) rfl))) (k_RX8_101 S.2.2.2.2 ⟨Nat.le_of_ble_eq_true rfl, Nat.le_of_ble_eq_true rfl⟩) (ov_r (t := .cl) (hk.e (.cl) rfl)) rfl rfl rfl rfl (Nat.le_of_ble_eq_true rfl) dX8_add_41 ⟨Nat.le_of_ble_eq_true rfl, Nat.le_of_ble_eq_true rfl⟩) (fun r u H locs hp hnz w => ?_)
        obtain ⟨rfl, rfl⟩ := hp
        dsimp only at w
        refine lv_iload_n hx hb dX8_add_44 rfl (lv_at hl 2 rfl) ?_
        refine lv_iadd hx hb dX8_add_45 ?_
        refine lv_bipush (v := 8) hx hb dX8_add_46 (by decide) ?_
        refine lv_icmp_le (tgt := 61) hx hb dX8_add_48 (by decide) (fun c_48 => ?_) (fun c_48 => ?_)
        · refine lv_aload_n hx hb dX8_add_61 rfl (lv_at hl 0 rfl) ?_
          refine gf_RX8_10_14 (v := .ref (x.f .cl)) S hE w (ov_r (t := .ho) (hk.e (.ho) rfl)) rfl dX8_add_62 ?_
          refine gf_RX8_110_6 (v := .int Z.cn) S hE w (ov_r (t := .cl) (hk.e (.cl) rfl)) rfl dX8_add_65 ?_
          refine lv_bipush (v := 12) hx hb dX8_add_68 (by decide) ?_
          refine lv_icmp_lt (tgt := 83) hx hb dX8_add_70 (by decide) (fun c_70 => ?_) (fun c_70 => ?_)
          · refine lv_aload_n hx hb dX8_add_83 rfl (lv_at hl 0 rfl) ?_
            refine gf_RX8_10_14 (v := .ref (x.f .cl)) S hE w (ov_r (t := .ho) (hk.e (.ho) rfl)) rfl dX8_add_84 ?_
            refine lv_iload_n hx hb dX8_add_87 rfl (lv_at hl 1 rfl) ?_
            refine lv_iload_n hx hb dX8_add_88 rfl (lv_at hl 2 rfl) ?_
            refine g_calli w (g_runV (As := [.int a0, .int n0]) (rest := []) S hE w hl (hX0_enlist l D ar κ G x Z sz a0 n0 hk ) (k_RX8_118 S.2.2.2.2 ⟨Nat.le_of_ble_eq_true rfl, Nat.le_of_ble_eq_true rfl⟩) (ov_r (t := .cl) (hk.e (.cl) rfl)) rfl rfl rfl rfl (Nat.le_of_ble_eq_true rfl) dX8_add_89 ⟨Nat.le_of_ble_eq_true rfl, Nat.le_of_ble_eq_true rfl⟩) (fun r1 u H locs hp hnz w => ?_)
            obtain ⟨T2, e3, hu9, hk4, sq5⟩ := hp
            subst hu9
            dsimp only at w
            exact vx_ret (g_iret hx hb hr hlk w (Nat.le_of_ble_eq_true rfl) (Nat.le_of_ble_eq_true rfl) dX8_add_92 ⟨_, ((sX8_add_u Z a0 n0).trans ((if_neg c_8).trans ((if_pos c_25).trans ((if_neg c_33).trans ((if_pos c_48).trans ((if_pos c_70).trans (pc_e e3))))))), rfl, hk4, (SZ.t sq5 ⟨rfl, rfl, rfl, rfl⟩)⟩)
          · exact g_throwS (names := ["java/lang/RuntimeException", "java/lang/Exception"]) hlt S hE w hl ht hlk (by decide +kernel) (by decide +kernel) m_3_58 m_1_19 (List.mem_of_getElem? (i := 56) rfl) th_RX8_113_117_1 th_RX8_113_117_2 th_RX8_113_117_3 dX8_add_73 dX8_add_76 dX8_add_77 dX8_add_79 dX8_add_82 (Nat.le_of_ble_eq_true rfl) (Nat.le_of_ble_eq_true rfl) (Nat.le_of_ble_eq_true rfl) (Nat.le_of_ble_eq_true rfl) (Nat.le_of_ble_eq_true rfl) (Nat.le_of_ble_eq_true rfl) (fun n9 hn9 => ⟨_, ((sX8_add_u Z a0 n0).trans ((if_neg c_8).trans ((if_pos c_25).trans ((if_neg c_33).trans ((if_pos c_48).trans (if_neg c_70)))))), rfl, hk, ⟨rfl, rfl, rfl, rfl⟩⟩)
        · exact g_throwS (names := ["java/lang/RuntimeException", "java/lang/Exception"]) hlt S hE w hl ht hlk (by decide +kernel) (by decide +kernel) m_3_42 m_1_18 (List.mem_of_getElem? (i := 55) rfl) th_RX8_105_109_1 th_RX8_105_109_2 th_RX8_105_109_3 dX8_add_51 dX8_add_54 dX8_add_55 dX8_add_57 dX8_add_60 (Nat.le_of_ble_eq_true rfl) (Nat.le_of_ble_eq_true rfl) (Nat.le_of_ble_eq_true rfl) (Nat.le_of_ble_eq_true rfl) (Nat.le_of_ble_eq_true rfl) (Nat.le_of_ble_eq_true rfl) (fun n9 hn9 => ⟨_, ((sX8_add_u Z a0 n0).trans ((if_neg c_8).trans ((if_pos c_25).trans ((if_neg c_33).trans (if_neg c_48))))), rfl, hk, ⟨rfl, rfl, rfl, rfl⟩⟩)
  · exact g_throwS (names := ["java/lang/RuntimeException", "java/lang/Exception"]) hlt S hE w hl ht hlk (by decide +kernel) (by decide +kernel) m_2_159 m_1_15 (List.mem_of_getElem? (i := 54) rfl) th_RX8_87_91_1 th_RX8_87_91_2 th_RX8_87_91_3 dX8_add_11 dX8_add_14 dX8_add_15 dX8_add_17 dX8_add_20 (Nat.le_of_ble_eq_true rfl) (Nat.le_of_ble_eq_true rfl) (Nat.le_of_ble_eq_true rfl) (Nat.le_of_ble_eq_true rfl) (Nat.le_of_ble_eq_true rfl) (Nat.le_of_ble_eq_true rfl) (fun n9 hn9 => ⟨_, ((sX8_add_u Z a0 n0).trans (if_pos c_8)), rfl, hk, ⟨rfl, rfl, rfl, rfl⟩⟩)
def sX8_row (Z : Ho) (c0 : Int32) (u0 : Int32) (v0 : Int32) : Rs Int32 := if sX8_isLetter Z c0 = 0 then (.inr ("java/lang/IllegalArgumentException", Z)) else (if (Z.ro Z.ty).n < 24 then (vc (sX3_enlist Z Z.ty c0 u0 v0) (fun T1 => .inl ((T1.ro T1.ty).n, T1))) else (.inr ("java/lang/IllegalStateException", Z)))
theorem sX8_row_u (Z : Ho) (c0 : Int32) (u0 : Int32) (v0 : Int32) : sX8_row Z c0 u0 v0 = if sX8_isLetter Z c0 = 0 then (.inr ("java/lang/IllegalArgumentException", Z)) else (if (Z.ro Z.ty).n < 24 then (vc (sX3_enlist Z Z.ty c0 u0 v0) (fun T1 => .inl ((T1.ro T1.ty).n, T1))) else (.inr ("java/lang/IllegalStateException", Z))) := rfl
set_option maxHeartbeats 4000000 in
set_option maxRecDepth 100000 in
theorem hX8_row (l : Launch) (D : va_G) (ar : Nat → ClassId) (κ : Nat → Nat) (G : gW) (x : Xo) (Z : Ho) (sz : Nat) (c0 : Int32) (u0 : Int32) (v0 : Int32) (hk : OK x Z) (hlt : l.stackTraces = false) : vx_Met l yX8_row (lwC yX8_row cX8_row 4 (some .int)) (rD 10 1 6) (g_Pc D vwCl (gT ar) (EX1 κ) (ov κ ar x Z G) sz [.ref (x.f .ho), .int c0, .int u0, .int v0]) (g_Qi D vwCl (g_A (ov κ ar x Z G) sz) (fun r u => ∃ T9 : Ho, sX8_row Z c0 u0 v0 = .inl (r, T9) ∧ u = (ov κ ar x T9 G, sz) ∧ OK x T9 ∧ SZ T9 Z)) (gX D (g_A (ov κ ar x Z G) sz) (fun E u => ∃ T9 : Ho, sX8_row Z c0 u0 v0 = .inr (E, T9) ∧ u.1 = ov κ ar x T9 G ∧ OK x T9 ∧ SZ T9 Z)) 1 6 (g_A (ov κ ar x Z G) sz) := by
  refine gx_ofW (by decide +kernel) (Nat.le_of_ble_eq_true rfl) ?_
  intro p e s m below meth c ls S hr hlk ht hE w hl
  have hx := S.1
  have hb := S.2.1
  have hl : lv_has ls 4 [(0, .ref (x.f .ho)), (1, .int c0), (2, .int u0), (3, .int v0)] := hl
  refine lv_iload_n hx hb dX8_row_0 rfl (lv_at hl 1 rfl) ?_
  refine g_calli w (g_runS (As := [.int c0]) (rest := []) S hE w hl (hX8_isLetter l D ar κ G x Z sz c0 hk ) (k_RX8_122 S.2.2.2.2 ⟨Nat.le_of_ble_eq_true rfl, Nat.le_of_ble_eq_true rfl⟩) rfl rfl (Nat.le_of_ble_eq_true rfl) dX8_row_1 ⟨Nat.le_of_ble_eq_true rfl, Nat.le_of_ble_eq_true rfl⟩) (fun r u H locs hp hnz w => ?_)
  obtain ⟨rfl, rfl⟩ := hp
  dsimp only at w
  refine lv_if_ne (tgt := 17) hx hb dX8_row_4 (by decide) (fun c_4 => ?_) (fun c_4 => ?_)
  · refine lv_aload_n hx hb dX8_row_17 rfl (lv_at hl 0 rfl) ?_
    refine gf_RX8_25_14 (v := .ref (x.f (.ro Z.ty))) S hE w (ov_r (t := .ho) (hk.e (.ho) rfl)) rfl dX8_row_18 ?_
    refine gf_RX8_128_9 (v := .int ((Z.ro Z.ty).n)) S hE w (ov_r (t := .ro Z.ty) (hk.e_ro hk.y)) rfl dX8_row_21 ?_
    refine lv_bipush (v := 24) hx hb dX8_row_24 (by decide) ?_
    refine lv_icmp_lt (tgt := 39) hx hb dX8_row_26 (by decide) (fun c_26 => ?_) (fun c_26 => ?_)
    · refine lv_aload_n hx hb dX8_row_39 rfl (lv_at hl 0 rfl) ?_
      refine gf_RX8_25_14 (v := .ref (x.f (.ro Z.ty))) S hE w (ov_r (t := .ho) (hk.e (.ho) rfl)) rfl dX8_row_40 ?_
      refine lv_iload_n hx hb dX8_row_43 rfl (lv_at hl 1 rfl) ?_
      refine lv_iload_n hx hb dX8_row_44 rfl (lv_at hl 2 rfl) ?_
      refine lv_iload_n hx hb dX8_row_45 rfl (lv_at hl 3 rfl) ?_
      refine g_callv w (g_runV (As := [.int c0, .int u0, .int v0]) (rest := []) S hE w hl (hX3_enlist l D ar κ G x Z sz Z.ty c0 u0 v0 hk hk.y) (k_RX8_131 S.2.2.2.2 ⟨Nat.le_of_ble_eq_true rfl, Nat.le_of_ble_eq_true rfl⟩) (ov_r (t := .ro Z.ty) (hk.e_ro hk.y)) rfl rfl rfl rfl (Nat.le_of_ble_eq_true rfl) dX8_row_46 ⟨Nat.le_of_ble_eq_true rfl, Nat.le_of_ble_eq_true rfl⟩) (fun u H locs hp hnz w => ?_)
      obtain ⟨T1, e2, hu9, hk3, sq4⟩ := hp
      subst hu9
      dsimp only at w
      have vk5 : Z.ty < T1.nr := SZ.ro sq4 hk.y
      refine lv_aload_n hx hb dX8_row_49 rfl (lv_at hl 0 rfl) ?_
      refine gf_RX8_25_14 (v := .ref (x.f (.ro T1.ty))) S hE w (ov_r (t := .ho) (hk3.e (.ho) rfl)) rfl dX8_row_50 ?_
      refine gf_RX8_128_9 (v := .int ((T1.ro T1.ty).n)) S hE w (ov_r (t := .ro T1.ty) (hk3.e_ro hk3.y)) rfl dX8_row_53 ?_
      exact vx_ret (g_iret hx hb hr hlk w (Nat.le_of_ble_eq_true rfl) (Nat.le_of_ble_eq_true rfl) dX8_row_56 ⟨_, ((sX8_row_u Z c0 u0 v0).trans ((if_neg c_4).trans ((if_pos c_26).trans (vc_e e2)))), rfl, hk3, (SZ.t sq4 ⟨rfl, rfl, rfl, rfl⟩)⟩)
    · exact g_throwS (names := ["java/lang/RuntimeException", "java/lang/Exception"]) hlt S hE w hl ht hlk (by decide +kernel) (by decide +kernel) m_3_58 m_1_19 (List.mem_of_getElem? (i := 29) rfl) th_RX8_113_117_1 th_RX8_113_117_2 th_RX8_113_117_3 dX8_row_29 dX8_row_32 dX8_row_33 dX8_row_35 dX8_row_38 (Nat.le_of_ble_eq_true rfl) (Nat.le_of_ble_eq_true rfl) (Nat.le_of_ble_eq_true rfl) (Nat.le_of_ble_eq_true rfl) (Nat.le_of_ble_eq_true rfl) (Nat.le_of_ble_eq_true rfl) (fun n9 hn9 => ⟨_, ((sX8_row_u Z c0 u0 v0).trans ((if_neg c_4).trans (if_neg c_26))), rfl, hk, ⟨rfl, rfl, rfl, rfl⟩⟩)
  · exact g_throwS (names := ["java/lang/RuntimeException", "java/lang/Exception"]) hlt S hE w hl ht hlk (by decide +kernel) (by decide +kernel) m_3_42 m_1_18 (List.mem_of_getElem? (i := 28) rfl) th_RX8_105_109_1 th_RX8_105_109_2 th_RX8_105_109_3 dX8_row_7 dX8_row_10 dX8_row_11 dX8_row_13 dX8_row_16 (Nat.le_of_ble_eq_true rfl) (Nat.le_of_ble_eq_true rfl) (Nat.le_of_ble_eq_true rfl) (Nat.le_of_ble_eq_true rfl) (Nat.le_of_ble_eq_true rfl) (Nat.le_of_ble_eq_true rfl) (fun n9 hn9 => ⟨_, ((sX8_row_u Z c0 u0 v0).trans (if_pos c_4)), rfl, hk, ⟨rfl, rfl, rfl, rfl⟩⟩)
def sX8_wipe (Z : Ho) : Int32 × Ho := ((Z.ro Z.ty).n, (Z.roS Z.ty ((Z.ro Z.ty).sn 0)))
theorem sX8_wipe_u (Z : Ho) : sX8_wipe Z = ((Z.ro Z.ty).n, (Z.roS Z.ty ((Z.ro Z.ty).sn 0))) := rfl
set_option maxHeartbeats 4000000 in
set_option maxRecDepth 100000 in
theorem hX8_wipe (l : Launch) (D : va_G) (ar : Nat → ClassId) (κ : Nat → Nat) (G : gW) (x : Xo) (Z : Ho) (sz : Nat) (hk : OK x Z) : Met l yX8_wipe (lwC yX8_wipe cX8_wipe 2 (some .int)) (rD 2 0 0) (g_Pc D vwCl (gT ar) (EX1 κ) (ov κ ar x Z G) sz [.ref (x.f .ho)]) (g_Qi D vwCl (g_A (ov κ ar x Z G) sz) (fun r u => ∃ T9 : Ho, sX8_wipe Z = (r, T9) ∧ u = (ov κ ar x T9 G, sz) ∧ OK x T9 ∧ SZ T9 Z)) 0 0 (g_A (ov κ ar x Z G) sz) := by
  refine g_ofW (by decide +kernel) (Nat.le_of_ble_eq_true rfl) ?_
  intro p e s m below meth c ls S hr hlk hin hE w hl
  have hx := S.1
  have hb := S.2.1
  have hl : lv_has ls 2 [(0, .ref (x.f .ho))] := hl
  refine lv_aload_n hx hb dX8_wipe_0 rfl (lv_at hl 0 rfl) ?_
  refine gf_RX8_25_14 (v := .ref (x.f (.ro Z.ty))) S hE w (ov_r (t := .ho) (hk.e (.ho) rfl)) rfl dX8_wipe_1 ?_
  refine gf_RX8_128_9 (v := .int ((Z.ro Z.ty).n)) S hE w (ov_r (t := .ro Z.ty) (hk.e_ro hk.y)) rfl dX8_wipe_4 ?_
  refine lv_istore_n (lv' := [(1, .int ((Z.ro Z.ty).n)), (0, .ref (x.f .ho))]) hx hb dX8_wipe_7 rfl hl (by decide) rfl (fun ls hl => ?_)
  refine lv_aload_n hx hb dX8_wipe_8 rfl (lv_at hl 1 rfl) ?_
  refine gf_RX8_25_14 (v := .ref (x.f (.ro Z.ty))) S hE w (ov_r (t := .ho) (hk.e (.ho) rfl)) rfl dX8_wipe_9 ?_
  refine lv_iconst (v := 0) hx hb dX8_wipe_12 (by decide) ?_
  refine pf_RX8_128_9 (fs1 := [.ref (x.f (.rl Z.ty)), .ref (x.f (.rf Z.ty)), .ref (x.f (.rg Z.ty)), .ref (x.f (.rd Z.ty)), .ref (x.f (.rq Z.ty)), .int 0, .int ((Z.ro Z.ty).k)]) S hE w (ov_r (t := .ro Z.ty) (hk.e_ro hk.y)) rfl rfl (Nat.le_of_ble_eq_true rfl) rfl dX8_wipe_13 (fun H locs w => ?_)
  have w := g_eqw w (congrArg (fun Z9 => g_up (ov κ ar x Z9 G) (x.f (.ro Z.ty)) (.inr (9, [.ref (x.f (.rl Z.ty)), .ref (x.f (.rf Z.ty)), .ref (x.f (.rg Z.ty)), .ref (x.f (.rd Z.ty)), .ref (x.f (.rq Z.ty)), .int 0, .int ((Z.ro Z.ty).k)]))) (roS_id (S := Z) (i := Z.ty)).symm)
  have w : g_S D vwCl (g_A (ov κ ar x Z G) sz) s.heap (ov κ ar x (Z.roS Z.ty ((Z.ro Z.ty).sn 0)) G) H _ sz := g_eqw w (ov_wro (S := Z) (v := (Z.ro Z.ty)) (v' := ((Z.ro Z.ty).sn 0)) hk.v (hk.e_ro hk.y) rfl Ro_l_sn Ro_f_sn Ro_g_sn Ro_d_sn Ro_q_sn)
  refine lv_iload_n hx hb dX8_wipe_16 rfl (lv_at hl 0 rfl) ?_
  exact g_iret hx hb hr hlk w (Nat.le_of_ble_eq_true rfl) (Nat.le_of_ble_eq_true rfl) dX8_wipe_17 ⟨_, (sX8_wipe_u Z), rfl, (hk.plain (T := (Z.roS Z.ty ((Z.ro Z.ty).sn 0))) rfl rfl rfl rfl rfl rfl rfl), ⟨rfl, rfl, rfl, rfl⟩⟩
def sX8_checkPlaceOfMethod (Z : Ho) (i0 : Int32) (j0 : Int32) : Rs Unit := if isB i0 Z.cn = 0 then (.inr ("java/lang/IndexOutOfBoundsException", Z)) else (if isB j0 16 = 0 then (.inr ("java/lang/IndexOutOfBoundsException", Z)) else (.inl ((), Z)))
theorem sX8_checkPlaceOfMethod_u (Z : Ho) (i0 : Int32) (j0 : Int32) : sX8_checkPlaceOfMethod Z i0 j0 = if isB i0 Z.cn = 0 then (.inr ("java/lang/IndexOutOfBoundsException", Z)) else (if isB j0 16 = 0 then (.inr ("java/lang/IndexOutOfBoundsException", Z)) else (.inl ((), Z))) := rfl
set_option maxHeartbeats 4000000 in
set_option maxRecDepth 100000 in
theorem hX8_checkPlaceOfMethod (l : Launch) (D : va_G) (ar : Nat → ClassId) (κ : Nat → Nat) (G : gW) (x : Xo) (Z : Ho) (sz : Nat) (i0 : Int32) (j0 : Int32) (hk : OK x Z) (hlt : l.stackTraces = false) : vx_Met l yX8_checkPlaceOfMethod (lwC yX8_checkPlaceOfMethod cX8_checkPlaceOfMethod 3 none) (rD 8 1 6) (g_Pc D vwCl (gT ar) (EX1 κ) (ov κ ar x Z G) sz [.ref (x.f .ho), .int i0, .int j0]) (g_Qv D vwCl (g_A (ov κ ar x Z G) sz) (fun u => ∃ T9 : Ho, sX8_checkPlaceOfMethod Z i0 j0 = .inl ((), T9) ∧ u = (ov κ ar x T9 G, sz) ∧ OK x T9 ∧ SZ T9 Z)) (gX D (g_A (ov κ ar x Z G) sz) (fun E u => ∃ T9 : Ho, sX8_checkPlaceOfMethod Z i0 j0 = .inr (E, T9) ∧ u.1 = ov κ ar x T9 G ∧ OK x T9 ∧ SZ T9 Z)) 1 6 (g_A (ov κ ar x Z G) sz) := by
  refine gx_ofW (by decide +kernel) (Nat.le_of_ble_eq_true rfl) ?_
  intro p e s m below meth c ls S hr hlk ht hE w hl
  have hx := S.1
  have hb := S.2.1
  have hl : lv_has ls 3 [(0, .ref (x.f .ho)), (1, .int i0), (2, .int j0)] := hl
  refine lv_aload_n hx hb dX8_checkPlaceOfMethod_0 rfl (lv_at hl 0 rfl) ?_
  refine gf_RX8_10_14 (v := .ref (x.f .cl)) S hE w (ov_r (t := .ho) (hk.e (.ho) rfl)) rfl dX8_checkPlaceOfMethod_1 ?_
  refine lv_iload_n hx hb dX8_checkPlaceOfMethod_4 rfl (lv_at hl 1 rfl) ?_
  refine g_calli w (g_runV (As := [.int i0]) (rest := []) S hE w hl (c_X0_has l D ar κ (ov κ ar x Z G) sz (x.f .cl) i0 (x.f .ab) (x.f .fc) Z.cn (ov_r (t := .cl) (hk.e (.cl) rfl))) (k_RX8_83 S.2.2.2.2 ⟨Nat.le_of_ble_eq_true rfl, Nat.le_of_ble_eq_true rfl⟩) (ov_r (t := .cl) (hk.e (.cl) rfl)) rfl rfl rfl rfl (Nat.le_of_ble_eq_true rfl) dX8_checkPlaceOfMethod_5 ⟨Nat.le_of_ble_eq_true rfl, Nat.le_of_ble_eq_true rfl⟩) (fun r u H locs hp hnz w => ?_)
  obtain ⟨rfl, rfl⟩ := hp
  dsimp only at w
  refine lv_if_eq (tgt := 20) hx hb dX8_checkPlaceOfMethod_8 (by decide) (fun c_8 => ?_) (fun c_8 => ?_)
  · exact g_throwS (names := ["java/lang/RuntimeException", "java/lang/Exception"]) hlt S hE w hl ht hlk (by decide +kernel) (by decide +kernel) m_2_159 m_1_15 (List.mem_of_getElem? (i := 0) rfl) th_RX8_87_91_1 th_RX8_87_91_2 th_RX8_87_91_3 dX8_checkPlaceOfMethod_20 dX8_checkPlaceOfMethod_23 dX8_checkPlaceOfMethod_24 dX8_checkPlaceOfMethod_26 dX8_checkPlaceOfMethod_29 (Nat.le_of_ble_eq_true rfl) (Nat.le_of_ble_eq_true rfl) (Nat.le_of_ble_eq_true rfl) (Nat.le_of_ble_eq_true rfl) (Nat.le_of_ble_eq_true rfl) (Nat.le_of_ble_eq_true rfl) (fun n9 hn9 => ⟨_, ((sX8_checkPlaceOfMethod_u Z i0 j0).trans (if_pos c_8)), rfl, hk, ⟨rfl, rfl, rfl, rfl⟩⟩)
  · refine lv_iload_n hx hb dX8_checkPlaceOfMethod_11 rfl (lv_at hl 2 rfl) ?_
    refine lv_bipush (v := 16) hx hb dX8_checkPlaceOfMethod_12 (by decide) ?_
    refine g_calli w (g_runS (As := [.int j0, .int 16]) (rest := []) S hE w hl (c_X8_isBelow l D ar κ (ov κ ar x Z G) sz j0 16) (k_RX8_97 S.2.2.2.2 ⟨Nat.le_of_ble_eq_true rfl, Nat.le_of_ble_eq_true rfl⟩) rfl rfl (Nat.le_of_ble_eq_true rfl) dX8_checkPlaceOfMethod_14 ⟨Nat.le_of_ble_eq_true rfl, Nat.le_of_ble_eq_true rfl⟩) (fun r u H locs hp hnz w => ?_)
    obtain ⟨rfl, rfl⟩ := hp
    dsimp only at w
    refine lv_if_ne (tgt := 30) hx hb dX8_checkPlaceOfMethod_17 (by decide) (fun c_17 => ?_) (fun c_17 => ?_)
    · exact vx_ret (g_vret hx hb hr hlk w (Nat.le_of_ble_eq_true rfl) (Nat.le_of_ble_eq_true rfl) dX8_checkPlaceOfMethod_30 ⟨_, ((sX8_checkPlaceOfMethod_u Z i0 j0).trans ((if_neg c_8).trans (if_neg c_17))), rfl, hk, ⟨rfl, rfl, rfl, rfl⟩⟩)
    · exact g_throwS (names := ["java/lang/RuntimeException", "java/lang/Exception"]) hlt S hE w hl ht hlk (by decide +kernel) (by decide +kernel) m_2_159 m_1_15 (List.mem_of_getElem? (i := 0) rfl) th_RX8_87_91_1 th_RX8_87_91_2 th_RX8_87_91_3 dX8_checkPlaceOfMethod_20 dX8_checkPlaceOfMethod_23 dX8_checkPlaceOfMethod_24 dX8_checkPlaceOfMethod_26 dX8_checkPlaceOfMethod_29 (Nat.le_of_ble_eq_true rfl) (Nat.le_of_ble_eq_true rfl) (Nat.le_of_ble_eq_true rfl) (Nat.le_of_ble_eq_true rfl) (Nat.le_of_ble_eq_true rfl) (Nat.le_of_ble_eq_true rfl) (fun n9 hn9 => ⟨_, ((sX8_checkPlaceOfMethod_u Z i0 j0).trans ((if_neg c_8).trans (if_pos c_17))), rfl, hk, ⟨rfl, rfl, rfl, rfl⟩⟩)
def sX8_checkedMethod (Z : Ho) (i0 : Int32) (j0 : Int32) : Rs Nat := rc (sX8_checkPlaceOfMethod Z i0 j0) (fun _ T5 => oc (sX8_methodAt T5 i0 j0) (.inr ("java/util/NoSuchElementException", T5)) (fun k9 => .inl (k9, T5))) (fun E9 T9 => .inr (E9, T9))
theorem sX8_checkedMethod_u (Z : Ho) (i0 : Int32) (j0 : Int32) : sX8_checkedMethod Z i0 j0 = rc (sX8_checkPlaceOfMethod Z i0 j0) (fun _ T5 => oc (sX8_methodAt T5 i0 j0) (.inr ("java/util/NoSuchElementException", T5)) (fun k9 => .inl (k9, T5))) (fun E9 T9 => .inr (E9, T9)) := rfl
set_option maxHeartbeats 4000000 in
set_option maxRecDepth 100000 in
theorem hX8_checkedMethod (l : Launch) (D : va_G) (ar : Nat → ClassId) (κ : Nat → Nat) (G : gW) (x : Xo) (Z : Ho) (sz : Nat) (i0 : Int32) (j0 : Int32) (hk : OK x Z) (hlt : l.stackTraces = false) : vx_Met l yX8_checkedMethod (lwC yX8_checkedMethod cX8_checkedMethod 4 (some (.object "Sendhouse$Told"))) (rD 9 2 12) (g_Pc D vwCl (gT ar) (EX1 κ) (ov κ ar x Z G) sz [.ref (x.f .ho), .int i0, .int j0]) (g_Qq D vwCl (g_A (ov κ ar x Z G) sz) (fun r u => ∃ r9 T9, sX8_checkedMethod Z i0 j0 = .inl (r9, T9) ∧ r = (fun k9 => some (x.f (.to k9))) r9 ∧ u = (ov κ ar x T9 G, sz) ∧ OK x T9 ∧ SZ T9 Z ∧ r9 < T9.nt)) (gX D (g_A (ov κ ar x Z G) sz) (fun E u => ∃ T9 : Ho, sX8_checkedMethod Z i0 j0 = .inr (E, T9) ∧ u.1 = ov κ ar x T9 G ∧ OK x T9 ∧ SZ T9 Z)) 2 12 (g_A (ov κ ar x Z G) sz) := by
  refine gx_ofW (by decide +kernel) (Nat.le_of_ble_eq_true rfl) ?_
  intro p e s m below meth c ls S hr hlk ht hE w hl
  have hx := S.1
  have hb := S.2.1
  have hl : lv_has ls 4 [(0, .ref (x.f .ho)), (1, .int i0), (2, .int j0)] := hl
  refine lv_aload_n hx hb dX8_checkedMethod_0 rfl (lv_at hl 0 rfl) ?_
  refine lv_iload_n hx hb dX8_checkedMethod_1 rfl (lv_at hl 1 rfl) ?_
  refine lv_iload_n hx hb dX8_checkedMethod_2 rfl (lv_at hl 2 rfl) ?_
  refine gx_callv w (gx_runV (As := [.int i0, .int j0]) (rest := []) S hE w hl (hX8_checkPlaceOfMethod l D ar κ G x Z sz i0 j0 hk  hlt) (k_RX8_134 S.2.2.2.2 ⟨Nat.le_of_ble_eq_true rfl, Nat.le_of_ble_eq_true rfl⟩) (ov_r (t := .ho) (hk.e (.ho) rfl)) rfl rfl rfl rfl (Nat.le_of_ble_eq_true rfl) dX8_checkedMethod_3 ⟨Nat.le_of_ble_eq_true rfl, Nat.le_of_ble_eq_true rfl⟩) (fun E ce q9 u H locs hp hnz w hce hv hcl => by obtain ⟨T1, e2, hu9, hk3, sq4⟩ := hp; exact g_pass ht hlk w hce hv hcl ⟨_, ((sX8_checkedMethod_u Z i0 j0).trans (rc_x e2)), hu9, hk3, (SZ.t sq4 ⟨rfl, rfl, rfl, rfl⟩)⟩ (Nat.le_of_ble_eq_true rfl) (Nat.le_of_ble_eq_true rfl)) (fun u H locs hp hnz w => ?_)
  obtain ⟨T5, e6, hu9, hk7, sq8⟩ := hp
  subst hu9
  dsimp only at w
  refine lv_aload_n hx hb dX8_checkedMethod_6 rfl (lv_at hl 0 rfl) ?_
  refine lv_iload_n hx hb dX8_checkedMethod_7 rfl (lv_at hl 1 rfl) ?_
  refine lv_iload_n hx hb dX8_checkedMethod_8 rfl (lv_at hl 2 rfl) ?_
  refine g_callq w (g_runV (As := [.int i0, .int j0]) (rest := []) S hE w hl (hX8_methodAt l D ar κ G x T5 sz i0 j0 hk7 ) (k_RX8_179 S.2.2.2.2 ⟨Nat.le_of_ble_eq_true rfl, Nat.le_of_ble_eq_true rfl⟩) (ov_r (t := .ho) (hk7.e (.ho) rfl)) rfl rfl rfl rfl (Nat.le_of_ble_eq_true rfl) dX8_checkedMethod_9 ⟨Nat.le_of_ble_eq_true rfl, Nat.le_of_ble_eq_true rfl⟩) (fun r u H locs hp hnz w => ?_)
  obtain ⟨rfl, rfl⟩ := hp
  dsimp only at w
  refine lv_astore_nQ (lv' := [(3, va_rf ((sX8_methodAt T5 i0 j0).map (fun k9 => x.f (.to k9)))), (0, .ref (x.f .ho)), (1, .int i0), (2, .int j0)]) hx hb dX8_checkedMethod_12 rfl hl (by decide) rfl (fun ls hl => ?_)
  refine lv_aload_nQ hx hb dX8_checkedMethod_13 rfl (lv_at hl 0 rfl) ?_
  rcases he10 : sX8_methodAt T5 i0 j0 with _ | k9
  · have hl : lv_has ls 4 [(3, .null), (0, .ref (x.f .ho)), (1, .int i0), (2, .int j0)] := by rw [he10] at hl; exact hl
    show W p l e _ s m _ below meth c _ _ _ _ _ (F0 m 14 ls [.null])
    refine lv_ifnonnullN hx hb dX8_checkedMethod_14 ?_
    exact g_throwN (Y := "java/lang/RuntimeException") (r := ["java/lang/Exception"]) hlt S hE w hl ht hlk (by decide +kernel) (by decide +kernel) (by decide +kernel) m_2_176 m_1_38 (List.mem_of_getElem? (i := 1) rfl) nse_1 nse_2 nse_3 dX8_checkedMethod_17 dX8_checkedMethod_20 dX8_checkedMethod_21 dX8_checkedMethod_23 dX8_checkedMethod_26 (Nat.le_of_ble_eq_true rfl) (Nat.le_of_ble_eq_true rfl) (Nat.le_of_ble_eq_true rfl) (Nat.le_of_ble_eq_true rfl) (Nat.le_of_ble_eq_true rfl) (Nat.le_of_ble_eq_true rfl) (fun n9 hn9 => ⟨_, ((sX8_checkedMethod_u Z i0 j0).trans ((rc_v e6).trans (oc_n he10))), rfl, hk7, (SZ.t sq8 ⟨rfl, rfl, rfl, rfl⟩)⟩)
  · have hl : lv_has ls 4 [(3, .ref (x.f (.to k9))), (0, .ref (x.f .ho)), (1, .int i0), (2, .int j0)] := by rw [he10] at hl; exact hl
    show W p l e _ s m _ below meth c _ _ _ _ _ (F0 m 14 ls [.ref (x.f (.to k9))])
    refine lv_ifnonnull (tgt := 27) hx hb dX8_checkedMethod_14 (by decide) ?_
    refine lv_aload_n hx hb dX8_checkedMethod_27 rfl (lv_at hl 0 rfl) ?_
    exact vx_ret (g_qret (r := (some (x.f (.to k9)))) hx hb hr (Or.inl ⟨_, rfl⟩) hlk w (Nat.le_of_ble_eq_true rfl) (Nat.le_of_ble_eq_true rfl) dX8_checkedMethod_28 ⟨_, _, ((sX8_checkedMethod_u Z i0 j0).trans ((rc_v e6).trans (oc_s he10))), rfl, rfl, hk7, (SZ.t sq8 ⟨rfl, rfl, rfl, rfl⟩), (v_methodAt hk7 he10)⟩)
def sX8_remove (Z : Ho) (i0 : Int32) (j0 : Int32) : Rs Int32 := rc (sX8_checkedMethod Z i0 j0) (fun r8 T5 => vc (sX8_placeNone T5 i0 j0) (fun T11 => .inl ((T11.to r8).n, T11))) (fun E9 T9 => .inr (E9, T9))
theorem sX8_remove_u (Z : Ho) (i0 : Int32) (j0 : Int32) : sX8_remove Z i0 j0 = rc (sX8_checkedMethod Z i0 j0) (fun r8 T5 => vc (sX8_placeNone T5 i0 j0) (fun T11 => .inl ((T11.to r8).n, T11))) (fun E9 T9 => .inr (E9, T9)) := rfl
set_option maxHeartbeats 4000000 in
set_option maxRecDepth 100000 in
theorem hX8_remove (l : Launch) (D : va_G) (ar : Nat → ClassId) (κ : Nat → Nat) (G : gW) (x : Xo) (Z : Ho) (sz : Nat) (i0 : Int32) (j0 : Int32) (hk : OK x Z) (hlt : l.stackTraces = false) : vx_Met l yX8_remove (lwC yX8_remove cX8_remove 4 (some .int)) (rD 11 2 12) (g_Pc D vwCl (gT ar) (EX1 κ) (ov κ ar x Z G) sz [.ref (x.f .ho), .int i0, .int j0]) (g_Qi D vwCl (g_A (ov κ ar x Z G) sz) (fun r u => ∃ T9 : Ho, sX8_remove Z i0 j0 = .inl (r, T9) ∧ u = (ov κ ar x T9 G, sz) ∧ OK x T9 ∧ SZ T9 Z)) (gX D (g_A (ov κ ar x Z G) sz) (fun E u => ∃ T9 : Ho, sX8_remove Z i0 j0 = .inr (E, T9) ∧ u.1 = ov κ ar x T9 G ∧ OK x T9 ∧ SZ T9 Z)) 2 12 (g_A (ov κ ar x Z G) sz) := by
  refine gx_ofW (by decide +kernel) (Nat.le_of_ble_eq_true rfl) ?_
  intro p e s m below meth c ls S hr hlk ht hE w hl
  have hx := S.1
  have hb := S.2.1
  have hl : lv_has ls 4 [(0, .ref (x.f .ho)), (1, .int i0), (2, .int j0)] := hl
  refine lv_aload_n hx hb dX8_remove_0 rfl (lv_at hl 0 rfl) ?_
  refine lv_iload_n hx hb dX8_remove_1 rfl (lv_at hl 1 rfl) ?_
  refine lv_iload_n hx hb dX8_remove_2 rfl (lv_at hl 2 rfl) ?_
  refine gx_callq w (gx_runV (As := [.int i0, .int j0]) (rest := []) S hE w hl (hX8_checkedMethod l D ar κ G x Z sz i0 j0 hk  hlt) (k_RX8_159 S.2.2.2.2 ⟨Nat.le_of_ble_eq_true rfl, Nat.le_of_ble_eq_true rfl⟩) (ov_r (t := .ho) (hk.e (.ho) rfl)) rfl rfl rfl rfl (Nat.le_of_ble_eq_true rfl) dX8_remove_3 ⟨Nat.le_of_ble_eq_true rfl, Nat.le_of_ble_eq_true rfl⟩) (fun E ce q9 u H locs hp hnz w hce hv hcl => by obtain ⟨T1, e2, hu9, hk3, sq4⟩ := hp; exact g_pass ht hlk w hce hv hcl ⟨_, ((sX8_remove_u Z i0 j0).trans (rc_x e2)), hu9, hk3, (SZ.t sq4 ⟨rfl, rfl, rfl, rfl⟩)⟩ (Nat.le_of_ble_eq_true rfl) (Nat.le_of_ble_eq_true rfl)) (fun r u H locs hp hnz w => ?_)
  obtain ⟨r8, T5, e6, hr9, hu9, hk7, sq9, hv10⟩ := hp
  subst hr9
  subst hu9
  dsimp only at w
  show W p l e _ s m _ below meth c _ _ _ _ _ (F0 m 6 ls [.ref (x.f (.to r8))])
  refine lv_astore_n (lv' := [(3, .ref (x.f (.to r8))), (0, .ref (x.f .ho)), (1, .int i0), (2, .int j0)]) hx hb dX8_remove_6 rfl hl (by decide) rfl (fun ls hl => ?_)
  refine lv_aload_n hx hb dX8_remove_7 rfl (lv_at hl 1 rfl) ?_
  refine lv_iload_n hx hb dX8_remove_8 rfl (lv_at hl 2 rfl) ?_
  refine lv_iload_n hx hb dX8_remove_9 rfl (lv_at hl 3 rfl) ?_
  refine lv_null hx hb dX8_remove_10 ?_
  refine g_callv w (g_runV (As := [.int i0, .int j0, .null]) (rest := []) S hE w hl (hX8_placeNone l D ar κ G x T5 sz i0 j0 hk7 ) (k_RX8_152 S.2.2.2.2 ⟨Nat.le_of_ble_eq_true rfl, Nat.le_of_ble_eq_true rfl⟩) (ov_r (t := .ho) (hk7.e (.ho) rfl)) rfl rfl rfl rfl (Nat.le_of_ble_eq_true rfl) dX8_remove_11 ⟨Nat.le_of_ble_eq_true rfl, Nat.le_of_ble_eq_true rfl⟩) (fun u H locs hp hnz w => ?_)
  obtain ⟨T11, e12, hu9, hk13, sq14⟩ := hp
  subst hu9
  dsimp only at w
  have vk15 : r8 < T11.nt := SZ.to sq14 hv10
  refine lv_aload_n hx hb dX8_remove_14 rfl (lv_at hl 0 rfl) ?_
  refine gf_RX8_163_12 (v := .int ((T11.to r8).n)) S hE w (ov_r (t := .to r8) (hk13.e_to vk15)) rfl dX8_remove_15 ?_
  exact vx_ret (g_iret hx hb hr hlk w (Nat.le_of_ble_eq_true rfl) (Nat.le_of_ble_eq_true rfl) dX8_remove_18 ⟨_, ((sX8_remove_u Z i0 j0).trans ((rc_v e6).trans (vc_e e12))), rfl, hk13, (SZ.t sq14 (SZ.t sq9 ⟨rfl, rfl, rfl, rfl⟩))⟩)
