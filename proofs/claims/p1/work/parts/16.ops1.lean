theorem dX8_add_0 : decode cX8_add 0 = .ok (.aload_n 0, 1) := by decide +kernel
theorem dX8_add_1 : decode cX8_add 1 = .ok (.getfield 10, 3) := by decide +kernel
theorem dX8_add_4 : decode cX8_add 4 = .ok (.iload_n 1, 1) := by decide +kernel
theorem dX8_add_5 : decode cX8_add 5 = .ok (.invokevirtual 83, 3) := by decide +kernel
theorem dX8_add_8 : decode cX8_add 8 = .ok (.ifCond .ne 13, 3) := by decide +kernel
theorem dX8_add_11 : decode cX8_add 11 = .ok (.new 87, 3) := by decide +kernel
theorem dX8_add_14 : decode cX8_add 14 = .ok (.dup, 1) := by decide +kernel
theorem dX8_add_15 : decode cX8_add 15 = .ok (.ldc 89, 2) := by decide +kernel
theorem dX8_add_17 : decode cX8_add 17 = .ok (.invokespecial 91, 3) := by decide +kernel
theorem dX8_add_20 : decode cX8_add 20 = .ok (.athrow, 1) := by decide +kernel
theorem dX8_add_21 : decode cX8_add 21 = .ok (.iload_n 1, 1) := by decide +kernel
theorem dX8_add_22 : decode cX8_add 22 = .ok (.invokestatic 94, 3) := by decide +kernel
theorem dX8_add_25 : decode cX8_add 25 = .ok (.ifCond .ne 26, 3) := by decide +kernel
theorem dX8_add_28 : decode cX8_add 28 = .ok (.iload_n 2, 1) := by decide +kernel
theorem dX8_add_29 : decode cX8_add 29 = .ok (.iconst 5, 1) := by decide +kernel
theorem dX8_add_30 : decode cX8_add 30 = .ok (.invokestatic 97, 3) := by decide +kernel
theorem dX8_add_33 : decode cX8_add 33 = .ok (.ifCond .eq 18, 3) := by decide +kernel
theorem dX8_add_36 : decode cX8_add 36 = .ok (.aload_n 0, 1) := by decide +kernel
theorem dX8_add_37 : decode cX8_add 37 = .ok (.getfield 10, 3) := by decide +kernel
theorem dX8_add_40 : decode cX8_add 40 = .ok (.iload_n 1, 1) := by decide +kernel
theorem dX8_add_41 : decode cX8_add 41 = .ok (.invokevirtual 101, 3) := by decide +kernel
theorem dX8_add_44 : decode cX8_add 44 = .ok (.iload_n 2, 1) := by decide +kernel
theorem dX8_add_45 : decode cX8_add 45 = .ok (.iadd, 1) := by decide +kernel
theorem dX8_add_46 : decode cX8_add 46 = .ok (.bipush 8, 2) := by decide +kernel
theorem dX8_add_48 : decode cX8_add 48 = .ok (.if_icmp .le 13, 3) := by decide +kernel
theorem dX8_add_51 : decode cX8_add 51 = .ok (.new 105, 3) := by decide +kernel
theorem dX8_add_54 : decode cX8_add 54 = .ok (.dup, 1) := by decide +kernel
theorem dX8_add_55 : decode cX8_add 55 = .ok (.ldc 107, 2) := by decide +kernel
theorem dX8_add_57 : decode cX8_add 57 = .ok (.invokespecial 109, 3) := by decide +kernel
theorem dX8_add_60 : decode cX8_add 60 = .ok (.athrow, 1) := by decide +kernel
theorem dX8_add_61 : decode cX8_add 61 = .ok (.aload_n 0, 1) := by decide +kernel
theorem dX8_add_62 : decode cX8_add 62 = .ok (.getfield 10, 3) := by decide +kernel
theorem dX8_add_65 : decode cX8_add 65 = .ok (.getfield 110, 3) := by decide +kernel
theorem dX8_add_68 : decode cX8_add 68 = .ok (.bipush 12, 2) := by decide +kernel
theorem dX8_add_70 : decode cX8_add 70 = .ok (.if_icmp .lt 13, 3) := by decide +kernel
theorem dX8_add_73 : decode cX8_add 73 = .ok (.new 113, 3) := by decide +kernel
theorem dX8_add_76 : decode cX8_add 76 = .ok (.dup, 1) := by decide +kernel
theorem dX8_add_77 : decode cX8_add 77 = .ok (.ldc 115, 2) := by decide +kernel
theorem dX8_add_79 : decode cX8_add 79 = .ok (.invokespecial 117, 3) := by decide +kernel
theorem dX8_add_82 : decode cX8_add 82 = .ok (.athrow, 1) := by decide +kernel
theorem dX8_add_83 : decode cX8_add 83 = .ok (.aload_n 0, 1) := by decide +kernel
theorem dX8_add_84 : decode cX8_add 84 = .ok (.getfield 10, 3) := by decide +kernel
theorem dX8_add_87 : decode cX8_add 87 = .ok (.iload_n 1, 1) := by decide +kernel
theorem dX8_add_88 : decode cX8_add 88 = .ok (.iload_n 2, 1) := by decide +kernel
theorem dX8_add_89 : decode cX8_add 89 = .ok (.invokevirtual 118, 3) := by decide +kernel
theorem dX8_add_92 : decode cX8_add 92 = .ok (.ireturn, 1) := by decide +kernel
theorem dX8_classes_0 : decode cX8_classes 0 = .ok (.aload_n 0, 1) := by decide +kernel
theorem dX8_classes_1 : decode cX8_classes 1 = .ok (.getfield 10, 3) := by decide +kernel
theorem dX8_classes_4 : decode cX8_classes 4 = .ok (.getfield 110, 3) := by decide +kernel
theorem dX8_classes_7 : decode cX8_classes 7 = .ok (.ireturn, 1) := by decide +kernel
theorem dX8_fields_0 : decode cX8_fields 0 = .ok (.aload_n 0, 1) := by decide +kernel
theorem dX8_fields_1 : decode cX8_fields 1 = .ok (.getfield 10, 3) := by decide +kernel
theorem dX8_fields_4 : decode cX8_fields 4 = .ok (.iload_n 1, 1) := by decide +kernel
theorem dX8_fields_5 : decode cX8_fields 5 = .ok (.invokevirtual 83, 3) := by decide +kernel
theorem dX8_fields_8 : decode cX8_fields 8 = .ok (.ifCond .ne 13, 3) := by decide +kernel
theorem dX8_fields_11 : decode cX8_fields 11 = .ok (.new 87, 3) := by decide +kernel
theorem dX8_fields_14 : decode cX8_fields 14 = .ok (.dup, 1) := by decide +kernel
theorem dX8_fields_15 : decode cX8_fields 15 = .ok (.ldc 89, 2) := by decide +kernel
theorem dX8_fields_17 : decode cX8_fields 17 = .ok (.invokespecial 91, 3) := by decide +kernel
theorem dX8_fields_20 : decode cX8_fields 20 = .ok (.athrow, 1) := by decide +kernel
theorem dX8_fields_21 : decode cX8_fields 21 = .ok (.aload_n 0, 1) := by decide +kernel
theorem dX8_fields_22 : decode cX8_fields 22 = .ok (.getfield 10, 3) := by decide +kernel
theorem dX8_fields_25 : decode cX8_fields 25 = .ok (.iload_n 1, 1) := by decide +kernel
theorem dX8_fields_26 : decode cX8_fields 26 = .ok (.invokevirtual 101, 3) := by decide +kernel
theorem dX8_fields_29 : decode cX8_fields 29 = .ok (.ireturn, 1) := by decide +kernel
theorem dX8_checkPlaceOfMethod_0 : decode cX8_checkPlaceOfMethod 0 = .ok (.aload_n 0, 1) := by decide +kernel
theorem dX8_checkPlaceOfMethod_1 : decode cX8_checkPlaceOfMethod 1 = .ok (.getfield 10, 3) := by decide +kernel
theorem dX8_checkPlaceOfMethod_4 : decode cX8_checkPlaceOfMethod 4 = .ok (.iload_n 1, 1) := by decide +kernel
theorem dX8_checkPlaceOfMethod_5 : decode cX8_checkPlaceOfMethod 5 = .ok (.invokevirtual 83, 3) := by decide +kernel
theorem dX8_checkPlaceOfMethod_8 : decode cX8_checkPlaceOfMethod 8 = .ok (.ifCond .eq 12, 3) := by decide +kernel
theorem dX8_checkPlaceOfMethod_11 : decode cX8_checkPlaceOfMethod 11 = .ok (.iload_n 2, 1) := by decide +kernel
theorem dX8_checkPlaceOfMethod_12 : decode cX8_checkPlaceOfMethod 12 = .ok (.bipush 16, 2) := by decide +kernel
theorem dX8_checkPlaceOfMethod_14 : decode cX8_checkPlaceOfMethod 14 = .ok (.invokestatic 97, 3) := by decide +kernel
theorem dX8_checkPlaceOfMethod_17 : decode cX8_checkPlaceOfMethod 17 = .ok (.ifCond .ne 13, 3) := by decide +kernel
theorem dX8_checkPlaceOfMethod_20 : decode cX8_checkPlaceOfMethod 20 = .ok (.new 87, 3) := by decide +kernel
theorem dX8_checkPlaceOfMethod_23 : decode cX8_checkPlaceOfMethod 23 = .ok (.dup, 1) := by decide +kernel
theorem dX8_checkPlaceOfMethod_24 : decode cX8_checkPlaceOfMethod 24 = .ok (.ldc 177, 2) := by decide +kernel
theorem dX8_checkPlaceOfMethod_26 : decode cX8_checkPlaceOfMethod 26 = .ok (.invokespecial 91, 3) := by decide +kernel
theorem dX8_checkPlaceOfMethod_29 : decode cX8_checkPlaceOfMethod 29 = .ok (.athrow, 1) := by decide +kernel
theorem dX8_checkPlaceOfMethod_30 : decode cX8_checkPlaceOfMethod 30 = .ok (.return_, 1) := by decide +kernel
theorem dX8_methodAt_0 : decode cX8_methodAt 0 = .ok (.iload_n 1, 1) := by decide +kernel
theorem dX8_methodAt_1 : decode cX8_methodAt 1 = .ok (.bipush 12, 2) := by decide +kernel
theorem dX8_methodAt_3 : decode cX8_methodAt 3 = .ok (.invokestatic 97, 3) := by decide +kernel
theorem dX8_methodAt_6 : decode cX8_methodAt 6 = .ok (.ifCond .eq 12, 3) := by decide +kernel
theorem dX8_methodAt_9 : decode cX8_methodAt 9 = .ok (.iload_n 2, 1) := by decide +kernel
theorem dX8_methodAt_10 : decode cX8_methodAt 10 = .ok (.bipush 16, 2) := by decide +kernel
theorem dX8_methodAt_12 : decode cX8_methodAt 12 = .ok (.invokestatic 97, 3) := by decide +kernel
theorem dX8_methodAt_15 : decode cX8_methodAt 15 = .ok (.ifCond .ne 5, 3) := by decide +kernel
theorem dX8_methodAt_18 : decode cX8_methodAt 18 = .ok (.aconst_null, 1) := by decide +kernel
theorem dX8_methodAt_19 : decode cX8_methodAt 19 = .ok (.areturn, 1) := by decide +kernel
theorem dX8_methodAt_20 : decode cX8_methodAt 20 = .ok (.aload_n 0, 1) := by decide +kernel
theorem dX8_methodAt_21 : decode cX8_methodAt 21 = .ok (.getfield 18, 3) := by decide +kernel
theorem dX8_methodAt_24 : decode cX8_methodAt 24 = .ok (.iload_n 1, 1) := by decide +kernel
theorem dX8_methodAt_25 : decode cX8_methodAt 25 = .ok (.bipush 16, 2) := by decide +kernel
theorem dX8_methodAt_27 : decode cX8_methodAt 27 = .ok (.imul, 1) := by decide +kernel
theorem dX8_methodAt_28 : decode cX8_methodAt 28 = .ok (.iload_n 2, 1) := by decide +kernel
theorem dX8_methodAt_29 : decode cX8_methodAt 29 = .ok (.iadd, 1) := by decide +kernel
theorem dX8_methodAt_30 : decode cX8_methodAt 30 = .ok (.aaload, 1) := by decide +kernel
theorem dX8_methodAt_31 : decode cX8_methodAt 31 = .ok (.areturn, 1) := by decide +kernel
theorem dX8_checkedMethod_0 : decode cX8_checkedMethod 0 = .ok (.aload_n 0, 1) := by decide +kernel
theorem dX8_checkedMethod_1 : decode cX8_checkedMethod 1 = .ok (.iload_n 1, 1) := by decide +kernel
theorem dX8_checkedMethod_2 : decode cX8_checkedMethod 2 = .ok (.iload_n 2, 1) := by decide +kernel
theorem dX8_checkedMethod_3 : decode cX8_checkedMethod 3 = .ok (.invokevirtual 134, 3) := by decide +kernel
theorem dX8_checkedMethod_6 : decode cX8_checkedMethod 6 = .ok (.aload_n 0, 1) := by decide +kernel
theorem dX8_checkedMethod_7 : decode cX8_checkedMethod 7 = .ok (.iload_n 1, 1) := by decide +kernel
theorem dX8_checkedMethod_8 : decode cX8_checkedMethod 8 = .ok (.iload_n 2, 1) := by decide +kernel
theorem dX8_checkedMethod_9 : decode cX8_checkedMethod 9 = .ok (.invokevirtual 179, 3) := by decide +kernel
theorem dX8_checkedMethod_12 : decode cX8_checkedMethod 12 = .ok (.astore_n 3, 1) := by decide +kernel
theorem dX8_checkedMethod_13 : decode cX8_checkedMethod 13 = .ok (.aload_n 3, 1) := by decide +kernel
theorem dX8_checkedMethod_14 : decode cX8_checkedMethod 14 = .ok (.ifnonnull 13, 3) := by decide +kernel
theorem dX8_checkedMethod_17 : decode cX8_checkedMethod 17 = .ok (.new 169, 3) := by decide +kernel
theorem dX8_checkedMethod_20 : decode cX8_checkedMethod 20 = .ok (.dup, 1) := by decide +kernel
theorem dX8_checkedMethod_21 : decode cX8_checkedMethod 21 = .ok (.ldc 182, 2) := by decide +kernel
theorem dX8_checkedMethod_23 : decode cX8_checkedMethod 23 = .ok (.invokespecial 173, 3) := by decide +kernel
theorem dX8_checkedMethod_26 : decode cX8_checkedMethod 26 = .ok (.athrow, 1) := by decide +kernel
theorem dX8_checkedMethod_27 : decode cX8_checkedMethod 27 = .ok (.aload_n 3, 1) := by decide +kernel
theorem dX8_checkedMethod_28 : decode cX8_checkedMethod 28 = .ok (.areturn, 1) := by decide +kernel
section SITES
variable {p : Program} {l : Launch} {e : Env} {R : Room} {s : State} {m : MethodId} {args : Array Value} {below : List Frame} {meth : Method} {c : Code} {H : Heap} {locs : List Loc} {cells slots : Nat} {Q : State → Prop}
variable {pc : Nat} {ls : Array Slot} {rest : List Value} {D : va_G} {ar : Nat → ClassId} {κ : Nat → Nat} {A : Nat → Prop} {a : Nat} {H0 : Heap} {G : gW} {nz nL : Nat} {cc : ByteArray}
theorem gf_RX8_10_12 {A9 : Nat → Prop} {H9 : Heap} {fs : List Value} {v : Value} (S : CallFix p m c cc nL s args lwA RX8) (hE : g_E D vwCl (gT ar) (EX1 κ) A9 s H9) (w : g_S D vwCl A H0 G H locs nz) (ha : G a = some (.inr (12, fs))) (hv : fs[0]? = some v) (hdg : decode cc pc = .ok (.getfield 10, 3)) (kk : W p l e R s m args below meth c H locs cells slots Q (F0 m (pc + 3) ls (v :: rest))) : W p l e R s m args below meth c H locs cells slots Q (F0 m pc ls (.ref a :: rest)) :=
  va_get (ci := 12) (C := RX8) (T := TX8) (N := 13) S.1 S.2.1 S.2.2.2.2 inA_RX8 S.2.2.2.1 hE.1 (g_1 w.1 ha) 0 rfl rfl 0 (by decide) (S.2.2.2.2 _ m_2_6) (fun _ h => h) hv hdg kk
theorem m_3_67 : (Cond.code yX0_has cX0_has 2 (some .boolean)) ∈ lwA := lwA_mk (ck_3 _ (List.mem_of_getElem? (i := 67) rfl)) rfl
theorem m_3_64 : (Cond.methodLink RX8 83 yX0_has) ∈ lwA := lwA_mk (ck_3 _ (List.mem_of_getElem? (i := 64) rfl)) rfl
theorem m_3_65 : (Cond.instanceMethod yX0_has) ∈ lwA := lwA_mk (ck_3 _ (List.mem_of_getElem? (i := 65) rfl)) rfl
theorem m_3_66 : (Cond.selects RX0 yX0_has yX0_has) ∈ lwA := lwA_mk (ck_3 _ (List.mem_of_getElem? (i := 66) rfl)) rfl
theorem k_RX8_83 {args : Array Value} {s : State} {R rm : Room} (hts : ∀ w ∈ lwA, w.before args s = true) (hR : rm.frames + 1 ≤ R.frames ∧ 8 + (2 + 11) + rm.locals ≤ R.locals) : CallW R s args RX8 RX0 83 yX0_has cX0_has 2 (some .boolean) (lwC yX0_has cX0_has 2 (some .boolean)) rm rm.cells rm.slots 1 := cwV 1 hts (gdV m_3_64 m_3_65 m_3_66 m_1_2 m_3_67) rfl rfl rfl (by decide +kernel) hR
theorem m_3_84 : (Cond.code yX8_isOfPlainValues cX8_isOfPlainValues 1 (some .boolean)) ∈ lwA := lwA_mk (ck_3 _ (List.mem_of_getElem? (i := 84) rfl)) rfl
theorem m_3_82 : (Cond.methodLink RX8 94 yX8_isOfPlainValues) ∈ lwA := lwA_mk (ck_3 _ (List.mem_of_getElem? (i := 82) rfl)) rfl
theorem m_3_83 : (Cond.static yX8_isOfPlainValues) ∈ lwA := lwA_mk (ck_3 _ (List.mem_of_getElem? (i := 83) rfl)) rfl
theorem k_RX8_94 {args : Array Value} {s : State} {R rm : Room} (hts : ∀ w ∈ lwA, w.before args s = true) (hR : rm.frames + 1 ≤ R.frames ∧ 8 + (1 + 11) + rm.locals ≤ R.locals) : CallB R s args RX8 94 yX8_isOfPlainValues cX8_isOfPlainValues 1 (some .boolean) (lwC yX8_isOfPlainValues cX8_isOfPlainValues 1 (some .boolean)) rm rm.cells rm.slots 1 ∧ (Cond.static yX8_isOfPlainValues).before args s = true := cwS 1 hts (gdS m_3_82 m_3_83 m_1_1 m_3_84) rfl rfl rfl (by decide +kernel) hR
theorem m_3_89 : (Cond.classLink RX8 105 "java/lang/IllegalArgumentException") ∈ lwA := lwA_mk (ck_3 _ (List.mem_of_getElem? (i := 89) rfl)) rfl
theorem m_1_24 : (Cond.initialized "java/lang/IllegalArgumentException") ∈ lwA := lwA_mk (ck_1 _ (List.mem_of_getElem? (i := 24) rfl)) rfl
theorem th_RX8_105_109_1 : ∀ w ∈ (vx_atS RX8 109 "java/lang/IllegalArgumentException" ["java/lang/RuntimeException", "java/lang/Exception"]).filter goodWord, w ∈ lwA := gA_f (by decide +kernel)
theorem th_RX8_105_109_2 : ∀ w ∈ (vx_atS RX8 109 "java/lang/IllegalArgumentException" ["java/lang/RuntimeException", "java/lang/Exception"]).filter (fun w => !goodWord w), w ∈ lwN ∧ w.onTables = true := by decide +kernel
theorem th_RX8_105_109_3 : ∀ w ∈ Cond.classLink RX8 105 "java/lang/IllegalArgumentException" :: Cond.initialized "java/lang/IllegalArgumentException" :: vx_atS RX8 109 "java/lang/IllegalArgumentException" ["java/lang/RuntimeException", "java/lang/Exception"], vx_ot w = true := by decide +kernel
theorem m_3_85 : (Cond.methodLink RX8 101 yX0_fieldsOf) ∈ lwA := lwA_mk (ck_3 _ (List.mem_of_getElem? (i := 85) rfl)) rfl
theorem k_RX8_101 {args : Array Value} {s : State} {R rm : Room} (hts : ∀ w ∈ lwA, w.before args s = true) (hR : rm.frames + 1 ≤ R.frames ∧ 8 + (2 + 11) + rm.locals ≤ R.locals) : CallW R s args RX8 RX0 101 yX0_fieldsOf cX0_fieldsOf 2 (some .int) (lwC yX0_fieldsOf cX0_fieldsOf 2 (some .int)) rm rm.cells rm.slots 1 := cwV 1 hts (gdV m_3_85 m_3_86 m_3_87 m_1_2 m_3_88) rfl rfl rfl (by decide +kernel) hR
theorem gf_RX8_110_4 {A9 : Nat → Prop} {H9 : Heap} {fs : List Value} {v : Value} (S : CallFix p m c cc nL s args lwA RX8) (hE : g_E D vwCl (gT ar) (EX1 κ) A9 s H9) (w : g_S D vwCl A H0 G H locs nz) (ha : G a = some (.inr (4, fs))) (hv : fs[2]? = some v) (hdg : decode cc pc = .ok (.getfield 110, 3)) (kk : W p l e R s m args below meth c H locs cells slots Q (F0 m (pc + 3) ls (v :: rest))) : W p l e R s m args below meth c H locs cells slots Q (F0 m pc ls (.ref a :: rest)) :=
  va_getN (ci := 4) (C := RX0) (T := TX0) (N := 3) S.1 S.2.1 S.2.2.2.2 inA_RX0 S.2.2.2.1 hE.1 (g_1 w.1 ha) 0 rfl rfl 2 (by decide) (va_Nw.use rfl (hE.2.1.1 _ (ckN_0 _ (List.mem_of_getElem? (i := 0) rfl)))) (fun _ h => h) hv hdg kk
theorem m_3_124 : (Cond.code yX0_enlist cX0_enlist 3 (some .int)) ∈ lwA := lwA_mk (ck_3 _ (List.mem_of_getElem? (i := 124) rfl)) rfl
theorem m_3_121 : (Cond.methodLink RX8 118 yX0_enlist) ∈ lwA := lwA_mk (ck_3 _ (List.mem_of_getElem? (i := 121) rfl)) rfl
theorem m_3_122 : (Cond.instanceMethod yX0_enlist) ∈ lwA := lwA_mk (ck_3 _ (List.mem_of_getElem? (i := 122) rfl)) rfl
theorem m_3_123 : (Cond.selects RX0 yX0_enlist yX0_enlist) ∈ lwA := lwA_mk (ck_3 _ (List.mem_of_getElem? (i := 123) rfl)) rfl
theorem k_RX8_118 {args : Array Value} {s : State} {R rm : Room} (hts : ∀ w ∈ lwA, w.before args s = true) (hR : rm.frames + 1 ≤ R.frames ∧ 8 + (3 + 11) + rm.locals ≤ R.locals) : CallW R s args RX8 RX0 118 yX0_enlist cX0_enlist 3 (some .int) (lwC yX0_enlist cX0_enlist 3 (some .int)) rm rm.cells rm.slots 2 := cwV 2 hts (gdV m_3_121 m_3_122 m_3_123 m_1_2 m_3_124) rfl rfl rfl (by decide +kernel) hR
theorem m_3_69 : (Cond.classLink RX8 87 "java/lang/IndexOutOfBoundsException") ∈ lwA := lwA_mk (ck_3 _ (List.mem_of_getElem? (i := 69) rfl)) rfl
theorem m_1_21 : (Cond.initialized "java/lang/IndexOutOfBoundsException") ∈ lwA := lwA_mk (ck_1 _ (List.mem_of_getElem? (i := 21) rfl)) rfl
theorem th_RX8_87_91_1 : ∀ w ∈ (vx_atS RX8 91 "java/lang/IndexOutOfBoundsException" ["java/lang/RuntimeException", "java/lang/Exception"]).filter goodWord, w ∈ lwA := gA_f (by decide +kernel)
theorem th_RX8_87_91_2 : ∀ w ∈ (vx_atS RX8 91 "java/lang/IndexOutOfBoundsException" ["java/lang/RuntimeException", "java/lang/Exception"]).filter (fun w => !goodWord w), w ∈ lwN ∧ w.onTables = true := by decide +kernel
theorem th_RX8_87_91_3 : ∀ w ∈ Cond.classLink RX8 87 "java/lang/IndexOutOfBoundsException" :: Cond.initialized "java/lang/IndexOutOfBoundsException" :: vx_atS RX8 91 "java/lang/IndexOutOfBoundsException" ["java/lang/RuntimeException", "java/lang/Exception"], vx_ot w = true := by decide +kernel
theorem gf_RX8_18_12 {A9 : Nat → Prop} {H9 : Heap} {fs : List Value} {v : Value} (S : CallFix p m c cc nL s args lwA RX8) (hE : g_E D vwCl (gT ar) (EX1 κ) A9 s H9) (w : g_S D vwCl A H0 G H locs nz) (ha : G a = some (.inr (12, fs))) (hv : fs[1]? = some v) (hdg : decode cc pc = .ok (.getfield 18, 3)) (kk : W p l e R s m args below meth c H locs cells slots Q (F0 m (pc + 3) ls (v :: rest))) : W p l e R s m args below meth c H locs cells slots Q (F0 m pc ls (.ref a :: rest)) :=
  va_get (ci := 12) (C := RX8) (T := TX8) (N := 13) S.1 S.2.1 S.2.2.2.2 inA_RX8 S.2.2.2.1 hE.1 (g_1 w.1 ha) 0 rfl rfl 1 (by decide) (S.2.2.2.2 _ m_2_7) (fun _ h => h) hv hdg kk
theorem m_3_160 : (Cond.code yX8_checkPlaceOfMethod cX8_checkPlaceOfMethod 3 none) ∈ lwA := lwA_mk (ck_3 _ (List.mem_of_getElem? (i := 160) rfl)) rfl
theorem m_3_157 : (Cond.methodLink RX8 134 yX8_checkPlaceOfMethod) ∈ lwA := lwA_mk (ck_3 _ (List.mem_of_getElem? (i := 157) rfl)) rfl
theorem m_3_159 : (Cond.instanceMethod yX8_checkPlaceOfMethod) ∈ lwA := lwA_mk (ck_3 _ (List.mem_of_getElem? (i := 159) rfl)) rfl
theorem ms_8 : (Cond.selects RX8 yX8_checkPlaceOfMethod yX8_checkPlaceOfMethod) ∈ lwA := lwA_mk (List.mem_append_left _ (List.mem_of_getElem? (i := 8) rfl)) rfl
theorem k_RX8_134 {args : Array Value} {s : State} {R rm : Room} (hts : ∀ w ∈ lwA, w.before args s = true) (hR : rm.frames + 1 ≤ R.frames ∧ 8 + (3 + 11) + rm.locals ≤ R.locals) : CallW R s args RX8 RX8 134 yX8_checkPlaceOfMethod cX8_checkPlaceOfMethod 3 none (lwC yX8_checkPlaceOfMethod cX8_checkPlaceOfMethod 3 none) rm rm.cells rm.slots 2 := cwV 2 hts (gdV m_3_157 m_3_159 ms_8 m_1_1 m_3_160) rfl rfl rfl (by decide +kernel) hR
theorem ck_4 : ∀ w ∈ tables_1_4, w ∈ lw_tbl := fun _ h => List.mem_append_right _ (List.mem_append_right _ (List.mem_append_right _ (List.mem_append_right _ (List.mem_append_left _ h))))
theorem m_4_48 : (Cond.code yX8_methodAt cX8_methodAt 3 (some (.object "Sendhouse$Told"))) ∈ lwA := lwA_mk (ck_4 _ (List.mem_of_getElem? (i := 48) rfl)) rfl
theorem m_4_45 : (Cond.methodLink RX8 179 yX8_methodAt) ∈ lwA := lwA_mk (ck_4 _ (List.mem_of_getElem? (i := 45) rfl)) rfl
theorem m_4_47 : (Cond.instanceMethod yX8_methodAt) ∈ lwA := lwA_mk (ck_4 _ (List.mem_of_getElem? (i := 47) rfl)) rfl
theorem ms_12 : (Cond.selects RX8 yX8_methodAt yX8_methodAt) ∈ lwA := lwA_mk (List.mem_append_left _ (List.mem_of_getElem? (i := 12) rfl)) rfl
theorem k_RX8_179 {args : Array Value} {s : State} {R rm : Room} (hts : ∀ w ∈ lwA, w.before args s = true) (hR : rm.frames + 1 ≤ R.frames ∧ 8 + (3 + 11) + rm.locals ≤ R.locals) : CallW R s args RX8 RX8 179 yX8_methodAt cX8_methodAt 3 (some (.object "Sendhouse$Told")) (lwC yX8_methodAt cX8_methodAt 3 (some (.object "Sendhouse$Told"))) rm rm.cells rm.slots 2 := cwV 2 hts (gdV m_4_45 m_4_47 ms_12 m_1_1 m_4_48) rfl rfl rfl (by decide +kernel) hR
theorem m_4_49 : (Cond.classLink RX8 169 "java/util/NoSuchElementException") ∈ lwA := lwA_mk (ck_4 _ (List.mem_of_getElem? (i := 49) rfl)) rfl
theorem m_1_35 : (Cond.initialized "java/util/NoSuchElementException") ∈ lwA := lwA_mk (ck_1 _ (List.mem_of_getElem? (i := 35) rfl)) rfl
end SITES
theorem isB_z {i : Int32} : isB i 0 = 0 := by
  unfold isB
  by_cases h1 : i < 0
  · simp [h1]
  · rw [if_neg h1, if_pos (Int32.not_lt.mp h1)]
theorem aA_z {i : Int32} : aA (fun _ => 0) 0 i = 0 := by unfold aA; split <;> rfl
theorem i32_le_add {f : Int32} (h : ¬ isB f 5 = 0) : (0 : Int32) + f ≤ 8 := by
  obtain ⟨h1, h2⟩ := isB_n.mp h
  simp only [Int32.lt_iff_toInt_lt, Int32.le_iff_toInt_le, Int32.toInt_add] at h1 h2 ⊢
  have e0 : (0 : Int32).toInt = 0 := by decide
  have e5 : (5 : Int32).toInt = 5 := by decide
  have e8 : (8 : Int32).toInt = 8 := by decide
  rw [e0] at h1 ⊢
  rw [e5] at h2
  rw [e8, Int.zero_add]
  have : f.toInt.bmod (2 ^ 32) = f.toInt := Int.bmod_eq_of_le (by omega) (by omega)
  rw [this]
  omega
theorem dead_add {i f : Int32} (h : ¬ isB f 5 = 0) : aA (fun _ => 0) 0 i + f ≤ 8 := by
  rw [aA_z]
  exact i32_le_add h
theorem pA_nt {i : Int32} : pA (fillJ (fun _ => 0) 502511173632 8) 8 i = 502511173632 := by
  unfold pA
  by_cases h : isB i 8 = 0
  · rw [if_pos h]
  · rw [if_neg h]
    obtain ⟨h1, h2⟩ := isB_n.mp h
    unfold fillJ
    rw [if_pos]
    simp only [Int32.lt_iff_toInt_lt, Int32.le_iff_toInt_le] at h1 h2
    have e0 : (0 : Int32).toInt = 0 := by decide
    have e8 : (8 : Int32).toInt = 8 := by decide
    rw [e0] at h1
    rw [e8] at h2
    show i.toInt.toNat < 8
    omega
theorem in_ms {c s : Int32} (h1 : ¬ isB c 12 = 0) (h2 : ¬ isB s 16 = 0) : vp_in (c * 16 + s) 192 := by
  have a1 := vp_in_iff.mp (vinB (n := 12) rfl (by decide) h1)
  have a2 := vp_in_iff.mp (vinB (n := 16) rfl (by decide) h2)
  rw [vp_in_iff, Int32.toInt_add, Int32.toInt_mul]
  have e : (16 : Int32).toInt = 16 := by decide
  rw [e]
  have e1 : (c.toInt * 16).bmod (2 ^ 32) = c.toInt * 16 := Int.bmod_eq_of_le (by omega) (by omega)
  rw [e1]
  have e2 : (c.toInt * 16 + s.toInt).bmod (2 ^ 32) = c.toInt * 16 + s.toInt := Int.bmod_eq_of_le (by omega) (by omega)
  rw [e2]
  omega
theorem thF_z {t : Nat} : thF t 60 (Int32.toNatClampNeg 0) = some t := rfl
def K_add (a f : Int32) : Int32 := if isB a 3 = 0 then 1 else if ¬ isPl a = 0 then 2 else if isB f 5 = 0 then 2 else 0
def K_cls (a : Int32) : Int32 := if isB a 3 = 0 then 1 else 0
def K_meth (c s : Int32) : Int32 := if isB c 3 = 0 then 1 else if isB s 16 = 0 then 1 else 2
def K_hot (a : Int32) : Int32 := if isB a 100 = 0 then 1 else 0
def K_gl (a : Int32) : Int32 := if isB a 8 = 0 then 1 else 0

set_option maxHeartbeats 4000000 in
set_option maxRecDepth 100000 in
theorem h_add (l : Launch) (D : va_G) (ar : Nat → ClassId) (κ : Nat → Nat) (G : gW) (sz : Nat) (x : Nat) (a : Int32) (f : Int32) (q : Nat) (hF : FH ar κ G x q) (hlt : l.stackTraces = false) : vx_Met l yX8_add (lwC yX8_add cX8_add 3 (some .int)) (rD 6 1 6) (g_Pc D vwCl (gT ar) (EX1 κ) G sz [.ref x, .int a, .int f]) (g_Qi D vwCl (g_A G sz) (fun r u => K_add a f = 0 ∧ r = 3)) (gX D (g_A G sz) (fun E u => (E = "java/lang/IndexOutOfBoundsException" ∧ K_add a f = 1) ∨ (E = "java/lang/IllegalArgumentException" ∧ K_add a f = 2) ∨ (E = "java/lang/IllegalStateException" ∧ K_add a f = 3))) 1 6 (g_A G sz) := by
  refine gx_ofW (by decide +kernel) (Nat.le_of_ble_eq_true rfl) ?_
  intro p e s m below meth c ls S hr hlk ht hE w hl
  have hx := S.1
  have hb := S.2.1
  have hl : lv_has ls 3 [(0, .ref x), (1, .int a), (2, .int f)] := hl
  obtain ⟨hxq, f0, f1, f2, f3, f4, f5, f6, f7, f8, f9, f10, f11, f12, f13, f14, f15, f16, f17, f18, f19⟩ := id hF
  refine lv_aload_n hx hb dX8_add_0 rfl (lv_at hl 0 rfl) ?_
  refine gf_RX8_10_12 S hE w f0 rfl dX8_add_1 ?_
  refine lv_iload_n hx hb dX8_add_4 rfl (lv_at hl 1 rfl) ?_
  refine g_calli w (g_runV (As := [.int a]) (rest := []) S hE w hl (c_X0_has l D ar κ G sz q a (q + 1) (q + 2) 3 f1) (k_RX8_83 S.2.2.2.2 ⟨Nat.le_of_ble_eq_true rfl, Nat.le_of_ble_eq_true rfl⟩) f1 rfl rfl rfl rfl (Nat.le_of_ble_eq_true rfl) dX8_add_5 ⟨Nat.le_of_ble_eq_true rfl, Nat.le_of_ble_eq_true rfl⟩) (fun r u H locs hp hnz w => ?_)
  obtain ⟨rfl, rfl⟩ := hp
  dsimp only at w
  refine lv_if_ne (tgt := 21) hx hb dX8_add_8 (by decide) (fun c_8 => ?_) (fun c_8 => ?_)
  · refine lv_iload_n hx hb dX8_add_21 rfl (lv_at hl 1 rfl) ?_
    refine g_calli w (g_runS (As := [.int a]) (rest := []) S hE w hl (c_X8_isOfPlainValues l D ar κ G sz a) (k_RX8_94 S.2.2.2.2 ⟨Nat.le_of_ble_eq_true rfl, Nat.le_of_ble_eq_true rfl⟩) rfl rfl (Nat.le_of_ble_eq_true rfl) dX8_add_22 ⟨Nat.le_of_ble_eq_true rfl, Nat.le_of_ble_eq_true rfl⟩) (fun r u H locs hp hnz w => ?_)
    obtain ⟨rfl, rfl⟩ := hp
    dsimp only at w
    refine lv_if_ne (tgt := 51) hx hb dX8_add_25 (by decide) (fun c_25 => ?_) (fun c_25 => ?_)
    · exact g_throwS (names := ["java/lang/RuntimeException", "java/lang/Exception"]) hlt S hE w hl ht hlk (by decide +kernel) (by decide +kernel) m_3_89 m_1_24 (List.mem_of_getElem? (i := 1) rfl) th_RX8_105_109_1 th_RX8_105_109_2 th_RX8_105_109_3 dX8_add_51 dX8_add_54 dX8_add_55 dX8_add_57 dX8_add_60 (Nat.le_of_ble_eq_true rfl) (Nat.le_of_ble_eq_true rfl) (Nat.le_of_ble_eq_true rfl) (Nat.le_of_ble_eq_true rfl) (Nat.le_of_ble_eq_true rfl) (Nat.le_of_ble_eq_true rfl) (fun _ _ => Or.inr (Or.inl ⟨rfl, by simp [K_add, c_8, c_25]⟩))
    · refine lv_iload_n hx hb dX8_add_28 rfl (lv_at hl 2 rfl) ?_
      refine lv_iconst (v := 5) hx hb dX8_add_29 (by decide) ?_
      refine g_calli w (g_runS (As := [.int f, .int 5]) (rest := []) S hE w hl (c_X8_isBelow l D ar κ G sz f 5) (k_RX8_97 S.2.2.2.2 ⟨Nat.le_of_ble_eq_true rfl, Nat.le_of_ble_eq_true rfl⟩) rfl rfl (Nat.le_of_ble_eq_true rfl) dX8_add_30 ⟨Nat.le_of_ble_eq_true rfl, Nat.le_of_ble_eq_true rfl⟩) (fun r u H locs hp hnz w => ?_)
      obtain ⟨rfl, rfl⟩ := hp
      dsimp only at w
      refine lv_if_eq (tgt := 51) hx hb dX8_add_33 (by decide) (fun c_33 => ?_) (fun c_33 => ?_)
      · exact g_throwS (names := ["java/lang/RuntimeException", "java/lang/Exception"]) hlt S hE w hl ht hlk (by decide +kernel) (by decide +kernel) m_3_89 m_1_24 (List.mem_of_getElem? (i := 1) rfl) th_RX8_105_109_1 th_RX8_105_109_2 th_RX8_105_109_3 dX8_add_51 dX8_add_54 dX8_add_55 dX8_add_57 dX8_add_60 (Nat.le_of_ble_eq_true rfl) (Nat.le_of_ble_eq_true rfl) (Nat.le_of_ble_eq_true rfl) (Nat.le_of_ble_eq_true rfl) (Nat.le_of_ble_eq_true rfl) (Nat.le_of_ble_eq_true rfl) (fun _ _ => Or.inr (Or.inl ⟨rfl, by simp [K_add, c_8, c_25, c_33]⟩))
      · refine lv_aload_n hx hb dX8_add_36 rfl (lv_at hl 0 rfl) ?_
        refine gf_RX8_10_12 S hE w f0 rfl dX8_add_37 ?_
        refine lv_iload_n hx hb dX8_add_40 rfl (lv_at hl 1 rfl) ?_
        refine g_calli w (g_runV (As := [.int a]) (rest := []) S hE w hl (c_X0_fieldsOf l D ar κ G sz q a (q + 1) (q + 2) 3 (fun _ => 0) f1 f3) (k_RX8_101 S.2.2.2.2 ⟨Nat.le_of_ble_eq_true rfl, Nat.le_of_ble_eq_true rfl⟩) f1 rfl rfl rfl rfl (Nat.le_of_ble_eq_true rfl) dX8_add_41 ⟨Nat.le_of_ble_eq_true rfl, Nat.le_of_ble_eq_true rfl⟩) (fun r u H locs hp hnz w => ?_)
        obtain ⟨rfl, rfl⟩ := hp
        dsimp only at w
        refine lv_iload_n hx hb dX8_add_44 rfl (lv_at hl 2 rfl) ?_
        refine lv_iadd hx hb dX8_add_45 ?_
        refine lv_bipush (v := 8) hx hb dX8_add_46 (by decide) ?_
        refine lv_icmp_le (tgt := 61) hx hb dX8_add_48 (by decide) (fun c_48 => ?_) (fun c_48 => absurd (dead_add c_33) c_48)
        refine lv_aload_n hx hb dX8_add_61 rfl (lv_at hl 0 rfl) ?_
        refine gf_RX8_10_12 S hE w f0 rfl dX8_add_62 ?_
        refine gf_RX8_110_4 S hE w f1 rfl dX8_add_65 ?_
        refine lv_bipush (v := 12) hx hb dX8_add_68 (by decide) ?_
        refine lv_icmp_lt (tgt := 83) hx hb dX8_add_70 (by decide) (fun _ => ?_) (fun c => absurd (by decide) c)
        refine lv_aload_n hx hb dX8_add_83 rfl (lv_at hl 0 rfl) ?_
        refine gf_RX8_10_12 S hE w f0 rfl dX8_add_84 ?_
        refine lv_iload_n hx hb dX8_add_87 rfl (lv_at hl 1 rfl) ?_
        refine lv_iload_n hx hb dX8_add_88 rfl (lv_at hl 2 rfl) ?_
        refine g_calli w (g_runV (As := [.int a, .int f]) (rest := []) S hE w hl (c_X0_enlist l D ar κ G sz q a f (q + 1) (q + 2) 3 (upd (fun _ => 0) (Int32.toNatClampNeg 0) (-1)) (fun _ => 0) f1 f2 f3 (by omega) (by decide)) (k_RX8_118 S.2.2.2.2 ⟨Nat.le_of_ble_eq_true rfl, Nat.le_of_ble_eq_true rfl⟩) f1 rfl rfl rfl rfl (Nat.le_of_ble_eq_true rfl) dX8_add_89 ⟨Nat.le_of_ble_eq_true rfl, Nat.le_of_ble_eq_true rfl⟩) (fun r u H locs hp hnz w => ?_)
        obtain ⟨rfl, rfl⟩ := hp
        dsimp only at w
        exact vx_ret (g_iret hx hb hr hlk w (Nat.le_of_ble_eq_true rfl) (Nat.le_of_ble_eq_true rfl) dX8_add_92 (by first | (simp [K_add, c_8, c_25, c_33, c_48]; done) | (simp [K_add, c_8, c_25, c_33, c_48]; decide)))
  · exact g_throwS (names := ["java/lang/RuntimeException", "java/lang/Exception"]) hlt S hE w hl ht hlk (by decide +kernel) (by decide +kernel) m_3_69 m_1_21 (List.mem_of_getElem? (i := 0) rfl) th_RX8_87_91_1 th_RX8_87_91_2 th_RX8_87_91_3 dX8_add_11 dX8_add_14 dX8_add_15 dX8_add_17 dX8_add_20 (Nat.le_of_ble_eq_true rfl) (Nat.le_of_ble_eq_true rfl) (Nat.le_of_ble_eq_true rfl) (Nat.le_of_ble_eq_true rfl) (Nat.le_of_ble_eq_true rfl) (Nat.le_of_ble_eq_true rfl) (fun _ _ => Or.inl ⟨rfl, by simp [K_add, c_8]⟩)
set_option maxHeartbeats 4000000 in
set_option maxRecDepth 100000 in
theorem h_classes (l : Launch) (D : va_G) (ar : Nat → ClassId) (κ : Nat → Nat) (G : gW) (sz : Nat) (x : Nat) (q : Nat) (hF : FH ar κ G x q) : Met l yX8_classes (lwC yX8_classes cX8_classes 1 (some .int)) (rD 1 0 0) (g_Pc D vwCl (gT ar) (EX1 κ) G sz [.ref x]) (g_Qi D vwCl (g_A G sz) (fun r u => r = 3)) 0 0 (g_A G sz) := by
  refine g_ofW (by decide +kernel) (Nat.le_of_ble_eq_true rfl) ?_
  intro p e s m below meth c ls S hr hlk hin hE w hl
  have hx := S.1
  have hb := S.2.1
  have hl : lv_has ls 1 [(0, .ref x)] := hl
  obtain ⟨hxq, f0, f1, f2, f3, f4, f5, f6, f7, f8, f9, f10, f11, f12, f13, f14, f15, f16, f17, f18, f19⟩ := id hF
  refine lv_aload_n hx hb dX8_classes_0 rfl (lv_at hl 0 rfl) ?_
  refine gf_RX8_10_12 S hE w f0 rfl dX8_classes_1 ?_
  refine gf_RX8_110_4 S hE w f1 rfl dX8_classes_4 ?_
  exact g_iret hx hb hr hlk w (Nat.le_of_ble_eq_true rfl) (Nat.le_of_ble_eq_true rfl) dX8_classes_7 rfl
set_option maxHeartbeats 4000000 in
set_option maxRecDepth 100000 in
theorem h_fields (l : Launch) (D : va_G) (ar : Nat → ClassId) (κ : Nat → Nat) (G : gW) (sz : Nat) (x : Nat) (a : Int32) (q : Nat) (hF : FH ar κ G x q) (hlt : l.stackTraces = false) : vx_Met l yX8_fields (lwC yX8_fields cX8_fields 2 (some .int)) (rD 6 1 6) (g_Pc D vwCl (gT ar) (EX1 κ) G sz [.ref x, .int a]) (g_Qi D vwCl (g_A G sz) (fun r u => K_cls a = 0 ∧ r = 0)) (gX D (g_A G sz) (fun E u => (E = "java/lang/IndexOutOfBoundsException" ∧ K_cls a = 1))) 1 6 (g_A G sz) := by
  refine gx_ofW (by decide +kernel) (Nat.le_of_ble_eq_true rfl) ?_
  intro p e s m below meth c ls S hr hlk ht hE w hl
  have hx := S.1
  have hb := S.2.1
  have hl : lv_has ls 2 [(0, .ref x), (1, .int a)] := hl
  obtain ⟨hxq, f0, f1, f2, f3, f4, f5, f6, f7, f8, f9, f10, f11, f12, f13, f14, f15, f16, f17, f18, f19⟩ := id hF
  refine lv_aload_n hx hb dX8_fields_0 rfl (lv_at hl 0 rfl) ?_
  refine gf_RX8_10_12 S hE w f0 rfl dX8_fields_1 ?_
  refine lv_iload_n hx hb dX8_fields_4 rfl (lv_at hl 1 rfl) ?_
  refine g_calli w (g_runV (As := [.int a]) (rest := []) S hE w hl (c_X0_has l D ar κ G sz q a (q + 1) (q + 2) 3 f1) (k_RX8_83 S.2.2.2.2 ⟨Nat.le_of_ble_eq_true rfl, Nat.le_of_ble_eq_true rfl⟩) f1 rfl rfl rfl rfl (Nat.le_of_ble_eq_true rfl) dX8_fields_5 ⟨Nat.le_of_ble_eq_true rfl, Nat.le_of_ble_eq_true rfl⟩) (fun r u H locs hp hnz w => ?_)
  obtain ⟨rfl, rfl⟩ := hp
  dsimp only at w
  refine lv_if_ne (tgt := 21) hx hb dX8_fields_8 (by decide) (fun c_8 => ?_) (fun c_8 => ?_)
  · refine lv_aload_n hx hb dX8_fields_21 rfl (lv_at hl 0 rfl) ?_
    refine gf_RX8_10_12 S hE w f0 rfl dX8_fields_22 ?_
    refine lv_iload_n hx hb dX8_fields_25 rfl (lv_at hl 1 rfl) ?_
    refine g_calli w (g_runV (As := [.int a]) (rest := []) S hE w hl (c_X0_fieldsOf l D ar κ G sz q a (q + 1) (q + 2) 3 (fun _ => 0) f1 f3) (k_RX8_101 S.2.2.2.2 ⟨Nat.le_of_ble_eq_true rfl, Nat.le_of_ble_eq_true rfl⟩) f1 rfl rfl rfl rfl (Nat.le_of_ble_eq_true rfl) dX8_fields_26 ⟨Nat.le_of_ble_eq_true rfl, Nat.le_of_ble_eq_true rfl⟩) (fun r u H locs hp hnz w => ?_)
    obtain ⟨rfl, rfl⟩ := hp
    dsimp only at w
    exact vx_ret (g_iret hx hb hr hlk w (Nat.le_of_ble_eq_true rfl) (Nat.le_of_ble_eq_true rfl) dX8_fields_29 ⟨by simp [K_cls, c_8], aA_z⟩)
  · exact g_throwS (names := ["java/lang/RuntimeException", "java/lang/Exception"]) hlt S hE w hl ht hlk (by decide +kernel) (by decide +kernel) m_3_69 m_1_21 (List.mem_of_getElem? (i := 0) rfl) th_RX8_87_91_1 th_RX8_87_91_2 th_RX8_87_91_3 dX8_fields_11 dX8_fields_14 dX8_fields_15 dX8_fields_17 dX8_fields_20 (Nat.le_of_ble_eq_true rfl) (Nat.le_of_ble_eq_true rfl) (Nat.le_of_ble_eq_true rfl) (Nat.le_of_ble_eq_true rfl) (Nat.le_of_ble_eq_true rfl) (Nat.le_of_ble_eq_true rfl) (fun _ _ => ⟨rfl, by simp [K_cls, c_8]⟩)
set_option maxHeartbeats 4000000 in
set_option maxRecDepth 100000 in
theorem h_checkPlace (l : Launch) (D : va_G) (ar : Nat → ClassId) (κ : Nat → Nat) (G : gW) (sz : Nat) (x : Nat) (cl : Int32) (se : Int32) (q : Nat) (hF : FH ar κ G x q) (hlt : l.stackTraces = false) : vx_Met l yX8_checkPlaceOfMethod (lwC yX8_checkPlaceOfMethod cX8_checkPlaceOfMethod 3 none) (rD 6 1 6) (g_Pc D vwCl (gT ar) (EX1 κ) G sz [.ref x, .int cl, .int se]) (g_Qv D vwCl (g_A G sz) (fun u => (¬ isB cl 3 = 0 ∧ ¬ isB se 16 = 0) ∧ u = (G, sz))) (gX D (g_A G sz) (fun E u => (E = "java/lang/IndexOutOfBoundsException" ∧ (isB cl 3 = 0 ∨ isB se 16 = 0)))) 1 6 (g_A G sz) := by
  refine gx_ofW (by decide +kernel) (Nat.le_of_ble_eq_true rfl) ?_
  intro p e s m below meth c ls S hr hlk ht hE w hl
  have hx := S.1
  have hb := S.2.1
  have hl : lv_has ls 3 [(0, .ref x), (1, .int cl), (2, .int se)] := hl
  obtain ⟨hxq, f0, f1, f2, f3, f4, f5, f6, f7, f8, f9, f10, f11, f12, f13, f14, f15, f16, f17, f18, f19⟩ := id hF
  refine lv_aload_n hx hb dX8_checkPlaceOfMethod_0 rfl (lv_at hl 0 rfl) ?_
  refine gf_RX8_10_12 S hE w f0 rfl dX8_checkPlaceOfMethod_1 ?_
  refine lv_iload_n hx hb dX8_checkPlaceOfMethod_4 rfl (lv_at hl 1 rfl) ?_
  refine g_calli w (g_runV (As := [.int cl]) (rest := []) S hE w hl (c_X0_has l D ar κ G sz q cl (q + 1) (q + 2) 3 f1) (k_RX8_83 S.2.2.2.2 ⟨Nat.le_of_ble_eq_true rfl, Nat.le_of_ble_eq_true rfl⟩) f1 rfl rfl rfl rfl (Nat.le_of_ble_eq_true rfl) dX8_checkPlaceOfMethod_5 ⟨Nat.le_of_ble_eq_true rfl, Nat.le_of_ble_eq_true rfl⟩) (fun r u H locs hp hnz w => ?_)
  obtain ⟨rfl, rfl⟩ := hp
  dsimp only at w
  refine lv_if_eq (tgt := 20) hx hb dX8_checkPlaceOfMethod_8 (by decide) (fun c_8 => ?_) (fun c_8 => ?_)
  · exact g_throwS (names := ["java/lang/RuntimeException", "java/lang/Exception"]) hlt S hE w hl ht hlk (by decide +kernel) (by decide +kernel) m_3_69 m_1_21 (List.mem_of_getElem? (i := 5) rfl) th_RX8_87_91_1 th_RX8_87_91_2 th_RX8_87_91_3 dX8_checkPlaceOfMethod_20 dX8_checkPlaceOfMethod_23 dX8_checkPlaceOfMethod_24 dX8_checkPlaceOfMethod_26 dX8_checkPlaceOfMethod_29 (Nat.le_of_ble_eq_true rfl) (Nat.le_of_ble_eq_true rfl) (Nat.le_of_ble_eq_true rfl) (Nat.le_of_ble_eq_true rfl) (Nat.le_of_ble_eq_true rfl) (Nat.le_of_ble_eq_true rfl) (fun _ _ => ⟨rfl, by simp [c_8]⟩)
  · refine lv_iload_n hx hb dX8_checkPlaceOfMethod_11 rfl (lv_at hl 2 rfl) ?_
    refine lv_bipush (v := 16) hx hb dX8_checkPlaceOfMethod_12 (by decide) ?_
    refine g_calli w (g_runS (As := [.int se, .int 16]) (rest := []) S hE w hl (c_X8_isBelow l D ar κ G sz se 16) (k_RX8_97 S.2.2.2.2 ⟨Nat.le_of_ble_eq_true rfl, Nat.le_of_ble_eq_true rfl⟩) rfl rfl (Nat.le_of_ble_eq_true rfl) dX8_checkPlaceOfMethod_14 ⟨Nat.le_of_ble_eq_true rfl, Nat.le_of_ble_eq_true rfl⟩) (fun r u H locs hp hnz w => ?_)
    obtain ⟨rfl, rfl⟩ := hp
    dsimp only at w
    refine lv_if_ne (tgt := 30) hx hb dX8_checkPlaceOfMethod_17 (by decide) (fun c_17 => ?_) (fun c_17 => ?_)
    · exact vx_ret (g_vret hx hb hr hlk w (Nat.le_of_ble_eq_true rfl) (Nat.le_of_ble_eq_true rfl) dX8_checkPlaceOfMethod_30 ⟨⟨c_8, c_17⟩, rfl⟩)
    · exact g_throwS (names := ["java/lang/RuntimeException", "java/lang/Exception"]) hlt S hE w hl ht hlk (by decide +kernel) (by decide +kernel) m_3_69 m_1_21 (List.mem_of_getElem? (i := 5) rfl) th_RX8_87_91_1 th_RX8_87_91_2 th_RX8_87_91_3 dX8_checkPlaceOfMethod_20 dX8_checkPlaceOfMethod_23 dX8_checkPlaceOfMethod_24 dX8_checkPlaceOfMethod_26 dX8_checkPlaceOfMethod_29 (Nat.le_of_ble_eq_true rfl) (Nat.le_of_ble_eq_true rfl) (Nat.le_of_ble_eq_true rfl) (Nat.le_of_ble_eq_true rfl) (Nat.le_of_ble_eq_true rfl) (Nat.le_of_ble_eq_true rfl) (fun _ _ => ⟨rfl, by simp [c_8, c_17]⟩)
set_option maxHeartbeats 4000000 in
set_option maxRecDepth 100000 in
theorem h_methodAt (l : Launch) (D : va_G) (ar : Nat → ClassId) (κ : Nat → Nat) (G : gW) (sz : Nat) (x : Nat) (cl : Int32) (se : Int32) (q : Nat) (hF : FH ar κ G x q) : Met l yX8_methodAt (lwC yX8_methodAt cX8_methodAt 3 (some (.object "Sendhouse$Told"))) (rD 2 0 0) (g_Pc D vwCl (gT ar) (EX1 κ) G sz [.ref x, .int cl, .int se]) (g_Qq D vwCl (g_A G sz) (fun r u => r = none ∧ u = (G, sz))) 0 0 (g_A G sz) := by
  refine g_ofW (by decide +kernel) (Nat.le_of_ble_eq_true rfl) ?_
  intro p e s m below meth c ls S hr hlk hin hE w hl
  have hx := S.1
  have hb := S.2.1
  have hl : lv_has ls 3 [(0, .ref x), (1, .int cl), (2, .int se)] := hl
  obtain ⟨hxq, f0, f1, f2, f3, f4, f5, f6, f7, f8, f9, f10, f11, f12, f13, f14, f15, f16, f17, f18, f19⟩ := id hF
  refine lv_iload_n hx hb dX8_methodAt_0 rfl (lv_at hl 1 rfl) ?_
  refine lv_bipush (v := 12) hx hb dX8_methodAt_1 (by decide) ?_
  refine g_calli w (g_runS (As := [.int cl, .int 12]) (rest := []) S hE w hl (c_X8_isBelow l D ar κ G sz cl 12) (k_RX8_97 S.2.2.2.2 ⟨Nat.le_of_ble_eq_true rfl, Nat.le_of_ble_eq_true rfl⟩) rfl rfl (Nat.le_of_ble_eq_true rfl) dX8_methodAt_3 ⟨Nat.le_of_ble_eq_true rfl, Nat.le_of_ble_eq_true rfl⟩) (fun r u H locs hp hnz w => ?_)
  obtain ⟨rfl, rfl⟩ := hp
  dsimp only at w
  refine lv_if_eq (tgt := 18) hx hb dX8_methodAt_6 (by decide) (fun c_6 => ?_) (fun c_6 => ?_)
  · refine lv_null hx hb dX8_methodAt_18 ?_
    exact g_qret (r := none) hx hb hr (Or.inl ⟨_, rfl⟩) hlk w (Nat.le_of_ble_eq_true rfl) (Nat.le_of_ble_eq_true rfl) dX8_methodAt_19 ⟨rfl, rfl⟩
  · refine lv_iload_n hx hb dX8_methodAt_9 rfl (lv_at hl 2 rfl) ?_
    refine lv_bipush (v := 16) hx hb dX8_methodAt_10 (by decide) ?_
    refine g_calli w (g_runS (As := [.int se, .int 16]) (rest := []) S hE w hl (c_X8_isBelow l D ar κ G sz se 16) (k_RX8_97 S.2.2.2.2 ⟨Nat.le_of_ble_eq_true rfl, Nat.le_of_ble_eq_true rfl⟩) rfl rfl (Nat.le_of_ble_eq_true rfl) dX8_methodAt_12 ⟨Nat.le_of_ble_eq_true rfl, Nat.le_of_ble_eq_true rfl⟩) (fun r u H locs hp hnz w => ?_)
    obtain ⟨rfl, rfl⟩ := hp
    dsimp only at w
    refine lv_if_ne (tgt := 20) hx hb dX8_methodAt_15 (by decide) (fun c_15 => ?_) (fun c_15 => ?_)
    · refine lv_aload_n hx hb dX8_methodAt_20 rfl (lv_at hl 0 rfl) ?_
      refine gf_RX8_18_12 S hE w f0 rfl dX8_methodAt_21 ?_
      refine lv_iload_n hx hb dX8_methodAt_24 rfl (lv_at hl 1 rfl) ?_
      refine lv_bipush (v := 16) hx hb dX8_methodAt_25 (by decide) ?_
      refine lv_imul hx hb dX8_methodAt_27 ?_
      refine lv_iload_n hx hb dX8_methodAt_28 rfl (lv_at hl 2 rfl) ?_
      refine lv_iadd hx hb dX8_methodAt_29 ?_
      refine va_aldq hx hb hE.1 (g_1 w.1 f4) 0 8 rfl rfl (in_ms c_6 c_15) dX8_methodAt_30 ?_
      show W p l e _ s m _ below meth c H _ _ _ _ (F0 m 31 ls (.null :: _))
      exact g_qret (r := none) hx hb hr (Or.inl ⟨_, rfl⟩) hlk w (Nat.le_of_ble_eq_true rfl) (Nat.le_of_ble_eq_true rfl) dX8_methodAt_31 ⟨rfl, rfl⟩
    · refine lv_null hx hb dX8_methodAt_18 ?_
      exact g_qret (r := none) hx hb hr (Or.inl ⟨_, rfl⟩) hlk w (Nat.le_of_ble_eq_true rfl) (Nat.le_of_ble_eq_true rfl) dX8_methodAt_19 ⟨rfl, rfl⟩
set_option maxHeartbeats 4000000 in
set_option maxRecDepth 100000 in
theorem h_checkedMethod (l : Launch) (D : va_G) (ar : Nat → ClassId) (κ : Nat → Nat) (G : gW) (sz : Nat) (x : Nat) (cl : Int32) (se : Int32) (q : Nat) (hF : FH ar κ G x q) (hlt : l.stackTraces = false) : vx_Met l yX8_checkedMethod (lwC yX8_checkedMethod cX8_checkedMethod 4 (some (.object "Sendhouse$Told"))) (rD 7 2 12) (g_Pc D vwCl (gT ar) (EX1 κ) G sz [.ref x, .int cl, .int se]) (g_Qq D vwCl (g_A G sz) (fun r u => False)) (gX D (g_A G sz) (fun E u => (E = "java/lang/IndexOutOfBoundsException" ∧ K_meth cl se = 1) ∨ (E = "java/util/NoSuchElementException" ∧ K_meth cl se = 2))) 2 12 (g_A G sz) := by
  refine gx_ofW (by decide +kernel) (Nat.le_of_ble_eq_true rfl) ?_
  intro p e s m below meth c ls S hr hlk ht hE w hl
  have hx := S.1
  have hb := S.2.1
  have hl : lv_has ls 4 [(0, .ref x), (1, .int cl), (2, .int se)] := hl
  obtain ⟨hxq, f0, f1, f2, f3, f4, f5, f6, f7, f8, f9, f10, f11, f12, f13, f14, f15, f16, f17, f18, f19⟩ := id hF
  refine lv_aload_n hx hb dX8_checkedMethod_0 rfl (lv_at hl 0 rfl) ?_
  refine lv_iload_n hx hb dX8_checkedMethod_1 rfl (lv_at hl 1 rfl) ?_
  refine lv_iload_n hx hb dX8_checkedMethod_2 rfl (lv_at hl 2 rfl) ?_
  refine gx_callv w (gx_runV (As := [.int cl, .int se]) (rest := []) S hE w hl (h_checkPlace l D ar κ G sz x cl se q hF hlt) (k_RX8_134 S.2.2.2.2 ⟨Nat.le_of_ble_eq_true rfl, Nat.le_of_ble_eq_true rfl⟩) f0 rfl rfl rfl rfl (Nat.le_of_ble_eq_true rfl) dX8_checkedMethod_3 ⟨Nat.le_of_ble_eq_true rfl, Nat.le_of_ble_eq_true rfl⟩) (fun E ce q9 u H locs hp hnz w hce hv hcl => g_pass ht hlk w hce hv hcl (by rcases hp with ⟨rfl, h9 | h9⟩ <;> exact Or.inl ⟨rfl, by simp [K_meth, h9]⟩) (Nat.le_of_ble_eq_true rfl) (Nat.le_of_ble_eq_true rfl)) (fun u H locs hp hnz w => ?_)
  obtain ⟨n_3, rfl⟩ := hp
  dsimp only at w
  refine lv_aload_n hx hb dX8_checkedMethod_6 rfl (lv_at hl 0 rfl) ?_
  refine lv_iload_n hx hb dX8_checkedMethod_7 rfl (lv_at hl 1 rfl) ?_
  refine lv_iload_n hx hb dX8_checkedMethod_8 rfl (lv_at hl 2 rfl) ?_
  refine g_callq w (g_runV (As := [.int cl, .int se]) (rest := []) S hE w hl (h_methodAt l D ar κ G sz x cl se q hF) (k_RX8_179 S.2.2.2.2 ⟨Nat.le_of_ble_eq_true rfl, Nat.le_of_ble_eq_true rfl⟩) f0 rfl rfl rfl rfl (Nat.le_of_ble_eq_true rfl) dX8_checkedMethod_9 ⟨Nat.le_of_ble_eq_true rfl, Nat.le_of_ble_eq_true rfl⟩) (fun r u H locs hp hnz w => ?_)
  obtain ⟨rfl, rfl⟩ := hp
  show W p l e _ s m _ below meth c H _ _ _ _ (F0 m _ ls (.null :: _))
  dsimp only at w
  refine lv_astore_nN (lv' := [(3, .null), (0, .ref x), (1, .int cl), (2, .int se)]) hx hb dX8_checkedMethod_12 rfl hl (by decide) rfl (fun ls hl => ?_)
  refine lv_aload_nN hx hb dX8_checkedMethod_13 rfl (lv_at hl 0 rfl) ?_
  refine lv_ifnonnullN hx hb dX8_checkedMethod_14 ?_
  exact g_throwN (Y := "java/lang/RuntimeException") (r := ["java/lang/Exception"]) hlt S hE w hl ht hlk (by decide +kernel) (by decide +kernel) (by decide +kernel) m_4_49 m_1_35 (List.mem_of_getElem? (i := 8) rfl) nse_1 nse_2 nse_3 dX8_checkedMethod_17 dX8_checkedMethod_20 dX8_checkedMethod_21 dX8_checkedMethod_23 dX8_checkedMethod_26 (Nat.le_of_ble_eq_true rfl) (Nat.le_of_ble_eq_true rfl) (Nat.le_of_ble_eq_true rfl) (Nat.le_of_ble_eq_true rfl) (Nat.le_of_ble_eq_true rfl) (Nat.le_of_ble_eq_true rfl) (fun _ _ => Or.inr ⟨rfl, by simp [K_meth, n_3.1, n_3.2]⟩)
