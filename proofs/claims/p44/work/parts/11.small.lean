theorem dX8_placeAt_0 : decode cX8_placeAt 0 = .ok (.iload_n 1, 1) := by decide +kernel
theorem dX8_placeAt_1 : decode cX8_placeAt 1 = .ok (.aload_n 0, 1) := by decide +kernel
theorem dX8_placeAt_2 : decode cX8_placeAt 2 = .ok (.arraylength, 1) := by decide +kernel
theorem dX8_placeAt_3 : decode cX8_placeAt 3 = .ok (.invokestatic 97, 3) := by decide +kernel
theorem dX8_placeAt_6 : decode cX8_placeAt 6 = .ok (.ifCond .eq 9, 3) := by decide +kernel
theorem dX8_placeAt_9 : decode cX8_placeAt 9 = .ok (.aload_n 0, 1) := by decide +kernel
theorem dX8_placeAt_10 : decode cX8_placeAt 10 = .ok (.iload_n 1, 1) := by decide +kernel
theorem dX8_placeAt_11 : decode cX8_placeAt 11 = .ok (.laload, 1) := by decide +kernel
theorem dX8_placeAt_12 : decode cX8_placeAt 12 = .ok (.goto 6, 3) := by decide +kernel
theorem dX8_placeAt_15 : decode cX8_placeAt 15 = .ok (.ldc2_w 60, 3) := by decide +kernel
theorem dX8_placeAt_18 : decode cX8_placeAt 18 = .ok (.lreturn, 1) := by decide +kernel
theorem dX8_putAt_0 : decode cX8_putAt 0 = .ok (.iload_n 1, 1) := by decide +kernel
theorem dX8_putAt_1 : decode cX8_putAt 1 = .ok (.aload_n 0, 1) := by decide +kernel
theorem dX8_putAt_2 : decode cX8_putAt 2 = .ok (.arraylength, 1) := by decide +kernel
theorem dX8_putAt_3 : decode cX8_putAt 3 = .ok (.invokestatic 97, 3) := by decide +kernel
theorem dX8_putAt_6 : decode cX8_putAt 6 = .ok (.ifCond .eq 7, 3) := by decide +kernel
theorem dX8_putAt_9 : decode cX8_putAt 9 = .ok (.aload_n 0, 1) := by decide +kernel
theorem dX8_putAt_10 : decode cX8_putAt 10 = .ok (.iload_n 1, 1) := by decide +kernel
theorem dX8_putAt_11 : decode cX8_putAt 11 = .ok (.lload_n 2, 1) := by decide +kernel
theorem dX8_putAt_12 : decode cX8_putAt 12 = .ok (.lastore, 1) := by decide +kernel
theorem dX8_putAt_13 : decode cX8_putAt 13 = .ok (.return_, 1) := by decide +kernel
theorem dX0_has_0 : decode cX0_has 0 = .ok (.iload_n 1, 1) := by decide +kernel
theorem dX0_has_1 : decode cX0_has 1 = .ok (.aload_n 0, 1) := by decide +kernel
theorem dX0_has_2 : decode cX0_has 2 = .ok (.getfield 18, 3) := by decide +kernel
theorem dX0_has_5 : decode cX0_has 5 = .ok (.invokestatic 22, 3) := by decide +kernel
theorem dX0_has_8 : decode cX0_has 8 = .ok (.ireturn, 1) := by decide +kernel
theorem dX0_aboveOf_0 : decode cX0_aboveOf 0 = .ok (.iload_n 1, 1) := by decide +kernel
theorem dX0_aboveOf_1 : decode cX0_aboveOf 1 = .ok (.aload_n 0, 1) := by decide +kernel
theorem dX0_aboveOf_2 : decode cX0_aboveOf 2 = .ok (.getfield 9, 3) := by decide +kernel
theorem dX0_aboveOf_5 : decode cX0_aboveOf 5 = .ok (.arraylength, 1) := by decide +kernel
theorem dX0_aboveOf_6 : decode cX0_aboveOf 6 = .ok (.invokestatic 22, 3) := by decide +kernel
theorem dX0_aboveOf_9 : decode cX0_aboveOf 9 = .ok (.ifCond .eq 12, 3) := by decide +kernel
theorem dX0_aboveOf_12 : decode cX0_aboveOf 12 = .ok (.aload_n 0, 1) := by decide +kernel
theorem dX0_aboveOf_13 : decode cX0_aboveOf 13 = .ok (.getfield 9, 3) := by decide +kernel
theorem dX0_aboveOf_16 : decode cX0_aboveOf 16 = .ok (.iload_n 1, 1) := by decide +kernel
theorem dX0_aboveOf_17 : decode cX0_aboveOf 17 = .ok (.iaload, 1) := by decide +kernel
theorem dX0_aboveOf_18 : decode cX0_aboveOf 18 = .ok (.goto 4, 3) := by decide +kernel
theorem dX0_aboveOf_21 : decode cX0_aboveOf 21 = .ok (.iconst (-1), 1) := by decide +kernel
theorem dX0_aboveOf_22 : decode cX0_aboveOf 22 = .ok (.ireturn, 1) := by decide +kernel
theorem dX0_fieldsOf_0 : decode cX0_fieldsOf 0 = .ok (.iload_n 1, 1) := by decide +kernel
theorem dX0_fieldsOf_1 : decode cX0_fieldsOf 1 = .ok (.aload_n 0, 1) := by decide +kernel
theorem dX0_fieldsOf_2 : decode cX0_fieldsOf 2 = .ok (.getfield 15, 3) := by decide +kernel
theorem dX0_fieldsOf_5 : decode cX0_fieldsOf 5 = .ok (.arraylength, 1) := by decide +kernel
theorem dX0_fieldsOf_6 : decode cX0_fieldsOf 6 = .ok (.invokestatic 22, 3) := by decide +kernel
theorem dX0_fieldsOf_9 : decode cX0_fieldsOf 9 = .ok (.ifCond .eq 12, 3) := by decide +kernel
theorem dX0_fieldsOf_12 : decode cX0_fieldsOf 12 = .ok (.aload_n 0, 1) := by decide +kernel
theorem dX0_fieldsOf_13 : decode cX0_fieldsOf 13 = .ok (.getfield 15, 3) := by decide +kernel
theorem dX0_fieldsOf_16 : decode cX0_fieldsOf 16 = .ok (.iload_n 1, 1) := by decide +kernel
theorem dX0_fieldsOf_17 : decode cX0_fieldsOf 17 = .ok (.iaload, 1) := by decide +kernel
theorem dX0_fieldsOf_18 : decode cX0_fieldsOf 18 = .ok (.goto 4, 3) := by decide +kernel
theorem dX0_fieldsOf_21 : decode cX0_fieldsOf 21 = .ok (.iconst 0, 1) := by decide +kernel
theorem dX0_fieldsOf_22 : decode cX0_fieldsOf 22 = .ok (.ireturn, 1) := by decide +kernel
theorem dX0_enlist_0 : decode cX0_enlist 0 = .ok (.aload_n 0, 1) := by decide +kernel
theorem dX0_enlist_1 : decode cX0_enlist 1 = .ok (.getfield 18, 3) := by decide +kernel
theorem dX0_enlist_4 : decode cX0_enlist 4 = .ok (.bipush 12, 2) := by decide +kernel
theorem dX0_enlist_6 : decode cX0_enlist 6 = .ok (.invokestatic 22, 3) := by decide +kernel
theorem dX0_enlist_9 : decode cX0_enlist 9 = .ok (.ifCond .ne 5, 3) := by decide +kernel
theorem dX0_enlist_12 : decode cX0_enlist 12 = .ok (.iconst (-1), 1) := by decide +kernel
theorem dX0_enlist_13 : decode cX0_enlist 13 = .ok (.ireturn, 1) := by decide +kernel
theorem dX0_enlist_14 : decode cX0_enlist 14 = .ok (.aload_n 0, 1) := by decide +kernel
theorem dX0_enlist_15 : decode cX0_enlist 15 = .ok (.getfield 9, 3) := by decide +kernel
theorem dX0_enlist_18 : decode cX0_enlist 18 = .ok (.aload_n 0, 1) := by decide +kernel
theorem dX0_enlist_19 : decode cX0_enlist 19 = .ok (.getfield 18, 3) := by decide +kernel
theorem dX0_enlist_22 : decode cX0_enlist 22 = .ok (.iload_n 1, 1) := by decide +kernel
theorem dX0_enlist_23 : decode cX0_enlist 23 = .ok (.iastore, 1) := by decide +kernel
theorem dX0_enlist_24 : decode cX0_enlist 24 = .ok (.aload_n 0, 1) := by decide +kernel
theorem dX0_enlist_25 : decode cX0_enlist 25 = .ok (.getfield 15, 3) := by decide +kernel
theorem dX0_enlist_28 : decode cX0_enlist 28 = .ok (.aload_n 0, 1) := by decide +kernel
theorem dX0_enlist_29 : decode cX0_enlist 29 = .ok (.getfield 18, 3) := by decide +kernel
theorem dX0_enlist_32 : decode cX0_enlist 32 = .ok (.aload_n 0, 1) := by decide +kernel
theorem dX0_enlist_33 : decode cX0_enlist 33 = .ok (.iload_n 1, 1) := by decide +kernel
theorem dX0_enlist_34 : decode cX0_enlist 34 = .ok (.invokevirtual 26, 3) := by decide +kernel
theorem dX0_enlist_37 : decode cX0_enlist 37 = .ok (.iload_n 2, 1) := by decide +kernel
theorem dX0_enlist_38 : decode cX0_enlist 38 = .ok (.iadd, 1) := by decide +kernel
theorem dX0_enlist_39 : decode cX0_enlist 39 = .ok (.iastore, 1) := by decide +kernel
theorem dX0_enlist_40 : decode cX0_enlist 40 = .ok (.aload_n 0, 1) := by decide +kernel
theorem dX0_enlist_41 : decode cX0_enlist 41 = .ok (.dup, 1) := by decide +kernel
theorem dX0_enlist_42 : decode cX0_enlist 42 = .ok (.getfield 18, 3) := by decide +kernel
theorem dX0_enlist_45 : decode cX0_enlist 45 = .ok (.iconst 1, 1) := by decide +kernel
theorem dX0_enlist_46 : decode cX0_enlist 46 = .ok (.iadd, 1) := by decide +kernel
theorem dX0_enlist_47 : decode cX0_enlist 47 = .ok (.putfield 18, 3) := by decide +kernel
theorem dX0_enlist_50 : decode cX0_enlist 50 = .ok (.aload_n 0, 1) := by decide +kernel
theorem dX0_enlist_51 : decode cX0_enlist 51 = .ok (.getfield 18, 3) := by decide +kernel
theorem dX0_enlist_54 : decode cX0_enlist 54 = .ok (.iconst 1, 1) := by decide +kernel
theorem dX0_enlist_55 : decode cX0_enlist 55 = .ok (.isub, 1) := by decide +kernel
theorem dX0_enlist_56 : decode cX0_enlist 56 = .ok (.ireturn, 1) := by decide +kernel
theorem dX3_enlist_0 : decode cX3_enlist 0 = .ok (.aload_n 0, 1) := by decide +kernel
theorem dX3_enlist_1 : decode cX3_enlist 1 = .ok (.getfield 28, 3) := by decide +kernel
theorem dX3_enlist_4 : decode cX3_enlist 4 = .ok (.bipush 24, 2) := by decide +kernel
theorem dX3_enlist_6 : decode cX3_enlist 6 = .ok (.invokestatic 35, 3) := by decide +kernel
theorem dX3_enlist_9 : decode cX3_enlist 9 = .ok (.ifCond .eq 43, 3) := by decide +kernel
theorem dX3_enlist_12 : decode cX3_enlist 12 = .ok (.aload_n 0, 1) := by decide +kernel
theorem dX3_enlist_13 : decode cX3_enlist 13 = .ok (.getfield 9, 3) := by decide +kernel
theorem dX3_enlist_16 : decode cX3_enlist 16 = .ok (.aload_n 0, 1) := by decide +kernel
theorem dX3_enlist_17 : decode cX3_enlist 17 = .ok (.getfield 28, 3) := by decide +kernel
theorem dX3_enlist_20 : decode cX3_enlist 20 = .ok (.iload_n 1, 1) := by decide +kernel
theorem dX3_enlist_21 : decode cX3_enlist 21 = .ok (.castore, 1) := by decide +kernel
theorem dX3_enlist_22 : decode cX3_enlist 22 = .ok (.aload_n 0, 1) := by decide +kernel
theorem dX3_enlist_23 : decode cX3_enlist 23 = .ok (.getfield 15, 3) := by decide +kernel
theorem dX3_enlist_26 : decode cX3_enlist 26 = .ok (.aload_n 0, 1) := by decide +kernel
theorem dX3_enlist_27 : decode cX3_enlist 27 = .ok (.getfield 28, 3) := by decide +kernel
theorem dX3_enlist_30 : decode cX3_enlist 30 = .ok (.iload_n 2, 1) := by decide +kernel
theorem dX3_enlist_31 : decode cX3_enlist 31 = .ok (.iastore, 1) := by decide +kernel
theorem dX3_enlist_32 : decode cX3_enlist 32 = .ok (.aload_n 0, 1) := by decide +kernel
theorem dX3_enlist_33 : decode cX3_enlist 33 = .ok (.getfield 19, 3) := by decide +kernel
theorem dX3_enlist_36 : decode cX3_enlist 36 = .ok (.aload_n 0, 1) := by decide +kernel
theorem dX3_enlist_37 : decode cX3_enlist 37 = .ok (.getfield 28, 3) := by decide +kernel
theorem dX3_enlist_40 : decode cX3_enlist 40 = .ok (.iload_n 3, 1) := by decide +kernel
theorem dX3_enlist_41 : decode cX3_enlist 41 = .ok (.iastore, 1) := by decide +kernel
theorem dX3_enlist_42 : decode cX3_enlist 42 = .ok (.aload_n 0, 1) := by decide +kernel
theorem dX3_enlist_43 : decode cX3_enlist 43 = .ok (.dup, 1) := by decide +kernel
theorem dX3_enlist_44 : decode cX3_enlist 44 = .ok (.getfield 28, 3) := by decide +kernel
theorem dX3_enlist_47 : decode cX3_enlist 47 = .ok (.iconst 1, 1) := by decide +kernel
theorem dX3_enlist_48 : decode cX3_enlist 48 = .ok (.iadd, 1) := by decide +kernel
theorem dX3_enlist_49 : decode cX3_enlist 49 = .ok (.putfield 28, 3) := by decide +kernel
theorem dX3_enlist_52 : decode cX3_enlist 52 = .ok (.return_, 1) := by decide +kernel
section SITES
variable {p : Program} {l : Launch} {e : Env} {R : Room} {s : State} {m : MethodId} {args : Array Value} {below : List Frame} {meth : Method} {c : Code} {H : Heap} {locs : List Loc} {cells slots : Nat} {Q : State → Prop}
variable {pc : Nat} {ls : Array Slot} {rest : List Value} {D : va_G} {ar : Nat → ClassId} {κ : Nat → Nat} {A : Nat → Prop} {a : Nat} {H0 : Heap} {G : gW} {nz nL : Nat} {cc : ByteArray}
theorem m_2_157 : (Cond.code yX8_isBelow cX8_isBelow 2 (some .boolean)) ∈ lwA := lwA_mk (ck_2 _ (List.mem_of_getElem? (i := 157) rfl)) rfl
theorem m_2_158 : (Cond.methodLink RX8 97 yX8_isBelow) ∈ lwA := lwA_mk (ck_2 _ (List.mem_of_getElem? (i := 158) rfl)) rfl
theorem m_2_156 : (Cond.static yX8_isBelow) ∈ lwA := lwA_mk (ck_2 _ (List.mem_of_getElem? (i := 156) rfl)) rfl
theorem k_RX8_97 {args : Array Value} {s : State} {R rm : Room} (hts : ∀ w ∈ lwA, w.before args s = true) (hR : rm.frames + 1 ≤ R.frames ∧ 8 + (2 + 11) + rm.locals ≤ R.locals) : CallB R s args RX8 97 yX8_isBelow cX8_isBelow 2 (some .boolean) (lwC yX8_isBelow cX8_isBelow 2 (some .boolean)) rm rm.cells rm.slots 2 ∧ (Cond.static yX8_isBelow).before args s = true := cwS 2 hts (gdS m_2_158 m_2_156 m_1_1 m_2_157) rfl rfl rfl (by decide +kernel) hR
theorem m_1_157 : (Cond.constantLong RX8 60 (502511173632)) ∈ lwA := lwA_mk (ck_1 _ (List.mem_of_getElem? (i := 157) rfl)) rfl
theorem inA_RX0 : ∀ w ∈ u_ws RX0 TX0 3, w ∈ lwA := gA_r _ [99, 101, 103] (by decide +kernel) (by decide +kernel)
theorem m_1_56 : (Cond.fieldLink RX0 18 "Sendhouse$Classes" "count" "I") ∈ lwA := lwA_mk (ck_1 _ (List.mem_of_getElem? (i := 56) rfl)) rfl
theorem gf_RX0_18_6 {A9 : Nat → Prop} {H9 : Heap} {fs : List Value} {v : Value} (S : CallFix p m c cc nL s args lwA RX0) (hE : g_E D vwCl (gT ar) (EX1 κ) A9 s H9) (w : g_S D vwCl A H0 G H locs nz) (ha : G a = some (.inr (6, fs))) (hv : fs[2]? = some v) (hdg : decode cc pc = .ok (.getfield 18, 3)) (kk : W p l e R s m args below meth c H locs cells slots Q (F0 m (pc + 3) ls (v :: rest))) : W p l e R s m args below meth c H locs cells slots Q (F0 m pc ls (.ref a :: rest)) :=
  va_get (ci := 6) (C := RX0) (T := TX0) (N := 3) S.1 S.2.1 S.2.2.2.2 inA_RX0 S.2.2.2.1 hE.1 (g_1 w.1 ha) 0 rfl rfl 2 (by decide) (S.2.2.2.2 _ m_1_56) (fun _ h => h) hv hdg kk
theorem k_RX0_22 {args : Array Value} {s : State} {R rm : Room} (hts : ∀ w ∈ lwA, w.before args s = true) (hN : va_Nw (.methodLinkNest RX0 22 yX8_isBelow "Sendhouse") s) (hR : rm.frames + 1 ≤ R.frames ∧ 8 + (2 + 11) + rm.locals ≤ R.locals) : va_CN R s args RX0 22 yX8_isBelow "Sendhouse" cX8_isBelow 2 (some .boolean) (lwC yX8_isBelow cX8_isBelow 2 (some .boolean)) rm rm.cells rm.slots 2 ∧ (Cond.static yX8_isBelow).before args s = true ∧ True := ⟨va_cnB 2 hts (gd m_2_157) rfl rfl rfl hN (hts _ m_1_1) (by decide +kernel) hR, hts _ m_2_156, trivial⟩
theorem m_1_54 : (Cond.fieldLink RX0 9 "Sendhouse$Classes" "above" "[I") ∈ lwA := lwA_mk (ck_1 _ (List.mem_of_getElem? (i := 54) rfl)) rfl
theorem gf_RX0_9_6 {A9 : Nat → Prop} {H9 : Heap} {fs : List Value} {v : Value} (S : CallFix p m c cc nL s args lwA RX0) (hE : g_E D vwCl (gT ar) (EX1 κ) A9 s H9) (w : g_S D vwCl A H0 G H locs nz) (ha : G a = some (.inr (6, fs))) (hv : fs[0]? = some v) (hdg : decode cc pc = .ok (.getfield 9, 3)) (kk : W p l e R s m args below meth c H locs cells slots Q (F0 m (pc + 3) ls (v :: rest))) : W p l e R s m args below meth c H locs cells slots Q (F0 m pc ls (.ref a :: rest)) :=
  va_get (ci := 6) (C := RX0) (T := TX0) (N := 3) S.1 S.2.1 S.2.2.2.2 inA_RX0 S.2.2.2.1 hE.1 (g_1 w.1 ha) 0 rfl rfl 0 (by decide) (S.2.2.2.2 _ m_1_54) (fun _ h => h) hv hdg kk
theorem m_1_55 : (Cond.fieldLink RX0 15 "Sendhouse$Classes" "fieldCounts" "[I") ∈ lwA := lwA_mk (ck_1 _ (List.mem_of_getElem? (i := 55) rfl)) rfl
theorem gf_RX0_15_6 {A9 : Nat → Prop} {H9 : Heap} {fs : List Value} {v : Value} (S : CallFix p m c cc nL s args lwA RX0) (hE : g_E D vwCl (gT ar) (EX1 κ) A9 s H9) (w : g_S D vwCl A H0 G H locs nz) (ha : G a = some (.inr (6, fs))) (hv : fs[1]? = some v) (hdg : decode cc pc = .ok (.getfield 15, 3)) (kk : W p l e R s m args below meth c H locs cells slots Q (F0 m (pc + 3) ls (v :: rest))) : W p l e R s m args below meth c H locs cells slots Q (F0 m pc ls (.ref a :: rest)) :=
  va_get (ci := 6) (C := RX0) (T := TX0) (N := 3) S.1 S.2.1 S.2.2.2.2 inA_RX0 S.2.2.2.1 hE.1 (g_1 w.1 ha) 0 rfl rfl 1 (by decide) (S.2.2.2.2 _ m_1_55) (fun _ h => h) hv hdg kk
theorem ck_3 : ∀ w ∈ tables_1_3, w ∈ lw_tbl := fun _ h => List.mem_append_right _ (List.mem_append_right _ (List.mem_append_right _ (List.mem_append_left _ h)))
theorem m_3_217 : (Cond.code yX0_fieldsOf cX0_fieldsOf 2 (some .int)) ∈ lwA := lwA_mk (ck_3 _ (List.mem_of_getElem? (i := 217) rfl)) rfl
theorem m_1_2 : (Cond.initialized RX0) ∈ lwA := lwA_mk (ck_1 _ (List.mem_of_getElem? (i := 2) rfl)) rfl
theorem ck_7 : ∀ w ∈ tables_1_7, w ∈ lw_tbl := fun _ h => List.mem_append_right _ (List.mem_append_right _ (List.mem_append_right _ (List.mem_append_right _ (List.mem_append_right _ (List.mem_append_right _ (List.mem_append_right _ (List.mem_append_left _ h)))))))
theorem m_7_95 : (Cond.methodLink RX0 26 yX0_fieldsOf) ∈ lwA := lwA_mk (ck_7 _ (List.mem_of_getElem? (i := 95) rfl)) rfl
theorem m_3_215 : (Cond.instanceMethod yX0_fieldsOf) ∈ lwA := lwA_mk (ck_3 _ (List.mem_of_getElem? (i := 215) rfl)) rfl
theorem m_3_216 : (Cond.selects RX0 yX0_fieldsOf yX0_fieldsOf) ∈ lwA := lwA_mk (ck_3 _ (List.mem_of_getElem? (i := 216) rfl)) rfl
theorem k_RX0_26 {args : Array Value} {s : State} {R rm : Room} (hts : ∀ w ∈ lwA, w.before args s = true) (hR : rm.frames + 1 ≤ R.frames ∧ 8 + (2 + 11) + rm.locals ≤ R.locals) : CallW R s args RX0 RX0 26 yX0_fieldsOf cX0_fieldsOf 2 (some .int) (lwC yX0_fieldsOf cX0_fieldsOf 2 (some .int)) rm rm.cells rm.slots 1 := cwV 1 hts (gdV m_7_95 m_3_215 m_3_216 m_1_2 m_3_217) rfl rfl rfl (by decide +kernel) hR
theorem pf_RX0_18_6 {A9 : Nat → Prop} {H9 : Heap} {fs : List Value} {v : Value} (S : CallFix p m c cc nL s args lwA RX0) (hE : g_E D vwCl (gT ar) (EX1 κ) A9 s H9) (w : g_S D vwCl A H0 G H locs nz) (ha : G a = some (.inr (6, fs))) (hn : narrow .int v = v) (hfit : fits .int v = true) (hl : 2 < fs.length) {fs1 : List Value} (hfs : fs.set 2 v = fs1) (hdg : decode cc pc = .ok (.putfield 18, 3)) (kk : ∀ (H1 : Heap) (locs1 : List Loc), g_S D vwCl A H0 (g_up G a (.inr (6, fs1))) H1 locs1 nz → W p l e R s m args below meth c H1 locs1 cells slots Q (F0 m (pc + 3) ls rest)) : W p l e R s m args below meth c H locs cells slots Q (F0 m pc ls (v :: .ref a :: rest)) :=
  g_put (ci := 6) (ty := .int) (C := RX0) (T := TX0) (N := 3) S.1 S.2.1 S.2.2.2.2 inA_RX0 tyX0 tyX0_ok nmX0 S.2.2.2.1 hE.1 w ha rfl 2 (by decide) (S.2.2.2.2 _ m_1_56) (fun _ h => h) rfl (by decide +kernel) hn hfit hl hdg (fun H1 l1 w1 => kk H1 l1 (by rw [← hfs]; exact w1))
theorem inA_RX3 : ∀ w ∈ u_ws RX3 TX3 7, w ∈ lwA := gA_r _ [124, 126, 128, 130, 132, 134, 136] (by decide +kernel) (by decide +kernel)
theorem m_1_79 : (Cond.fieldLink RX3 28 "Sendhouse$Rows" "count" "I") ∈ lwA := lwA_mk (ck_1 _ (List.mem_of_getElem? (i := 79) rfl)) rfl
theorem gf_RX3_28_9 {A9 : Nat → Prop} {H9 : Heap} {fs : List Value} {v : Value} (S : CallFix p m c cc nL s args lwA RX3) (hE : g_E D vwCl (gT ar) (EX1 κ) A9 s H9) (w : g_S D vwCl A H0 G H locs nz) (ha : G a = some (.inr (9, fs))) (hv : fs[5]? = some v) (hdg : decode cc pc = .ok (.getfield 28, 3)) (kk : W p l e R s m args below meth c H locs cells slots Q (F0 m (pc + 3) ls (v :: rest))) : W p l e R s m args below meth c H locs cells slots Q (F0 m pc ls (.ref a :: rest)) :=
  va_get (ci := 9) (C := RX3) (T := TX3) (N := 7) S.1 S.2.1 S.2.2.2.2 inA_RX3 S.2.2.2.1 hE.1 (g_1 w.1 ha) 0 rfl rfl 5 (by decide) (S.2.2.2.2 _ m_1_79) (fun _ h => h) hv hdg kk
theorem k_RX3_35 {args : Array Value} {s : State} {R rm : Room} (hts : ∀ w ∈ lwA, w.before args s = true) (hN : va_Nw (.methodLinkNest RX3 35 yX8_isBelow "Sendhouse") s) (hR : rm.frames + 1 ≤ R.frames ∧ 8 + (2 + 11) + rm.locals ≤ R.locals) : va_CN R s args RX3 35 yX8_isBelow "Sendhouse" cX8_isBelow 2 (some .boolean) (lwC yX8_isBelow cX8_isBelow 2 (some .boolean)) rm rm.cells rm.slots 2 ∧ (Cond.static yX8_isBelow).before args s = true ∧ True := ⟨va_cnB 2 hts (gd m_2_157) rfl rfl rfl hN (hts _ m_1_1) (by decide +kernel) hR, hts _ m_2_156, trivial⟩
theorem m_1_74 : (Cond.fieldLink RX3 9 "Sendhouse$Rows" "letters" "[C") ∈ lwA := lwA_mk (ck_1 _ (List.mem_of_getElem? (i := 74) rfl)) rfl
theorem gf_RX3_9_9 {A9 : Nat → Prop} {H9 : Heap} {fs : List Value} {v : Value} (S : CallFix p m c cc nL s args lwA RX3) (hE : g_E D vwCl (gT ar) (EX1 κ) A9 s H9) (w : g_S D vwCl A H0 G H locs nz) (ha : G a = some (.inr (9, fs))) (hv : fs[0]? = some v) (hdg : decode cc pc = .ok (.getfield 9, 3)) (kk : W p l e R s m args below meth c H locs cells slots Q (F0 m (pc + 3) ls (v :: rest))) : W p l e R s m args below meth c H locs cells slots Q (F0 m pc ls (.ref a :: rest)) :=
  va_get (ci := 9) (C := RX3) (T := TX3) (N := 7) S.1 S.2.1 S.2.2.2.2 inA_RX3 S.2.2.2.1 hE.1 (g_1 w.1 ha) 0 rfl rfl 0 (by decide) (S.2.2.2.2 _ m_1_74) (fun _ h => h) hv hdg kk
theorem m_1_75 : (Cond.fieldLink RX3 15 "Sendhouse$Rows" "firsts" "[I") ∈ lwA := lwA_mk (ck_1 _ (List.mem_of_getElem? (i := 75) rfl)) rfl
theorem gf_RX3_15_9 {A9 : Nat → Prop} {H9 : Heap} {fs : List Value} {v : Value} (S : CallFix p m c cc nL s args lwA RX3) (hE : g_E D vwCl (gT ar) (EX1 κ) A9 s H9) (w : g_S D vwCl A H0 G H locs nz) (ha : G a = some (.inr (9, fs))) (hv : fs[1]? = some v) (hdg : decode cc pc = .ok (.getfield 15, 3)) (kk : W p l e R s m args below meth c H locs cells slots Q (F0 m (pc + 3) ls (v :: rest))) : W p l e R s m args below meth c H locs cells slots Q (F0 m pc ls (.ref a :: rest)) :=
  va_get (ci := 9) (C := RX3) (T := TX3) (N := 7) S.1 S.2.1 S.2.2.2.2 inA_RX3 S.2.2.2.1 hE.1 (g_1 w.1 ha) 0 rfl rfl 1 (by decide) (S.2.2.2.2 _ m_1_75) (fun _ h => h) hv hdg kk
theorem m_1_76 : (Cond.fieldLink RX3 19 "Sendhouse$Rows" "seconds" "[I") ∈ lwA := lwA_mk (ck_1 _ (List.mem_of_getElem? (i := 76) rfl)) rfl
theorem gf_RX3_19_9 {A9 : Nat → Prop} {H9 : Heap} {fs : List Value} {v : Value} (S : CallFix p m c cc nL s args lwA RX3) (hE : g_E D vwCl (gT ar) (EX1 κ) A9 s H9) (w : g_S D vwCl A H0 G H locs nz) (ha : G a = some (.inr (9, fs))) (hv : fs[2]? = some v) (hdg : decode cc pc = .ok (.getfield 19, 3)) (kk : W p l e R s m args below meth c H locs cells slots Q (F0 m (pc + 3) ls (v :: rest))) : W p l e R s m args below meth c H locs cells slots Q (F0 m pc ls (.ref a :: rest)) :=
  va_get (ci := 9) (C := RX3) (T := TX3) (N := 7) S.1 S.2.1 S.2.2.2.2 inA_RX3 S.2.2.2.1 hE.1 (g_1 w.1 ha) 0 rfl rfl 2 (by decide) (S.2.2.2.2 _ m_1_76) (fun _ h => h) hv hdg kk
theorem pf_RX3_28_9 {A9 : Nat → Prop} {H9 : Heap} {fs : List Value} {v : Value} (S : CallFix p m c cc nL s args lwA RX3) (hE : g_E D vwCl (gT ar) (EX1 κ) A9 s H9) (w : g_S D vwCl A H0 G H locs nz) (ha : G a = some (.inr (9, fs))) (hn : narrow .int v = v) (hfit : fits .int v = true) (hl : 5 < fs.length) {fs1 : List Value} (hfs : fs.set 5 v = fs1) (hdg : decode cc pc = .ok (.putfield 28, 3)) (kk : ∀ (H1 : Heap) (locs1 : List Loc), g_S D vwCl A H0 (g_up G a (.inr (9, fs1))) H1 locs1 nz → W p l e R s m args below meth c H1 locs1 cells slots Q (F0 m (pc + 3) ls rest)) : W p l e R s m args below meth c H locs cells slots Q (F0 m pc ls (v :: .ref a :: rest)) :=
  g_put (ci := 9) (ty := .int) (C := RX3) (T := TX3) (N := 7) S.1 S.2.1 S.2.2.2.2 inA_RX3 tyX3 tyX3_ok nmX3 S.2.2.2.1 hE.1 w ha rfl 5 (by decide) (S.2.2.2.2 _ m_1_79) (fun _ h => h) rfl (by decide +kernel) hn hfit hl hdg (fun H1 l1 w1 => kk H1 l1 (by rw [← hfs]; exact w1))
end SITES
theorem vinB {i b : Int32} {n : Nat} (hb : b = nI n) (hn : n < 2 ^ 31) (h : ¬ isB i b = 0) : vp_in i n := by
  obtain ⟨h1, h2⟩ := isB_n.mp h
  subst hb
  rcases pk_ix i hn with h | h | ⟨j, hj, rfl⟩
  · exact absurd h h1
  · exact absurd h h2
  · exact vp_in_nI hj hn
def pA (f : Nat → Int64) (b : Int32) (i : Int32) : Int64 := if isB i b = 0 then 502511173632 else f i.toNatClampNeg
def aA (f : Nat → Int32) (z : Int32) (i : Int32) : Int32 := if isB i 12 = 0 then z else f i.toNatClampNeg
theorem isB_nar (i b : Int32) : narrow .boolean (.int (isB i b)) = .int (isB i b) := by
  unfold isB
  by_cases h1 : i < 0
  · simp only [h1, if_true]; rfl
  · by_cases h2 : b ≤ i
    · simp only [h1, h2, if_true, if_false]; rfl
    · simp only [h1, h2, if_false]; rfl
set_option maxHeartbeats 4000000 in
set_option maxRecDepth 100000 in
theorem c_X8_placeAt (l : Launch) (D : va_G) (ar : Nat → ClassId) (κ : Nat → Nat) (G : gW) (sz : Nat) (a : Nat) (i : Int32) (n : Nat) (f : Nat → Int64) (ha : G a = some (.inl (ar 1, n, .inr (.inl f)))) (hn : n < 2 ^ 31) : Met l yX8_placeAt (lwC yX8_placeAt cX8_placeAt 2 (some .long)) (rD 2 0 0) (g_Pc D vwCl (gT ar) (EX1 κ) G sz [.ref a, .int i]) (g_Ql D vwCl (g_A G sz) (fun r u => r = pA f (Int32.ofNat n) i ∧ u = (G, sz))) 0 0 (g_A G sz) := by
  refine g_ofW (by decide +kernel) (Nat.le_of_ble_eq_true rfl) ?_
  intro p e s m below meth c ls S hr hlk hin hE w hl
  have hx := S.1
  have hb := S.2.1
  have hl : lv_has ls 2 [(0, .ref a), (1, .int i)] := hl
  refine lv_iload_n hx hb dX8_placeAt_0 rfl (lv_at hl 1 rfl) ?_
  refine lv_aload_n hx hb dX8_placeAt_1 rfl (lv_at hl 0 rfl) ?_
  refine va_alen (v := Int32.ofNat n) hx hb hE.1 (g_1 w.1 ha) 0 1 rfl rfl rfl dX8_placeAt_2 ?_
  refine g_calli w (g_runS (As := [.int i, .int (Int32.ofNat n)]) (rest := []) S hE w hl (c_X8_isBelow l D ar κ G sz i (Int32.ofNat n)) (k_RX8_97 S.2.2.2.2 ⟨Nat.le_of_ble_eq_true rfl, Nat.le_of_ble_eq_true rfl⟩) rfl rfl (Nat.le_of_ble_eq_true rfl) dX8_placeAt_3 ⟨Nat.le_of_ble_eq_true rfl, Nat.le_of_ble_eq_true rfl⟩) (fun r u H locs hp hnz w => ?_)
  obtain ⟨rfl, rfl⟩ := hp
  dsimp only at w
  refine lv_if_eq (tgt := 15) hx hb dX8_placeAt_6 (by decide) (fun c_6 => ?_) (fun c_6 => ?_)
  · refine lv_ldc2 hx hb S.2.2.2.1 (S.2.2.2.2 _ m_1_157) dX8_placeAt_15 ?_
    exact g_lret hx hb hr hlk w (Nat.le_of_ble_eq_true rfl) (Nat.le_of_ble_eq_true rfl) dX8_placeAt_18 ⟨by simp [pA, c_6], rfl⟩
  · refine lv_aload_n hx hb dX8_placeAt_9 rfl (lv_at hl 0 rfl) ?_
    refine lv_iload_n hx hb dX8_placeAt_10 rfl (lv_at hl 1 rfl) ?_
    refine va_lald hx hb hE.1 (g_1 w.1 ha) 0 1 rfl rfl (vinB rfl hn c_6) dX8_placeAt_11 ?_
    refine lv_goto (tgt := 18) hx hb dX8_placeAt_12 (by decide) ?_
    exact g_lret hx hb hr hlk w (Nat.le_of_ble_eq_true rfl) (Nat.le_of_ble_eq_true rfl) dX8_placeAt_18 ⟨by simp [pA, c_6], rfl⟩
set_option maxHeartbeats 4000000 in
set_option maxRecDepth 100000 in
theorem c_X8_putAt (l : Launch) (D : va_G) (ar : Nat → ClassId) (κ : Nat → Nat) (G : gW) (sz : Nat) (a : Nat) (i : Int32) (v : Int64) (n : Nat) (f : Nat → Int64) (ha : G a = some (.inl (ar 1, n, .inr (.inl f)))) (hn : n < 2 ^ 31) (hi : ¬ isB i (Int32.ofNat n) = 0) : Met l yX8_putAt (lwC yX8_putAt cX8_putAt 4 none) (rD 2 0 0) (g_Pc D vwCl (gT ar) (EX1 κ) G sz [.ref a, .int i, .long v]) (g_Qv D vwCl (g_A G sz) (fun u => u = ((g_up G a (.inl (ar 1, n, .inr (.inl (vp_updL f (Int32.toNatClampNeg i) v))))), sz))) 0 0 (g_A G sz) := by
  refine g_ofW (by decide +kernel) (Nat.le_of_ble_eq_true rfl) ?_
  intro p e s m below meth c ls S hr hlk hin hE w hl
  have hx := S.1
  have hb := S.2.1
  have hl : lv_has ls 4 [(0, .ref a), (1, .int i), (2, .long v)] := hl
  refine lv_iload_n hx hb dX8_putAt_0 rfl (lv_at hl 1 rfl) ?_
  refine lv_aload_n hx hb dX8_putAt_1 rfl (lv_at hl 0 rfl) ?_
  refine va_alen (v := Int32.ofNat n) hx hb hE.1 (g_1 w.1 ha) 0 1 rfl rfl rfl dX8_putAt_2 ?_
  refine g_calli w (g_runS (As := [.int i, .int (Int32.ofNat n)]) (rest := []) S hE w hl (c_X8_isBelow l D ar κ G sz i (Int32.ofNat n)) (k_RX8_97 S.2.2.2.2 ⟨Nat.le_of_ble_eq_true rfl, Nat.le_of_ble_eq_true rfl⟩) rfl rfl (Nat.le_of_ble_eq_true rfl) dX8_putAt_3 ⟨Nat.le_of_ble_eq_true rfl, Nat.le_of_ble_eq_true rfl⟩) (fun r u H locs hp hnz w => ?_)
  obtain ⟨rfl, rfl⟩ := hp
  dsimp only at w
  refine lv_if_eq (tgt := 13) hx hb dX8_putAt_6 (by decide) (fun c_6 => absurd c_6 hi) (fun c_6 => ?_)
  refine lv_aload_n hx hb dX8_putAt_9 rfl (lv_at hl 0 rfl) ?_
  refine lv_iload_n hx hb dX8_putAt_10 rfl (lv_at hl 1 rfl) ?_
  refine lv_lload_n hx hb dX8_putAt_11 rfl (lv_at hl 2 rfl) ?_
  refine g_last hx hb hE.1 w 1 ha rfl (vinB rfl hn hi) dX8_putAt_12 (fun H locs w => ?_)
  exact g_vret hx hb hr hlk w (Nat.le_of_ble_eq_true rfl) (Nat.le_of_ble_eq_true rfl) dX8_putAt_13 rfl
set_option maxHeartbeats 4000000 in
set_option maxRecDepth 100000 in
theorem c_X0_has (l : Launch) (D : va_G) (ar : Nat → ClassId) (κ : Nat → Nat) (G : gW) (sz : Nat) (o : Nat) (i : Int32) (a1 : Nat) (a2 : Nat) (k : Int32) (ho : G o = some (.inr (6, [.ref a1, .ref a2, .int k]))) : Met l yX0_has (lwC yX0_has cX0_has 2 (some .boolean)) (rD 2 0 0) (g_Pc D vwCl (gT ar) (EX1 κ) G sz [.ref o, .int i]) (g_Qi D vwCl (g_A G sz) (fun r u => r = isB i k ∧ u = (G, sz))) 0 0 (g_A G sz) := by
  refine g_ofW (by decide +kernel) (Nat.le_of_ble_eq_true rfl) ?_
  intro p e s m below meth c ls S hr hlk hin hE w hl
  have hx := S.1
  have hb := S.2.1
  have hl : lv_has ls 2 [(0, .ref o), (1, .int i)] := hl
  refine lv_iload_n hx hb dX0_has_0 rfl (lv_at hl 1 rfl) ?_
  refine lv_aload_n hx hb dX0_has_1 rfl (lv_at hl 0 rfl) ?_
  refine gf_RX0_18_6 S hE w ho rfl dX0_has_2 ?_
  refine g_calli w (g_runSN (As := [.int i, .int k]) (rest := []) S hE w hl (c_X8_isBelow l D ar κ G sz i k) (k_RX0_22 S.2.2.2.2 (hE.2.1.1 _ (ckN_0 _ (List.mem_of_getElem? (i := 36) rfl))) ⟨Nat.le_of_ble_eq_true rfl, Nat.le_of_ble_eq_true rfl⟩) rfl rfl (Nat.le_of_ble_eq_true rfl) dX0_has_5 ⟨Nat.le_of_ble_eq_true rfl, Nat.le_of_ble_eq_true rfl⟩) (fun r u H locs hp hnz w => ?_)
  obtain ⟨rfl, rfl⟩ := hp
  dsimp only at w
  exact g_zret hx hb hr hlk w (Nat.le_of_ble_eq_true rfl) (Nat.le_of_ble_eq_true rfl) dX0_has_8 (isB_nar _ _) ⟨rfl, rfl⟩
set_option maxHeartbeats 4000000 in
set_option maxRecDepth 100000 in
theorem c_X0_aboveOf (l : Launch) (D : va_G) (ar : Nat → ClassId) (κ : Nat → Nat) (G : gW) (sz : Nat) (o : Nat) (i : Int32) (a1 : Nat) (a2 : Nat) (k : Int32) (f1 : Nat → Int32) (ho : G o = some (.inr (6, [.ref a1, .ref a2, .int k]))) (h1 : G a1 = some (.inl (ar 0, 12, .inl f1))) : Met l yX0_aboveOf (lwC yX0_aboveOf cX0_aboveOf 2 (some .int)) (rD 2 0 0) (g_Pc D vwCl (gT ar) (EX1 κ) G sz [.ref o, .int i]) (g_Qi D vwCl (g_A G sz) (fun r u => r = aA f1 (-1) i ∧ u = (G, sz))) 0 0 (g_A G sz) := by
  refine g_ofW (by decide +kernel) (Nat.le_of_ble_eq_true rfl) ?_
  intro p e s m below meth c ls S hr hlk hin hE w hl
  have hx := S.1
  have hb := S.2.1
  have hl : lv_has ls 2 [(0, .ref o), (1, .int i)] := hl
  refine lv_iload_n hx hb dX0_aboveOf_0 rfl (lv_at hl 1 rfl) ?_
  refine lv_aload_n hx hb dX0_aboveOf_1 rfl (lv_at hl 0 rfl) ?_
  refine gf_RX0_9_6 S hE w ho rfl dX0_aboveOf_2 ?_
  refine va_alen (v := 12) hx hb hE.1 (g_1 w.1 h1) 0 0 rfl rfl rfl dX0_aboveOf_5 ?_
  refine g_calli w (g_runSN (As := [.int i, .int 12]) (rest := []) S hE w hl (c_X8_isBelow l D ar κ G sz i 12) (k_RX0_22 S.2.2.2.2 (hE.2.1.1 _ (ckN_0 _ (List.mem_of_getElem? (i := 36) rfl))) ⟨Nat.le_of_ble_eq_true rfl, Nat.le_of_ble_eq_true rfl⟩) rfl rfl (Nat.le_of_ble_eq_true rfl) dX0_aboveOf_6 ⟨Nat.le_of_ble_eq_true rfl, Nat.le_of_ble_eq_true rfl⟩) (fun r u H locs hp hnz w => ?_)
  obtain ⟨rfl, rfl⟩ := hp
  dsimp only at w
  refine lv_if_eq (tgt := 21) hx hb dX0_aboveOf_9 (by decide) (fun c_9 => ?_) (fun c_9 => ?_)
  · refine lv_iconst (v := (-1)) hx hb dX0_aboveOf_21 (by decide) ?_
    exact g_iret hx hb hr hlk w (Nat.le_of_ble_eq_true rfl) (Nat.le_of_ble_eq_true rfl) dX0_aboveOf_22 ⟨by simp [aA, c_9], rfl⟩
  · refine lv_aload_n hx hb dX0_aboveOf_12 rfl (lv_at hl 0 rfl) ?_
    refine gf_RX0_9_6 S hE w ho rfl dX0_aboveOf_13 ?_
    refine lv_iload_n hx hb dX0_aboveOf_16 rfl (lv_at hl 1 rfl) ?_
    refine va_iald hx hb hE.1 (g_1 w.1 h1) 0 0 rfl rfl (vinB (n := 12) rfl (by decide) c_9) dX0_aboveOf_17 ?_
    refine lv_goto (tgt := 22) hx hb dX0_aboveOf_18 (by decide) ?_
    exact g_iret hx hb hr hlk w (Nat.le_of_ble_eq_true rfl) (Nat.le_of_ble_eq_true rfl) dX0_aboveOf_22 ⟨by simp [aA, c_9], rfl⟩
set_option maxHeartbeats 4000000 in
set_option maxRecDepth 100000 in
theorem c_X0_fieldsOf (l : Launch) (D : va_G) (ar : Nat → ClassId) (κ : Nat → Nat) (G : gW) (sz : Nat) (o : Nat) (i : Int32) (a1 : Nat) (a2 : Nat) (k : Int32) (f2 : Nat → Int32) (ho : G o = some (.inr (6, [.ref a1, .ref a2, .int k]))) (h2 : G a2 = some (.inl (ar 0, 12, .inl f2))) : Met l yX0_fieldsOf (lwC yX0_fieldsOf cX0_fieldsOf 2 (some .int)) (rD 2 0 0) (g_Pc D vwCl (gT ar) (EX1 κ) G sz [.ref o, .int i]) (g_Qi D vwCl (g_A G sz) (fun r u => r = aA f2 0 i ∧ u = (G, sz))) 0 0 (g_A G sz) := by
  refine g_ofW (by decide +kernel) (Nat.le_of_ble_eq_true rfl) ?_
  intro p e s m below meth c ls S hr hlk hin hE w hl
  have hx := S.1
  have hb := S.2.1
  have hl : lv_has ls 2 [(0, .ref o), (1, .int i)] := hl
  refine lv_iload_n hx hb dX0_fieldsOf_0 rfl (lv_at hl 1 rfl) ?_
  refine lv_aload_n hx hb dX0_fieldsOf_1 rfl (lv_at hl 0 rfl) ?_
  refine gf_RX0_15_6 S hE w ho rfl dX0_fieldsOf_2 ?_
  refine va_alen (v := 12) hx hb hE.1 (g_1 w.1 h2) 0 0 rfl rfl rfl dX0_fieldsOf_5 ?_
  refine g_calli w (g_runSN (As := [.int i, .int 12]) (rest := []) S hE w hl (c_X8_isBelow l D ar κ G sz i 12) (k_RX0_22 S.2.2.2.2 (hE.2.1.1 _ (ckN_0 _ (List.mem_of_getElem? (i := 36) rfl))) ⟨Nat.le_of_ble_eq_true rfl, Nat.le_of_ble_eq_true rfl⟩) rfl rfl (Nat.le_of_ble_eq_true rfl) dX0_fieldsOf_6 ⟨Nat.le_of_ble_eq_true rfl, Nat.le_of_ble_eq_true rfl⟩) (fun r u H locs hp hnz w => ?_)
  obtain ⟨rfl, rfl⟩ := hp
  dsimp only at w
  refine lv_if_eq (tgt := 21) hx hb dX0_fieldsOf_9 (by decide) (fun c_9 => ?_) (fun c_9 => ?_)
  · refine lv_iconst (v := 0) hx hb dX0_fieldsOf_21 (by decide) ?_
    exact g_iret hx hb hr hlk w (Nat.le_of_ble_eq_true rfl) (Nat.le_of_ble_eq_true rfl) dX0_fieldsOf_22 ⟨by simp [aA, c_9], rfl⟩
  · refine lv_aload_n hx hb dX0_fieldsOf_12 rfl (lv_at hl 0 rfl) ?_
    refine gf_RX0_15_6 S hE w ho rfl dX0_fieldsOf_13 ?_
    refine lv_iload_n hx hb dX0_fieldsOf_16 rfl (lv_at hl 1 rfl) ?_
    refine va_iald hx hb hE.1 (g_1 w.1 h2) 0 0 rfl rfl (vinB (n := 12) rfl (by decide) c_9) dX0_fieldsOf_17 ?_
    refine lv_goto (tgt := 22) hx hb dX0_fieldsOf_18 (by decide) ?_
    exact g_iret hx hb hr hlk w (Nat.le_of_ble_eq_true rfl) (Nat.le_of_ble_eq_true rfl) dX0_fieldsOf_22 ⟨by simp [aA, c_9], rfl⟩
set_option maxHeartbeats 4000000 in
set_option maxRecDepth 100000 in
theorem c_X0_enlist (l : Launch) (D : va_G) (ar : Nat → ClassId) (κ : Nat → Nat) (G : gW) (sz : Nat) (o : Nat) (i : Int32) (j : Int32) (a1 : Nat) (a2 : Nat) (k : Int32) (f1 : Nat → Int32) (f2 : Nat → Int32) (ho : G o = some (.inr (6, [.ref a1, .ref a2, .int k]))) (h1 : G a1 = some (.inl (ar 0, 12, .inl f1))) (h2 : G a2 = some (.inl (ar 0, 12, .inl f2))) (h12 : a1 ≠ a2) (hk : ¬ isB k 12 = 0) : Met l yX0_enlist (lwC yX0_enlist cX0_enlist 3 (some .int)) (rD 3 0 0) (g_Pc D vwCl (gT ar) (EX1 κ) G sz [.ref o, .int i, .int j]) (g_Qi D vwCl (g_A G sz) (fun r u => r = (k + 1) - 1 ∧ u = ((g_up (g_up (g_up G a1 (.inl (ar 0, 12, .inl (upd f1 (Int32.toNatClampNeg k) i)))) a2 (.inl (ar 0, 12, .inl (upd f2 (Int32.toNatClampNeg k) ((aA f2 0 i) + j))))) o (.inr (6, [.ref a1, .ref a2, .int (k + 1)]))), sz))) 0 0 (g_A G sz) := by
  refine g_ofW (by decide +kernel) (Nat.le_of_ble_eq_true rfl) ?_
  intro p e s m below meth c ls S hr hlk hin hE w hl
  have hx := S.1
  have hb := S.2.1
  have hl : lv_has ls 3 [(0, .ref o), (1, .int i), (2, .int j)] := hl
  refine lv_aload_n hx hb dX0_enlist_0 rfl (lv_at hl 0 rfl) ?_
  refine gf_RX0_18_6 S hE w ho rfl dX0_enlist_1 ?_
  refine lv_bipush (v := 12) hx hb dX0_enlist_4 (by decide) ?_
  refine g_calli w (g_runSN (As := [.int k, .int 12]) (rest := []) S hE w hl (c_X8_isBelow l D ar κ G sz k 12) (k_RX0_22 S.2.2.2.2 (hE.2.1.1 _ (ckN_0 _ (List.mem_of_getElem? (i := 36) rfl))) ⟨Nat.le_of_ble_eq_true rfl, Nat.le_of_ble_eq_true rfl⟩) rfl rfl (Nat.le_of_ble_eq_true rfl) dX0_enlist_6 ⟨Nat.le_of_ble_eq_true rfl, Nat.le_of_ble_eq_true rfl⟩) (fun r u H locs hp hnz w => ?_)
  obtain ⟨rfl, rfl⟩ := hp
  dsimp only at w
  refine lv_if_ne (tgt := 14) hx hb dX0_enlist_9 (by decide) (fun c_9 => ?_) (fun c_9 => absurd c_9 (by simpa using hk))
  refine lv_aload_n hx hb dX0_enlist_14 rfl (lv_at hl 0 rfl) ?_
  refine gf_RX0_9_6 S hE w ho rfl dX0_enlist_15 ?_
  refine lv_aload_n hx hb dX0_enlist_18 rfl (lv_at hl 0 rfl) ?_
  refine gf_RX0_18_6 S hE w ho rfl dX0_enlist_19 ?_
  refine lv_iload_n hx hb dX0_enlist_22 rfl (lv_at hl 1 rfl) ?_
  refine g_iast hx hb hE.1 w 0 h1 rfl (vinB (n := 12) rfl (by decide) hk) dX0_enlist_23 (fun H locs w => ?_)
  refine lv_aload_n hx hb dX0_enlist_24 rfl (lv_at hl 0 rfl) ?_
  refine gf_RX0_15_6 S hE w (g_up_o (g_nx ho h1 (by simp)) ho) rfl dX0_enlist_25 ?_
  refine lv_aload_n hx hb dX0_enlist_28 rfl (lv_at hl 0 rfl) ?_
  refine gf_RX0_18_6 S hE w (g_up_o (g_nx ho h1 (by simp)) ho) rfl dX0_enlist_29 ?_
  refine lv_aload_n hx hb dX0_enlist_32 rfl (lv_at hl 0 rfl) ?_
  refine lv_iload_n hx hb dX0_enlist_33 rfl (lv_at hl 1 rfl) ?_
  refine g_calli w (g_runV (As := [.int i]) (rest := [.int k, .ref a2]) S hE w hl (c_X0_fieldsOf l D ar κ (g_up G a1 (.inl (ar 0, 12, .inl (upd f1 (Int32.toNatClampNeg k) i)))) sz o i a1 a2 k f2 (g_up_o (g_nx ho h1 (by simp)) ho) (g_up_o (by omega) h2)) (k_RX0_26 S.2.2.2.2 ⟨Nat.le_of_ble_eq_true rfl, Nat.le_of_ble_eq_true rfl⟩) (g_up_o (g_nx ho h1 (by simp)) ho) rfl rfl rfl rfl (Nat.le_of_ble_eq_true rfl) dX0_enlist_34 ⟨Nat.le_of_ble_eq_true rfl, Nat.le_of_ble_eq_true rfl⟩) (fun r u H locs hp hnz w => ?_)
  obtain ⟨rfl, rfl⟩ := hp
  dsimp only at w
  refine lv_iload_n hx hb dX0_enlist_37 rfl (lv_at hl 2 rfl) ?_
  refine lv_iadd hx hb dX0_enlist_38 ?_
  refine g_iast hx hb hE.1 w 0 (g_up_o (by omega) h2) rfl (vinB (n := 12) rfl (by decide) hk) dX0_enlist_39 (fun H locs w => ?_)
  refine lv_aload_n hx hb dX0_enlist_40 rfl (lv_at hl 0 rfl) ?_
  refine lv_dup hx hb dX0_enlist_41 rfl ?_
  refine gf_RX0_18_6 S hE w (g_up_o (g_nx ho h2 (by simp)) (g_up_o (g_nx ho h1 (by simp)) ho)) rfl dX0_enlist_42 ?_
  refine lv_iconst (v := 1) hx hb dX0_enlist_45 (by decide) ?_
  refine lv_iadd hx hb dX0_enlist_46 ?_
  refine pf_RX0_18_6 (fs1 := [.ref a1, .ref a2, .int (k + 1)]) S hE w (g_up_o (g_nx ho h2 (by simp)) (g_up_o (g_nx ho h1 (by simp)) ho)) rfl rfl (Nat.le_of_ble_eq_true rfl) rfl dX0_enlist_47 (fun H locs w => ?_)
  refine lv_aload_n hx hb dX0_enlist_50 rfl (lv_at hl 0 rfl) ?_
  refine gf_RX0_18_6 S hE w g_up_s rfl dX0_enlist_51 ?_
  refine lv_iconst (v := 1) hx hb dX0_enlist_54 (by decide) ?_
  refine lv_isub hx hb dX0_enlist_55 ?_
  exact g_iret hx hb hr hlk w (Nat.le_of_ble_eq_true rfl) (Nat.le_of_ble_eq_true rfl) dX0_enlist_56 ⟨rfl, rfl⟩
set_option maxHeartbeats 4000000 in
set_option maxRecDepth 100000 in
theorem c_X3_enlist (l : Launch) (D : va_G) (ar : Nat → ClassId) (κ : Nat → Nat) (G : gW) (sz : Nat) (o : Nat) (x : Int32) (y9 : Int32) (z9 : Int32) (a1 : Nat) (a2 : Nat) (a3 : Nat) (a4 : Nat) (a5 : Nat) (k : Int32) (k2 : Int32) (f1 : Nat → Int32) (f2 : Nat → Int32) (f3 : Nat → Int32) (ho : G o = some (.inr (9, [.ref a1, .ref a2, .ref a3, .ref a4, .ref a5, .int k, .int k2]))) (h1 : G a1 = some (.inl (ar 2, 24, .inl f1))) (h2 : G a2 = some (.inl (ar 0, 24, .inl f2))) (h3 : G a3 = some (.inl (ar 0, 24, .inl f3))) (h12 : a1 ≠ a2) (h13 : a1 ≠ a3) (h23 : a2 ≠ a3) (hk : ¬ isB k 24 = 0) : Met l yX3_enlist (lwC yX3_enlist cX3_enlist 4 none) (rD 2 0 0) (g_Pc D vwCl (gT ar) (EX1 κ) G sz [.ref o, .int x, .int y9, .int z9]) (g_Qv D vwCl (g_A G sz) (fun u => u = ((g_up (g_up (g_up (g_up G a1 (.inl (ar 2, 24, .inl (upd f1 (Int32.toNatClampNeg k) (vp_nar .char x))))) a2 (.inl (ar 0, 24, .inl (upd f2 (Int32.toNatClampNeg k) y9)))) a3 (.inl (ar 0, 24, .inl (upd f3 (Int32.toNatClampNeg k) z9)))) o (.inr (9, [.ref a1, .ref a2, .ref a3, .ref a4, .ref a5, .int (k + 1), .int k2]))), sz))) 0 0 (g_A G sz) := by
  refine g_ofW (by decide +kernel) (Nat.le_of_ble_eq_true rfl) ?_
  intro p e s m below meth c ls S hr hlk hin hE w hl
  have hx := S.1
  have hb := S.2.1
  have hl : lv_has ls 4 [(0, .ref o), (1, .int x), (2, .int y9), (3, .int z9)] := hl
  refine lv_aload_n hx hb dX3_enlist_0 rfl (lv_at hl 0 rfl) ?_
  refine gf_RX3_28_9 S hE w ho rfl dX3_enlist_1 ?_
  refine lv_bipush (v := 24) hx hb dX3_enlist_4 (by decide) ?_
  refine g_calli w (g_runSN (As := [.int k, .int 24]) (rest := []) S hE w hl (c_X8_isBelow l D ar κ G sz k 24) (k_RX3_35 S.2.2.2.2 (hE.2.1.1 _ (ckN_1 _ (List.mem_of_getElem? (i := 8) rfl))) ⟨Nat.le_of_ble_eq_true rfl, Nat.le_of_ble_eq_true rfl⟩) rfl rfl (Nat.le_of_ble_eq_true rfl) dX3_enlist_6 ⟨Nat.le_of_ble_eq_true rfl, Nat.le_of_ble_eq_true rfl⟩) (fun r u H locs hp hnz w => ?_)
  obtain ⟨rfl, rfl⟩ := hp
  dsimp only at w
  refine lv_if_eq (tgt := 52) hx hb dX3_enlist_9 (by decide) (fun c_9 => absurd c_9 hk) (fun c_9 => ?_)
  refine lv_aload_n hx hb dX3_enlist_12 rfl (lv_at hl 0 rfl) ?_
  refine gf_RX3_9_9 S hE w ho rfl dX3_enlist_13 ?_
  refine lv_aload_n hx hb dX3_enlist_16 rfl (lv_at hl 0 rfl) ?_
  refine gf_RX3_28_9 S hE w ho rfl dX3_enlist_17 ?_
  refine lv_iload_n hx hb dX3_enlist_20 rfl (lv_at hl 1 rfl) ?_
  refine g_cast hx hb hE.1 w 2 h1 rfl (vinB (n := 24) rfl (by decide) hk) dX3_enlist_21 (fun H locs w => ?_)
  refine lv_aload_n hx hb dX3_enlist_22 rfl (lv_at hl 0 rfl) ?_
  refine gf_RX3_15_9 S hE w (g_up_o (g_nx ho h1 (by simp)) ho) rfl dX3_enlist_23 ?_
  refine lv_aload_n hx hb dX3_enlist_26 rfl (lv_at hl 0 rfl) ?_
  refine gf_RX3_28_9 S hE w (g_up_o (g_nx ho h1 (by simp)) ho) rfl dX3_enlist_27 ?_
  refine lv_iload_n hx hb dX3_enlist_30 rfl (lv_at hl 2 rfl) ?_
  refine g_iast hx hb hE.1 w 0 (g_up_o (by omega) h2) rfl (vinB (n := 24) rfl (by decide) hk) dX3_enlist_31 (fun H locs w => ?_)
  refine lv_aload_n hx hb dX3_enlist_32 rfl (lv_at hl 0 rfl) ?_
  refine gf_RX3_19_9 S hE w (g_up_o (g_nx ho h2 (by simp)) (g_up_o (g_nx ho h1 (by simp)) ho)) rfl dX3_enlist_33 ?_
  refine lv_aload_n hx hb dX3_enlist_36 rfl (lv_at hl 0 rfl) ?_
  refine gf_RX3_28_9 S hE w (g_up_o (g_nx ho h2 (by simp)) (g_up_o (g_nx ho h1 (by simp)) ho)) rfl dX3_enlist_37 ?_
  refine lv_iload_n hx hb dX3_enlist_40 rfl (lv_at hl 3 rfl) ?_
  refine g_iast hx hb hE.1 w 0 (g_up_o (by omega) (g_up_o (by omega) h3)) rfl (vinB (n := 24) rfl (by decide) hk) dX3_enlist_41 (fun H locs w => ?_)
  refine lv_aload_n hx hb dX3_enlist_42 rfl (lv_at hl 0 rfl) ?_
  refine lv_dup hx hb dX3_enlist_43 rfl ?_
  refine gf_RX3_28_9 S hE w (g_up_o (g_nx ho h3 (by simp)) (g_up_o (g_nx ho h2 (by simp)) (g_up_o (g_nx ho h1 (by simp)) ho))) rfl dX3_enlist_44 ?_
  refine lv_iconst (v := 1) hx hb dX3_enlist_47 (by decide) ?_
  refine lv_iadd hx hb dX3_enlist_48 ?_
  refine pf_RX3_28_9 (fs1 := [.ref a1, .ref a2, .ref a3, .ref a4, .ref a5, .int (k + 1), .int k2]) S hE w (g_up_o (g_nx ho h3 (by simp)) (g_up_o (g_nx ho h2 (by simp)) (g_up_o (g_nx ho h1 (by simp)) ho))) rfl rfl (Nat.le_of_ble_eq_true rfl) rfl dX3_enlist_49 (fun H locs w => ?_)
  exact g_vret hx hb hr hlk w (Nat.le_of_ble_eq_true rfl) (Nat.le_of_ble_eq_true rfl) dX3_enlist_52 rfl
