theorem dJx4a65c_grow_92f84_0 : decode cJx4a65c_grow_92f84 0 = .ok (.aload_n 0, 1) := by decide +kernel
theorem dJx4a65c_grow_92f84_1 : decode cJx4a65c_grow_92f84 1 = .ok (.getfield 9, 3) := by decide +kernel
theorem dJx4a65c_grow_92f84_4 : decode cJx4a65c_grow_92f84 4 = .ok (.arraylength, 1) := by decide +kernel
theorem dJx4a65c_grow_92f84_5 : decode cJx4a65c_grow_92f84 5 = .ok (.istore_n 2, 1) := by decide +kernel
theorem dJx4a65c_grow_92f84_6 : decode cJx4a65c_grow_92f84 6 = .ok (.iload_n 2, 1) := by decide +kernel
theorem dJx4a65c_grow_92f84_7 : decode cJx4a65c_grow_92f84 7 = .ok (.ifCond .gt 13, 3) := by decide +kernel
theorem dJx4a65c_grow_92f84_10 : decode cJx4a65c_grow_92f84 10 = .ok (.aload_n 0, 1) := by decide +kernel
theorem dJx4a65c_grow_92f84_11 : decode cJx4a65c_grow_92f84 11 = .ok (.getfield 9, 3) := by decide +kernel
theorem dJx4a65c_grow_92f84_14 : decode cJx4a65c_grow_92f84 14 = .ok (.getstatic 39, 3) := by decide +kernel
theorem dJx4a65c_grow_92f84_17 : decode cJx4a65c_grow_92f84 17 = .ok (.if_acmp .eq 28, 3) := by decide +kernel
theorem dJx4a65c_grow_92f84_20 : decode cJx4a65c_grow_92f84 20 = .ok (.iload_n 2, 1) := by decide +kernel
theorem dJx4a65c_grow_92f84_21 : decode cJx4a65c_grow_92f84 21 = .ok (.iload_n 1, 1) := by decide +kernel
theorem dJx4a65c_grow_92f84_22 : decode cJx4a65c_grow_92f84 22 = .ok (.iload_n 2, 1) := by decide +kernel
theorem dJx4a65c_grow_92f84_23 : decode cJx4a65c_grow_92f84 23 = .ok (.isub, 1) := by decide +kernel
theorem dJx4a65c_grow_92f84_24 : decode cJx4a65c_grow_92f84 24 = .ok (.iload_n 2, 1) := by decide +kernel
theorem dJx4a65c_grow_92f84_25 : decode cJx4a65c_grow_92f84 25 = .ok (.iconst 1, 1) := by decide +kernel
theorem dJx4a65c_grow_92f84_26 : decode cJx4a65c_grow_92f84 26 = .ok (.ishr, 1) := by decide +kernel
theorem dJx4a65c_grow_92f84_27 : decode cJx4a65c_grow_92f84 27 = .ok (.invokestatic 73, 3) := by decide +kernel
theorem dJx4a65c_grow_92f84_30 : decode cJx4a65c_grow_92f84 30 = .ok (.istore_n 3, 1) := by decide +kernel
theorem dJx4a65c_grow_92f84_31 : decode cJx4a65c_grow_92f84 31 = .ok (.aload_n 0, 1) := by decide +kernel
theorem dJx4a65c_grow_92f84_32 : decode cJx4a65c_grow_92f84 32 = .ok (.aload_n 0, 1) := by decide +kernel
theorem dJx4a65c_grow_92f84_33 : decode cJx4a65c_grow_92f84 33 = .ok (.getfield 9, 3) := by decide +kernel
theorem dJx4a65c_grow_92f84_36 : decode cJx4a65c_grow_92f84 36 = .ok (.iload_n 3, 1) := by decide +kernel
theorem dJx4a65c_grow_92f84_37 : decode cJx4a65c_grow_92f84 37 = .ok (.invokestatic 66, 3) := by decide +kernel
theorem dJx4a65c_grow_92f84_40 : decode cJx4a65c_grow_92f84 40 = .ok (.dup_x1, 1) := by decide +kernel
theorem dJx4a65c_grow_92f84_41 : decode cJx4a65c_grow_92f84 41 = .ok (.putfield 9, 3) := by decide +kernel
theorem dJx4a65c_grow_92f84_44 : decode cJx4a65c_grow_92f84 44 = .ok (.areturn, 1) := by decide +kernel
theorem dJx4a65c_grow_92f84_45 : decode cJx4a65c_grow_92f84 45 = .ok (.aload_n 0, 1) := by decide +kernel
theorem dJx4a65c_grow_92f84_46 : decode cJx4a65c_grow_92f84 46 = .ok (.bipush 10, 2) := by decide +kernel
theorem dJx4a65c_grow_92f84_48 : decode cJx4a65c_grow_92f84 48 = .ok (.iload_n 1, 1) := by decide +kernel
theorem dJx4a65c_grow_92f84_49 : decode cJx4a65c_grow_92f84 49 = .ok (.invokestatic 79, 3) := by decide +kernel
theorem dJx4a65c_grow_92f84_52 : decode cJx4a65c_grow_92f84 52 = .ok (.anewarray 7, 3) := by decide +kernel
theorem dJx4a65c_grow_92f84_55 : decode cJx4a65c_grow_92f84 55 = .ok (.dup_x1, 1) := by decide +kernel
theorem dJx4a65c_grow_92f84_56 : decode cJx4a65c_grow_92f84 56 = .ok (.putfield 9, 3) := by decide +kernel
theorem dJx4a65c_grow_92f84_59 : decode cJx4a65c_grow_92f84 59 = .ok (.areturn, 1) := by decide +kernel
theorem dJx4a65c_grow_d5877_0 : decode cJx4a65c_grow_d5877 0 = .ok (.aload_n 0, 1) := by decide +kernel
theorem dJx4a65c_grow_d5877_1 : decode cJx4a65c_grow_d5877 1 = .ok (.aload_n 0, 1) := by decide +kernel
theorem dJx4a65c_grow_d5877_2 : decode cJx4a65c_grow_d5877 2 = .ok (.getfield 48, 3) := by decide +kernel
theorem dJx4a65c_grow_d5877_5 : decode cJx4a65c_grow_d5877 5 = .ok (.iconst 1, 1) := by decide +kernel
theorem dJx4a65c_grow_d5877_6 : decode cJx4a65c_grow_d5877 6 = .ok (.iadd, 1) := by decide +kernel
theorem dJx4a65c_grow_d5877_7 : decode cJx4a65c_grow_d5877 7 = .ok (.invokevirtual 69, 3) := by decide +kernel
theorem dJx4a65c_grow_d5877_10 : decode cJx4a65c_grow_d5877 10 = .ok (.areturn, 1) := by decide +kernel
theorem dJx4a65c_add_72be8_0 : decode cJx4a65c_add_72be8 0 = .ok (.iload_n 3, 1) := by decide +kernel
theorem dJx4a65c_add_72be8_1 : decode cJx4a65c_add_72be8 1 = .ok (.aload_n 2, 1) := by decide +kernel
theorem dJx4a65c_add_72be8_2 : decode cJx4a65c_add_72be8 2 = .ok (.arraylength, 1) := by decide +kernel
theorem dJx4a65c_add_72be8_3 : decode cJx4a65c_add_72be8 3 = .ok (.if_icmp .ne 8, 3) := by decide +kernel
theorem dJx4a65c_add_72be8_6 : decode cJx4a65c_add_72be8 6 = .ok (.aload_n 0, 1) := by decide +kernel
theorem dJx4a65c_add_72be8_7 : decode cJx4a65c_add_72be8 7 = .ok (.invokevirtual 129, 3) := by decide +kernel
theorem dJx4a65c_add_72be8_10 : decode cJx4a65c_add_72be8 10 = .ok (.astore_n 2, 1) := by decide +kernel
theorem dJx4a65c_add_72be8_11 : decode cJx4a65c_add_72be8 11 = .ok (.aload_n 2, 1) := by decide +kernel
theorem dJx4a65c_add_72be8_12 : decode cJx4a65c_add_72be8 12 = .ok (.iload_n 3, 1) := by decide +kernel
theorem dJx4a65c_add_72be8_13 : decode cJx4a65c_add_72be8 13 = .ok (.aload_n 1, 1) := by decide +kernel
theorem dJx4a65c_add_72be8_14 : decode cJx4a65c_add_72be8 14 = .ok (.aastore, 1) := by decide +kernel
theorem dJx4a65c_add_72be8_15 : decode cJx4a65c_add_72be8 15 = .ok (.aload_n 0, 1) := by decide +kernel
theorem dJx4a65c_add_72be8_16 : decode cJx4a65c_add_72be8 16 = .ok (.iload_n 3, 1) := by decide +kernel
theorem dJx4a65c_add_72be8_17 : decode cJx4a65c_add_72be8 17 = .ok (.iconst 1, 1) := by decide +kernel
theorem dJx4a65c_add_72be8_18 : decode cJx4a65c_add_72be8 18 = .ok (.iadd, 1) := by decide +kernel
theorem dJx4a65c_add_72be8_19 : decode cJx4a65c_add_72be8 19 = .ok (.putfield 48, 3) := by decide +kernel
theorem dJx4a65c_add_72be8_22 : decode cJx4a65c_add_72be8 22 = .ok (.return_, 1) := by decide +kernel
theorem dJx4a65c_add_9ea2d_0 : decode cJx4a65c_add_9ea2d 0 = .ok (.aload_n 0, 1) := by decide +kernel
theorem dJx4a65c_add_9ea2d_1 : decode cJx4a65c_add_9ea2d 1 = .ok (.dup, 1) := by decide +kernel
theorem dJx4a65c_add_9ea2d_2 : decode cJx4a65c_add_9ea2d 2 = .ok (.getfield 63, 3) := by decide +kernel
theorem dJx4a65c_add_9ea2d_5 : decode cJx4a65c_add_9ea2d 5 = .ok (.iconst 1, 1) := by decide +kernel
theorem dJx4a65c_add_9ea2d_6 : decode cJx4a65c_add_9ea2d 6 = .ok (.iadd, 1) := by decide +kernel
theorem dJx4a65c_add_9ea2d_7 : decode cJx4a65c_add_9ea2d 7 = .ok (.putfield 63, 3) := by decide +kernel
theorem dJx4a65c_add_9ea2d_10 : decode cJx4a65c_add_9ea2d 10 = .ok (.aload_n 0, 1) := by decide +kernel
theorem dJx4a65c_add_9ea2d_11 : decode cJx4a65c_add_9ea2d 11 = .ok (.aload_n 1, 1) := by decide +kernel
theorem dJx4a65c_add_9ea2d_12 : decode cJx4a65c_add_9ea2d 12 = .ok (.aload_n 0, 1) := by decide +kernel
theorem dJx4a65c_add_9ea2d_13 : decode cJx4a65c_add_9ea2d 13 = .ok (.getfield 9, 3) := by decide +kernel
theorem dJx4a65c_add_9ea2d_16 : decode cJx4a65c_add_9ea2d 16 = .ok (.aload_n 0, 1) := by decide +kernel
theorem dJx4a65c_add_9ea2d_17 : decode cJx4a65c_add_9ea2d 17 = .ok (.getfield 48, 3) := by decide +kernel
theorem dJx4a65c_add_9ea2d_20 : decode cJx4a65c_add_9ea2d 20 = .ok (.invokevirtual 131, 3) := by decide +kernel
theorem dJx4a65c_add_9ea2d_23 : decode cJx4a65c_add_9ea2d 23 = .ok (.iconst 1, 1) := by decide +kernel
theorem dJx4a65c_add_9ea2d_24 : decode cJx4a65c_add_9ea2d 24 = .ok (.ireturn, 1) := by decide +kernel
section SITES
variable {p : Program} {l : Launch} {e : Env} {R : Room} {s : State} {m : MethodId} {args : Array Value} {below : List Frame} {meth : Method} {c : Code} {H : Heap} {locs : List Loc} {cells slots : Nat} {Q : State → Prop}
variable {pc : Nat} {ls : Array Slot} {rest : List Value} {D : va_G} {ar : Nat → ClassId} {κ : Nat → Nat} {A : Nat → Prop} {a : Nat} {H0 : Heap} {G : gW} {nz nL : Nat} {cc : ByteArray}
theorem gf_RJx4a65c_9_3 {A9 : Nat → Prop} {H9 : Heap} {fs : List Value} {v : Value} (S : CallFix p m c cc nL s args lwA RJx4a65c) (hE : g_E D vwCl (gT ar) (EX1 κ) A9 s H9) (w : g_S D vwCl A H0 G H locs nz) (ha : G a = some (.inr (3, fs))) (hv : fs[1]? = some v) (hdg : decode cc pc = .ok (.getfield 9, 3)) (kk : W p l e R s m args below meth c H locs cells slots Q (F0 m (pc + 3) ls (v :: rest))) : W p l e R s m args below meth c H locs cells slots Q (F0 m pc ls (.ref a :: rest)) :=
  va_get (ci := 3) (C := RJx4a65c) (T := TJx4a65c) (N := 3) S.1 S.2.1 S.2.2.2.2 inA_RJx4a65c S.2.2.2.1 hE.1 (g_1 w.1 ha) 0 rfl rfl 1 (by decide) (S.2.2.2.2 _ m_1_179) (fun _ h => h) hv hdg kk
theorem m_5_134 : (Cond.code yJ9_max_7cf53 cJ9_max_7cf53 2 (some .int)) ∈ lwA := lwA_mk (ck_5 _ (List.mem_of_getElem? (i := 134) rfl)) rfl
theorem m_5_183 : (Cond.methodLink RJx4a65c 79 yJ9_max_7cf53) ∈ lwA := lwA_mk (ck_5 _ (List.mem_of_getElem? (i := 183) rfl)) rfl
theorem m_5_133 : (Cond.static yJ9_max_7cf53) ∈ lwA := lwA_mk (ck_5 _ (List.mem_of_getElem? (i := 133) rfl)) rfl
theorem m_1_16 : (Cond.initialized "java/lang/Math") ∈ lwA := lwA_mk (ck_1 _ (List.mem_of_getElem? (i := 16) rfl)) rfl
theorem m_5_184 : (Cond.classLink RJx4a65c 7 "java/lang/Object") ∈ lwA := lwA_mk (ck_5 _ (List.mem_of_getElem? (i := 184) rfl)) rfl
theorem m_1_182 : (Cond.fieldLink RJx4a65c 48 "java/util/ArrayList" "size" "I") ∈ lwA := lwA_mk (ck_1 _ (List.mem_of_getElem? (i := 182) rfl)) rfl
theorem gf_RJx4a65c_48_3 {A9 : Nat → Prop} {H9 : Heap} {fs : List Value} {v : Value} (S : CallFix p m c cc nL s args lwA RJx4a65c) (hE : g_E D vwCl (gT ar) (EX1 κ) A9 s H9) (w : g_S D vwCl A H0 G H locs nz) (ha : G a = some (.inr (3, fs))) (hv : fs[2]? = some v) (hdg : decode cc pc = .ok (.getfield 48, 3)) (kk : W p l e R s m args below meth c H locs cells slots Q (F0 m (pc + 3) ls (v :: rest))) : W p l e R s m args below meth c H locs cells slots Q (F0 m pc ls (.ref a :: rest)) :=
  va_get (ci := 3) (C := RJx4a65c) (T := TJx4a65c) (N := 3) S.1 S.2.1 S.2.2.2.2 inA_RJx4a65c S.2.2.2.1 hE.1 (g_1 w.1 ha) 0 rfl rfl 2 (by decide) (S.2.2.2.2 _ m_1_182) (fun _ h => h) hv hdg kk
theorem m_5_128 : (Cond.code yJx4a65c_grow_92f84 cJx4a65c_grow_92f84 4 (some (.array (.object "java/lang/Object")))) ∈ lwA := lwA_mk (ck_5 _ (List.mem_of_getElem? (i := 128) rfl)) rfl
theorem m_5_125 : (Cond.methodLink RJx4a65c 69 yJx4a65c_grow_92f84) ∈ lwA := lwA_mk (ck_5 _ (List.mem_of_getElem? (i := 125) rfl)) rfl
theorem m_5_127 : (Cond.instanceMethod yJx4a65c_grow_92f84) ∈ lwA := lwA_mk (ck_5 _ (List.mem_of_getElem? (i := 127) rfl)) rfl
theorem ms_32 : (Cond.selects RJx4a65c yJx4a65c_grow_92f84 yJx4a65c_grow_92f84) ∈ lwA := lwA_mk (List.mem_append_left _ (List.mem_of_getElem? (i := 32) rfl)) rfl
theorem k_RJx4a65c_69 {args : Array Value} {s : State} {R rm : Room} (hts : ∀ w ∈ lwA, w.before args s = true) (hR : rm.frames + 1 ≤ R.frames ∧ 8 + (4 + 11) + rm.locals ≤ R.locals) : CallW R s args RJx4a65c RJx4a65c 69 yJx4a65c_grow_92f84 cJx4a65c_grow_92f84 4 (some (.array (.object "java/lang/Object"))) (lwC yJx4a65c_grow_92f84 cJx4a65c_grow_92f84 4 (some (.array (.object "java/lang/Object")))) rm rm.cells rm.slots 1 := cwV 1 hts (gdV m_5_125 m_5_127 ms_32 m_1_9 m_5_128) rfl rfl rfl (by decide +kernel) hR
theorem m_5_124 : (Cond.code yJx4a65c_grow_d5877 cJx4a65c_grow_d5877 1 (some (.array (.object "java/lang/Object")))) ∈ lwA := lwA_mk (ck_5 _ (List.mem_of_getElem? (i := 124) rfl)) rfl
theorem m_5_121 : (Cond.methodLink RJx4a65c 129 yJx4a65c_grow_d5877) ∈ lwA := lwA_mk (ck_5 _ (List.mem_of_getElem? (i := 121) rfl)) rfl
theorem m_5_123 : (Cond.instanceMethod yJx4a65c_grow_d5877) ∈ lwA := lwA_mk (ck_5 _ (List.mem_of_getElem? (i := 123) rfl)) rfl
theorem ms_31 : (Cond.selects RJx4a65c yJx4a65c_grow_d5877 yJx4a65c_grow_d5877) ∈ lwA := lwA_mk (List.mem_append_left _ (List.mem_of_getElem? (i := 31) rfl)) rfl
theorem k_RJx4a65c_129 {args : Array Value} {s : State} {R rm : Room} (hts : ∀ w ∈ lwA, w.before args s = true) (hR : rm.frames + 1 ≤ R.frames ∧ 8 + (1 + 11) + rm.locals ≤ R.locals) : CallW R s args RJx4a65c RJx4a65c 129 yJx4a65c_grow_d5877 cJx4a65c_grow_d5877 1 (some (.array (.object "java/lang/Object"))) (lwC yJx4a65c_grow_d5877 cJx4a65c_grow_d5877 1 (some (.array (.object "java/lang/Object")))) rm rm.cells rm.slots 0 := cwV 0 hts (gdV m_5_121 m_5_123 ms_31 m_1_9 m_5_124) rfl rfl rfl (by decide +kernel) hR
theorem pf_RJx4a65c_48_3 {A9 : Nat → Prop} {H9 : Heap} {fs : List Value} {v : Value} (S : CallFix p m c cc nL s args lwA RJx4a65c) (hE : g_E D vwCl (gT ar) (EX1 κ) A9 s H9) (w : g_S D vwCl A H0 G H locs nz) (ha : G a = some (.inr (3, fs))) (hn : narrow .int v = v) (hfit : fits .int v = true) (hl : 2 < fs.length) {fs1 : List Value} (hfs : fs.set 2 v = fs1) (hdg : decode cc pc = .ok (.putfield 48, 3)) (kk : ∀ (H1 : Heap) (locs1 : List Loc), g_S D vwCl A H0 (g_up G a (.inr (3, fs1))) H1 locs1 nz → W p l e R s m args below meth c H1 locs1 cells slots Q (F0 m (pc + 3) ls rest)) : W p l e R s m args below meth c H locs cells slots Q (F0 m pc ls (v :: .ref a :: rest)) :=
  g_put (ci := 3) (ty := .int) (C := RJx4a65c) (T := TJx4a65c) (N := 3) S.1 S.2.1 S.2.2.2.2 inA_RJx4a65c tyJx4a65c tyJx4a65c_ok nmJx4a65c S.2.2.2.1 hE.1 w ha rfl 2 (by decide) (S.2.2.2.2 _ m_1_182) (fun _ h => h) rfl (by decide +kernel) hn hfit hl hdg (fun H1 l1 w1 => kk H1 l1 (by rw [← hfs]; exact w1))
theorem m_1_186 : (Cond.fieldLink RJx4a65c 63 "java/util/ArrayList" "modCount" "I") ∈ lwA := lwA_mk (ck_1 _ (List.mem_of_getElem? (i := 186) rfl)) rfl
theorem m_1_185 : (Cond.sameField "java/util/ArrayList" "java/util/AbstractList" "modCount" "I") ∈ lwA := lwA_mk (ck_1 _ (List.mem_of_getElem? (i := 185) rfl)) rfl
theorem gf_RJx4a65c_63_3 {A9 : Nat → Prop} {H9 : Heap} {fs : List Value} {v : Value} (S : CallFix p m c cc nL s args lwA RJx4a65c) (hE : g_E D vwCl (gT ar) (EX1 κ) A9 s H9) (w : g_S D vwCl A H0 G H locs nz) (ha : G a = some (.inr (3, fs))) (hv : fs[0]? = some v) (hdg : decode cc pc = .ok (.getfield 63, 3)) (kk : W p l e R s m args below meth c H locs cells slots Q (F0 m (pc + 3) ls (v :: rest))) : W p l e R s m args below meth c H locs cells slots Q (F0 m pc ls (.ref a :: rest)) :=
  va_get (ci := 3) (C := RJx4a65c) (T := TJx4a65c) (N := 3) S.1 S.2.1 S.2.2.2.2 inA_RJx4a65c S.2.2.2.1 hE.1 (g_1 w.1 ha) 0 rfl rfl 0 (by decide) (S.2.2.2.2 _ m_1_186) (fun x9 h9 => u_same (S.2.2.2.2 _ m_1_185) x9 h9) hv hdg kk
theorem pf_RJx4a65c_63_3 {A9 : Nat → Prop} {H9 : Heap} {fs : List Value} {v : Value} (S : CallFix p m c cc nL s args lwA RJx4a65c) (hE : g_E D vwCl (gT ar) (EX1 κ) A9 s H9) (w : g_S D vwCl A H0 G H locs nz) (ha : G a = some (.inr (3, fs))) (hn : narrow .int v = v) (hfit : fits .int v = true) (hl : 0 < fs.length) {fs1 : List Value} (hfs : fs.set 0 v = fs1) (hdg : decode cc pc = .ok (.putfield 63, 3)) (kk : ∀ (H1 : Heap) (locs1 : List Loc), g_S D vwCl A H0 (g_up G a (.inr (3, fs1))) H1 locs1 nz → W p l e R s m args below meth c H1 locs1 cells slots Q (F0 m (pc + 3) ls rest)) : W p l e R s m args below meth c H locs cells slots Q (F0 m pc ls (v :: .ref a :: rest)) :=
  g_put (ci := 3) (ty := .int) (C := RJx4a65c) (T := TJx4a65c) (N := 3) S.1 S.2.1 S.2.2.2.2 inA_RJx4a65c tyJx4a65c tyJx4a65c_ok nmJx4a65c S.2.2.2.1 hE.1 w ha rfl 0 (by decide) (S.2.2.2.2 _ m_1_186) (fun x9 h9 => u_same (S.2.2.2.2 _ m_1_185) x9 h9) rfl (by decide +kernel) hn hfit hl hdg (fun H1 l1 w1 => kk H1 l1 (by rw [← hfs]; exact w1))
theorem m_5_120 : (Cond.code yJx4a65c_add_72be8 cJx4a65c_add_72be8 4 none) ∈ lwA := lwA_mk (ck_5 _ (List.mem_of_getElem? (i := 120) rfl)) rfl
theorem m_5_117 : (Cond.methodLink RJx4a65c 131 yJx4a65c_add_72be8) ∈ lwA := lwA_mk (ck_5 _ (List.mem_of_getElem? (i := 117) rfl)) rfl
theorem m_5_119 : (Cond.instanceMethod yJx4a65c_add_72be8) ∈ lwA := lwA_mk (ck_5 _ (List.mem_of_getElem? (i := 119) rfl)) rfl
theorem ms_30 : (Cond.selects RJx4a65c yJx4a65c_add_72be8 yJx4a65c_add_72be8) ∈ lwA := lwA_mk (List.mem_append_left _ (List.mem_of_getElem? (i := 30) rfl)) rfl
theorem k_RJx4a65c_131 {args : Array Value} {s : State} {R rm : Room} (hts : ∀ w ∈ lwA, w.before args s = true) (hR : rm.frames + 1 ≤ R.frames ∧ 8 + (4 + 11) + rm.locals ≤ R.locals) : CallW R s args RJx4a65c RJx4a65c 131 yJx4a65c_add_72be8 cJx4a65c_add_72be8 4 none (lwC yJx4a65c_add_72be8 cJx4a65c_add_72be8 4 none) rm rm.cells rm.slots 3 := cwV 3 hts (gdV m_5_117 m_5_119 ms_30 m_1_9 m_5_120) rfl rfl rfl (by decide +kernel) hR
end SITES
set_option maxHeartbeats 4000000 in
set_option maxRecDepth 100000 in
theorem c_grow1 (l : Launch) (D : va_G) (ar : Nat → ClassId) (κ : Nat → Nat) (G : gW) (sz : Nat) (o : Nat) (mc0 : Int32) (ho : G o = some (.inr (3, [.int mc0, .ref (κ 0), .int 0]))) : Met l yJx4a65c_grow_92f84 (lwC yJx4a65c_grow_92f84 cJx4a65c_grow_92f84 4 (some (.array (.object "java/lang/Object")))) (rD 2 1 10) (g_Pc D vwCl (gT ar) (EX1 κ) G sz [.ref o, .int 1]) (g_Qq D vwCl (g_A G sz) (fun r u => r = some sz ∧ u = ((g_up (g_up G sz (.inl (ar 11, 10, .inr (.inr (.inr (.inr (fun _ => none))))))) o (.inr (3, [.int mc0, .ref sz, .int 0]))), sz + 1))) 1 10 (g_A G sz) := by
  refine g_ofW (by decide +kernel) (Nat.le_of_ble_eq_true rfl) ?_
  intro p e s m below meth c ls S hr hlk hin hE w hl
  have hx := S.1
  have hb := S.2.1
  have hl : lv_has ls 4 [(0, .ref o), (1, .int 1)] := hl
  have lt_ho : o < sz := g_ltn w ho
  refine lv_aload_n hx hb dJx4a65c_grow_92f84_0 rfl (lv_at hl 0 rfl) ?_
  refine gf_RJx4a65c_9_3 S hE w ho rfl dJx4a65c_grow_92f84_1 ?_
  refine va_tlen hx hb hE.2.2.2.2.1.2.1 w.2.2.1 rfl dJx4a65c_grow_92f84_4 ?_
  show W p l e _ s m _ below meth c _ _ _ _ _ (F0 m _ ls (.int 0 :: _))
  refine lv_istore_n (lv' := [(2, .int 0), (0, .ref o), (1, .int 1)]) hx hb dJx4a65c_grow_92f84_5 rfl hl (by decide) rfl (fun ls hl => ?_)
  refine lv_iload_n hx hb dJx4a65c_grow_92f84_6 rfl (lv_at hl 0 rfl) ?_
  refine lv_if_gt (tgt := 20) hx hb dJx4a65c_grow_92f84_7 (by decide) (fun c => absurd c (by decide)) (fun _ => ?_)
  refine lv_aload_n hx hb dJx4a65c_grow_92f84_10 rfl (lv_at hl 1 rfl) ?_
  refine gf_RJx4a65c_9_3 S hE w ho rfl dJx4a65c_grow_92f84_11 ?_
  refine va_gets hx hb hE.2.2.2.2.1.1 w.2.2.1 S.2.2.2.1 (S.2.2.2.2 _ m_1_177) (fun _ h => h) dJx4a65c_grow_92f84_14 ?_
  refine lv_acmp_eq (rx := some (κ 0)) (ry := some (κ 0)) (tgt := 45) hx hb dJx4a65c_grow_92f84_17 (by decide) (fun _ => ?_) (fun c => absurd rfl c)
  refine lv_aload_n hx hb dJx4a65c_grow_92f84_45 rfl (lv_at hl 1 rfl) ?_
  refine lv_bipush (v := 10) hx hb dJx4a65c_grow_92f84_46 (by decide) ?_
  refine lv_iload_n hx hb dJx4a65c_grow_92f84_48 rfl (lv_at hl 2 rfl) ?_
  refine va_mmax hx hb (hl.1.trans S.2.2.1.symm).symm S.2.2.2.1 (S.2.2.2.2 _ m_5_183) (S.2.2.2.2 _ m_5_133) (S.2.2.2.2 _ m_1_16) (S.2.2.2.2 _ m_5_134) (Nat.le_of_ble_eq_true rfl) (Nat.le_of_ble_eq_true rfl) (Nat.le_of_ble_eq_true rfl) (Nat.le_of_ble_eq_true rfl) dJx4a65c_grow_92f84_49 ?_
  rw [show (if (10 : Int32) < 1 then (1 : Int32) else 10) = 10 from by decide]
  refine g_newq (N' := 10) hx hb S.2.2.2.1 (S.2.2.2.2 _ m_5_184) (va_AO.use (C := "java/lang/Object") (hE.2.1.1 _ (ckN_1 _ (List.mem_of_getElem? (i := 27) rfl)))) hE.1 w 11 rfl (by decide) rfl (Nat.le_of_ble_eq_true rfl) (Nat.le_of_ble_eq_true rfl) (Nat.le_of_ble_eq_true rfl) dJx4a65c_grow_92f84_52 (fun H w => ?_)
  refine lv_dup_x1 hx hb dJx4a65c_grow_92f84_55 rfl rfl ?_
  refine pf_RJx4a65c_9_3 (fs1 := [.int mc0, .ref sz, .int 0]) S hE w (g_up_o (by omega) ho) rfl rfl (Nat.le_of_ble_eq_true rfl) rfl dJx4a65c_grow_92f84_56 (fun H locs w => ?_)
  exact g_qret (r := (some sz)) hx hb hr (Or.inr ⟨_, rfl⟩) hlk w (Nat.le_of_ble_eq_true rfl) (Nat.le_of_ble_eq_true rfl) dJx4a65c_grow_92f84_59 ⟨rfl, rfl⟩
set_option maxHeartbeats 4000000 in
set_option maxRecDepth 100000 in
theorem c_grow0 (l : Launch) (D : va_G) (ar : Nat → ClassId) (κ : Nat → Nat) (G : gW) (sz : Nat) (o : Nat) (mc0 : Int32) (ho : G o = some (.inr (3, [.int mc0, .ref (κ 0), .int 0]))) : Met l yJx4a65c_grow_d5877 (lwC yJx4a65c_grow_d5877 cJx4a65c_grow_d5877 1 (some (.array (.object "java/lang/Object")))) (rD 3 1 10) (g_Pc D vwCl (gT ar) (EX1 κ) G sz [.ref o]) (g_Qq D vwCl (g_A G sz) (fun r u => r = some sz ∧ u = ((g_up (g_up G sz (.inl (ar 11, 10, .inr (.inr (.inr (.inr (fun _ => none))))))) o (.inr (3, [.int mc0, .ref sz, .int 0]))), sz + 1))) 1 10 (g_A G sz) := by
  refine g_ofW (by decide +kernel) (Nat.le_of_ble_eq_true rfl) ?_
  intro p e s m below meth c ls S hr hlk hin hE w hl
  have hx := S.1
  have hb := S.2.1
  have hl : lv_has ls 1 [(0, .ref o)] := hl
  have lt_ho : o < sz := g_ltn w ho
  refine lv_aload_n hx hb dJx4a65c_grow_d5877_0 rfl (lv_at hl 0 rfl) ?_
  refine lv_aload_n hx hb dJx4a65c_grow_d5877_1 rfl (lv_at hl 0 rfl) ?_
  refine gf_RJx4a65c_48_3 S hE w ho rfl dJx4a65c_grow_d5877_2 ?_
  refine lv_iconst (v := 1) hx hb dJx4a65c_grow_d5877_5 (by decide) ?_
  refine lv_iadd hx hb dJx4a65c_grow_d5877_6 ?_
  rw [show (0 + 1 : Int32) = 1 by decide +kernel]
  refine g_callq w (g_runV (As := [.int 1]) (rest := []) S hE w hl (c_grow1 l D ar κ G sz o mc0 ho) (k_RJx4a65c_69 S.2.2.2.2 ⟨Nat.le_of_ble_eq_true rfl, Nat.le_of_ble_eq_true rfl⟩) ho rfl rfl rfl rfl (Nat.le_of_ble_eq_true rfl) dJx4a65c_grow_d5877_7 ⟨Nat.le_of_ble_eq_true rfl, Nat.le_of_ble_eq_true rfl⟩) (fun r u H locs hp hnz w => ?_)
  obtain ⟨rfl, rfl⟩ := hp
  dsimp only at w
  exact g_qret (r := (some sz)) hx hb hr (Or.inr ⟨_, rfl⟩) hlk w (Nat.le_of_ble_eq_true rfl) (Nat.le_of_ble_eq_true rfl) dJx4a65c_grow_d5877_10 ⟨rfl, rfl⟩
set_option maxHeartbeats 4000000 in
set_option maxRecDepth 100000 in
theorem c_add3A_14 (l : Launch) (D : va_G) (ar : Nat → ClassId) (κ : Nat → Nat) (G : gW) (sz : Nat) (o : Nat) (ee : Nat) (mc0 : Int32) (e0 : Int32) (e1 : Int32) (e2 : Option Nat) (ho : G o = some (.inr (3, [.int mc0, .ref (κ 0), .int 0]))) (he : G ee = some (.inr (14, [.int e0, .int e1, va_rf e2]))) : Met l yJx4a65c_add_72be8 (lwC yJx4a65c_add_72be8 cJx4a65c_add_72be8 4 none) (rD 4 1 10) (g_Pc D vwCl (gT ar) (EX1 κ) G sz [.ref o, .ref ee, .ref (κ 0), .int 0]) (g_Qv D vwCl (g_A G sz) (fun u => u = ((g_up (g_up G sz (.inl (ar 11, 10, .inr (.inr (.inr (.inr (va_up (fun _ => none) (Int32.toNatClampNeg 0) (some ee)))))))) o (.inr (3, [.int mc0, .ref sz, .int 1]))), sz + 1))) 1 10 (g_A G sz) := by
  refine g_ofW (by decide +kernel) (Nat.le_of_ble_eq_true rfl) ?_
  intro p e s m below meth c ls S hr hlk hin hE w hl
  have hx := S.1
  have hb := S.2.1
  have hl : lv_has ls 4 [(0, .ref o), (1, .ref ee), (2, .ref (κ 0)), (3, .int 0)] := hl
  have lt_ho : o < sz := g_ltn w ho
  have lt_he : ee < sz := g_ltn w he
  refine lv_iload_n hx hb dJx4a65c_add_72be8_0 rfl (lv_at hl 3 rfl) ?_
  refine lv_aload_n hx hb dJx4a65c_add_72be8_1 rfl (lv_at hl 2 rfl) ?_
  refine va_tlen hx hb hE.2.2.2.2.1.2.1 w.2.2.1 rfl dJx4a65c_add_72be8_2 ?_
  show W p l e _ s m _ below meth c _ _ _ _ _ (F0 m _ ls (.int 0 :: _))
  refine lv_icmp_ne (tgt := 11) hx hb dJx4a65c_add_72be8_3 (by decide) (fun c => absurd (by decide) c) (fun _ => ?_)
  refine lv_aload_n hx hb dJx4a65c_add_72be8_6 rfl (lv_at hl 0 rfl) ?_
  refine g_callq w (g_runV (As := []) (rest := []) S hE w hl (c_grow0 l D ar κ G sz o mc0 ho) (k_RJx4a65c_129 S.2.2.2.2 ⟨Nat.le_of_ble_eq_true rfl, Nat.le_of_ble_eq_true rfl⟩) ho rfl rfl rfl rfl (Nat.le_of_ble_eq_true rfl) dJx4a65c_add_72be8_7 ⟨Nat.le_of_ble_eq_true rfl, Nat.le_of_ble_eq_true rfl⟩) (fun r u H locs hp hnz w => ?_)
  obtain ⟨rfl, rfl⟩ := hp
  dsimp only at w
  refine lv_astore_n (lv' := [(2, .ref sz), (0, .ref o), (1, .ref ee), (3, .int 0)]) hx hb dJx4a65c_add_72be8_10 rfl hl (by decide) rfl (fun ls hl => ?_)
  refine lv_aload_n hx hb dJx4a65c_add_72be8_11 rfl (lv_at hl 0 rfl) ?_
  refine lv_iload_n hx hb dJx4a65c_add_72be8_12 rfl (lv_at hl 3 rfl) ?_
  refine lv_aload_n hx hb dJx4a65c_add_72be8_13 rfl (lv_at hl 2 rfl) ?_
  refine g_astqO (r := (RX10, TX10, 3)) hx hb hE.1 w 11 14 (g_up_o (by omega) g_up_s) rfl (hE.2.1.1 _ (ckN_3 _ (List.mem_of_getElem? (i := 7) rfl))) (g_up_o (g_nx he ho (by simp)) (g_up_o (by omega) he)) rfl (vp_in_nI (n := 0) (by decide) (by decide)) dJx4a65c_add_72be8_14 (fun H locs w => ?_)
  have w := g_eqw w (g_inn g_over (by omega))
  refine lv_aload_n hx hb dJx4a65c_add_72be8_15 rfl (lv_at hl 1 rfl) ?_
  refine lv_iload_n hx hb dJx4a65c_add_72be8_16 rfl (lv_at hl 3 rfl) ?_
  refine lv_iconst (v := 1) hx hb dJx4a65c_add_72be8_17 (by decide) ?_
  refine lv_iadd hx hb dJx4a65c_add_72be8_18 ?_
  rw [show (0 + 1 : Int32) = 1 by decide +kernel]
  refine pf_RJx4a65c_48_3 (fs1 := [.int mc0, .ref sz, .int 1]) S hE w g_up_s rfl rfl (Nat.le_of_ble_eq_true rfl) rfl dJx4a65c_add_72be8_19 (fun H locs w => ?_)
  have w := g_eqw w g_over
  exact g_vret hx hb hr hlk w (Nat.le_of_ble_eq_true rfl) (Nat.le_of_ble_eq_true rfl) dJx4a65c_add_72be8_22 rfl
set_option maxHeartbeats 4000000 in
set_option maxRecDepth 100000 in
theorem c_add1A_14 (l : Launch) (D : va_G) (ar : Nat → ClassId) (κ : Nat → Nat) (G : gW) (sz : Nat) (o : Nat) (ee : Nat) (mc0 : Int32) (e0 : Int32) (e1 : Int32) (e2 : Option Nat) (ho : G o = some (.inr (3, [.int mc0, .ref (κ 0), .int 0]))) (he : G ee = some (.inr (14, [.int e0, .int e1, va_rf e2]))) : Met l yJx4a65c_add_9ea2d (lwC yJx4a65c_add_9ea2d cJx4a65c_add_9ea2d 2 (some .boolean)) (rD 5 1 10) (g_Pc D vwCl (gT ar) (EX1 κ) G sz [.ref o, .ref ee]) (g_Qi D vwCl (g_A G sz) (fun r u => r = 1 ∧ u = ((g_up (g_up G o (.inr (3, [.int (mc0 + 1), .ref sz, .int 1]))) sz (.inl (ar 11, 10, .inr (.inr (.inr (.inr (va_up (fun _ => none) (Int32.toNatClampNeg 0) (some ee)))))))), sz + 1))) 1 10 (g_A G sz) := by
  refine g_ofW (by decide +kernel) (Nat.le_of_ble_eq_true rfl) ?_
  intro p e s m below meth c ls S hr hlk hin hE w hl
  have hx := S.1
  have hb := S.2.1
  have hl : lv_has ls 2 [(0, .ref o), (1, .ref ee)] := hl
  have lt_ho : o < sz := g_ltn w ho
  have lt_he : ee < sz := g_ltn w he
  refine lv_aload_n hx hb dJx4a65c_add_9ea2d_0 rfl (lv_at hl 0 rfl) ?_
  refine lv_dup hx hb dJx4a65c_add_9ea2d_1 rfl ?_
  refine gf_RJx4a65c_63_3 S hE w ho rfl dJx4a65c_add_9ea2d_2 ?_
  refine lv_iconst (v := 1) hx hb dJx4a65c_add_9ea2d_5 (by decide) ?_
  refine lv_iadd hx hb dJx4a65c_add_9ea2d_6 ?_
  refine pf_RJx4a65c_63_3 (fs1 := [.int (mc0 + 1), .ref (κ 0), .int 0]) S hE w ho rfl rfl (Nat.le_of_ble_eq_true rfl) rfl dJx4a65c_add_9ea2d_7 (fun H locs w => ?_)
  refine lv_aload_n hx hb dJx4a65c_add_9ea2d_10 rfl (lv_at hl 0 rfl) ?_
  refine lv_aload_n hx hb dJx4a65c_add_9ea2d_11 rfl (lv_at hl 1 rfl) ?_
  refine lv_aload_n hx hb dJx4a65c_add_9ea2d_12 rfl (lv_at hl 0 rfl) ?_
  refine gf_RJx4a65c_9_3 S hE w g_up_s rfl dJx4a65c_add_9ea2d_13 ?_
  refine lv_aload_n hx hb dJx4a65c_add_9ea2d_16 rfl (lv_at hl 0 rfl) ?_
  refine gf_RJx4a65c_48_3 S hE w g_up_s rfl dJx4a65c_add_9ea2d_17 ?_
  refine g_callv w (g_runV (As := [.ref ee, .ref (κ 0), .int 0]) (rest := []) S hE w hl (c_add3A_14 l D ar κ (g_up G o (.inr (3, [.int (mc0 + 1), .ref (κ 0), .int 0]))) sz o ee (mc0 + 1) e0 e1 e2 g_up_s (g_up_o (g_nx he ho (by simp)) he)) (k_RJx4a65c_131 S.2.2.2.2 ⟨Nat.le_of_ble_eq_true rfl, Nat.le_of_ble_eq_true rfl⟩) g_up_s rfl rfl rfl rfl (Nat.le_of_ble_eq_true rfl) dJx4a65c_add_9ea2d_20 ⟨Nat.le_of_ble_eq_true rfl, Nat.le_of_ble_eq_true rfl⟩) (fun u H locs hp hnz w => ?_)
  obtain rfl := hp
  dsimp only at w
  have w := g_eqw w (g_inn g_over (by omega))
  refine lv_iconst (v := 1) hx hb dJx4a65c_add_9ea2d_23 (by decide) ?_
  exact g_zret hx hb hr hlk w (Nat.le_of_ble_eq_true rfl) (Nat.le_of_ble_eq_true rfl) dJx4a65c_add_9ea2d_24 rfl ⟨rfl, rfl⟩
set_option maxHeartbeats 4000000 in
set_option maxRecDepth 100000 in
theorem c_add3B_14 (l : Launch) (D : va_G) (ar : Nat → ClassId) (κ : Nat → Nat) (G : gW) (sz : Nat) (o : Nat) (ee : Nat) (ed : Nat) (n : Int32) (mc0 : Int32) (f : Nat → Option Nat) (e0 : Int32) (e1 : Int32) (e2 : Option Nat) (ho : G o = some (.inr (3, [.int mc0, .ref ed, .int n]))) (hf : G ed = some (.inl (ar 11, 10, .inr (.inr (.inr (.inr f)))))) (he : G ee = some (.inr (14, [.int e0, .int e1, va_rf e2]))) (hn : ¬ n = 10) (hin9 : vp_in n 10) : Met l yJx4a65c_add_72be8 (lwC yJx4a65c_add_72be8 cJx4a65c_add_72be8 4 none) (rD 4 0 0) (g_Pc D vwCl (gT ar) (EX1 κ) G sz [.ref o, .ref ee, .ref ed, .int n]) (g_Qv D vwCl (g_A G sz) (fun u => u = ((g_up (g_up G ed (.inl (ar 11, 10, .inr (.inr (.inr (.inr (va_up f (Int32.toNatClampNeg n) (some ee)))))))) o (.inr (3, [.int mc0, .ref ed, .int (n + 1)]))), sz))) 0 0 (g_A G sz) := by
  refine g_ofW (by decide +kernel) (Nat.le_of_ble_eq_true rfl) ?_
  intro p e s m below meth c ls S hr hlk hin hE w hl
  have hx := S.1
  have hb := S.2.1
  have hl : lv_has ls 4 [(0, .ref o), (1, .ref ee), (2, .ref ed), (3, .int n)] := hl
  have lt_ho : o < sz := g_ltn w ho
  have lt_hf : ed < sz := g_ltn w hf
  have lt_he : ee < sz := g_ltn w he
  refine lv_iload_n hx hb dJx4a65c_add_72be8_0 rfl (lv_at hl 3 rfl) ?_
  refine lv_aload_n hx hb dJx4a65c_add_72be8_1 rfl (lv_at hl 2 rfl) ?_
  refine va_alen (v := 10) hx hb hE.1 (g_1 w.1 hf) 0 11 rfl rfl rfl dJx4a65c_add_72be8_2 ?_
  refine lv_icmp_ne (tgt := 11) hx hb dJx4a65c_add_72be8_3 (by decide) (fun c_3 => ?_) (fun c_3 => absurd c_3 hn)
  refine lv_aload_n hx hb dJx4a65c_add_72be8_11 rfl (lv_at hl 2 rfl) ?_
  refine lv_iload_n hx hb dJx4a65c_add_72be8_12 rfl (lv_at hl 3 rfl) ?_
  refine lv_aload_n hx hb dJx4a65c_add_72be8_13 rfl (lv_at hl 1 rfl) ?_
  refine g_astqO (r := (RX10, TX10, 3)) hx hb hE.1 w 11 14 hf rfl (hE.2.1.1 _ (ckN_3 _ (List.mem_of_getElem? (i := 7) rfl))) he rfl hin9 dJx4a65c_add_72be8_14 (fun H locs w => ?_)
  refine lv_aload_n hx hb dJx4a65c_add_72be8_15 rfl (lv_at hl 0 rfl) ?_
  refine lv_iload_n hx hb dJx4a65c_add_72be8_16 rfl (lv_at hl 3 rfl) ?_
  refine lv_iconst (v := 1) hx hb dJx4a65c_add_72be8_17 (by decide) ?_
  refine lv_iadd hx hb dJx4a65c_add_72be8_18 ?_
  refine pf_RJx4a65c_48_3 (fs1 := [.int mc0, .ref ed, .int (n + 1)]) S hE w (g_up_o (g_nx ho hf (by simp)) ho) rfl rfl (Nat.le_of_ble_eq_true rfl) rfl dJx4a65c_add_72be8_19 (fun H locs w => ?_)
  exact g_vret hx hb hr hlk w (Nat.le_of_ble_eq_true rfl) (Nat.le_of_ble_eq_true rfl) dJx4a65c_add_72be8_22 rfl
set_option maxHeartbeats 4000000 in
set_option maxRecDepth 100000 in
theorem c_add1B_14 (l : Launch) (D : va_G) (ar : Nat → ClassId) (κ : Nat → Nat) (G : gW) (sz : Nat) (o : Nat) (ee : Nat) (mc0 : Int32) (ed : Nat) (n : Int32) (f : Nat → Option Nat) (e0 : Int32) (e1 : Int32) (e2 : Option Nat) (ho : G o = some (.inr (3, [.int mc0, .ref ed, .int n]))) (hf : G ed = some (.inl (ar 11, 10, .inr (.inr (.inr (.inr f)))))) (he : G ee = some (.inr (14, [.int e0, .int e1, va_rf e2]))) (hn : ¬ n = 10) (hin9 : vp_in n 10) : Met l yJx4a65c_add_9ea2d (lwC yJx4a65c_add_9ea2d cJx4a65c_add_9ea2d 2 (some .boolean)) (rD 5 0 0) (g_Pc D vwCl (gT ar) (EX1 κ) G sz [.ref o, .ref ee]) (g_Qi D vwCl (g_A G sz) (fun r u => r = 1 ∧ u = ((g_up (g_up G o (.inr (3, [.int (mc0 + 1), .ref ed, .int (n + 1)]))) ed (.inl (ar 11, 10, .inr (.inr (.inr (.inr (va_up f (Int32.toNatClampNeg n) (some ee)))))))), sz))) 0 0 (g_A G sz) := by
  refine g_ofW (by decide +kernel) (Nat.le_of_ble_eq_true rfl) ?_
  intro p e s m below meth c ls S hr hlk hin hE w hl
  have hx := S.1
  have hb := S.2.1
  have hl : lv_has ls 2 [(0, .ref o), (1, .ref ee)] := hl
  have lt_ho : o < sz := g_ltn w ho
  have lt_hf : ed < sz := g_ltn w hf
  have lt_he : ee < sz := g_ltn w he
  refine lv_aload_n hx hb dJx4a65c_add_9ea2d_0 rfl (lv_at hl 0 rfl) ?_
  refine lv_dup hx hb dJx4a65c_add_9ea2d_1 rfl ?_
  refine gf_RJx4a65c_63_3 S hE w ho rfl dJx4a65c_add_9ea2d_2 ?_
  refine lv_iconst (v := 1) hx hb dJx4a65c_add_9ea2d_5 (by decide) ?_
  refine lv_iadd hx hb dJx4a65c_add_9ea2d_6 ?_
  refine pf_RJx4a65c_63_3 (fs1 := [.int (mc0 + 1), .ref ed, .int n]) S hE w ho rfl rfl (Nat.le_of_ble_eq_true rfl) rfl dJx4a65c_add_9ea2d_7 (fun H locs w => ?_)
  refine lv_aload_n hx hb dJx4a65c_add_9ea2d_10 rfl (lv_at hl 0 rfl) ?_
  refine lv_aload_n hx hb dJx4a65c_add_9ea2d_11 rfl (lv_at hl 1 rfl) ?_
  refine lv_aload_n hx hb dJx4a65c_add_9ea2d_12 rfl (lv_at hl 0 rfl) ?_
  refine gf_RJx4a65c_9_3 S hE w g_up_s rfl dJx4a65c_add_9ea2d_13 ?_
  refine lv_aload_n hx hb dJx4a65c_add_9ea2d_16 rfl (lv_at hl 0 rfl) ?_
  refine gf_RJx4a65c_48_3 S hE w g_up_s rfl dJx4a65c_add_9ea2d_17 ?_
  refine g_callv w (g_runV (As := [.ref ee, .ref ed, .int n]) (rest := []) S hE w hl (c_add3B_14 l D ar κ (g_up G o (.inr (3, [.int (mc0 + 1), .ref ed, .int n]))) sz o ee ed n (mc0 + 1) f e0 e1 e2 g_up_s (g_up_o (g_nx hf ho (by simp)) hf) (g_up_o (g_nx he ho (by simp)) he) hn hin9) (k_RJx4a65c_131 S.2.2.2.2 ⟨Nat.le_of_ble_eq_true rfl, Nat.le_of_ble_eq_true rfl⟩) g_up_s rfl rfl rfl rfl (Nat.le_of_ble_eq_true rfl) dJx4a65c_add_9ea2d_20 ⟨Nat.le_of_ble_eq_true rfl, Nat.le_of_ble_eq_true rfl⟩) (fun u H locs hp hnz w => ?_)
  obtain rfl := hp
  dsimp only at w
  have w := g_eqw w (g_inn g_over (g_nx ho hf (by simp)))
  refine lv_iconst (v := 1) hx hb dJx4a65c_add_9ea2d_23 (by decide) ?_
  exact g_zret hx hb hr hlk w (Nat.le_of_ble_eq_true rfl) (Nat.le_of_ble_eq_true rfl) dJx4a65c_add_9ea2d_24 rfl ⟨rfl, rfl⟩
set_option maxHeartbeats 4000000 in
set_option maxRecDepth 100000 in
theorem c_add3A_16 (l : Launch) (D : va_G) (ar : Nat → ClassId) (κ : Nat → Nat) (G : gW) (sz : Nat) (o : Nat) (ee : Nat) (mc0 : Int32) (e0 : Int32) (e1 : Int32) (e2 : Int32) (ho : G o = some (.inr (3, [.int mc0, .ref (κ 0), .int 0]))) (he : G ee = some (.inr (16, [.int e0, .int e1, .int e2]))) : Met l yJx4a65c_add_72be8 (lwC yJx4a65c_add_72be8 cJx4a65c_add_72be8 4 none) (rD 4 1 10) (g_Pc D vwCl (gT ar) (EX1 κ) G sz [.ref o, .ref ee, .ref (κ 0), .int 0]) (g_Qv D vwCl (g_A G sz) (fun u => u = ((g_up (g_up G sz (.inl (ar 11, 10, .inr (.inr (.inr (.inr (va_up (fun _ => none) (Int32.toNatClampNeg 0) (some ee)))))))) o (.inr (3, [.int mc0, .ref sz, .int 1]))), sz + 1))) 1 10 (g_A G sz) := by
  refine g_ofW (by decide +kernel) (Nat.le_of_ble_eq_true rfl) ?_
  intro p e s m below meth c ls S hr hlk hin hE w hl
  have hx := S.1
  have hb := S.2.1
  have hl : lv_has ls 4 [(0, .ref o), (1, .ref ee), (2, .ref (κ 0)), (3, .int 0)] := hl
  have lt_ho : o < sz := g_ltn w ho
  have lt_he : ee < sz := g_ltn w he
  refine lv_iload_n hx hb dJx4a65c_add_72be8_0 rfl (lv_at hl 3 rfl) ?_
  refine lv_aload_n hx hb dJx4a65c_add_72be8_1 rfl (lv_at hl 2 rfl) ?_
  refine va_tlen hx hb hE.2.2.2.2.1.2.1 w.2.2.1 rfl dJx4a65c_add_72be8_2 ?_
  show W p l e _ s m _ below meth c _ _ _ _ _ (F0 m _ ls (.int 0 :: _))
  refine lv_icmp_ne (tgt := 11) hx hb dJx4a65c_add_72be8_3 (by decide) (fun c => absurd (by decide) c) (fun _ => ?_)
  refine lv_aload_n hx hb dJx4a65c_add_72be8_6 rfl (lv_at hl 0 rfl) ?_
  refine g_callq w (g_runV (As := []) (rest := []) S hE w hl (c_grow0 l D ar κ G sz o mc0 ho) (k_RJx4a65c_129 S.2.2.2.2 ⟨Nat.le_of_ble_eq_true rfl, Nat.le_of_ble_eq_true rfl⟩) ho rfl rfl rfl rfl (Nat.le_of_ble_eq_true rfl) dJx4a65c_add_72be8_7 ⟨Nat.le_of_ble_eq_true rfl, Nat.le_of_ble_eq_true rfl⟩) (fun r u H locs hp hnz w => ?_)
  obtain ⟨rfl, rfl⟩ := hp
  dsimp only at w
  refine lv_astore_n (lv' := [(2, .ref sz), (0, .ref o), (1, .ref ee), (3, .int 0)]) hx hb dJx4a65c_add_72be8_10 rfl hl (by decide) rfl (fun ls hl => ?_)
  refine lv_aload_n hx hb dJx4a65c_add_72be8_11 rfl (lv_at hl 0 rfl) ?_
  refine lv_iload_n hx hb dJx4a65c_add_72be8_12 rfl (lv_at hl 3 rfl) ?_
  refine lv_aload_n hx hb dJx4a65c_add_72be8_13 rfl (lv_at hl 2 rfl) ?_
  refine g_astqO (r := (RX12, TX12, 3)) hx hb hE.1 w 11 16 (g_up_o (by omega) g_up_s) rfl (hE.2.1.1 _ (ckN_3 _ (List.mem_of_getElem? (i := 12) rfl))) (g_up_o (g_nx he ho (by simp)) (g_up_o (by omega) he)) rfl (vp_in_nI (n := 0) (by decide) (by decide)) dJx4a65c_add_72be8_14 (fun H locs w => ?_)
  have w := g_eqw w (g_inn g_over (by omega))
  refine lv_aload_n hx hb dJx4a65c_add_72be8_15 rfl (lv_at hl 1 rfl) ?_
  refine lv_iload_n hx hb dJx4a65c_add_72be8_16 rfl (lv_at hl 3 rfl) ?_
  refine lv_iconst (v := 1) hx hb dJx4a65c_add_72be8_17 (by decide) ?_
  refine lv_iadd hx hb dJx4a65c_add_72be8_18 ?_
  rw [show (0 + 1 : Int32) = 1 by decide +kernel]
  refine pf_RJx4a65c_48_3 (fs1 := [.int mc0, .ref sz, .int 1]) S hE w g_up_s rfl rfl (Nat.le_of_ble_eq_true rfl) rfl dJx4a65c_add_72be8_19 (fun H locs w => ?_)
  have w := g_eqw w g_over
  exact g_vret hx hb hr hlk w (Nat.le_of_ble_eq_true rfl) (Nat.le_of_ble_eq_true rfl) dJx4a65c_add_72be8_22 rfl
set_option maxHeartbeats 4000000 in
set_option maxRecDepth 100000 in
theorem c_add1A_16 (l : Launch) (D : va_G) (ar : Nat → ClassId) (κ : Nat → Nat) (G : gW) (sz : Nat) (o : Nat) (ee : Nat) (mc0 : Int32) (e0 : Int32) (e1 : Int32) (e2 : Int32) (ho : G o = some (.inr (3, [.int mc0, .ref (κ 0), .int 0]))) (he : G ee = some (.inr (16, [.int e0, .int e1, .int e2]))) : Met l yJx4a65c_add_9ea2d (lwC yJx4a65c_add_9ea2d cJx4a65c_add_9ea2d 2 (some .boolean)) (rD 5 1 10) (g_Pc D vwCl (gT ar) (EX1 κ) G sz [.ref o, .ref ee]) (g_Qi D vwCl (g_A G sz) (fun r u => r = 1 ∧ u = ((g_up (g_up G o (.inr (3, [.int (mc0 + 1), .ref sz, .int 1]))) sz (.inl (ar 11, 10, .inr (.inr (.inr (.inr (va_up (fun _ => none) (Int32.toNatClampNeg 0) (some ee)))))))), sz + 1))) 1 10 (g_A G sz) := by
  refine g_ofW (by decide +kernel) (Nat.le_of_ble_eq_true rfl) ?_
  intro p e s m below meth c ls S hr hlk hin hE w hl
  have hx := S.1
  have hb := S.2.1
  have hl : lv_has ls 2 [(0, .ref o), (1, .ref ee)] := hl
  have lt_ho : o < sz := g_ltn w ho
  have lt_he : ee < sz := g_ltn w he
  refine lv_aload_n hx hb dJx4a65c_add_9ea2d_0 rfl (lv_at hl 0 rfl) ?_
  refine lv_dup hx hb dJx4a65c_add_9ea2d_1 rfl ?_
  refine gf_RJx4a65c_63_3 S hE w ho rfl dJx4a65c_add_9ea2d_2 ?_
  refine lv_iconst (v := 1) hx hb dJx4a65c_add_9ea2d_5 (by decide) ?_
  refine lv_iadd hx hb dJx4a65c_add_9ea2d_6 ?_
  refine pf_RJx4a65c_63_3 (fs1 := [.int (mc0 + 1), .ref (κ 0), .int 0]) S hE w ho rfl rfl (Nat.le_of_ble_eq_true rfl) rfl dJx4a65c_add_9ea2d_7 (fun H locs w => ?_)
  refine lv_aload_n hx hb dJx4a65c_add_9ea2d_10 rfl (lv_at hl 0 rfl) ?_
  refine lv_aload_n hx hb dJx4a65c_add_9ea2d_11 rfl (lv_at hl 1 rfl) ?_
  refine lv_aload_n hx hb dJx4a65c_add_9ea2d_12 rfl (lv_at hl 0 rfl) ?_
  refine gf_RJx4a65c_9_3 S hE w g_up_s rfl dJx4a65c_add_9ea2d_13 ?_
  refine lv_aload_n hx hb dJx4a65c_add_9ea2d_16 rfl (lv_at hl 0 rfl) ?_
  refine gf_RJx4a65c_48_3 S hE w g_up_s rfl dJx4a65c_add_9ea2d_17 ?_
  refine g_callv w (g_runV (As := [.ref ee, .ref (κ 0), .int 0]) (rest := []) S hE w hl (c_add3A_16 l D ar κ (g_up G o (.inr (3, [.int (mc0 + 1), .ref (κ 0), .int 0]))) sz o ee (mc0 + 1) e0 e1 e2 g_up_s (g_up_o (g_nx he ho (by simp)) he)) (k_RJx4a65c_131 S.2.2.2.2 ⟨Nat.le_of_ble_eq_true rfl, Nat.le_of_ble_eq_true rfl⟩) g_up_s rfl rfl rfl rfl (Nat.le_of_ble_eq_true rfl) dJx4a65c_add_9ea2d_20 ⟨Nat.le_of_ble_eq_true rfl, Nat.le_of_ble_eq_true rfl⟩) (fun u H locs hp hnz w => ?_)
  obtain rfl := hp
  dsimp only at w
  have w := g_eqw w (g_inn g_over (by omega))
  refine lv_iconst (v := 1) hx hb dJx4a65c_add_9ea2d_23 (by decide) ?_
  exact g_zret hx hb hr hlk w (Nat.le_of_ble_eq_true rfl) (Nat.le_of_ble_eq_true rfl) dJx4a65c_add_9ea2d_24 rfl ⟨rfl, rfl⟩
set_option maxHeartbeats 4000000 in
set_option maxRecDepth 100000 in
theorem c_add3A_17 (l : Launch) (D : va_G) (ar : Nat → ClassId) (κ : Nat → Nat) (G : gW) (sz : Nat) (o : Nat) (ee : Nat) (mc0 : Int32) (e0 : Int32) (e1 : Int32) (e2 : Option Nat) (e3 : Int32) (ho : G o = some (.inr (3, [.int mc0, .ref (κ 0), .int 0]))) (he : G ee = some (.inr (17, [.int e0, .int e1, va_rf e2, .int e3]))) : Met l yJx4a65c_add_72be8 (lwC yJx4a65c_add_72be8 cJx4a65c_add_72be8 4 none) (rD 4 1 10) (g_Pc D vwCl (gT ar) (EX1 κ) G sz [.ref o, .ref ee, .ref (κ 0), .int 0]) (g_Qv D vwCl (g_A G sz) (fun u => u = ((g_up (g_up G sz (.inl (ar 11, 10, .inr (.inr (.inr (.inr (va_up (fun _ => none) (Int32.toNatClampNeg 0) (some ee)))))))) o (.inr (3, [.int mc0, .ref sz, .int 1]))), sz + 1))) 1 10 (g_A G sz) := by
  refine g_ofW (by decide +kernel) (Nat.le_of_ble_eq_true rfl) ?_
  intro p e s m below meth c ls S hr hlk hin hE w hl
  have hx := S.1
  have hb := S.2.1
  have hl : lv_has ls 4 [(0, .ref o), (1, .ref ee), (2, .ref (κ 0)), (3, .int 0)] := hl
  have lt_ho : o < sz := g_ltn w ho
  have lt_he : ee < sz := g_ltn w he
  refine lv_iload_n hx hb dJx4a65c_add_72be8_0 rfl (lv_at hl 3 rfl) ?_
  refine lv_aload_n hx hb dJx4a65c_add_72be8_1 rfl (lv_at hl 2 rfl) ?_
  refine va_tlen hx hb hE.2.2.2.2.1.2.1 w.2.2.1 rfl dJx4a65c_add_72be8_2 ?_
  show W p l e _ s m _ below meth c _ _ _ _ _ (F0 m _ ls (.int 0 :: _))
  refine lv_icmp_ne (tgt := 11) hx hb dJx4a65c_add_72be8_3 (by decide) (fun c => absurd (by decide) c) (fun _ => ?_)
  refine lv_aload_n hx hb dJx4a65c_add_72be8_6 rfl (lv_at hl 0 rfl) ?_
  refine g_callq w (g_runV (As := []) (rest := []) S hE w hl (c_grow0 l D ar κ G sz o mc0 ho) (k_RJx4a65c_129 S.2.2.2.2 ⟨Nat.le_of_ble_eq_true rfl, Nat.le_of_ble_eq_true rfl⟩) ho rfl rfl rfl rfl (Nat.le_of_ble_eq_true rfl) dJx4a65c_add_72be8_7 ⟨Nat.le_of_ble_eq_true rfl, Nat.le_of_ble_eq_true rfl⟩) (fun r u H locs hp hnz w => ?_)
  obtain ⟨rfl, rfl⟩ := hp
  dsimp only at w
  refine lv_astore_n (lv' := [(2, .ref sz), (0, .ref o), (1, .ref ee), (3, .int 0)]) hx hb dJx4a65c_add_72be8_10 rfl hl (by decide) rfl (fun ls hl => ?_)
  refine lv_aload_n hx hb dJx4a65c_add_72be8_11 rfl (lv_at hl 0 rfl) ?_
  refine lv_iload_n hx hb dJx4a65c_add_72be8_12 rfl (lv_at hl 3 rfl) ?_
  refine lv_aload_n hx hb dJx4a65c_add_72be8_13 rfl (lv_at hl 2 rfl) ?_
  refine g_astqO (r := (RX13, TX13, 4)) hx hb hE.1 w 11 17 (g_up_o (by omega) g_up_s) rfl (hE.2.1.1 _ (ckN_3 _ (List.mem_of_getElem? (i := 16) rfl))) (g_up_o (g_nx he ho (by simp)) (g_up_o (by omega) he)) rfl (vp_in_nI (n := 0) (by decide) (by decide)) dJx4a65c_add_72be8_14 (fun H locs w => ?_)
  have w := g_eqw w (g_inn g_over (by omega))
  refine lv_aload_n hx hb dJx4a65c_add_72be8_15 rfl (lv_at hl 1 rfl) ?_
  refine lv_iload_n hx hb dJx4a65c_add_72be8_16 rfl (lv_at hl 3 rfl) ?_
  refine lv_iconst (v := 1) hx hb dJx4a65c_add_72be8_17 (by decide) ?_
  refine lv_iadd hx hb dJx4a65c_add_72be8_18 ?_
  rw [show (0 + 1 : Int32) = 1 by decide +kernel]
  refine pf_RJx4a65c_48_3 (fs1 := [.int mc0, .ref sz, .int 1]) S hE w g_up_s rfl rfl (Nat.le_of_ble_eq_true rfl) rfl dJx4a65c_add_72be8_19 (fun H locs w => ?_)
  have w := g_eqw w g_over
  exact g_vret hx hb hr hlk w (Nat.le_of_ble_eq_true rfl) (Nat.le_of_ble_eq_true rfl) dJx4a65c_add_72be8_22 rfl
set_option maxHeartbeats 4000000 in
set_option maxRecDepth 100000 in
theorem c_add1A_17 (l : Launch) (D : va_G) (ar : Nat → ClassId) (κ : Nat → Nat) (G : gW) (sz : Nat) (o : Nat) (ee : Nat) (mc0 : Int32) (e0 : Int32) (e1 : Int32) (e2 : Option Nat) (e3 : Int32) (ho : G o = some (.inr (3, [.int mc0, .ref (κ 0), .int 0]))) (he : G ee = some (.inr (17, [.int e0, .int e1, va_rf e2, .int e3]))) : Met l yJx4a65c_add_9ea2d (lwC yJx4a65c_add_9ea2d cJx4a65c_add_9ea2d 2 (some .boolean)) (rD 5 1 10) (g_Pc D vwCl (gT ar) (EX1 κ) G sz [.ref o, .ref ee]) (g_Qi D vwCl (g_A G sz) (fun r u => r = 1 ∧ u = ((g_up (g_up G o (.inr (3, [.int (mc0 + 1), .ref sz, .int 1]))) sz (.inl (ar 11, 10, .inr (.inr (.inr (.inr (va_up (fun _ => none) (Int32.toNatClampNeg 0) (some ee)))))))), sz + 1))) 1 10 (g_A G sz) := by
  refine g_ofW (by decide +kernel) (Nat.le_of_ble_eq_true rfl) ?_
  intro p e s m below meth c ls S hr hlk hin hE w hl
  have hx := S.1
  have hb := S.2.1
  have hl : lv_has ls 2 [(0, .ref o), (1, .ref ee)] := hl
  have lt_ho : o < sz := g_ltn w ho
  have lt_he : ee < sz := g_ltn w he
  refine lv_aload_n hx hb dJx4a65c_add_9ea2d_0 rfl (lv_at hl 0 rfl) ?_
  refine lv_dup hx hb dJx4a65c_add_9ea2d_1 rfl ?_
  refine gf_RJx4a65c_63_3 S hE w ho rfl dJx4a65c_add_9ea2d_2 ?_
  refine lv_iconst (v := 1) hx hb dJx4a65c_add_9ea2d_5 (by decide) ?_
  refine lv_iadd hx hb dJx4a65c_add_9ea2d_6 ?_
  refine pf_RJx4a65c_63_3 (fs1 := [.int (mc0 + 1), .ref (κ 0), .int 0]) S hE w ho rfl rfl (Nat.le_of_ble_eq_true rfl) rfl dJx4a65c_add_9ea2d_7 (fun H locs w => ?_)
  refine lv_aload_n hx hb dJx4a65c_add_9ea2d_10 rfl (lv_at hl 0 rfl) ?_
  refine lv_aload_n hx hb dJx4a65c_add_9ea2d_11 rfl (lv_at hl 1 rfl) ?_
  refine lv_aload_n hx hb dJx4a65c_add_9ea2d_12 rfl (lv_at hl 0 rfl) ?_
  refine gf_RJx4a65c_9_3 S hE w g_up_s rfl dJx4a65c_add_9ea2d_13 ?_
  refine lv_aload_n hx hb dJx4a65c_add_9ea2d_16 rfl (lv_at hl 0 rfl) ?_
  refine gf_RJx4a65c_48_3 S hE w g_up_s rfl dJx4a65c_add_9ea2d_17 ?_
  refine g_callv w (g_runV (As := [.ref ee, .ref (κ 0), .int 0]) (rest := []) S hE w hl (c_add3A_17 l D ar κ (g_up G o (.inr (3, [.int (mc0 + 1), .ref (κ 0), .int 0]))) sz o ee (mc0 + 1) e0 e1 e2 e3 g_up_s (g_up_o (g_nx he ho (by simp)) he)) (k_RJx4a65c_131 S.2.2.2.2 ⟨Nat.le_of_ble_eq_true rfl, Nat.le_of_ble_eq_true rfl⟩) g_up_s rfl rfl rfl rfl (Nat.le_of_ble_eq_true rfl) dJx4a65c_add_9ea2d_20 ⟨Nat.le_of_ble_eq_true rfl, Nat.le_of_ble_eq_true rfl⟩) (fun u H locs hp hnz w => ?_)
  obtain rfl := hp
  dsimp only at w
  have w := g_eqw w (g_inn g_over (by omega))
  refine lv_iconst (v := 1) hx hb dJx4a65c_add_9ea2d_23 (by decide) ?_
  exact g_zret hx hb hr hlk w (Nat.le_of_ble_eq_true rfl) (Nat.le_of_ble_eq_true rfl) dJx4a65c_add_9ea2d_24 rfl ⟨rfl, rfl⟩
