theorem dJxc12de_subListRangeCheck_23922_0 : decode cJxc12de_subListRangeCheck_23922 0 = .ok (.iload_n 0, 1) := by decide +kernel
theorem dJxc12de_subListRangeCheck_23922_1 : decode cJxc12de_subListRangeCheck_23922 1 = .ok (.ifCond .ge 30, 3) := by decide +kernel
theorem dJxc12de_subListRangeCheck_23922_4 : decode cJxc12de_subListRangeCheck_23922 4 = .ok (.new 101, 3) := by decide +kernel
theorem dJxc12de_subListRangeCheck_23922_7 : decode cJxc12de_subListRangeCheck_23922 7 = .ok (.dup, 1) := by decide +kernel
theorem dJxc12de_subListRangeCheck_23922_8 : decode cJxc12de_subListRangeCheck_23922 8 = .ok (.new 103, 3) := by decide +kernel
theorem dJxc12de_subListRangeCheck_23922_11 : decode cJxc12de_subListRangeCheck_23922 11 = .ok (.dup, 1) := by decide +kernel
theorem dJxc12de_subListRangeCheck_23922_12 : decode cJxc12de_subListRangeCheck_23922 12 = .ok (.invokespecial 105, 3) := by decide +kernel
theorem dJxc12de_subListRangeCheck_23922_15 : decode cJxc12de_subListRangeCheck_23922 15 = .ok (.ldc 106, 2) := by decide +kernel
theorem dJxc12de_subListRangeCheck_23922_17 : decode cJxc12de_subListRangeCheck_23922 17 = .ok (.invokevirtual 108, 3) := by decide +kernel
theorem dJxc12de_subListRangeCheck_23922_20 : decode cJxc12de_subListRangeCheck_23922 20 = .ok (.iload_n 0, 1) := by decide +kernel
theorem dJxc12de_subListRangeCheck_23922_21 : decode cJxc12de_subListRangeCheck_23922 21 = .ok (.invokevirtual 112, 3) := by decide +kernel
theorem dJxc12de_subListRangeCheck_23922_24 : decode cJxc12de_subListRangeCheck_23922 24 = .ok (.invokevirtual 115, 3) := by decide +kernel
theorem dJxc12de_subListRangeCheck_23922_27 : decode cJxc12de_subListRangeCheck_23922 27 = .ok (.invokespecial 119, 3) := by decide +kernel
theorem dJxc12de_subListRangeCheck_23922_30 : decode cJxc12de_subListRangeCheck_23922 30 = .ok (.athrow, 1) := by decide +kernel
theorem dJxc12de_subListRangeCheck_23922_31 : decode cJxc12de_subListRangeCheck_23922 31 = .ok (.iload_n 1, 1) := by decide +kernel
theorem dJxc12de_subListRangeCheck_23922_32 : decode cJxc12de_subListRangeCheck_23922 32 = .ok (.iload_n 2, 1) := by decide +kernel
theorem dJxc12de_subListRangeCheck_23922_33 : decode cJxc12de_subListRangeCheck_23922 33 = .ok (.if_icmp .le 30, 3) := by decide +kernel
theorem dJxc12de_subListRangeCheck_23922_36 : decode cJxc12de_subListRangeCheck_23922 36 = .ok (.new 101, 3) := by decide +kernel
theorem dJxc12de_subListRangeCheck_23922_39 : decode cJxc12de_subListRangeCheck_23922 39 = .ok (.dup, 1) := by decide +kernel
theorem dJxc12de_subListRangeCheck_23922_40 : decode cJxc12de_subListRangeCheck_23922 40 = .ok (.new 103, 3) := by decide +kernel
theorem dJxc12de_subListRangeCheck_23922_43 : decode cJxc12de_subListRangeCheck_23922 43 = .ok (.dup, 1) := by decide +kernel
theorem dJxc12de_subListRangeCheck_23922_44 : decode cJxc12de_subListRangeCheck_23922 44 = .ok (.invokespecial 105, 3) := by decide +kernel
theorem dJxc12de_subListRangeCheck_23922_47 : decode cJxc12de_subListRangeCheck_23922 47 = .ok (.ldc 122, 2) := by decide +kernel
theorem dJxc12de_subListRangeCheck_23922_49 : decode cJxc12de_subListRangeCheck_23922 49 = .ok (.invokevirtual 108, 3) := by decide +kernel
theorem dJxc12de_subListRangeCheck_23922_52 : decode cJxc12de_subListRangeCheck_23922 52 = .ok (.iload_n 1, 1) := by decide +kernel
theorem dJxc12de_subListRangeCheck_23922_53 : decode cJxc12de_subListRangeCheck_23922 53 = .ok (.invokevirtual 112, 3) := by decide +kernel
theorem dJxc12de_subListRangeCheck_23922_56 : decode cJxc12de_subListRangeCheck_23922 56 = .ok (.invokevirtual 115, 3) := by decide +kernel
theorem dJxc12de_subListRangeCheck_23922_59 : decode cJxc12de_subListRangeCheck_23922 59 = .ok (.invokespecial 119, 3) := by decide +kernel
theorem dJxc12de_subListRangeCheck_23922_62 : decode cJxc12de_subListRangeCheck_23922 62 = .ok (.athrow, 1) := by decide +kernel
theorem dJxc12de_subListRangeCheck_23922_63 : decode cJxc12de_subListRangeCheck_23922 63 = .ok (.iload_n 0, 1) := by decide +kernel
theorem dJxc12de_subListRangeCheck_23922_64 : decode cJxc12de_subListRangeCheck_23922 64 = .ok (.iload_n 1, 1) := by decide +kernel
theorem dJxc12de_subListRangeCheck_23922_65 : decode cJxc12de_subListRangeCheck_23922 65 = .ok (.if_icmp .le 44, 3) := by decide +kernel
theorem dJxc12de_subListRangeCheck_23922_68 : decode cJxc12de_subListRangeCheck_23922 68 = .ok (.new 124, 3) := by decide +kernel
theorem dJxc12de_subListRangeCheck_23922_71 : decode cJxc12de_subListRangeCheck_23922 71 = .ok (.dup, 1) := by decide +kernel
theorem dJxc12de_subListRangeCheck_23922_72 : decode cJxc12de_subListRangeCheck_23922 72 = .ok (.new 103, 3) := by decide +kernel
theorem dJxc12de_subListRangeCheck_23922_75 : decode cJxc12de_subListRangeCheck_23922 75 = .ok (.dup, 1) := by decide +kernel
theorem dJxc12de_subListRangeCheck_23922_76 : decode cJxc12de_subListRangeCheck_23922 76 = .ok (.invokespecial 105, 3) := by decide +kernel
theorem dJxc12de_subListRangeCheck_23922_79 : decode cJxc12de_subListRangeCheck_23922 79 = .ok (.ldc 126, 2) := by decide +kernel
theorem dJxc12de_subListRangeCheck_23922_81 : decode cJxc12de_subListRangeCheck_23922 81 = .ok (.invokevirtual 108, 3) := by decide +kernel
theorem dJxc12de_subListRangeCheck_23922_84 : decode cJxc12de_subListRangeCheck_23922 84 = .ok (.iload_n 0, 1) := by decide +kernel
theorem dJxc12de_subListRangeCheck_23922_85 : decode cJxc12de_subListRangeCheck_23922 85 = .ok (.invokevirtual 112, 3) := by decide +kernel
theorem dJxc12de_subListRangeCheck_23922_88 : decode cJxc12de_subListRangeCheck_23922 88 = .ok (.ldc 128, 2) := by decide +kernel
theorem dJxc12de_subListRangeCheck_23922_90 : decode cJxc12de_subListRangeCheck_23922 90 = .ok (.invokevirtual 108, 3) := by decide +kernel
theorem dJxc12de_subListRangeCheck_23922_93 : decode cJxc12de_subListRangeCheck_23922 93 = .ok (.iload_n 1, 1) := by decide +kernel
theorem dJxc12de_subListRangeCheck_23922_94 : decode cJxc12de_subListRangeCheck_23922 94 = .ok (.invokevirtual 112, 3) := by decide +kernel
theorem dJxc12de_subListRangeCheck_23922_97 : decode cJxc12de_subListRangeCheck_23922 97 = .ok (.ldc 130, 2) := by decide +kernel
theorem dJxc12de_subListRangeCheck_23922_99 : decode cJxc12de_subListRangeCheck_23922 99 = .ok (.invokevirtual 108, 3) := by decide +kernel
theorem dJxc12de_subListRangeCheck_23922_102 : decode cJxc12de_subListRangeCheck_23922 102 = .ok (.invokevirtual 115, 3) := by decide +kernel
theorem dJxc12de_subListRangeCheck_23922_105 : decode cJxc12de_subListRangeCheck_23922 105 = .ok (.invokespecial 132, 3) := by decide +kernel
theorem dJxc12de_subListRangeCheck_23922_108 : decode cJxc12de_subListRangeCheck_23922 108 = .ok (.athrow, 1) := by decide +kernel
theorem dJxc12de_subListRangeCheck_23922_109 : decode cJxc12de_subListRangeCheck_23922 109 = .ok (.return_, 1) := by decide +kernel
theorem dJxc9f04_init_1a8f5_0 : decode cJxc9f04_init_1a8f5 0 = .ok (.aload_n 0, 1) := by decide +kernel
theorem dJxc9f04_init_1a8f5_1 : decode cJxc9f04_init_1a8f5 1 = .ok (.invokespecial 1, 3) := by decide +kernel
theorem dJxc9f04_init_1a8f5_4 : decode cJxc9f04_init_1a8f5 4 = .ok (.aload_n 0, 1) := by decide +kernel
theorem dJxc9f04_init_1a8f5_5 : decode cJxc9f04_init_1a8f5 5 = .ok (.aload_n 1, 1) := by decide +kernel
theorem dJxc9f04_init_1a8f5_6 : decode cJxc9f04_init_1a8f5 6 = .ok (.putfield 7, 3) := by decide +kernel
theorem dJxc9f04_init_1a8f5_9 : decode cJxc9f04_init_1a8f5 9 = .ok (.aload_n 0, 1) := by decide +kernel
theorem dJxc9f04_init_1a8f5_10 : decode cJxc9f04_init_1a8f5 10 = .ok (.aconst_null, 1) := by decide +kernel
theorem dJxc9f04_init_1a8f5_11 : decode cJxc9f04_init_1a8f5 11 = .ok (.putfield 13, 3) := by decide +kernel
theorem dJxc9f04_init_1a8f5_14 : decode cJxc9f04_init_1a8f5 14 = .ok (.aload_n 0, 1) := by decide +kernel
theorem dJxc9f04_init_1a8f5_15 : decode cJxc9f04_init_1a8f5 15 = .ok (.iload_n 2, 1) := by decide +kernel
theorem dJxc9f04_init_1a8f5_16 : decode cJxc9f04_init_1a8f5 16 = .ok (.putfield 17, 3) := by decide +kernel
theorem dJxc9f04_init_1a8f5_19 : decode cJxc9f04_init_1a8f5 19 = .ok (.aload_n 0, 1) := by decide +kernel
theorem dJxc9f04_init_1a8f5_20 : decode cJxc9f04_init_1a8f5 20 = .ok (.iload_n 3, 1) := by decide +kernel
theorem dJxc9f04_init_1a8f5_21 : decode cJxc9f04_init_1a8f5 21 = .ok (.iload_n 2, 1) := by decide +kernel
theorem dJxc9f04_init_1a8f5_22 : decode cJxc9f04_init_1a8f5 22 = .ok (.isub, 1) := by decide +kernel
theorem dJxc9f04_init_1a8f5_23 : decode cJxc9f04_init_1a8f5 23 = .ok (.putfield 21, 3) := by decide +kernel
theorem dJxc9f04_init_1a8f5_26 : decode cJxc9f04_init_1a8f5 26 = .ok (.aload_n 0, 1) := by decide +kernel
theorem dJxc9f04_init_1a8f5_27 : decode cJxc9f04_init_1a8f5 27 = .ok (.aload_n 1, 1) := by decide +kernel
theorem dJxc9f04_init_1a8f5_28 : decode cJxc9f04_init_1a8f5 28 = .ok (.getfield 24, 3) := by decide +kernel
theorem dJxc9f04_init_1a8f5_31 : decode cJxc9f04_init_1a8f5 31 = .ok (.putfield 29, 3) := by decide +kernel
theorem dJxc9f04_init_1a8f5_34 : decode cJxc9f04_init_1a8f5 34 = .ok (.return_, 1) := by decide +kernel
theorem dJxc9f04_checkForComodification_da8c8_0 : decode cJxc9f04_checkForComodification_da8c8 0 = .ok (.aload_n 0, 1) := by decide +kernel
theorem dJxc9f04_checkForComodification_da8c8_1 : decode cJxc9f04_checkForComodification_da8c8 1 = .ok (.getfield 7, 3) := by decide +kernel
theorem dJxc9f04_checkForComodification_da8c8_4 : decode cJxc9f04_checkForComodification_da8c8 4 = .ok (.getfield 24, 3) := by decide +kernel
theorem dJxc9f04_checkForComodification_da8c8_7 : decode cJxc9f04_checkForComodification_da8c8 7 = .ok (.aload_n 0, 1) := by decide +kernel
theorem dJxc9f04_checkForComodification_da8c8_8 : decode cJxc9f04_checkForComodification_da8c8 8 = .ok (.getfield 29, 3) := by decide +kernel
theorem dJxc9f04_checkForComodification_da8c8_11 : decode cJxc9f04_checkForComodification_da8c8 11 = .ok (.if_icmp .eq 11, 3) := by decide +kernel
theorem dJxc9f04_checkForComodification_da8c8_14 : decode cJxc9f04_checkForComodification_da8c8 14 = .ok (.new 174, 3) := by decide +kernel
theorem dJxc9f04_checkForComodification_da8c8_17 : decode cJxc9f04_checkForComodification_da8c8 17 = .ok (.dup, 1) := by decide +kernel
theorem dJxc9f04_checkForComodification_da8c8_18 : decode cJxc9f04_checkForComodification_da8c8 18 = .ok (.invokespecial 176, 3) := by decide +kernel
theorem dJxc9f04_checkForComodification_da8c8_21 : decode cJxc9f04_checkForComodification_da8c8 21 = .ok (.athrow, 1) := by decide +kernel
theorem dJxc9f04_checkForComodification_da8c8_22 : decode cJxc9f04_checkForComodification_da8c8 22 = .ok (.return_, 1) := by decide +kernel
theorem dJxc9f04_toArray_0fdad_0 : decode cJxc9f04_toArray_0fdad 0 = .ok (.aload_n 0, 1) := by decide +kernel
theorem dJxc9f04_toArray_0fdad_1 : decode cJxc9f04_toArray_0fdad 1 = .ok (.invokevirtual 36, 3) := by decide +kernel
theorem dJxc9f04_toArray_0fdad_4 : decode cJxc9f04_toArray_0fdad 4 = .ok (.aload_n 1, 1) := by decide +kernel
theorem dJxc9f04_toArray_0fdad_5 : decode cJxc9f04_toArray_0fdad 5 = .ok (.arraylength, 1) := by decide +kernel
theorem dJxc9f04_toArray_0fdad_6 : decode cJxc9f04_toArray_0fdad 6 = .ok (.aload_n 0, 1) := by decide +kernel
theorem dJxc9f04_toArray_0fdad_7 : decode cJxc9f04_toArray_0fdad 7 = .ok (.getfield 21, 3) := by decide +kernel
theorem dJxc9f04_toArray_0fdad_10 : decode cJxc9f04_toArray_0fdad 10 = .ok (.if_icmp .ge 31, 3) := by decide +kernel
theorem dJxc9f04_toArray_0fdad_13 : decode cJxc9f04_toArray_0fdad 13 = .ok (.aload_n 0, 1) := by decide +kernel
theorem dJxc9f04_toArray_0fdad_14 : decode cJxc9f04_toArray_0fdad 14 = .ok (.getfield 7, 3) := by decide +kernel
theorem dJxc9f04_toArray_0fdad_17 : decode cJxc9f04_toArray_0fdad 17 = .ok (.getfield 43, 3) := by decide +kernel
theorem dJxc9f04_toArray_0fdad_20 : decode cJxc9f04_toArray_0fdad 20 = .ok (.aload_n 0, 1) := by decide +kernel
theorem dJxc9f04_toArray_0fdad_21 : decode cJxc9f04_toArray_0fdad 21 = .ok (.getfield 17, 3) := by decide +kernel
theorem dJxc9f04_toArray_0fdad_24 : decode cJxc9f04_toArray_0fdad 24 = .ok (.aload_n 0, 1) := by decide +kernel
theorem dJxc9f04_toArray_0fdad_25 : decode cJxc9f04_toArray_0fdad 25 = .ok (.getfield 17, 3) := by decide +kernel
theorem dJxc9f04_toArray_0fdad_28 : decode cJxc9f04_toArray_0fdad 28 = .ok (.aload_n 0, 1) := by decide +kernel
theorem dJxc9f04_toArray_0fdad_29 : decode cJxc9f04_toArray_0fdad 29 = .ok (.getfield 21, 3) := by decide +kernel
theorem dJxc9f04_toArray_0fdad_32 : decode cJxc9f04_toArray_0fdad 32 = .ok (.iadd, 1) := by decide +kernel
theorem dJxc9f04_toArray_0fdad_33 : decode cJxc9f04_toArray_0fdad 33 = .ok (.aload_n 1, 1) := by decide +kernel
theorem dJxc9f04_toArray_0fdad_34 : decode cJxc9f04_toArray_0fdad 34 = .ok (.invokevirtual 96, 3) := by decide +kernel
theorem dJxc9f04_toArray_0fdad_37 : decode cJxc9f04_toArray_0fdad 37 = .ok (.invokestatic 102, 3) := by decide +kernel
theorem dJxc9f04_toArray_0fdad_40 : decode cJxc9f04_toArray_0fdad 40 = .ok (.areturn, 1) := by decide +kernel
theorem dJxc9f04_toArray_0fdad_41 : decode cJxc9f04_toArray_0fdad 41 = .ok (.aload_n 0, 1) := by decide +kernel
theorem dJxc9f04_toArray_0fdad_42 : decode cJxc9f04_toArray_0fdad 42 = .ok (.getfield 7, 3) := by decide +kernel
theorem dJxc9f04_toArray_0fdad_45 : decode cJxc9f04_toArray_0fdad 45 = .ok (.getfield 43, 3) := by decide +kernel
theorem dJxc9f04_toArray_0fdad_48 : decode cJxc9f04_toArray_0fdad 48 = .ok (.aload_n 0, 1) := by decide +kernel
theorem dJxc9f04_toArray_0fdad_49 : decode cJxc9f04_toArray_0fdad 49 = .ok (.getfield 17, 3) := by decide +kernel
theorem dJxc9f04_toArray_0fdad_52 : decode cJxc9f04_toArray_0fdad 52 = .ok (.aload_n 1, 1) := by decide +kernel
theorem dJxc9f04_toArray_0fdad_53 : decode cJxc9f04_toArray_0fdad 53 = .ok (.iconst 0, 1) := by decide +kernel
theorem dJxc9f04_toArray_0fdad_54 : decode cJxc9f04_toArray_0fdad 54 = .ok (.aload_n 0, 1) := by decide +kernel
theorem dJxc9f04_toArray_0fdad_55 : decode cJxc9f04_toArray_0fdad 55 = .ok (.getfield 21, 3) := by decide +kernel
theorem dJxc9f04_toArray_0fdad_58 : decode cJxc9f04_toArray_0fdad 58 = .ok (.invokestatic 105, 3) := by decide +kernel
theorem dJxc9f04_toArray_0fdad_61 : decode cJxc9f04_toArray_0fdad 61 = .ok (.aload_n 1, 1) := by decide +kernel
theorem dJxc9f04_toArray_0fdad_62 : decode cJxc9f04_toArray_0fdad 62 = .ok (.arraylength, 1) := by decide +kernel
theorem dJxc9f04_toArray_0fdad_63 : decode cJxc9f04_toArray_0fdad 63 = .ok (.aload_n 0, 1) := by decide +kernel
theorem dJxc9f04_toArray_0fdad_64 : decode cJxc9f04_toArray_0fdad 64 = .ok (.getfield 21, 3) := by decide +kernel
theorem dJxc9f04_toArray_0fdad_67 : decode cJxc9f04_toArray_0fdad 67 = .ok (.if_icmp .le 10, 3) := by decide +kernel
theorem dJxc9f04_toArray_0fdad_70 : decode cJxc9f04_toArray_0fdad 70 = .ok (.aload_n 1, 1) := by decide +kernel
theorem dJxc9f04_toArray_0fdad_71 : decode cJxc9f04_toArray_0fdad 71 = .ok (.aload_n 0, 1) := by decide +kernel
theorem dJxc9f04_toArray_0fdad_72 : decode cJxc9f04_toArray_0fdad 72 = .ok (.getfield 21, 3) := by decide +kernel
theorem dJxc9f04_toArray_0fdad_75 : decode cJxc9f04_toArray_0fdad 75 = .ok (.aconst_null, 1) := by decide +kernel
theorem dJxc9f04_toArray_0fdad_76 : decode cJxc9f04_toArray_0fdad 76 = .ok (.aastore, 1) := by decide +kernel
theorem dJxc9f04_toArray_0fdad_77 : decode cJxc9f04_toArray_0fdad 77 = .ok (.aload_n 1, 1) := by decide +kernel
theorem dJxc9f04_toArray_0fdad_78 : decode cJxc9f04_toArray_0fdad 78 = .ok (.areturn, 1) := by decide +kernel
section SITES
variable {p : Program} {l : Launch} {e : Env} {R : Room} {s : State} {m : MethodId} {args : Array Value} {below : List Frame} {meth : Method} {c : Code} {H : Heap} {locs : List Loc} {cells slots : Nat} {Q : State → Prop}
variable {pc : Nat} {ls : Array Slot} {rest : List Value} {D : va_G} {ar : Nat → ClassId} {κ : Nat → Nat} {A : Nat → Prop} {a : Nat} {H0 : Heap} {G : gW} {nz nL : Nat} {cc : ByteArray}
theorem inA_RJxc9f04 : ∀ w ∈ u_ws RJxc9f04 TJxc9f04 5, w ∈ lwA := gA_r _ [1321, 1313, 1315, 1317, 1319] (by decide +kernel) (by decide +kernel)
theorem pf_RJxc12de_7_4 {A9 : Nat → Prop} {H9 : Heap} {fs : List Value} {v : Value} (S : CallFix p m c cc nL s args lwA RJxc12de) (hE : g_E D vwCl (gT ar) (EX1 κ) A9 s H9) (w : g_S D vwCl A H0 G H locs nz) (ha : G a = some (.inr (4, fs))) (hn : narrow .int v = v) (hfit : fits .int v = true) (hl : 0 < fs.length) {fs1 : List Value} (hfs : fs.set 0 v = fs1) (hdg : decode cc pc = .ok (.putfield 7, 3)) (kk : ∀ (H1 : Heap) (locs1 : List Loc), g_S D vwCl A H0 (g_up G a (.inr (4, fs1))) H1 locs1 nz → W p l e R s m args below meth c H1 locs1 cells slots Q (F0 m (pc + 3) ls rest)) : W p l e R s m args below meth c H locs cells slots Q (F0 m pc ls (v :: .ref a :: rest)) :=
  g_put (ci := 4) (ty := .int) (C := RJxc9f04) (T := TJxc9f04) (N := 5) S.1 S.2.1 S.2.2.2.2 inA_RJxc9f04 tyJxc9f04 tyJxc9f04_ok nmJxc9f04 S.2.2.2.1 hE.1 w ha rfl 0 (by decide) (S.2.2.2.2 _ m_1_181) (fun _ h => h) rfl (by decide +kernel) hn hfit hl hdg (fun H1 l1 w1 => kk H1 l1 (by rw [← hfs]; exact w1))
theorem m_6_67 : (Cond.methodLink RJxc9f04 1 yJxc12de_init_da8c8) ∈ lwA := lwA_mk (ck_6 _ (List.mem_of_getElem? (i := 67) rfl)) rfl
theorem k_RJxc9f04_1 {args : Array Value} {s : State} {R rm : Room} (hts : ∀ w ∈ lwA, w.before args s = true) (hR : rm.frames + 1 ≤ R.frames ∧ 8 + (1 + 11) + rm.locals ≤ R.locals) : CallB R s args RJxc9f04 1 yJxc12de_init_da8c8 cJxc12de_init_da8c8 1 none (lwC yJxc12de_init_da8c8 cJxc12de_init_da8c8 1 none) rm rm.cells rm.slots 0 ∧ yJxc12de_init_da8c8.name = "<init>" ∧ (Cond.instanceMethod yJxc12de_init_da8c8).before args s = true := cwI 0 hts (gd m_1_171) rfl rfl rfl (hts _ m_1_8) (hts _ m_6_67) (hts _ m_1_170) rfl (by decide +kernel) hR
theorem m_6_68 : (Cond.fieldLink RJxc9f04 7 "java/util/ArrayList$SubList" "root" "Ljava/util/ArrayList;") ∈ lwA := lwA_mk (ck_6 _ (List.mem_of_getElem? (i := 68) rfl)) rfl
theorem pf_RJxc9f04_7_4 {A9 : Nat → Prop} {H9 : Heap} {fs : List Value} {v : Value} (S : CallFix p m c cc nL s args lwA RJxc9f04) (hE : g_E D vwCl (gT ar) (EX1 κ) A9 s H9) (hin : meth.name = "<init>") (w : g_S D vwCl A H0 G H locs nz) (ha : G a = some (.inr (4, fs))) (hn : narrow (.object "java/util/ArrayList") v = v) (hfit : fits (.object "java/util/ArrayList") v = true) (hl : 1 < fs.length) {fs1 : List Value} (hfs : fs.set 1 v = fs1) (hdg : decode cc pc = .ok (.putfield 7, 3)) (kk : ∀ (H1 : Heap) (locs1 : List Loc), g_S D vwCl A H0 (g_up G a (.inr (4, fs1))) H1 locs1 nz → W p l e R s m args below meth c H1 locs1 cells slots Q (F0 m (pc + 3) ls rest)) : W p l e R s m args below meth c H locs cells slots Q (F0 m pc ls (v :: .ref a :: rest)) :=
  g_putF (ci := 4) (ty := (.object "java/util/ArrayList")) (C := RJxc9f04) (T := TJxc9f04) (N := 5) S.1 S.2.1 S.2.2.2.2 inA_RJxc9f04 tyJxc9f04 tyJxc9f04_ok nmJxc9f04 S.2.2.2.1 hE.1 w ha rfl 1 (by decide) (S.2.2.2.2 _ m_6_68) (fun _ h => h) rfl hin rfl (by decide +kernel) hn hfit hl hdg (fun H1 l1 w1 => kk H1 l1 (by rw [← hfs]; exact w1))
theorem m_6_69 : (Cond.fieldLink RJxc9f04 13 "java/util/ArrayList$SubList" "parent" "Ljava/util/ArrayList$SubList;") ∈ lwA := lwA_mk (ck_6 _ (List.mem_of_getElem? (i := 69) rfl)) rfl
theorem pf_RJxc9f04_13_4 {A9 : Nat → Prop} {H9 : Heap} {fs : List Value} {v : Value} (S : CallFix p m c cc nL s args lwA RJxc9f04) (hE : g_E D vwCl (gT ar) (EX1 κ) A9 s H9) (hin : meth.name = "<init>") (w : g_S D vwCl A H0 G H locs nz) (ha : G a = some (.inr (4, fs))) (hn : narrow (.object "java/util/ArrayList$SubList") v = v) (hfit : fits (.object "java/util/ArrayList$SubList") v = true) (hl : 2 < fs.length) {fs1 : List Value} (hfs : fs.set 2 v = fs1) (hdg : decode cc pc = .ok (.putfield 13, 3)) (kk : ∀ (H1 : Heap) (locs1 : List Loc), g_S D vwCl A H0 (g_up G a (.inr (4, fs1))) H1 locs1 nz → W p l e R s m args below meth c H1 locs1 cells slots Q (F0 m (pc + 3) ls rest)) : W p l e R s m args below meth c H locs cells slots Q (F0 m pc ls (v :: .ref a :: rest)) :=
  g_putF (ci := 4) (ty := (.object "java/util/ArrayList$SubList")) (C := RJxc9f04) (T := TJxc9f04) (N := 5) S.1 S.2.1 S.2.2.2.2 inA_RJxc9f04 tyJxc9f04 tyJxc9f04_ok nmJxc9f04 S.2.2.2.1 hE.1 w ha rfl 2 (by decide) (S.2.2.2.2 _ m_6_69) (fun _ h => h) rfl hin rfl (by decide +kernel) hn hfit hl hdg (fun H1 l1 w1 => kk H1 l1 (by rw [← hfs]; exact w1))
theorem m_6_70 : (Cond.fieldLink RJxc9f04 17 "java/util/ArrayList$SubList" "offset" "I") ∈ lwA := lwA_mk (ck_6 _ (List.mem_of_getElem? (i := 70) rfl)) rfl
theorem pf_RJxc9f04_17_4 {A9 : Nat → Prop} {H9 : Heap} {fs : List Value} {v : Value} (S : CallFix p m c cc nL s args lwA RJxc9f04) (hE : g_E D vwCl (gT ar) (EX1 κ) A9 s H9) (hin : meth.name = "<init>") (w : g_S D vwCl A H0 G H locs nz) (ha : G a = some (.inr (4, fs))) (hn : narrow .int v = v) (hfit : fits .int v = true) (hl : 3 < fs.length) {fs1 : List Value} (hfs : fs.set 3 v = fs1) (hdg : decode cc pc = .ok (.putfield 17, 3)) (kk : ∀ (H1 : Heap) (locs1 : List Loc), g_S D vwCl A H0 (g_up G a (.inr (4, fs1))) H1 locs1 nz → W p l e R s m args below meth c H1 locs1 cells slots Q (F0 m (pc + 3) ls rest)) : W p l e R s m args below meth c H locs cells slots Q (F0 m pc ls (v :: .ref a :: rest)) :=
  g_putF (ci := 4) (ty := .int) (C := RJxc9f04) (T := TJxc9f04) (N := 5) S.1 S.2.1 S.2.2.2.2 inA_RJxc9f04 tyJxc9f04 tyJxc9f04_ok nmJxc9f04 S.2.2.2.1 hE.1 w ha rfl 3 (by decide) (S.2.2.2.2 _ m_6_70) (fun _ h => h) rfl hin rfl (by decide +kernel) hn hfit hl hdg (fun H1 l1 w1 => kk H1 l1 (by rw [← hfs]; exact w1))
theorem m_6_71 : (Cond.fieldLink RJxc9f04 21 "java/util/ArrayList$SubList" "size" "I") ∈ lwA := lwA_mk (ck_6 _ (List.mem_of_getElem? (i := 71) rfl)) rfl
theorem pf_RJxc9f04_21_4 {A9 : Nat → Prop} {H9 : Heap} {fs : List Value} {v : Value} (S : CallFix p m c cc nL s args lwA RJxc9f04) (hE : g_E D vwCl (gT ar) (EX1 κ) A9 s H9) (w : g_S D vwCl A H0 G H locs nz) (ha : G a = some (.inr (4, fs))) (hn : narrow .int v = v) (hfit : fits .int v = true) (hl : 4 < fs.length) {fs1 : List Value} (hfs : fs.set 4 v = fs1) (hdg : decode cc pc = .ok (.putfield 21, 3)) (kk : ∀ (H1 : Heap) (locs1 : List Loc), g_S D vwCl A H0 (g_up G a (.inr (4, fs1))) H1 locs1 nz → W p l e R s m args below meth c H1 locs1 cells slots Q (F0 m (pc + 3) ls rest)) : W p l e R s m args below meth c H locs cells slots Q (F0 m pc ls (v :: .ref a :: rest)) :=
  g_put (ci := 4) (ty := .int) (C := RJxc9f04) (T := TJxc9f04) (N := 5) S.1 S.2.1 S.2.2.2.2 inA_RJxc9f04 tyJxc9f04 tyJxc9f04_ok nmJxc9f04 S.2.2.2.1 hE.1 w ha rfl 4 (by decide) (S.2.2.2.2 _ m_6_71) (fun _ h => h) rfl (by decide +kernel) hn hfit hl hdg (fun H1 l1 w1 => kk H1 l1 (by rw [← hfs]; exact w1))
theorem m_1_182 : (Cond.fieldLink RJxc9f04 24 "java/util/ArrayList" "modCount" "I") ∈ lwA := lwA_mk (ck_1 _ (List.mem_of_getElem? (i := 182) rfl)) rfl
theorem gf_RJxc9f04_24_5 {A9 : Nat → Prop} {H9 : Heap} {fs : List Value} {v : Value} (S : CallFix p m c cc nL s args lwA RJxc9f04) (hE : g_E D vwCl (gT ar) (EX1 κ) A9 s H9) (w : g_S D vwCl A H0 G H locs nz) (ha : G a = some (.inr (5, fs))) (hv : fs[0]? = some v) (hdg : decode cc pc = .ok (.getfield 24, 3)) (kk : W p l e R s m args below meth c H locs cells slots Q (F0 m (pc + 3) ls (v :: rest))) : W p l e R s m args below meth c H locs cells slots Q (F0 m pc ls (.ref a :: rest)) :=
  va_get (ci := 5) (C := RJx4a65c) (T := TJx4a65c) (N := 3) S.1 S.2.1 S.2.2.2.2 inA_RJx4a65c S.2.2.2.1 hE.1 (g_1 w.1 ha) 0 rfl rfl 0 (by decide) (S.2.2.2.2 _ m_1_182) (fun x9 h9 => u_same (S.2.2.2.2 _ m_1_183) x9 h9) hv hdg kk
theorem m_1_184 : (Cond.fieldLink RJxc9f04 29 "java/util/ArrayList$SubList" "modCount" "I") ∈ lwA := lwA_mk (ck_1 _ (List.mem_of_getElem? (i := 184) rfl)) rfl
theorem m_1_185 : (Cond.sameField "java/util/ArrayList$SubList" "java/util/AbstractList" "modCount" "I") ∈ lwA := lwA_mk (ck_1 _ (List.mem_of_getElem? (i := 185) rfl)) rfl
theorem pf_RJxc9f04_29_4 {A9 : Nat → Prop} {H9 : Heap} {fs : List Value} {v : Value} (S : CallFix p m c cc nL s args lwA RJxc9f04) (hE : g_E D vwCl (gT ar) (EX1 κ) A9 s H9) (w : g_S D vwCl A H0 G H locs nz) (ha : G a = some (.inr (4, fs))) (hn : narrow .int v = v) (hfit : fits .int v = true) (hl : 0 < fs.length) {fs1 : List Value} (hfs : fs.set 0 v = fs1) (hdg : decode cc pc = .ok (.putfield 29, 3)) (kk : ∀ (H1 : Heap) (locs1 : List Loc), g_S D vwCl A H0 (g_up G a (.inr (4, fs1))) H1 locs1 nz → W p l e R s m args below meth c H1 locs1 cells slots Q (F0 m (pc + 3) ls rest)) : W p l e R s m args below meth c H locs cells slots Q (F0 m pc ls (v :: .ref a :: rest)) :=
  g_put (ci := 4) (ty := .int) (C := RJxc9f04) (T := TJxc9f04) (N := 5) S.1 S.2.1 S.2.2.2.2 inA_RJxc9f04 tyJxc9f04 tyJxc9f04_ok nmJxc9f04 S.2.2.2.1 hE.1 w ha rfl 0 (by decide) (S.2.2.2.2 _ m_1_184) (fun x9 h9 => u_same (S.2.2.2.2 _ m_1_185) x9 h9) rfl (by decide +kernel) hn hfit hl hdg (fun H1 l1 w1 => kk H1 l1 (by rw [← hfs]; exact w1))
theorem gf_RJxc9f04_7_4 {A9 : Nat → Prop} {H9 : Heap} {fs : List Value} {v : Value} (S : CallFix p m c cc nL s args lwA RJxc9f04) (hE : g_E D vwCl (gT ar) (EX1 κ) A9 s H9) (w : g_S D vwCl A H0 G H locs nz) (ha : G a = some (.inr (4, fs))) (hv : fs[1]? = some v) (hdg : decode cc pc = .ok (.getfield 7, 3)) (kk : W p l e R s m args below meth c H locs cells slots Q (F0 m (pc + 3) ls (v :: rest))) : W p l e R s m args below meth c H locs cells slots Q (F0 m pc ls (.ref a :: rest)) :=
  va_get (ci := 4) (C := RJxc9f04) (T := TJxc9f04) (N := 5) S.1 S.2.1 S.2.2.2.2 inA_RJxc9f04 S.2.2.2.1 hE.1 (g_1 w.1 ha) 0 rfl rfl 1 (by decide) (S.2.2.2.2 _ m_6_68) (fun _ h => h) hv hdg kk
theorem gf_RJxc9f04_29_4 {A9 : Nat → Prop} {H9 : Heap} {fs : List Value} {v : Value} (S : CallFix p m c cc nL s args lwA RJxc9f04) (hE : g_E D vwCl (gT ar) (EX1 κ) A9 s H9) (w : g_S D vwCl A H0 G H locs nz) (ha : G a = some (.inr (4, fs))) (hv : fs[0]? = some v) (hdg : decode cc pc = .ok (.getfield 29, 3)) (kk : W p l e R s m args below meth c H locs cells slots Q (F0 m (pc + 3) ls (v :: rest))) : W p l e R s m args below meth c H locs cells slots Q (F0 m pc ls (.ref a :: rest)) :=
  va_get (ci := 4) (C := RJxc9f04) (T := TJxc9f04) (N := 5) S.1 S.2.1 S.2.2.2.2 inA_RJxc9f04 S.2.2.2.1 hE.1 (g_1 w.1 ha) 0 rfl rfl 0 (by decide) (S.2.2.2.2 _ m_1_184) (fun x9 h9 => u_same (S.2.2.2.2 _ m_1_185) x9 h9) hv hdg kk
theorem m_6_104 : (Cond.code yJxc9f04_checkForComodification_da8c8 cJxc9f04_checkForComodification_da8c8 1 none) ∈ lwA := lwA_mk (ck_6 _ (List.mem_of_getElem? (i := 104) rfl)) rfl
theorem m_1_32 : (Cond.initialized RJxc9f04) ∈ lwA := lwA_mk (ck_1 _ (List.mem_of_getElem? (i := 32) rfl)) rfl
theorem m_6_101 : (Cond.methodLink RJxc9f04 36 yJxc9f04_checkForComodification_da8c8) ∈ lwA := lwA_mk (ck_6 _ (List.mem_of_getElem? (i := 101) rfl)) rfl
theorem m_6_103 : (Cond.instanceMethod yJxc9f04_checkForComodification_da8c8) ∈ lwA := lwA_mk (ck_6 _ (List.mem_of_getElem? (i := 103) rfl)) rfl
theorem ms_28 : (Cond.selects RJxc9f04 yJxc9f04_checkForComodification_da8c8 yJxc9f04_checkForComodification_da8c8) ∈ lwA := lwA_mk (List.mem_append_left _ (List.mem_of_getElem? (i := 28) rfl)) rfl
theorem k_RJxc9f04_36 {args : Array Value} {s : State} {R rm : Room} (hts : ∀ w ∈ lwA, w.before args s = true) (hR : rm.frames + 1 ≤ R.frames ∧ 8 + (1 + 11) + rm.locals ≤ R.locals) : CallW R s args RJxc9f04 RJxc9f04 36 yJxc9f04_checkForComodification_da8c8 cJxc9f04_checkForComodification_da8c8 1 none (lwC yJxc9f04_checkForComodification_da8c8 cJxc9f04_checkForComodification_da8c8 1 none) rm rm.cells rm.slots 0 := cwV 0 hts (gdV m_6_101 m_6_103 ms_28 m_1_32 m_6_104) rfl rfl rfl (by decide +kernel) hR
theorem gf_RJxc9f04_21_4 {A9 : Nat → Prop} {H9 : Heap} {fs : List Value} {v : Value} (S : CallFix p m c cc nL s args lwA RJxc9f04) (hE : g_E D vwCl (gT ar) (EX1 κ) A9 s H9) (w : g_S D vwCl A H0 G H locs nz) (ha : G a = some (.inr (4, fs))) (hv : fs[4]? = some v) (hdg : decode cc pc = .ok (.getfield 21, 3)) (kk : W p l e R s m args below meth c H locs cells slots Q (F0 m (pc + 3) ls (v :: rest))) : W p l e R s m args below meth c H locs cells slots Q (F0 m pc ls (.ref a :: rest)) :=
  va_get (ci := 4) (C := RJxc9f04) (T := TJxc9f04) (N := 5) S.1 S.2.1 S.2.2.2.2 inA_RJxc9f04 S.2.2.2.1 hE.1 (g_1 w.1 ha) 0 rfl rfl 4 (by decide) (S.2.2.2.2 _ m_6_71) (fun _ h => h) hv hdg kk
theorem m_1_179 : (Cond.fieldLink RJxc9f04 43 "java/util/ArrayList" "elementData" "[Ljava/lang/Object;") ∈ lwA := lwA_mk (ck_1 _ (List.mem_of_getElem? (i := 179) rfl)) rfl
theorem gf_RJxc9f04_43_5 {A9 : Nat → Prop} {H9 : Heap} {fs : List Value} {v : Value} (S : CallFix p m c cc nL s args lwA RJxc9f04) (hE : g_E D vwCl (gT ar) (EX1 κ) A9 s H9) (w : g_S D vwCl A H0 G H locs nz) (ha : G a = some (.inr (5, fs))) (hv : fs[1]? = some v) (hdg : decode cc pc = .ok (.getfield 43, 3)) (kk : W p l e R s m args below meth c H locs cells slots Q (F0 m (pc + 3) ls (v :: rest))) : W p l e R s m args below meth c H locs cells slots Q (F0 m pc ls (.ref a :: rest)) :=
  va_get (ci := 5) (C := RJx4a65c) (T := TJx4a65c) (N := 3) S.1 S.2.1 S.2.2.2.2 inA_RJx4a65c S.2.2.2.1 hE.1 (g_1 w.1 ha) 0 rfl rfl 1 (by decide) (S.2.2.2.2 _ m_1_179) (fun _ h => h) hv hdg kk
theorem gf_RJxc9f04_17_4 {A9 : Nat → Prop} {H9 : Heap} {fs : List Value} {v : Value} (S : CallFix p m c cc nL s args lwA RJxc9f04) (hE : g_E D vwCl (gT ar) (EX1 κ) A9 s H9) (w : g_S D vwCl A H0 G H locs nz) (ha : G a = some (.inr (4, fs))) (hv : fs[3]? = some v) (hdg : decode cc pc = .ok (.getfield 17, 3)) (kk : W p l e R s m args below meth c H locs cells slots Q (F0 m (pc + 3) ls (v :: rest))) : W p l e R s m args below meth c H locs cells slots Q (F0 m pc ls (.ref a :: rest)) :=
  va_get (ci := 4) (C := RJxc9f04) (T := TJxc9f04) (N := 5) S.1 S.2.1 S.2.2.2.2 inA_RJxc9f04 S.2.2.2.1 hE.1 (g_1 w.1 ha) 0 rfl rfl 3 (by decide) (S.2.2.2.2 _ m_6_70) (fun _ h => h) hv hdg kk
theorem m_6_109 : (Cond.methodLink RJxc9f04 105 arraycopyName) ∈ lwA := lwA_mk (ck_6 _ (List.mem_of_getElem? (i := 109) rfl)) rfl
end SITES
set_option maxHeartbeats 4000000 in
set_option maxRecDepth 100000 in
theorem j_lsize (l : Launch) (D : va_G) (ar : Nat → ClassId) (κ : Nat → Nat) (G : gW) (sz : Nat) (o : Nat) (mc : Int32) (ed : Nat) (n9 : Nat) (ho : G o = some (.inr (5, [.int mc, .ref ed, .int (nI n9)]))) : Met l yJx4a65c_size_8abf5 (lwC yJx4a65c_size_8abf5 cJx4a65c_size_8abf5 1 (some .int)) (rD 1 0 0) (g_Pc D vwCl (gT ar) (EX1 κ) G sz [.ref o]) (g_Qi D vwCl (g_A G sz) (fun r u => r = nI n9 ∧ u = (G, sz))) 0 0 (g_A G sz) := by
  refine g_ofW (by decide +kernel) (Nat.le_of_ble_eq_true rfl) ?_
  intro p e s m below meth c ls S hr hlk hin hE w hl
  have hx := S.1
  have hb := S.2.1
  have hl : lv_has ls 1 [(0, .ref o)] := hl
  refine lv_aload_n hx hb dJx4a65c_size_8abf5_0 rfl (lv_at hl 0 rfl) ?_
  refine gf_RJx4a65c_48_5 S hE w ho rfl dJx4a65c_size_8abf5_1 ?_
  exact g_iret hx hb hr hlk w (Nat.le_of_ble_eq_true rfl) (Nat.le_of_ble_eq_true rfl) dJx4a65c_size_8abf5_4 ⟨rfl, rfl⟩
set_option maxHeartbeats 4000000 in
set_option maxRecDepth 100000 in
theorem j_check2o (l : Launch) (D : va_G) (ar : Nat → ClassId) (κ : Nat → Nat) (G : gW) (sz : Nat) (i : Int32) (n : Int32) (h0 : ¬ i < 0) (h1 : i < n) : Met l yJ15_checkIndex_7cf53 (lwC yJ15_checkIndex_7cf53 cJ15_checkIndex_7cf53 2 (some .int)) (rD 2 0 0) (g_Pc D vwCl (gT ar) (EX1 κ) G sz [.int i, .int n]) (g_Qi D vwCl (g_A G sz) (fun r u => r = i ∧ u = (G, sz))) 0 0 (g_A G sz) := by
  refine g_ofW (by decide +kernel) (Nat.le_of_ble_eq_true rfl) ?_
  intro p e s m below meth c ls S hr hlk hin hE w hl
  have hx := S.1
  have hb := S.2.1
  have hl : lv_has ls 2 [(0, .int i), (1, .int n)] := hl
  refine lv_iload_n hx hb dJ15_checkIndex_7cf53_0 rfl (lv_at hl 0 rfl) ?_
  refine lv_iload_n hx hb dJ15_checkIndex_7cf53_1 rfl (lv_at hl 1 rfl) ?_
  refine lv_null hx hb dJ15_checkIndex_7cf53_2 ?_
  refine g_calli w (g_runS (As := [.int i, .int n, .null]) (rest := []) S hE w hl (j_check3 l D ar κ G sz i n none h0 h1) (k_RJ15_105 S.2.2.2.2 ⟨Nat.le_of_ble_eq_true rfl, Nat.le_of_ble_eq_true rfl⟩) rfl rfl (Nat.le_of_ble_eq_true rfl) dJ15_checkIndex_7cf53_3 ⟨Nat.le_of_ble_eq_true rfl, Nat.le_of_ble_eq_true rfl⟩) (fun r u H locs hp hnz w => ?_)
  obtain ⟨rfl, rfl⟩ := hp
  try dsimp only at w
  exact g_iret hx hb hr hlk w (Nat.le_of_ble_eq_true rfl) (Nat.le_of_ble_eq_true rfl) dJ15_checkIndex_7cf53_6 ⟨rfl, rfl⟩
set_option maxHeartbeats 4000000 in
set_option maxRecDepth 100000 in
theorem j_lelem (l : Launch) (D : va_G) (ar : Nat → ClassId) (κ : Nat → Nat) (G : gW) (sz : Nat) (o : Nat) (mc : Int32) (ed : Nat) (n9 : Nat) (c9 : Nat) (f9 : Nat → Option Nat) (i : Nat) (y : Nat) (ho : G o = some (.inr (5, [.int mc, .ref ed, .int (nI n9)]))) (hed : G ed = some (.inl (ar 8, c9, .inr (.inr (.inr (.inr f9)))))) (hi : i < n9) (hn : n9 ≤ c9) (hc : c9 ≤ 20) (hy : f9 i = some y) : Met l yJx4a65c_elementData_915e3 (lwC yJx4a65c_elementData_915e3 cJx4a65c_elementData_915e3 2 (some (.object "java/lang/Object"))) (rD 1 0 0) (g_Pc D vwCl (gT ar) (EX1 κ) G sz [.ref o, .int (nI i)]) (g_Qq D vwCl (g_A G sz) (fun r u => r = some y ∧ u = (G, sz))) 0 0 (g_A G sz) := by
  refine g_ofW (by decide +kernel) (Nat.le_of_ble_eq_true rfl) ?_
  intro p e s m below meth c ls S hr hlk hin hE w hl
  have hx := S.1
  have hb := S.2.1
  have hl : lv_has ls 2 [(0, .ref o), (1, .int (nI i))] := hl
  refine lv_aload_n hx hb dJx4a65c_elementData_915e3_0 rfl (lv_at hl 0 rfl) ?_
  refine gf_RJx4a65c_9_5 S hE w ho rfl dJx4a65c_elementData_915e3_1 ?_
  refine lv_iload_n hx hb dJx4a65c_elementData_915e3_4 rfl (lv_at hl 1 rfl) ?_
  refine va_aldq hx hb hE.1 (g_1 w.1 hed) 0 8 rfl rfl (vp_in_nI (n := i) (by omega) (by omega)) dJx4a65c_elementData_915e3_5 ?_
  rw [show f9 (Int32.toNatClampNeg (nI i)) = some y from (by rw [nI_clamp (by omega)]; exact hy)]
  show W p l e _ s m _ below meth c _ _ _ _ _ (F0 m 6 ls (.ref y :: _))
  exact g_qret (r := (some y)) hx hb hr (Or.inl ⟨_, rfl⟩) hlk w (Nat.le_of_ble_eq_true rfl) (Nat.le_of_ble_eq_true rfl) dJx4a65c_elementData_915e3_6 ⟨rfl, rfl⟩
set_option maxHeartbeats 4000000 in
set_option maxRecDepth 100000 in
theorem j_lget (l : Launch) (D : va_G) (ar : Nat → ClassId) (κ : Nat → Nat) (G : gW) (sz : Nat) (o : Nat) (mc : Int32) (ed : Nat) (n9 : Nat) (c9 : Nat) (f9 : Nat → Option Nat) (i : Nat) (y : Nat) (ho : G o = some (.inr (5, [.int mc, .ref ed, .int (nI n9)]))) (hed : G ed = some (.inl (ar 8, c9, .inr (.inr (.inr (.inr f9)))))) (hi : i < n9) (hn : n9 ≤ c9) (hc : c9 ≤ 20) (hy : f9 i = some y) : Met l yJx4a65c_get_915e3 (lwC yJx4a65c_get_915e3 cJx4a65c_get_915e3 2 (some (.object "java/lang/Object"))) (rD 3 0 0) (g_Pc D vwCl (gT ar) (EX1 κ) G sz [.ref o, .int (nI i)]) (g_Qq D vwCl (g_A G sz) (fun r u => r = some y ∧ u = (G, sz))) 0 0 (g_A G sz) := by
  refine g_ofW (by decide +kernel) (Nat.le_of_ble_eq_true rfl) ?_
  intro p e s m below meth c ls S hr hlk hin hE w hl
  have hx := S.1
  have hb := S.2.1
  have hl : lv_has ls 2 [(0, .ref o), (1, .int (nI i))] := hl
  refine lv_iload_n hx hb dJx4a65c_get_915e3_0 rfl (lv_at hl 1 rfl) ?_
  refine lv_aload_n hx hb dJx4a65c_get_915e3_1 rfl (lv_at hl 0 rfl) ?_
  refine gf_RJx4a65c_48_5 S hE w ho rfl dJx4a65c_get_915e3_2 ?_
  refine g_calli w (g_runS (As := [.int (nI i), .int (nI n9)]) (rest := []) S hE w hl (j_check2o l D ar κ G sz (nI i) (nI n9) (nI_pos (by omega)) (nI_lt (by omega) (by omega))) (k_RJx4a65c_118 S.2.2.2.2 ⟨Nat.le_of_ble_eq_true rfl, Nat.le_of_ble_eq_true rfl⟩) rfl rfl (Nat.le_of_ble_eq_true rfl) dJx4a65c_get_915e3_5 ⟨Nat.le_of_ble_eq_true rfl, Nat.le_of_ble_eq_true rfl⟩) (fun r u H locs hp hnz w => ?_)
  obtain ⟨rfl, rfl⟩ := hp
  try dsimp only at w
  refine lv_pop hx hb dJx4a65c_get_915e3_8 rfl ?_
  refine lv_aload_n hx hb dJx4a65c_get_915e3_9 rfl (lv_at hl 0 rfl) ?_
  refine lv_iload_n hx hb dJx4a65c_get_915e3_10 rfl (lv_at hl 1 rfl) ?_
  refine g_callq w (g_runV (As := [.int (nI i)]) (rest := []) S hE w hl (j_lelem l D ar κ G sz o mc ed n9 c9 f9 i y ho hed hi hn hc hy) (k_RJx4a65c_123 S.2.2.2.2 ⟨Nat.le_of_ble_eq_true rfl, Nat.le_of_ble_eq_true rfl⟩) ho rfl rfl rfl rfl (Nat.le_of_ble_eq_true rfl) dJx4a65c_get_915e3_11 ⟨Nat.le_of_ble_eq_true rfl, Nat.le_of_ble_eq_true rfl⟩) (fun r u H locs hp hnz w => ?_)
  obtain ⟨rfl, rfl⟩ := hp
  try dsimp only at w
  exact g_qret (r := (some y)) hx hb hr (Or.inl ⟨_, rfl⟩) hlk w (Nat.le_of_ble_eq_true rfl) (Nat.le_of_ble_eq_true rfl) dJx4a65c_get_915e3_14 ⟨rfl, rfl⟩
set_option maxHeartbeats 4000000 in
set_option maxRecDepth 100000 in
theorem j_slrc (l : Launch) (D : va_G) (ar : Nat → ClassId) (κ : Nat → Nat) (G : gW) (sz : Nat) (n9 : Nat) (hn : n9 < 2 ^ 20) : Met l yJxc12de_subListRangeCheck_23922 (lwC yJxc12de_subListRangeCheck_23922 cJxc12de_subListRangeCheck_23922 3 none) (rD 1 0 0) (g_Pc D vwCl (gT ar) (EX1 κ) G sz [.int 0, .int (nI n9), .int (nI n9)]) (g_Qv D vwCl (g_A G sz) (fun u => u = (G, sz))) 0 0 (g_A G sz) := by
  refine g_ofW (by decide +kernel) (Nat.le_of_ble_eq_true rfl) ?_
  intro p e s m below meth c ls S hr hlk hin hE w hl
  have hx := S.1
  have hb := S.2.1
  have hl : lv_has ls 3 [(0, .int 0), (1, .int (nI n9)), (2, .int (nI n9))] := hl
  refine lv_iload_n hx hb dJxc12de_subListRangeCheck_23922_0 rfl (lv_at hl 0 rfl) ?_
  refine lv_if_ge (tgt := 31) hx hb dJxc12de_subListRangeCheck_23922_1 (by decide) (fun _ => ?_) (fun c => absurd (by decide) c)
  refine lv_iload_n hx hb dJxc12de_subListRangeCheck_23922_31 rfl (lv_at hl 1 rfl) ?_
  refine lv_iload_n hx hb dJxc12de_subListRangeCheck_23922_32 rfl (lv_at hl 2 rfl) ?_
  refine lv_icmp_le (tgt := 63) hx hb dJxc12de_subListRangeCheck_23922_33 (by decide) (fun c_33 => ?_) (fun c_33 => absurd (Int32.le_refl _) c_33)
  refine lv_iload_n hx hb dJxc12de_subListRangeCheck_23922_63 rfl (lv_at hl 0 rfl) ?_
  refine lv_iload_n hx hb dJxc12de_subListRangeCheck_23922_64 rfl (lv_at hl 1 rfl) ?_
  refine lv_icmp_le (tgt := 109) hx hb dJxc12de_subListRangeCheck_23922_65 (by decide) (fun c_65 => ?_) (fun c_65 => absurd (nI_pos' (by omega)) c_65)
  exact g_vret hx hb hr hlk w (Nat.le_of_ble_eq_true rfl) (Nat.le_of_ble_eq_true rfl) dJxc12de_subListRangeCheck_23922_109 rfl
set_option maxHeartbeats 4000000 in
set_option maxRecDepth 100000 in
theorem j_ACinit4 (l : Launch) (D : va_G) (ar : Nat → ClassId) (κ : Nat → Nat) (G : gW) (sz : Nat) (o : Nat) (ho : G o = some (.inr (4, [.int 0, .null, .null, .int 0, .int 0]))) : Met l yJxa1e45_init_da8c8 (lwC yJxa1e45_init_da8c8 cJxa1e45_init_da8c8 1 none) (rD 2 0 0) (g_Pc D vwCl (gT ar) (EX1 κ) G sz [.ref o]) (g_Qv D vwCl (g_A G sz) (fun u => u = (G, sz))) 0 0 (g_A G sz) := by
  refine g_ofW (by decide +kernel) (Nat.le_of_ble_eq_true rfl) ?_
  intro p e s m below meth c ls S hr hlk hin hE w hl
  have hx := S.1
  have hb := S.2.1
  have hl : lv_has ls 1 [(0, .ref o)] := hl
  have lt_ho : o < sz := g_ltn w ho
  refine lv_aload_n hx hb dJxa1e45_init_da8c8_0 rfl (lv_at hl 0 rfl) ?_
  refine W.objInit hx hb S.2.2.2.1 (S.2.2.2.2 _ m_1_175) (S.2.2.2.2 _ m_1_46) (S.2.2.2.2 _ m_obj) rfl (by rw [S.2.2.1]; exact hl.1) rfl dJxa1e45_init_da8c8_1 (Nat.le_of_ble_eq_true rfl) (Nat.le_of_ble_eq_true rfl) ?_
  refine W.eq (g2 := F0 m 4 ls []) rfl ?_
  exact g_vret hx hb hr hlk w (Nat.le_of_ble_eq_true rfl) (Nat.le_of_ble_eq_true rfl) dJxa1e45_init_da8c8_4 rfl
set_option maxHeartbeats 4000000 in
set_option maxRecDepth 100000 in
theorem j_ALinit4 (l : Launch) (D : va_G) (ar : Nat → ClassId) (κ : Nat → Nat) (G : gW) (sz : Nat) (o : Nat) (ho : G o = some (.inr (4, [.int 0, .null, .null, .int 0, .int 0]))) : Met l yJxc12de_init_da8c8 (lwC yJxc12de_init_da8c8 cJxc12de_init_da8c8 1 none) (rD 3 0 0) (g_Pc D vwCl (gT ar) (EX1 κ) G sz [.ref o]) (g_Qv D vwCl (g_A G sz) (fun u => u = ((g_up G o (.inr (4, [.int 0, .null, .null, .int 0, .int 0]))), sz))) 0 0 (g_A G sz) := by
  refine g_ofW (by decide +kernel) (Nat.le_of_ble_eq_true rfl) ?_
  intro p e s m below meth c ls S hr hlk hin hE w hl
  have hx := S.1
  have hb := S.2.1
  have hl : lv_has ls 1 [(0, .ref o)] := hl
  have lt_ho : o < sz := g_ltn w ho
  refine lv_aload_n hx hb dJxc12de_init_da8c8_0 rfl (lv_at hl 0 rfl) ?_
  refine g_callv w (g_runI (As := []) (rest := []) S hE w hl (j_ACinit4 l D ar κ G sz o ho) (k_RJxc12de_1 S.2.2.2.2 ⟨Nat.le_of_ble_eq_true rfl, Nat.le_of_ble_eq_true rfl⟩) rfl rfl (Nat.le_of_ble_eq_true rfl) dJxc12de_init_da8c8_1 ⟨Nat.le_of_ble_eq_true rfl, Nat.le_of_ble_eq_true rfl⟩) (fun u H locs hp hnz w => ?_)
  obtain rfl := hp
  dsimp only at w
  refine lv_aload_n hx hb dJxc12de_init_da8c8_4 rfl (lv_at hl 0 rfl) ?_
  refine lv_iconst (v := 0) hx hb dJxc12de_init_da8c8_5 (by decide) ?_
  refine pf_RJxc12de_7_4 (fs1 := [.int 0, .null, .null, .int 0, .int 0]) S hE w ho rfl rfl (Nat.le_of_ble_eq_true rfl) rfl dJxc12de_init_da8c8_6 (fun H locs w => ?_)
  exact g_vret hx hb hr hlk w (Nat.le_of_ble_eq_true rfl) (Nat.le_of_ble_eq_true rfl) dJxc12de_init_da8c8_9 rfl
set_option maxHeartbeats 4000000 in
set_option maxRecDepth 100000 in
theorem j_slinit (l : Launch) (D : va_G) (ar : Nat → ClassId) (κ : Nat → Nat) (G : gW) (sz : Nat) (b : Nat) (o : Nat) (mc : Int32) (ed : Nat) (n9 : Nat) (hb9 : G b = some (.inr (4, [.int 0, .null, .null, .int 0, .int 0]))) (ho : G o = some (.inr (5, [.int mc, .ref ed, .int (nI n9)]))) : Met l yJxc9f04_init_1a8f5 (lwC yJxc9f04_init_1a8f5 cJxc9f04_init_1a8f5 4 none) (rD 4 0 0) (g_Pc D vwCl (gT ar) (EX1 κ) G sz [.ref b, .ref o, .int 0, .int (nI n9)]) (g_Qv D vwCl (g_A G sz) (fun u => u = (g_up G b (.inr (4, [.int mc, .ref o, .null, .int 0, .int (nI n9)])), sz))) 0 0 (g_A G sz) := by
  refine g_ofW (by decide +kernel) (Nat.le_of_ble_eq_true rfl) ?_
  intro p e s m below meth c ls S hr hlk hin hE w hl
  have hx := S.1
  have hb := S.2.1
  have hl : lv_has ls 4 [(0, .ref b), (1, .ref o), (2, .int 0), (3, .int (nI n9))] := hl
  have hbo : b ≠ o := g_nx hb9 ho (by simp)
  refine lv_aload_n hx hb dJxc9f04_init_1a8f5_0 rfl (lv_at hl 0 rfl) ?_
  refine g_callv w (g_runI (As := []) (rest := []) S hE w hl (j_ALinit4 l D ar κ G sz b hb9) (k_RJxc9f04_1 S.2.2.2.2 ⟨Nat.le_of_ble_eq_true rfl, Nat.le_of_ble_eq_true rfl⟩) rfl rfl (Nat.le_of_ble_eq_true rfl) dJxc9f04_init_1a8f5_1 ⟨Nat.le_of_ble_eq_true rfl, Nat.le_of_ble_eq_true rfl⟩) (fun u H locs hp hnz w => ?_)
  obtain rfl := hp
  try dsimp only at w
  refine lv_aload_n hx hb dJxc9f04_init_1a8f5_4 rfl (lv_at hl 0 rfl) ?_
  refine lv_aload_n hx hb dJxc9f04_init_1a8f5_5 rfl (lv_at hl 1 rfl) ?_
  refine pf_RJxc9f04_7_4 (fs1 := [.int 0, .ref o, .null, .int 0, .int 0]) S hE hin w g_up_s rfl rfl (Nat.le_of_ble_eq_true rfl) rfl dJxc9f04_init_1a8f5_6 (fun H locs w => ?_)
  have w := g_eqw w g_over
  refine lv_aload_n hx hb dJxc9f04_init_1a8f5_9 rfl (lv_at hl 0 rfl) ?_
  refine lv_null hx hb dJxc9f04_init_1a8f5_10 ?_
  refine pf_RJxc9f04_13_4 (fs1 := [.int 0, .ref o, .null, .int 0, .int 0]) S hE hin w g_up_s rfl rfl (Nat.le_of_ble_eq_true rfl) rfl dJxc9f04_init_1a8f5_11 (fun H locs w => ?_)
  have w := g_eqw w g_over
  refine lv_aload_n hx hb dJxc9f04_init_1a8f5_14 rfl (lv_at hl 0 rfl) ?_
  refine lv_iload_n hx hb dJxc9f04_init_1a8f5_15 rfl (lv_at hl 2 rfl) ?_
  refine pf_RJxc9f04_17_4 (fs1 := [.int 0, .ref o, .null, .int 0, .int 0]) S hE hin w g_up_s rfl rfl (Nat.le_of_ble_eq_true rfl) rfl dJxc9f04_init_1a8f5_16 (fun H locs w => ?_)
  have w := g_eqw w g_over
  refine lv_aload_n hx hb dJxc9f04_init_1a8f5_19 rfl (lv_at hl 0 rfl) ?_
  refine lv_iload_n hx hb dJxc9f04_init_1a8f5_20 rfl (lv_at hl 3 rfl) ?_
  refine lv_iload_n hx hb dJxc9f04_init_1a8f5_21 rfl (lv_at hl 2 rfl) ?_
  refine lv_isub hx hb dJxc9f04_init_1a8f5_22 ?_
  rw [show ((nI n9) - 0 : Int32) = nI n9 from (by show nI n9 - nI 0 = nI n9; rw [pk_sub (Nat.zero_le _), Nat.sub_zero])]
  refine pf_RJxc9f04_21_4 (fs1 := [.int 0, .ref o, .null, .int 0, .int (nI n9)]) S hE w g_up_s rfl rfl (Nat.le_of_ble_eq_true rfl) rfl dJxc9f04_init_1a8f5_23 (fun H locs w => ?_)
  have w := g_eqw w g_over
  refine lv_aload_n hx hb dJxc9f04_init_1a8f5_26 rfl (lv_at hl 0 rfl) ?_
  refine lv_aload_n hx hb dJxc9f04_init_1a8f5_27 rfl (lv_at hl 1 rfl) ?_
  refine gf_RJxc9f04_24_5 S hE w (g_up_o (g_nx ho hb9 (by simp)) ho) rfl dJxc9f04_init_1a8f5_28 ?_
  refine pf_RJxc9f04_29_4 (fs1 := [.int mc, .ref o, .null, .int 0, .int (nI n9)]) S hE w g_up_s rfl rfl (Nat.le_of_ble_eq_true rfl) rfl dJxc9f04_init_1a8f5_31 (fun H locs w => ?_)
  have w := g_eqw w g_over
  exact g_vret hx hb hr hlk w (Nat.le_of_ble_eq_true rfl) (Nat.le_of_ble_eq_true rfl) dJxc9f04_init_1a8f5_34 rfl
set_option maxHeartbeats 4000000 in
set_option maxRecDepth 100000 in
theorem j_cfc (l : Launch) (D : va_G) (ar : Nat → ClassId) (κ : Nat → Nat) (G : gW) (sz : Nat) (b : Nat) (o : Nat) (mc : Int32) (ed : Nat) (n9 : Nat) (hb9 : G b = some (.inr (4, [.int mc, .ref o, .null, .int 0, .int (nI n9)]))) (ho : G o = some (.inr (5, [.int mc, .ref ed, .int (nI n9)]))) : Met l yJxc9f04_checkForComodification_da8c8 (lwC yJxc9f04_checkForComodification_da8c8 cJxc9f04_checkForComodification_da8c8 1 none) (rD 1 0 0) (g_Pc D vwCl (gT ar) (EX1 κ) G sz [.ref b]) (g_Qv D vwCl (g_A G sz) (fun u => u = (G, sz))) 0 0 (g_A G sz) := by
  refine g_ofW (by decide +kernel) (Nat.le_of_ble_eq_true rfl) ?_
  intro p e s m below meth c ls S hr hlk hin hE w hl
  have hx := S.1
  have hb := S.2.1
  have hl : lv_has ls 1 [(0, .ref b)] := hl
  refine lv_aload_n hx hb dJxc9f04_checkForComodification_da8c8_0 rfl (lv_at hl 0 rfl) ?_
  refine gf_RJxc9f04_7_4 S hE w hb9 rfl dJxc9f04_checkForComodification_da8c8_1 ?_
  refine gf_RJxc9f04_24_5 S hE w ho rfl dJxc9f04_checkForComodification_da8c8_4 ?_
  refine lv_aload_n hx hb dJxc9f04_checkForComodification_da8c8_7 rfl (lv_at hl 0 rfl) ?_
  refine gf_RJxc9f04_29_4 S hE w hb9 rfl dJxc9f04_checkForComodification_da8c8_8 ?_
  refine lv_icmp_eq (tgt := 22) hx hb dJxc9f04_checkForComodification_da8c8_11 (by decide) (fun _ => ?_) (fun c => absurd rfl c)
  exact g_vret hx hb hr hlk w (Nat.le_of_ble_eq_true rfl) (Nat.le_of_ble_eq_true rfl) dJxc9f04_checkForComodification_da8c8_22 rfl
set_option maxHeartbeats 4000000 in
set_option maxRecDepth 100000 in
theorem j_toArray (l : Launch) (D : va_G) (ar : Nat → ClassId) (κ : Nat → Nat) (G : gW) (sz : Nat) (b : Nat) (a : Nat) (o : Nat) (mc : Int32) (ed : Nat) (n9 : Nat) (c9 : Nat) (f9 : Nat → Option Nat) (g9 : Nat → Option Nat) (hb9 : G b = some (.inr (4, [.int mc, .ref o, .null, .int 0, .int (nI n9)]))) (ho : G o = some (.inr (5, [.int mc, .ref ed, .int (nI n9)]))) (hed : G ed = some (.inl (ar 8, c9, .inr (.inr (.inr (.inr f9)))))) (ha9 : G a = some (.inl (ar 9, n9, .inr (.inr (.inr (.inr g9)))))) (hel : ∀ j y, j < n9 → f9 j = some y → ∃ yv yb, TX ar κ G y yv yb) (hn : n9 ≤ c9) (hc : c9 ≤ 20) : Met l yJxc9f04_toArray_0fdad (lwC yJxc9f04_toArray_0fdad cJxc9f04_toArray_0fdad 2 (some (.array (.object "java/lang/Object")))) (rD 2 0 0) (g_Pc D vwCl (gT ar) (EX1 κ) G sz [.ref b, .ref a]) (g_Qq D vwCl (g_A G sz) (fun r u => r = some a ∧ u = (g_up G a (.inl (ar 9, n9, .inr (.inr (.inr (.inr (va_cpy f9 g9 0 0 n9)))))), sz))) 0 0 (g_A G sz) := by
  refine g_ofW (by decide +kernel) (Nat.le_of_ble_eq_true rfl) ?_
  intro p e s m below meth c ls S hr hlk hin hE w hl
  have hx := S.1
  have hb := S.2.1
  have hl : lv_has ls 2 [(0, .ref b), (1, .ref a)] := hl
  have hba : b ≠ a := g_nx hb9 ha9 (by simp)
  refine lv_aload_n hx hb dJxc9f04_toArray_0fdad_0 rfl (lv_at hl 0 rfl) ?_
  refine g_callv w (g_runV (As := []) (rest := []) S hE w hl (j_cfc l D ar κ G sz b o mc ed n9 hb9 ho) (k_RJxc9f04_36 S.2.2.2.2 ⟨Nat.le_of_ble_eq_true rfl, Nat.le_of_ble_eq_true rfl⟩) hb9 rfl rfl rfl rfl (Nat.le_of_ble_eq_true rfl) dJxc9f04_toArray_0fdad_1 ⟨Nat.le_of_ble_eq_true rfl, Nat.le_of_ble_eq_true rfl⟩) (fun u H locs hp hnz w => ?_)
  obtain rfl := hp
  try dsimp only at w
  refine lv_aload_n hx hb dJxc9f04_toArray_0fdad_4 rfl (lv_at hl 1 rfl) ?_
  refine va_alen (v := Int32.ofNat n9) hx hb hE.1 (g_1 w.1 ha9) 0 9 rfl rfl rfl dJxc9f04_toArray_0fdad_5 ?_
  refine lv_aload_n hx hb dJxc9f04_toArray_0fdad_6 rfl (lv_at hl 0 rfl) ?_
  refine gf_RJxc9f04_21_4 S hE w hb9 rfl dJxc9f04_toArray_0fdad_7 ?_
  refine lv_icmp_ge (tgt := 41) hx hb dJxc9f04_toArray_0fdad_10 (by decide) (fun c_10 => ?_) (fun c_10 => absurd (Int32.le_refl _) c_10)
  refine lv_aload_n hx hb dJxc9f04_toArray_0fdad_41 rfl (lv_at hl 0 rfl) ?_
  refine gf_RJxc9f04_7_4 S hE w hb9 rfl dJxc9f04_toArray_0fdad_42 ?_
  refine gf_RJxc9f04_43_5 S hE w ho rfl dJxc9f04_toArray_0fdad_45 ?_
  refine lv_aload_n hx hb dJxc9f04_toArray_0fdad_48 rfl (lv_at hl 0 rfl) ?_
  refine gf_RJxc9f04_17_4 S hE w hb9 rfl dJxc9f04_toArray_0fdad_49 ?_
  refine lv_aload_n hx hb dJxc9f04_toArray_0fdad_52 rfl (lv_at hl 1 rfl) ?_
  refine lv_iconst (v := 0) hx hb dJxc9f04_toArray_0fdad_53 (by decide) ?_
  refine lv_aload_n hx hb dJxc9f04_toArray_0fdad_54 rfl (lv_at hl 0 rfl) ?_
  refine gf_RJxc9f04_21_4 S hE w hb9 rfl dJxc9f04_toArray_0fdad_55 ?_
  refine g_copyq (C := "java/lang/String") (i := 0) (j := 0) (k := n9) (t1 := 9) hx hb (hl.1.trans S.2.2.1.symm).symm S.2.2.2.1 (S.2.2.2.2 _ m_6_109) (S.2.2.2.2 _ m_4_104) (S.2.2.2.2 _ m_4_103) (S.2.2.2.2 _ m_1_25) hE w (g_srcQ (t0 := 8) hE w hed rfl) ha9 rfl (by rfl) (by rfl) (by rfl) (by omega) (by omega) (by omega) (by omega) (fun q hq y hy => (by rw [Nat.zero_add] at hy; obtain ⟨yv, yb, hz⟩ := hel q y hq hy; exact tx_recv hE w hz)) vb_asgS (Nat.le_of_ble_eq_true rfl) (Nat.le_of_ble_eq_true rfl) dJxc9f04_toArray_0fdad_58 (fun H locs w => ?_)
  refine lv_aload_n hx hb dJxc9f04_toArray_0fdad_61 rfl (lv_at hl 1 rfl) ?_
  refine va_alen (v := Int32.ofNat n9) hx hb hE.1 (g_1 w.1 g_up_s) 0 9 rfl rfl rfl dJxc9f04_toArray_0fdad_62 ?_
  refine lv_aload_n hx hb dJxc9f04_toArray_0fdad_63 rfl (lv_at hl 0 rfl) ?_
  refine gf_RJxc9f04_21_4 S hE w (g_up_o (g_nx hb9 ha9 (by simp)) hb9) rfl dJxc9f04_toArray_0fdad_64 ?_
  refine lv_icmp_le (tgt := 77) hx hb dJxc9f04_toArray_0fdad_67 (by decide) (fun c_67 => ?_) (fun c_67 => absurd (Int32.le_refl _) c_67)
  refine lv_aload_n hx hb dJxc9f04_toArray_0fdad_77 rfl (lv_at hl 1 rfl) ?_
  exact g_qret (r := (some a)) hx hb hr (Or.inr ⟨_, rfl⟩) hlk w (Nat.le_of_ble_eq_true rfl) (Nat.le_of_ble_eq_true rfl) dJxc9f04_toArray_0fdad_78 ⟨rfl, rfl⟩
