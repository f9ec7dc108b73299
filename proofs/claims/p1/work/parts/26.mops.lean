theorem dX15_isGlobal_0 : decode cX15_isGlobal 0 = .ok (.iload_n 0, 1) := by decide +kernel
theorem dX15_isGlobal_1 : decode cX15_isGlobal 1 = .ok (.iconst 0, 1) := by decide +kernel
theorem dX15_isGlobal_2 : decode cX15_isGlobal 2 = .ok (.bipush 7, 2) := by decide +kernel
theorem dX15_isGlobal_4 : decode cX15_isGlobal 4 = .ok (.invokestatic 62, 3) := by decide +kernel
theorem dX15_isGlobal_7 : decode cX15_isGlobal 7 = .ok (.ireturn, 1) := by decide +kernel
theorem dX15_isNoGlobal_0 : decode cX15_isNoGlobal 0 = .ok (.aload_n 0, 1) := by decide +kernel
theorem dX15_isNoGlobal_1 : decode cX15_isNoGlobal 1 = .ok (.iload_n 1, 1) := by decide +kernel
theorem dX15_isNoGlobal_2 : decode cX15_isNoGlobal 2 = .ok (.invokestatic 207, 3) := by decide +kernel
theorem dX15_isNoGlobal_5 : decode cX15_isNoGlobal 5 = .ok (.ifCond .eq 7, 3) := by decide +kernel
theorem dX15_isNoGlobal_8 : decode cX15_isNoGlobal 8 = .ok (.iconst 0, 1) := by decide +kernel
theorem dX15_isNoGlobal_9 : decode cX15_isNoGlobal 9 = .ok (.goto 4, 3) := by decide +kernel
theorem dX15_isNoGlobal_12 : decode cX15_isNoGlobal 12 = .ok (.iconst 1, 1) := by decide +kernel
theorem dX15_isNoGlobal_13 : decode cX15_isNoGlobal 13 = .ok (.invokevirtual 77, 3) := by decide +kernel
theorem dX15_isNoGlobal_16 : decode cX15_isNoGlobal 16 = .ok (.ireturn, 1) := by decide +kernel
theorem dX15_number_0 : decode cX15_number 0 = .ok (.aload_n 0, 1) := by decide +kernel
theorem dX15_number_1 : decode cX15_number 1 = .ok (.iload_n 1, 1) := by decide +kernel
theorem dX15_number_2 : decode cX15_number 2 = .ok (.invokevirtual 210, 3) := by decide +kernel
theorem dX15_number_5 : decode cX15_number 5 = .ok (.ifCond .eq 5, 3) := by decide +kernel
theorem dX15_number_8 : decode cX15_number 8 = .ok (.iconst 0, 1) := by decide +kernel
theorem dX15_number_9 : decode cX15_number 9 = .ok (.ireturn, 1) := by decide +kernel
theorem dX15_number_10 : decode cX15_number 10 = .ok (.aload_n 0, 1) := by decide +kernel
theorem dX15_number_11 : decode cX15_number 11 = .ok (.getfield 37, 3) := by decide +kernel
theorem dX15_number_14 : decode cX15_number 14 = .ok (.iload_n 1, 1) := by decide +kernel
theorem dX15_number_15 : decode cX15_number 15 = .ok (.new 7, 3) := by decide +kernel
theorem dX15_number_18 : decode cX15_number 18 = .ok (.dup, 1) := by decide +kernel
theorem dX15_number_19 : decode cX15_number 19 = .ok (.bipush 110, 2) := by decide +kernel
theorem dX15_number_21 : decode cX15_number 21 = .ok (.iload_n 2, 1) := by decide +kernel
theorem dX15_number_22 : decode cX15_number 22 = .ok (.invokespecial 9, 3) := by decide +kernel
theorem dX15_number_25 : decode cX15_number 25 = .ok (.aastore, 1) := by decide +kernel
theorem dX15_number_26 : decode cX15_number 26 = .ok (.aload_n 0, 1) := by decide +kernel
theorem dX15_number_27 : decode cX15_number 27 = .ok (.getfield 28, 3) := by decide +kernel
theorem dX15_number_30 : decode cX15_number 30 = .ok (.invokevirtual 58, 3) := by decide +kernel
theorem dX15_number_33 : decode cX15_number 33 = .ok (.ireturn, 1) := by decide +kernel
theorem dX15_nothing_0 : decode cX15_nothing 0 = .ok (.aload_n 0, 1) := by decide +kernel
theorem dX15_nothing_1 : decode cX15_nothing 1 = .ok (.iload_n 1, 1) := by decide +kernel
theorem dX15_nothing_2 : decode cX15_nothing 2 = .ok (.invokevirtual 210, 3) := by decide +kernel
theorem dX15_nothing_5 : decode cX15_nothing 5 = .ok (.ifCond .eq 5, 3) := by decide +kernel
theorem dX15_nothing_8 : decode cX15_nothing 8 = .ok (.iconst 0, 1) := by decide +kernel
theorem dX15_nothing_9 : decode cX15_nothing 9 = .ok (.ireturn, 1) := by decide +kernel
theorem dX15_nothing_10 : decode cX15_nothing 10 = .ok (.aload_n 0, 1) := by decide +kernel
theorem dX15_nothing_11 : decode cX15_nothing 11 = .ok (.getfield 37, 3) := by decide +kernel
theorem dX15_nothing_14 : decode cX15_nothing 14 = .ok (.iload_n 1, 1) := by decide +kernel
theorem dX15_nothing_15 : decode cX15_nothing 15 = .ok (.aload_n 0, 1) := by decide +kernel
theorem dX15_nothing_16 : decode cX15_nothing 16 = .ok (.getfield 12, 3) := by decide +kernel
theorem dX15_nothing_19 : decode cX15_nothing 19 = .ok (.aastore, 1) := by decide +kernel
theorem dX15_nothing_20 : decode cX15_nothing 20 = .ok (.aload_n 0, 1) := by decide +kernel
theorem dX15_nothing_21 : decode cX15_nothing 21 = .ok (.getfield 28, 3) := by decide +kernel
theorem dX15_nothing_24 : decode cX15_nothing 24 = .ok (.invokevirtual 58, 3) := by decide +kernel
theorem dX15_nothing_27 : decode cX15_nothing 27 = .ok (.ireturn, 1) := by decide +kernel
theorem dX15_kind_0 : decode cX15_kind 0 = .ok (.aload_n 0, 1) := by decide +kernel
theorem dX15_kind_1 : decode cX15_kind 1 = .ok (.iload_n 1, 1) := by decide +kernel
theorem dX15_kind_2 : decode cX15_kind 2 = .ok (.invokevirtual 210, 3) := by decide +kernel
theorem dX15_kind_5 : decode cX15_kind 5 = .ok (.ifCond .eq 7, 3) := by decide +kernel
theorem dX15_kind_8 : decode cX15_kind 8 = .ok (.iconst 0, 1) := by decide +kernel
theorem dX15_kind_9 : decode cX15_kind 9 = .ok (.goto 12, 3) := by decide +kernel
theorem dX15_kind_12 : decode cX15_kind 12 = .ok (.aload_n 0, 1) := by decide +kernel
theorem dX15_kind_13 : decode cX15_kind 13 = .ok (.getfield 37, 3) := by decide +kernel
theorem dX15_kind_16 : decode cX15_kind 16 = .ok (.iload_n 1, 1) := by decide +kernel
theorem dX15_kind_17 : decode cX15_kind 17 = .ok (.aaload, 1) := by decide +kernel
theorem dX15_kind_18 : decode cX15_kind 18 = .ok (.getfield 228, 3) := by decide +kernel
theorem dX15_kind_21 : decode cX15_kind 21 = .ok (.ireturn, 1) := by decide +kernel
theorem dX15_value_0 : decode cX15_value 0 = .ok (.aload_n 0, 1) := by decide +kernel
theorem dX15_value_1 : decode cX15_value 1 = .ok (.iload_n 1, 1) := by decide +kernel
theorem dX15_value_2 : decode cX15_value 2 = .ok (.invokevirtual 210, 3) := by decide +kernel
theorem dX15_value_5 : decode cX15_value 5 = .ok (.ifCond .eq 7, 3) := by decide +kernel
theorem dX15_value_8 : decode cX15_value 8 = .ok (.iconst 0, 1) := by decide +kernel
theorem dX15_value_9 : decode cX15_value 9 = .ok (.goto 12, 3) := by decide +kernel
theorem dX15_value_12 : decode cX15_value 12 = .ok (.aload_n 0, 1) := by decide +kernel
theorem dX15_value_13 : decode cX15_value 13 = .ok (.getfield 37, 3) := by decide +kernel
theorem dX15_value_16 : decode cX15_value 16 = .ok (.iload_n 1, 1) := by decide +kernel
theorem dX15_value_17 : decode cX15_value 17 = .ok (.aaload, 1) := by decide +kernel
theorem dX15_value_18 : decode cX15_value 18 = .ok (.getfield 225, 3) := by decide +kernel
theorem dX15_value_21 : decode cX15_value 21 = .ok (.ireturn, 1) := by decide +kernel
theorem dX15_hot_0 : decode cX15_hot 0 = .ok (.aload_n 0, 1) := by decide +kernel
theorem dX15_hot_1 : decode cX15_hot 1 = .ok (.iload_n 1, 1) := by decide +kernel
theorem dX15_hot_2 : decode cX15_hot 2 = .ok (.iconst 0, 1) := by decide +kernel
theorem dX15_hot_3 : decode cX15_hot 3 = .ok (.bipush 99, 2) := by decide +kernel
theorem dX15_hot_5 : decode cX15_hot 5 = .ok (.invokestatic 62, 3) := by decide +kernel
theorem dX15_hot_8 : decode cX15_hot 8 = .ok (.ifCond .eq 7, 3) := by decide +kernel
theorem dX15_hot_11 : decode cX15_hot 11 = .ok (.iconst 0, 1) := by decide +kernel
theorem dX15_hot_12 : decode cX15_hot 12 = .ok (.goto 4, 3) := by decide +kernel
theorem dX15_hot_15 : decode cX15_hot 15 = .ok (.iconst 1, 1) := by decide +kernel
theorem dX15_hot_16 : decode cX15_hot 16 = .ok (.invokevirtual 77, 3) := by decide +kernel
theorem dX15_hot_19 : decode cX15_hot 19 = .ok (.ifCond .eq 5, 3) := by decide +kernel
theorem dX15_hot_22 : decode cX15_hot 22 = .ok (.iconst 0, 1) := by decide +kernel
theorem dX15_hot_23 : decode cX15_hot 23 = .ok (.ireturn, 1) := by decide +kernel
theorem dX15_hot_24 : decode cX15_hot 24 = .ok (.aload_n 0, 1) := by decide +kernel
theorem dX15_hot_25 : decode cX15_hot 25 = .ok (.getfield 204, 3) := by decide +kernel
theorem dX15_hot_28 : decode cX15_hot 28 = .ok (.istore_n 2, 1) := by decide +kernel
theorem dX15_hot_29 : decode cX15_hot 29 = .ok (.aload_n 0, 1) := by decide +kernel
theorem dX15_hot_30 : decode cX15_hot 30 = .ok (.iload_n 1, 1) := by decide +kernel
theorem dX15_hot_31 : decode cX15_hot 31 = .ok (.putfield 204, 3) := by decide +kernel
theorem dX15_hot_34 : decode cX15_hot 34 = .ok (.iload_n 2, 1) := by decide +kernel
theorem dX15_hot_35 : decode cX15_hot 35 = .ok (.ireturn, 1) := by decide +kernel
theorem dX15_add_0 : decode cX15_add 0 = .ok (.aload_n 0, 1) := by decide +kernel
theorem dX15_add_1 : decode cX15_add 1 = .ok (.iload_n 1, 1) := by decide +kernel
theorem dX15_add_2 : decode cX15_add 2 = .ok (.invokevirtual 66, 3) := by decide +kernel
theorem dX15_add_5 : decode cX15_add 5 = .ok (.ifCond .eq 47, 3) := by decide +kernel
theorem dX15_add_8 : decode cX15_add 8 = .ok (.iload_n 1, 1) := by decide +kernel
theorem dX15_add_9 : decode cX15_add 9 = .ok (.iconst 1, 1) := by decide +kernel
theorem dX15_add_10 : decode cX15_add 10 = .ok (.if_icmp .eq 42, 3) := by decide +kernel
theorem dX15_add_13 : decode cX15_add 13 = .ok (.iload_n 1, 1) := by decide +kernel
theorem dX15_add_14 : decode cX15_add 14 = .ok (.iconst 2, 1) := by decide +kernel
theorem dX15_add_15 : decode cX15_add 15 = .ok (.if_icmp .eq 37, 3) := by decide +kernel
theorem dX15_add_18 : decode cX15_add 18 = .ok (.iload_n 2, 1) := by decide +kernel
theorem dX15_add_19 : decode cX15_add 19 = .ok (.iconst 0, 1) := by decide +kernel
theorem dX15_add_20 : decode cX15_add 20 = .ok (.iconst 4, 1) := by decide +kernel
theorem dX15_add_21 : decode cX15_add 21 = .ok (.invokestatic 62, 3) := by decide +kernel
theorem dX15_add_24 : decode cX15_add 24 = .ok (.ifCond .eq 28, 3) := by decide +kernel
theorem dX15_add_27 : decode cX15_add 27 = .ok (.aload_n 0, 1) := by decide +kernel
theorem dX15_add_28 : decode cX15_add 28 = .ok (.getfield 21, 3) := by decide +kernel
theorem dX15_add_31 : decode cX15_add 31 = .ok (.iload_n 1, 1) := by decide +kernel
theorem dX15_add_32 : decode cX15_add 32 = .ok (.invokevirtual 70, 3) := by decide +kernel
theorem dX15_add_35 : decode cX15_add 35 = .ok (.checkcast 45, 3) := by decide +kernel
theorem dX15_add_38 : decode cX15_add 38 = .ok (.getfield 74, 3) := by decide +kernel
theorem dX15_add_41 : decode cX15_add 41 = .ok (.iload_n 2, 1) := by decide +kernel
theorem dX15_add_42 : decode cX15_add 42 = .ok (.iadd, 1) := by decide +kernel
theorem dX15_add_43 : decode cX15_add 43 = .ok (.bipush 8, 2) := by decide +kernel
theorem dX15_add_45 : decode cX15_add 45 = .ok (.if_icmp .gt 7, 3) := by decide +kernel
theorem dX15_add_48 : decode cX15_add 48 = .ok (.iconst 1, 1) := by decide +kernel
theorem dX15_add_49 : decode cX15_add 49 = .ok (.goto 4, 3) := by decide +kernel
theorem dX15_add_52 : decode cX15_add 52 = .ok (.iconst 0, 1) := by decide +kernel
theorem dX15_add_53 : decode cX15_add 53 = .ok (.istore_n 3, 1) := by decide +kernel
theorem dX15_add_54 : decode cX15_add 54 = .ok (.aload_n 0, 1) := by decide +kernel
theorem dX15_add_55 : decode cX15_add 55 = .ok (.aload_n 0, 1) := by decide +kernel
theorem dX15_add_56 : decode cX15_add 56 = .ok (.iload_n 1, 1) := by decide +kernel
theorem dX15_add_57 : decode cX15_add 57 = .ok (.invokevirtual 66, 3) := by decide +kernel
theorem dX15_add_60 : decode cX15_add 60 = .ok (.ifCond .ne 7, 3) := by decide +kernel
theorem dX15_add_63 : decode cX15_add 63 = .ok (.iconst 1, 1) := by decide +kernel
theorem dX15_add_64 : decode cX15_add 64 = .ok (.goto 28, 3) := by decide +kernel
theorem dX15_add_67 : decode cX15_add 67 = .ok (.iload_n 3, 1) := by decide +kernel
theorem dX15_add_68 : decode cX15_add 68 = .ok (.ifCond .ne 7, 3) := by decide +kernel
theorem dX15_add_71 : decode cX15_add 71 = .ok (.iconst 2, 1) := by decide +kernel
theorem dX15_add_72 : decode cX15_add 72 = .ok (.goto 20, 3) := by decide +kernel
theorem dX15_add_75 : decode cX15_add 75 = .ok (.aload_n 0, 1) := by decide +kernel
theorem dX15_add_76 : decode cX15_add 76 = .ok (.getfield 21, 3) := by decide +kernel
theorem dX15_add_79 : decode cX15_add 79 = .ok (.invokevirtual 58, 3) := by decide +kernel
theorem dX15_add_82 : decode cX15_add 82 = .ok (.bipush 12, 2) := by decide +kernel
theorem dX15_add_84 : decode cX15_add 84 = .ok (.if_icmp .ne 7, 3) := by decide +kernel
theorem dX15_add_87 : decode cX15_add 87 = .ok (.iconst 3, 1) := by decide +kernel
theorem dX15_add_88 : decode cX15_add 88 = .ok (.goto 4, 3) := by decide +kernel
theorem dX15_add_91 : decode cX15_add 91 = .ok (.iconst 0, 1) := by decide +kernel
theorem dX15_add_92 : decode cX15_add 92 = .ok (.invokevirtual 77, 3) := by decide +kernel
theorem dX15_add_95 : decode cX15_add 95 = .ok (.ifCond .eq 5, 3) := by decide +kernel
theorem dX15_add_98 : decode cX15_add 98 = .ok (.iconst 0, 1) := by decide +kernel
theorem dX15_add_99 : decode cX15_add 99 = .ok (.ireturn, 1) := by decide +kernel
theorem dX15_add_100 : decode cX15_add 100 = .ok (.aload_n 0, 1) := by decide +kernel
theorem dX15_add_101 : decode cX15_add 101 = .ok (.getfield 21, 3) := by decide +kernel
theorem dX15_add_104 : decode cX15_add 104 = .ok (.new 45, 3) := by decide +kernel
theorem dX15_add_107 : decode cX15_add 107 = .ok (.dup, 1) := by decide +kernel
theorem dX15_add_108 : decode cX15_add 108 = .ok (.iload_n 1, 1) := by decide +kernel
theorem dX15_add_109 : decode cX15_add 109 = .ok (.aload_n 0, 1) := by decide +kernel
theorem dX15_add_110 : decode cX15_add 110 = .ok (.getfield 21, 3) := by decide +kernel
theorem dX15_add_113 : decode cX15_add 113 = .ok (.iload_n 1, 1) := by decide +kernel
theorem dX15_add_114 : decode cX15_add 114 = .ok (.invokevirtual 70, 3) := by decide +kernel
theorem dX15_add_117 : decode cX15_add 117 = .ok (.checkcast 45, 3) := by decide +kernel
theorem dX15_add_120 : decode cX15_add 120 = .ok (.getfield 74, 3) := by decide +kernel
theorem dX15_add_123 : decode cX15_add 123 = .ok (.iload_n 2, 1) := by decide +kernel
theorem dX15_add_124 : decode cX15_add 124 = .ok (.iadd, 1) := by decide +kernel
theorem dX15_add_125 : decode cX15_add 125 = .ok (.invokespecial 47, 3) := by decide +kernel
theorem dX15_add_128 : decode cX15_add 128 = .ok (.invokevirtual 50, 3) := by decide +kernel
theorem dX15_add_131 : decode cX15_add 131 = .ok (.pop, 1) := by decide +kernel
theorem dX15_add_132 : decode cX15_add 132 = .ok (.aload_n 0, 1) := by decide +kernel
theorem dX15_add_133 : decode cX15_add 133 = .ok (.getfield 21, 3) := by decide +kernel
theorem dX15_add_136 : decode cX15_add 136 = .ok (.invokevirtual 58, 3) := by decide +kernel
theorem dX15_add_139 : decode cX15_add 139 = .ok (.iconst 1, 1) := by decide +kernel
theorem dX15_add_140 : decode cX15_add 140 = .ok (.isub, 1) := by decide +kernel
theorem dX15_add_141 : decode cX15_add 141 = .ok (.ireturn, 1) := by decide +kernel
section SITES
variable {p : Program} {l : Launch} {e : Env} {R : Room} {s : State} {m : MethodId} {args : Array Value} {below : List Frame} {meth : Method} {c : Code} {H : Heap} {locs : List Loc} {cells slots : Nat} {Q : State → Prop}
variable {pc : Nat} {ls : Array Slot} {rest : List Value} {D : va_G} {ar : Nat → ClassId} {κ : Nat → Nat} {A : Nat → Prop} {a : Nat} {H0 : Heap} {G : gW} {nz nL : Nat} {cc : ByteArray}
theorem m_8_47 : (Cond.code yX15_isGlobal cX15_isGlobal 1 (some .boolean)) ∈ lwA := lwA_mk (ck_8 _ (List.mem_of_getElem? (i := 47) rfl)) rfl
theorem m_8_45 : (Cond.methodLink RX15 207 yX15_isGlobal) ∈ lwA := lwA_mk (ck_8 _ (List.mem_of_getElem? (i := 45) rfl)) rfl
theorem m_8_46 : (Cond.static yX15_isGlobal) ∈ lwA := lwA_mk (ck_8 _ (List.mem_of_getElem? (i := 46) rfl)) rfl
theorem k_RX15_207 {args : Array Value} {s : State} {R rm : Room} (hts : ∀ w ∈ lwA, w.before args s = true) (hR : rm.frames + 1 ≤ R.frames ∧ 8 + (1 + 11) + rm.locals ≤ R.locals) : CallB R s args RX15 207 yX15_isGlobal cX15_isGlobal 1 (some .boolean) (lwC yX15_isGlobal cX15_isGlobal 1 (some .boolean)) rm rm.cells rm.slots 1 ∧ (Cond.static yX15_isGlobal).before args s = true := cwS 1 hts (gdS m_8_45 m_8_46 m_1_12 m_8_47) rfl rfl rfl (by decide +kernel) hR
theorem m_8_44 : (Cond.code yX15_isNoGlobal cX15_isNoGlobal 2 (some .boolean)) ∈ lwA := lwA_mk (ck_8 _ (List.mem_of_getElem? (i := 44) rfl)) rfl
theorem m_8_41 : (Cond.methodLink RX15 210 yX15_isNoGlobal) ∈ lwA := lwA_mk (ck_8 _ (List.mem_of_getElem? (i := 41) rfl)) rfl
theorem m_8_43 : (Cond.instanceMethod yX15_isNoGlobal) ∈ lwA := lwA_mk (ck_8 _ (List.mem_of_getElem? (i := 43) rfl)) rfl
theorem ms_49 : (Cond.selects RX15 yX15_isNoGlobal yX15_isNoGlobal) ∈ lwA := lwA_mk (List.mem_append_left _ (List.mem_of_getElem? (i := 49) rfl)) rfl
theorem k_RX15_210 {args : Array Value} {s : State} {R rm : Room} (hts : ∀ w ∈ lwA, w.before args s = true) (hR : rm.frames + 1 ≤ R.frames ∧ 8 + (2 + 11) + rm.locals ≤ R.locals) : CallW R s args RX15 RX15 210 yX15_isNoGlobal cX15_isNoGlobal 2 (some .boolean) (lwC yX15_isNoGlobal cX15_isNoGlobal 2 (some .boolean)) rm rm.cells rm.slots 1 := cwV 1 hts (gdV m_8_41 m_8_43 ms_49 m_1_12 m_8_44) rfl rfl rfl (by decide +kernel) hR
theorem gf_RX15_28_19 {A9 : Nat → Prop} {H9 : Heap} {fs : List Value} {v : Value} (S : CallFix p m c cc nL s args lwA RX15) (hE : g_E D vwCl (gT ar) (EX1 κ) A9 s H9) (w : g_S D vwCl A H0 G H locs nz) (ha : G a = some (.inr (19, fs))) (hv : fs[3]? = some v) (hdg : decode cc pc = .ok (.getfield 28, 3)) (kk : W p l e R s m args below meth c H locs cells slots Q (F0 m (pc + 3) ls (v :: rest))) : W p l e R s m args below meth c H locs cells slots Q (F0 m pc ls (.ref a :: rest)) :=
  va_get (ci := 19) (C := RX15) (T := TX15) (N := 14) S.1 S.2.1 S.2.2.2.2 inA_RX15 S.2.2.2.1 hE.1 (g_1 w.1 ha) 0 rfl rfl 3 (by decide) (S.2.2.2.2 _ m_6_148) (fun _ h => h) hv hdg kk
theorem gf_RX15_228_18 {A9 : Nat → Prop} {H9 : Heap} {fs : List Value} {v : Value} (S : CallFix p m c cc nL s args lwA RX15) (hE : g_E D vwCl (gT ar) (EX1 κ) A9 s H9) (w : g_S D vwCl A H0 G H locs nz) (ha : G a = some (.inr (18, fs))) (hv : fs[0]? = some v) (hdg : decode cc pc = .ok (.getfield 228, 3)) (kk : W p l e R s m args below meth c H locs cells slots Q (F0 m (pc + 3) ls (v :: rest))) : W p l e R s m args below meth c H locs cells slots Q (F0 m pc ls (.ref a :: rest)) :=
  va_getN (ci := 18) (C := RX14) (T := TX14) (N := 2) S.1 S.2.1 S.2.2.2.2 inA_RX14 S.2.2.2.1 hE.1 (g_1 w.1 ha) 0 rfl rfl 0 (by decide) (va_Nw.use rfl (hE.2.1.1 _ (ckN_1 _ (List.mem_of_getElem? (i := 33) rfl)))) (fun _ h => h) hv hdg kk
theorem gf_RX15_225_18 {A9 : Nat → Prop} {H9 : Heap} {fs : List Value} {v : Value} (S : CallFix p m c cc nL s args lwA RX15) (hE : g_E D vwCl (gT ar) (EX1 κ) A9 s H9) (w : g_S D vwCl A H0 G H locs nz) (ha : G a = some (.inr (18, fs))) (hv : fs[1]? = some v) (hdg : decode cc pc = .ok (.getfield 225, 3)) (kk : W p l e R s m args below meth c H locs cells slots Q (F0 m (pc + 3) ls (v :: rest))) : W p l e R s m args below meth c H locs cells slots Q (F0 m pc ls (.ref a :: rest)) :=
  va_getN (ci := 18) (C := RX14) (T := TX14) (N := 2) S.1 S.2.1 S.2.2.2.2 inA_RX14 S.2.2.2.1 hE.1 (g_1 w.1 ha) 0 rfl rfl 1 (by decide) (va_Nw.use rfl (hE.2.1.1 _ (ckN_1 _ (List.mem_of_getElem? (i := 34) rfl)))) (fun _ h => h) hv hdg kk
theorem m_6_153 : (Cond.fieldLink RX15 204 "SendhouseModel" "hot" "I") ∈ lwA := lwA_mk (ck_6 _ (List.mem_of_getElem? (i := 153) rfl)) rfl
theorem gf_RX15_204_19 {A9 : Nat → Prop} {H9 : Heap} {fs : List Value} {v : Value} (S : CallFix p m c cc nL s args lwA RX15) (hE : g_E D vwCl (gT ar) (EX1 κ) A9 s H9) (w : g_S D vwCl A H0 G H locs nz) (ha : G a = some (.inr (19, fs))) (hv : fs[8]? = some v) (hdg : decode cc pc = .ok (.getfield 204, 3)) (kk : W p l e R s m args below meth c H locs cells slots Q (F0 m (pc + 3) ls (v :: rest))) : W p l e R s m args below meth c H locs cells slots Q (F0 m pc ls (.ref a :: rest)) :=
  va_get (ci := 19) (C := RX15) (T := TX15) (N := 14) S.1 S.2.1 S.2.2.2.2 inA_RX15 S.2.2.2.1 hE.1 (g_1 w.1 ha) 0 rfl rfl 8 (by decide) (S.2.2.2.2 _ m_6_153) (fun _ h => h) hv hdg kk
theorem pf_RX15_204_19 {A9 : Nat → Prop} {H9 : Heap} {fs : List Value} {v : Value} (S : CallFix p m c cc nL s args lwA RX15) (hE : g_E D vwCl (gT ar) (EX1 κ) A9 s H9) (w : g_S D vwCl A H0 G H locs nz) (ha : G a = some (.inr (19, fs))) (hn : narrow .int v = v) (hfit : fits .int v = true) (hl : 8 < fs.length) {fs1 : List Value} (hfs : fs.set 8 v = fs1) (hdg : decode cc pc = .ok (.putfield 204, 3)) (kk : ∀ (H1 : Heap) (locs1 : List Loc), g_S D vwCl A H0 (g_up G a (.inr (19, fs1))) H1 locs1 nz → W p l e R s m args below meth c H1 locs1 cells slots Q (F0 m (pc + 3) ls rest)) : W p l e R s m args below meth c H locs cells slots Q (F0 m pc ls (v :: .ref a :: rest)) :=
  g_put (ci := 19) (ty := .int) (C := RX15) (T := TX15) (N := 14) S.1 S.2.1 S.2.2.2.2 inA_RX15 tyX15 tyX15_ok nmX15 S.2.2.2.1 hE.1 w ha rfl 8 (by decide) (S.2.2.2.2 _ m_6_153) (fun _ h => h) rfl (by decide +kernel) hn hfit hl hdg (fun H1 l1 w1 => kk H1 l1 (by rw [← hfs]; exact w1))
end SITES
theorem K_go_W {n : Int32} : K_go n = if isW n 1 500 = 0 then 1 else 2 := by
  unfold K_go isW
  by_cases h1 : n < 1
  · rw [if_pos h1, if_pos h1]; rfl
  · rw [if_neg h1, if_neg h1]
    by_cases h2 : 500 < n
    · rw [if_pos h2, if_neg (Int32.not_le.mpr h2)]; rfl
    · rw [if_neg h2, if_pos (Int32.not_lt.mp h2)]; rfl
set_option maxHeartbeats 4000000 in
set_option maxRecDepth 100000 in
theorem c_isGlobal (l : Launch) (D : va_G) (ar : Nat → ClassId) (κ : Nat → Nat) (G : gW) (sz : Nat) (g : Int32) : Met l yX15_isGlobal (lwC yX15_isGlobal cX15_isGlobal 1 (some .boolean)) (rD 2 0 0) (g_Pc D vwCl (gT ar) (EX1 κ) G sz [.int g]) (g_Qi D vwCl (g_A G sz) (fun r u => r = isB g 8 ∧ u = (G, sz))) 0 0 (g_A G sz) := by
  refine g_ofW (by decide +kernel) (Nat.le_of_ble_eq_true rfl) ?_
  intro p e s m below meth c ls S hr hlk hin hE w hl
  have hx := S.1
  have hb := S.2.1
  have hl : lv_has ls 1 [(0, .int g)] := hl
  refine lv_iload_n hx hb dX15_isGlobal_0 rfl (lv_at hl 0 rfl) ?_
  refine lv_iconst (v := 0) hx hb dX15_isGlobal_1 (by decide) ?_
  refine lv_bipush (v := 7) hx hb dX15_isGlobal_2 (by decide) ?_
  refine g_calli w (g_runS (As := [.int g, .int 0, .int 7]) (rest := []) S hE w hl (c_isBetween l D ar κ G sz g 0 7) (k_RX15_62 S.2.2.2.2 ⟨Nat.le_of_ble_eq_true rfl, Nat.le_of_ble_eq_true rfl⟩) rfl rfl (Nat.le_of_ble_eq_true rfl) dX15_isGlobal_4 ⟨Nat.le_of_ble_eq_true rfl, Nat.le_of_ble_eq_true rfl⟩) (fun r u H locs hp hnz w => ?_)
  obtain ⟨rfl, rfl⟩ := hp
  rw [show (isW g 0 7) = isB g 8 from isW_B rfl (by decide) (by decide)]
  dsimp only at w
  exact g_zret hx hb hr hlk w (Nat.le_of_ble_eq_true rfl) (Nat.le_of_ble_eq_true rfl) dX15_isGlobal_7 (isB_nar _ _) ⟨rfl, rfl⟩
set_option maxHeartbeats 4000000 in
set_option maxRecDepth 100000 in
theorem c_isNoGlobalA (l : Launch) (D : va_G) (ar : Nat → ClassId) (κ : Nat → Nat) (G : gW) (sz : Nat) (y : Nat) (g : Int32) (g0 : Option Nat) (g1 : Option Nat) (g2 : Option Nat) (g3 : Option Nat) (g4 : Option Nat) (g5 : Option Nat) (g6 : Option Nat) (g7 : Int32) (g8 : Int32) (g9 : Int32) (g10 : Int32) (g11 : Int32) (g12 : Int32) (g13 : Option Nat) (hy : G y = some (.inr (19, [va_rf g0, va_rf g1, va_rf g2, va_rf g3, va_rf g4, va_rf g5, va_rf g6, .int g7, .int g8, .int g9, .int g10, .int g11, .int g12, va_rf g13]))) (h : isB g 8 = 0) : Met l yX15_isNoGlobal (lwC yX15_isNoGlobal cX15_isNoGlobal 2 (some .boolean)) (rD 3 0 0) (g_Pc D vwCl (gT ar) (EX1 κ) G sz [.ref y, .int g]) (g_Qi D vwCl (g_A G sz) (fun r u => r = 1 ∧ u = ((g_up G y (.inr (19, [va_rf g0, va_rf g1, va_rf g2, va_rf g3, va_rf g4, va_rf g5, va_rf g6, .int 1, .int g8, .int g9, .int g10, .int g11, .int g12, va_rf g13]))), sz))) 0 0 (g_A G sz) := by
  refine g_ofW (by decide +kernel) (Nat.le_of_ble_eq_true rfl) ?_
  intro p e s m below meth c ls S hr hlk hin hE w hl
  have hx := S.1
  have hb := S.2.1
  have hl : lv_has ls 2 [(0, .ref y), (1, .int g)] := hl
  have lt_hy : y < sz := g_ltn w hy
  refine lv_aload_n hx hb dX15_isNoGlobal_0 rfl (lv_at hl 0 rfl) ?_
  refine lv_iload_n hx hb dX15_isNoGlobal_1 rfl (lv_at hl 1 rfl) ?_
  refine g_calli w (g_runS (As := [.int g]) (rest := [.ref y]) S hE w hl (c_isGlobal l D ar κ G sz g) (k_RX15_207 S.2.2.2.2 ⟨Nat.le_of_ble_eq_true rfl, Nat.le_of_ble_eq_true rfl⟩) rfl rfl (Nat.le_of_ble_eq_true rfl) dX15_isNoGlobal_2 ⟨Nat.le_of_ble_eq_true rfl, Nat.le_of_ble_eq_true rfl⟩) (fun r u H locs hp hnz w => ?_)
  obtain ⟨rfl, rfl⟩ := hp
  dsimp only at w
  refine lv_if_eq (tgt := 12) hx hb dX15_isNoGlobal_5 (by decide) (fun c_5 => ?_) (fun c_5 => absurd h c_5)
  refine lv_iconst (v := 1) hx hb dX15_isNoGlobal_12 (by decide) ?_
  refine g_calli w (g_runV (As := [.int 1]) (rest := []) S hE w hl (c_isWrong l D ar κ G sz y 1 g0 g1 g2 g3 g4 g5 g6 g7 g8 g9 g10 g11 g12 g13 hy) (k_RX15_77 S.2.2.2.2 ⟨Nat.le_of_ble_eq_true rfl, Nat.le_of_ble_eq_true rfl⟩) hy rfl rfl rfl rfl (Nat.le_of_ble_eq_true rfl) dX15_isNoGlobal_13 ⟨Nat.le_of_ble_eq_true rfl, Nat.le_of_ble_eq_true rfl⟩) (fun r u H locs hp hnz w => ?_)
  obtain ⟨rfl, rfl⟩ := hp
  rw [show (if (1 : Int32) = 0 then (0 : Int32) else 1) = 1 from by decide]
  dsimp only at w
  exact g_zret hx hb hr hlk w (Nat.le_of_ble_eq_true rfl) (Nat.le_of_ble_eq_true rfl) dX15_isNoGlobal_16 rfl ⟨rfl, rfl⟩
set_option maxHeartbeats 4000000 in
set_option maxRecDepth 100000 in
theorem c_isNoGlobalB (l : Launch) (D : va_G) (ar : Nat → ClassId) (κ : Nat → Nat) (G : gW) (sz : Nat) (y : Nat) (g : Int32) (g0 : Option Nat) (g1 : Option Nat) (g2 : Option Nat) (g3 : Option Nat) (g4 : Option Nat) (g5 : Option Nat) (g6 : Option Nat) (g7 : Int32) (g8 : Int32) (g9 : Int32) (g10 : Int32) (g11 : Int32) (g12 : Int32) (g13 : Option Nat) (hy : G y = some (.inr (19, [va_rf g0, va_rf g1, va_rf g2, va_rf g3, va_rf g4, va_rf g5, va_rf g6, .int g7, .int g8, .int g9, .int g10, .int g11, .int g12, va_rf g13]))) (h : ¬ isB g 8 = 0) : Met l yX15_isNoGlobal (lwC yX15_isNoGlobal cX15_isNoGlobal 2 (some .boolean)) (rD 3 0 0) (g_Pc D vwCl (gT ar) (EX1 κ) G sz [.ref y, .int g]) (g_Qi D vwCl (g_A G sz) (fun r u => r = 0 ∧ u = ((g_up G y (.inr (19, [va_rf g0, va_rf g1, va_rf g2, va_rf g3, va_rf g4, va_rf g5, va_rf g6, .int 0, .int g8, .int g9, .int g10, .int g11, .int g12, va_rf g13]))), sz))) 0 0 (g_A G sz) := by
  refine g_ofW (by decide +kernel) (Nat.le_of_ble_eq_true rfl) ?_
  intro p e s m below meth c ls S hr hlk hin hE w hl
  have hx := S.1
  have hb := S.2.1
  have hl : lv_has ls 2 [(0, .ref y), (1, .int g)] := hl
  have lt_hy : y < sz := g_ltn w hy
  refine lv_aload_n hx hb dX15_isNoGlobal_0 rfl (lv_at hl 0 rfl) ?_
  refine lv_iload_n hx hb dX15_isNoGlobal_1 rfl (lv_at hl 1 rfl) ?_
  refine g_calli w (g_runS (As := [.int g]) (rest := [.ref y]) S hE w hl (c_isGlobal l D ar κ G sz g) (k_RX15_207 S.2.2.2.2 ⟨Nat.le_of_ble_eq_true rfl, Nat.le_of_ble_eq_true rfl⟩) rfl rfl (Nat.le_of_ble_eq_true rfl) dX15_isNoGlobal_2 ⟨Nat.le_of_ble_eq_true rfl, Nat.le_of_ble_eq_true rfl⟩) (fun r u H locs hp hnz w => ?_)
  obtain ⟨rfl, rfl⟩ := hp
  dsimp only at w
  refine lv_if_eq (tgt := 12) hx hb dX15_isNoGlobal_5 (by decide) (fun c_5 => absurd c_5 h) (fun c_5 => ?_)
  refine lv_iconst (v := 0) hx hb dX15_isNoGlobal_8 (by decide) ?_
  refine lv_goto (tgt := 13) hx hb dX15_isNoGlobal_9 (by decide) ?_
  refine g_calli w (g_runV (As := [.int 0]) (rest := []) S hE w hl (c_isWrong l D ar κ G sz y 0 g0 g1 g2 g3 g4 g5 g6 g7 g8 g9 g10 g11 g12 g13 hy) (k_RX15_77 S.2.2.2.2 ⟨Nat.le_of_ble_eq_true rfl, Nat.le_of_ble_eq_true rfl⟩) hy rfl rfl rfl rfl (Nat.le_of_ble_eq_true rfl) dX15_isNoGlobal_13 ⟨Nat.le_of_ble_eq_true rfl, Nat.le_of_ble_eq_true rfl⟩) (fun r u H locs hp hnz w => ?_)
  obtain ⟨rfl, rfl⟩ := hp
  rw [show (if (0 : Int32) = 0 then (0 : Int32) else 1) = 0 from by decide]
  dsimp only at w
  exact g_zret hx hb hr hlk w (Nat.le_of_ble_eq_true rfl) (Nat.le_of_ble_eq_true rfl) dX15_isNoGlobal_16 rfl ⟨rfl, rfl⟩
set_option maxHeartbeats 4000000 in
set_option maxRecDepth 100000 in
theorem m_number (l : Launch) (D : va_G) (ar : Nat → ClassId) (κ : Nat → Nat) (G : gW) (sz : Nat) (y : Nat) (g : Int32) (i : Int32) (q : Nat) (t : Int32) (hM : FM ar κ G y q t) : Met l yX15_number (lwC yX15_number cX15_number 3 (some .int)) (rD 5 1 2) (g_Pc D vwCl (gT ar) (EX1 κ) G sz [.ref y, .int g, .int i]) (g_Qi D vwCl (g_A G sz) (fun r u => ((K_gl g : Int32) = 0 → r = 0) ∧ TH y (K_gl g) u)) 1 2 (g_A G sz) := by
  refine g_ofW (by decide +kernel) (Nat.le_of_ble_eq_true rfl) ?_
  intro p e s m below meth c ls S hr hlk hin hE w hl
  have hx := S.1
  have hb := S.2.1
  have hl : lv_has ls 3 [(0, .ref y), (1, .int g), (2, .int i)] := hl
  obtain ⟨hyq, m0, m1, m2, m3, m4, m5, m6, m7, m8, m9, m10, m11, m12, m13, m14⟩ := id hM
  have lt13 : q + 13 < sz := g_ltn w m14
  by_cases d1 : isB g 8 = 0
  · refine lv_aload_n hx hb dX15_number_0 rfl (lv_at hl 0 rfl) ?_
    refine lv_iload_n hx hb dX15_number_1 rfl (lv_at hl 1 rfl) ?_
    refine g_calli w (g_runV (As := [.int g]) (rest := []) S hE w hl (c_isNoGlobalA l D ar κ G sz y g (some q) (some (q + 1)) (some (q + 2)) (some (q + 3)) (some (q + 4)) (some (q + 5)) (some (q + 6)) t 0 0 0 45 0 none m0 d1) (k_RX15_210 S.2.2.2.2 ⟨Nat.le_of_ble_eq_true rfl, Nat.le_of_ble_eq_true rfl⟩) m0 rfl rfl rfl rfl (Nat.le_of_ble_eq_true rfl) dX15_number_2 ⟨Nat.le_of_ble_eq_true rfl, Nat.le_of_ble_eq_true rfl⟩) (fun r u H locs hp hnz w => ?_)
    obtain ⟨rfl, rfl⟩ := hp
    dsimp only at w
    refine lv_if_eq (tgt := 10) hx hb dX15_number_5 (by decide) (fun c => absurd c (by decide)) (fun _ => ?_)
    refine lv_iconst (v := 0) hx hb dX15_number_8 (by decide) ?_
    exact g_iret hx hb hr hlk w (Nat.le_of_ble_eq_true rfl) (Nat.le_of_ble_eq_true rfl) dX15_number_9 ⟨(nz_first (T := 1) (by simp [K_gl, isB03, isB13, isB23, isPl0, isPl1, isPl2, d1]) (by decide)), TH_mk (T := 1) g_up_s rfl (by simp [K_gl, isB03, isB13, isB23, isPl0, isPl1, isPl2, d1])⟩
  · refine lv_aload_n hx hb dX15_number_0 rfl (lv_at hl 0 rfl) ?_
    refine lv_iload_n hx hb dX15_number_1 rfl (lv_at hl 1 rfl) ?_
    refine g_calli w (g_runV (As := [.int g]) (rest := []) S hE w hl (c_isNoGlobalB l D ar κ G sz y g (some q) (some (q + 1)) (some (q + 2)) (some (q + 3)) (some (q + 4)) (some (q + 5)) (some (q + 6)) t 0 0 0 45 0 none m0 d1) (k_RX15_210 S.2.2.2.2 ⟨Nat.le_of_ble_eq_true rfl, Nat.le_of_ble_eq_true rfl⟩) m0 rfl rfl rfl rfl (Nat.le_of_ble_eq_true rfl) dX15_number_2 ⟨Nat.le_of_ble_eq_true rfl, Nat.le_of_ble_eq_true rfl⟩) (fun r u H locs hp hnz w => ?_)
    obtain ⟨rfl, rfl⟩ := hp
    dsimp only at w
    refine lv_if_eq (tgt := 10) hx hb dX15_number_5 (by decide) (fun _ => ?_) (fun c => absurd (by decide) c)
    refine lv_aload_n hx hb dX15_number_10 rfl (lv_at hl 0 rfl) ?_
    refine gf_RX15_37_19 S hE w g_up_s rfl dX15_number_11 ?_
    refine lv_iload_n hx hb dX15_number_14 rfl (lv_at hl 1 rfl) ?_
    refine nw_RX15_7 S hE w (Nat.le_of_ble_eq_true rfl) (Nat.le_of_ble_eq_true rfl) dX15_number_15 (fun H w => ?_)
    refine lv_dup hx hb dX15_number_18 rfl ?_
    refine lv_bipush (v := 110) hx hb dX15_number_19 (by decide) ?_
    refine lv_iload_n hx hb dX15_number_21 rfl (lv_at hl 2 rfl) ?_
    refine g_callv w (g_runI (As := [.int 110, .int i]) (rest := [.ref sz, .int g, .ref (q + 6)]) S hE w hl (c_X14_init l D ar κ (g_up (g_up G y (.inr (19, [.ref q, .ref (q + 1), .ref (q + 2), .ref (q + 3), .ref (q + 4), .ref (q + 5), .ref (q + 6), .int 0, .int 0, .int 0, .int 0, .int 45, .int 0, .null]))) sz (.inr (18, [.int 0, .int 0]))) (sz + 1) sz 110 i g_up_s (by decide +kernel)) (k_RX15_9 S.2.2.2.2 ⟨Nat.le_of_ble_eq_true rfl, Nat.le_of_ble_eq_true rfl⟩) rfl rfl (Nat.le_of_ble_eq_true rfl) dX15_number_22 ⟨Nat.le_of_ble_eq_true rfl, Nat.le_of_ble_eq_true rfl⟩) (fun u H locs hp hnz w => ?_)
    obtain rfl := hp
    dsimp only at w
    have w := g_eqw w g_over
    refine g_astq (r := (RX14, TX14, 2)) hx hb hE.1 w 10 18 (g_up_o (by omega) (g_up_o (g_nx m7 m0 (by simp)) m7)) rfl g_up_s rfl (vinB (n := 8) rfl (by decide) d1) dX15_number_25 (fun H locs w => ?_)
    refine lv_aload_n hx hb dX15_number_26 rfl (lv_at hl 0 rfl) ?_
    refine gf_RX15_28_19 S hE w (g_up_o (g_nx m0 m7 (by simp)) (g_up_o (by omega) g_up_s)) rfl dX15_number_27 ?_
    refine g_calli w (g_runV (As := []) (rest := []) S hE w hl (c_size l D ar κ (g_up (g_up (g_up G y (.inr (19, [.ref q, .ref (q + 1), .ref (q + 2), .ref (q + 3), .ref (q + 4), .ref (q + 5), .ref (q + 6), .int 0, .int 0, .int 0, .int 0, .int 45, .int 0, .null]))) sz (.inr (18, [.int 110, .int i]))) (q + 6) (.inl (ar 10, 8, .inr (.inr (.inr (.inr (va_up (va_up (va_up (va_up (va_up (va_up (va_up (va_up (va_up (fun _ => none) (Int32.toNatClampNeg 0) (some q)) (Int32.toNatClampNeg 1) (some q)) (Int32.toNatClampNeg 2) (some q)) (Int32.toNatClampNeg 3) (some q)) (Int32.toNatClampNeg 4) (some q)) (Int32.toNatClampNeg 5) (some q)) (Int32.toNatClampNeg 6) (some q)) (Int32.toNatClampNeg 7) (some q)) (Int32.toNatClampNeg g) (some sz)))))))) (sz + 1) (q + 3) 0 (some (κ 0)) 0 (g_up_o (g_nx m4 m7 (by simp)) (g_up_o (by omega) (g_up_o (g_nx m4 m0 (by simp)) m4)))) (k_RX15_58 S.2.2.2.2 ⟨Nat.le_of_ble_eq_true rfl, Nat.le_of_ble_eq_true rfl⟩) (g_up_o (g_nx m4 m7 (by simp)) (g_up_o (by omega) (g_up_o (g_nx m4 m0 (by simp)) m4))) rfl rfl rfl rfl (Nat.le_of_ble_eq_true rfl) dX15_number_30 ⟨Nat.le_of_ble_eq_true rfl, Nat.le_of_ble_eq_true rfl⟩) (fun r u H locs hp hnz w => ?_)
    obtain ⟨rfl, rfl⟩ := hp
    dsimp only at w
    exact g_iret hx hb hr hlk w (Nat.le_of_ble_eq_true rfl) (Nat.le_of_ble_eq_true rfl) dX15_number_33 ⟨(fun _ => rfl), TH_mk (T := 0) (g_up_o (by omega) (g_up_o (by omega) g_up_s)) rfl (by simp [K_gl, isB03, isB13, isB23, isPl0, isPl1, isPl2, d1])⟩
set_option maxHeartbeats 4000000 in
set_option maxRecDepth 100000 in
theorem m_nothing (l : Launch) (D : va_G) (ar : Nat → ClassId) (κ : Nat → Nat) (G : gW) (sz : Nat) (y : Nat) (g : Int32) (q : Nat) (t : Int32) (hM : FM ar κ G y q t) : Met l yX15_nothing (lwC yX15_nothing cX15_nothing 2 (some .int)) (rD 5 0 0) (g_Pc D vwCl (gT ar) (EX1 κ) G sz [.ref y, .int g]) (g_Qi D vwCl (g_A G sz) (fun r u => ((K_gl g : Int32) = 0 → r = 0) ∧ TH y (K_gl g) u)) 0 0 (g_A G sz) := by
  refine g_ofW (by decide +kernel) (Nat.le_of_ble_eq_true rfl) ?_
  intro p e s m below meth c ls S hr hlk hin hE w hl
  have hx := S.1
  have hb := S.2.1
  have hl : lv_has ls 2 [(0, .ref y), (1, .int g)] := hl
  obtain ⟨hyq, m0, m1, m2, m3, m4, m5, m6, m7, m8, m9, m10, m11, m12, m13, m14⟩ := id hM
  have lt13 : q + 13 < sz := g_ltn w m14
  by_cases d1 : isB g 8 = 0
  · refine lv_aload_n hx hb dX15_nothing_0 rfl (lv_at hl 0 rfl) ?_
    refine lv_iload_n hx hb dX15_nothing_1 rfl (lv_at hl 1 rfl) ?_
    refine g_calli w (g_runV (As := [.int g]) (rest := []) S hE w hl (c_isNoGlobalA l D ar κ G sz y g (some q) (some (q + 1)) (some (q + 2)) (some (q + 3)) (some (q + 4)) (some (q + 5)) (some (q + 6)) t 0 0 0 45 0 none m0 d1) (k_RX15_210 S.2.2.2.2 ⟨Nat.le_of_ble_eq_true rfl, Nat.le_of_ble_eq_true rfl⟩) m0 rfl rfl rfl rfl (Nat.le_of_ble_eq_true rfl) dX15_nothing_2 ⟨Nat.le_of_ble_eq_true rfl, Nat.le_of_ble_eq_true rfl⟩) (fun r u H locs hp hnz w => ?_)
    obtain ⟨rfl, rfl⟩ := hp
    dsimp only at w
    refine lv_if_eq (tgt := 10) hx hb dX15_nothing_5 (by decide) (fun c => absurd c (by decide)) (fun _ => ?_)
    refine lv_iconst (v := 0) hx hb dX15_nothing_8 (by decide) ?_
    exact g_iret hx hb hr hlk w (Nat.le_of_ble_eq_true rfl) (Nat.le_of_ble_eq_true rfl) dX15_nothing_9 ⟨(nz_first (T := 1) (by simp [K_gl, isB03, isB13, isB23, isPl0, isPl1, isPl2, d1]) (by decide)), TH_mk (T := 1) g_up_s rfl (by simp [K_gl, isB03, isB13, isB23, isPl0, isPl1, isPl2, d1])⟩
  · refine lv_aload_n hx hb dX15_nothing_0 rfl (lv_at hl 0 rfl) ?_
    refine lv_iload_n hx hb dX15_nothing_1 rfl (lv_at hl 1 rfl) ?_
    refine g_calli w (g_runV (As := [.int g]) (rest := []) S hE w hl (c_isNoGlobalB l D ar κ G sz y g (some q) (some (q + 1)) (some (q + 2)) (some (q + 3)) (some (q + 4)) (some (q + 5)) (some (q + 6)) t 0 0 0 45 0 none m0 d1) (k_RX15_210 S.2.2.2.2 ⟨Nat.le_of_ble_eq_true rfl, Nat.le_of_ble_eq_true rfl⟩) m0 rfl rfl rfl rfl (Nat.le_of_ble_eq_true rfl) dX15_nothing_2 ⟨Nat.le_of_ble_eq_true rfl, Nat.le_of_ble_eq_true rfl⟩) (fun r u H locs hp hnz w => ?_)
    obtain ⟨rfl, rfl⟩ := hp
    dsimp only at w
    refine lv_if_eq (tgt := 10) hx hb dX15_nothing_5 (by decide) (fun _ => ?_) (fun c => absurd (by decide) c)
    refine lv_aload_n hx hb dX15_nothing_10 rfl (lv_at hl 0 rfl) ?_
    refine gf_RX15_37_19 S hE w g_up_s rfl dX15_nothing_11 ?_
    refine lv_iload_n hx hb dX15_nothing_14 rfl (lv_at hl 1 rfl) ?_
    refine lv_aload_n hx hb dX15_nothing_15 rfl (lv_at hl 0 rfl) ?_
    refine gf_RX15_12_19 S hE w g_up_s rfl dX15_nothing_16 ?_
    refine g_astq (r := (RX14, TX14, 2)) hx hb hE.1 w 10 18 (g_up_o (g_nx m7 m0 (by simp)) m7) rfl (g_up_o (g_nx m1 m0 (by simp)) m1) rfl (vinB (n := 8) rfl (by decide) d1) dX15_nothing_19 (fun H locs w => ?_)
    refine lv_aload_n hx hb dX15_nothing_20 rfl (lv_at hl 0 rfl) ?_
    refine gf_RX15_28_19 S hE w (g_up_o (g_nx m0 m7 (by simp)) g_up_s) rfl dX15_nothing_21 ?_
    refine g_calli w (g_runV (As := []) (rest := []) S hE w hl (c_size l D ar κ (g_up (g_up G y (.inr (19, [.ref q, .ref (q + 1), .ref (q + 2), .ref (q + 3), .ref (q + 4), .ref (q + 5), .ref (q + 6), .int 0, .int 0, .int 0, .int 0, .int 45, .int 0, .null]))) (q + 6) (.inl (ar 10, 8, .inr (.inr (.inr (.inr (va_up (va_up (va_up (va_up (va_up (va_up (va_up (va_up (va_up (fun _ => none) (Int32.toNatClampNeg 0) (some q)) (Int32.toNatClampNeg 1) (some q)) (Int32.toNatClampNeg 2) (some q)) (Int32.toNatClampNeg 3) (some q)) (Int32.toNatClampNeg 4) (some q)) (Int32.toNatClampNeg 5) (some q)) (Int32.toNatClampNeg 6) (some q)) (Int32.toNatClampNeg 7) (some q)) (Int32.toNatClampNeg g) (some q)))))))) sz (q + 3) 0 (some (κ 0)) 0 (g_up_o (g_nx m4 m7 (by simp)) (g_up_o (g_nx m4 m0 (by simp)) m4))) (k_RX15_58 S.2.2.2.2 ⟨Nat.le_of_ble_eq_true rfl, Nat.le_of_ble_eq_true rfl⟩) (g_up_o (g_nx m4 m7 (by simp)) (g_up_o (g_nx m4 m0 (by simp)) m4)) rfl rfl rfl rfl (Nat.le_of_ble_eq_true rfl) dX15_nothing_24 ⟨Nat.le_of_ble_eq_true rfl, Nat.le_of_ble_eq_true rfl⟩) (fun r u H locs hp hnz w => ?_)
    obtain ⟨rfl, rfl⟩ := hp
    dsimp only at w
    exact g_iret hx hb hr hlk w (Nat.le_of_ble_eq_true rfl) (Nat.le_of_ble_eq_true rfl) dX15_nothing_27 ⟨(fun _ => rfl), TH_mk (T := 0) (g_up_o (by omega) g_up_s) rfl (by simp [K_gl, isB03, isB13, isB23, isPl0, isPl1, isPl2, d1])⟩
set_option maxHeartbeats 4000000 in
set_option maxRecDepth 100000 in
theorem m_kind (l : Launch) (D : va_G) (ar : Nat → ClassId) (κ : Nat → Nat) (G : gW) (sz : Nat) (y : Nat) (g : Int32) (q : Nat) (t : Int32) (hM : FM ar κ G y q t) : Met l yX15_kind (lwC yX15_kind cX15_kind 2 (some .char)) (rD 5 0 0) (g_Pc D vwCl (gT ar) (EX1 κ) G sz [.ref y, .int g]) (g_Qi D vwCl (g_A G sz) (fun r u => ((K_gl g : Int32) = 0 → r = 117) ∧ TH y (K_gl g) u)) 0 0 (g_A G sz) := by
  refine g_ofW (by decide +kernel) (Nat.le_of_ble_eq_true rfl) ?_
  intro p e s m below meth c ls S hr hlk hin hE w hl
  have hx := S.1
  have hb := S.2.1
  have hl : lv_has ls 2 [(0, .ref y), (1, .int g)] := hl
  obtain ⟨hyq, m0, m1, m2, m3, m4, m5, m6, m7, m8, m9, m10, m11, m12, m13, m14⟩ := id hM
  have lt13 : q + 13 < sz := g_ltn w m14
  by_cases d1 : isB g 8 = 0
  · refine lv_aload_n hx hb dX15_kind_0 rfl (lv_at hl 0 rfl) ?_
    refine lv_iload_n hx hb dX15_kind_1 rfl (lv_at hl 1 rfl) ?_
    refine g_calli w (g_runV (As := [.int g]) (rest := []) S hE w hl (c_isNoGlobalA l D ar κ G sz y g (some q) (some (q + 1)) (some (q + 2)) (some (q + 3)) (some (q + 4)) (some (q + 5)) (some (q + 6)) t 0 0 0 45 0 none m0 d1) (k_RX15_210 S.2.2.2.2 ⟨Nat.le_of_ble_eq_true rfl, Nat.le_of_ble_eq_true rfl⟩) m0 rfl rfl rfl rfl (Nat.le_of_ble_eq_true rfl) dX15_kind_2 ⟨Nat.le_of_ble_eq_true rfl, Nat.le_of_ble_eq_true rfl⟩) (fun r u H locs hp hnz w => ?_)
    obtain ⟨rfl, rfl⟩ := hp
    dsimp only at w
    refine lv_if_eq (tgt := 12) hx hb dX15_kind_5 (by decide) (fun c => absurd c (by decide)) (fun _ => ?_)
    refine lv_iconst (v := 0) hx hb dX15_kind_8 (by decide) ?_
    refine lv_goto (tgt := 21) hx hb dX15_kind_9 (by decide) ?_
    exact g_zret hx hb hr hlk w (Nat.le_of_ble_eq_true rfl) (Nat.le_of_ble_eq_true rfl) dX15_kind_21 rfl ⟨(nz_first (T := 1) (by simp [K_gl, isB03, isB13, isB23, isPl0, isPl1, isPl2, d1]) (by decide)), TH_mk (T := 1) g_up_s rfl (by simp [K_gl, isB03, isB13, isB23, isPl0, isPl1, isPl2, d1])⟩
  · refine lv_aload_n hx hb dX15_kind_0 rfl (lv_at hl 0 rfl) ?_
    refine lv_iload_n hx hb dX15_kind_1 rfl (lv_at hl 1 rfl) ?_
    refine g_calli w (g_runV (As := [.int g]) (rest := []) S hE w hl (c_isNoGlobalB l D ar κ G sz y g (some q) (some (q + 1)) (some (q + 2)) (some (q + 3)) (some (q + 4)) (some (q + 5)) (some (q + 6)) t 0 0 0 45 0 none m0 d1) (k_RX15_210 S.2.2.2.2 ⟨Nat.le_of_ble_eq_true rfl, Nat.le_of_ble_eq_true rfl⟩) m0 rfl rfl rfl rfl (Nat.le_of_ble_eq_true rfl) dX15_kind_2 ⟨Nat.le_of_ble_eq_true rfl, Nat.le_of_ble_eq_true rfl⟩) (fun r u H locs hp hnz w => ?_)
    obtain ⟨rfl, rfl⟩ := hp
    dsimp only at w
    refine lv_if_eq (tgt := 12) hx hb dX15_kind_5 (by decide) (fun _ => ?_) (fun c => absurd (by decide) c)
    refine lv_aload_n hx hb dX15_kind_12 rfl (lv_at hl 0 rfl) ?_
    refine gf_RX15_37_19 S hE w g_up_s rfl dX15_kind_13 ?_
    refine lv_iload_n hx hb dX15_kind_16 rfl (lv_at hl 1 rfl) ?_
    refine va_aldq hx hb hE.1 (g_1 w.1 (g_up_o (g_nx m7 m0 (by simp)) m7)) 0 10 rfl rfl (vinB (n := 8) rfl (by decide) d1) dX15_kind_17 ?_
    rw [show (va_up (va_up (va_up (va_up (va_up (va_up (va_up (va_up (fun _ => none) (Int32.toNatClampNeg 0) (some q)) (Int32.toNatClampNeg 1) (some q)) (Int32.toNatClampNeg 2) (some q)) (Int32.toNatClampNeg 3) (some q)) (Int32.toNatClampNeg 4) (some q)) (Int32.toNatClampNeg 5) (some q)) (Int32.toNatClampNeg 6) (some q)) (Int32.toNatClampNeg 7) (some q)) (Int32.toNatClampNeg g) = some q from gl8 (vinB (n := 8) rfl (by decide) d1)]
    show W p l e _ s m _ below meth c _ _ _ _ _ (F0 m _ ls (.ref q :: _))
    refine gf_RX15_228_18 S hE w (g_up_o (g_nx m1 m0 (by simp)) m1) rfl dX15_kind_18 ?_
    exact g_zret hx hb hr hlk w (Nat.le_of_ble_eq_true rfl) (Nat.le_of_ble_eq_true rfl) dX15_kind_21 rfl ⟨(fun _ => rfl), TH_mk (T := 0) g_up_s rfl (by simp [K_gl, isB03, isB13, isB23, isPl0, isPl1, isPl2, d1])⟩
set_option maxHeartbeats 4000000 in
set_option maxRecDepth 100000 in
theorem m_value (l : Launch) (D : va_G) (ar : Nat → ClassId) (κ : Nat → Nat) (G : gW) (sz : Nat) (y : Nat) (g : Int32) (q : Nat) (t : Int32) (hM : FM ar κ G y q t) : Met l yX15_value (lwC yX15_value cX15_value 2 (some .int)) (rD 5 0 0) (g_Pc D vwCl (gT ar) (EX1 κ) G sz [.ref y, .int g]) (g_Qi D vwCl (g_A G sz) (fun r u => ((K_gl g : Int32) = 0 → r = 0) ∧ TH y (K_gl g) u)) 0 0 (g_A G sz) := by
  refine g_ofW (by decide +kernel) (Nat.le_of_ble_eq_true rfl) ?_
  intro p e s m below meth c ls S hr hlk hin hE w hl
  have hx := S.1
  have hb := S.2.1
  have hl : lv_has ls 2 [(0, .ref y), (1, .int g)] := hl
  obtain ⟨hyq, m0, m1, m2, m3, m4, m5, m6, m7, m8, m9, m10, m11, m12, m13, m14⟩ := id hM
  have lt13 : q + 13 < sz := g_ltn w m14
  by_cases d1 : isB g 8 = 0
  · refine lv_aload_n hx hb dX15_value_0 rfl (lv_at hl 0 rfl) ?_
    refine lv_iload_n hx hb dX15_value_1 rfl (lv_at hl 1 rfl) ?_
    refine g_calli w (g_runV (As := [.int g]) (rest := []) S hE w hl (c_isNoGlobalA l D ar κ G sz y g (some q) (some (q + 1)) (some (q + 2)) (some (q + 3)) (some (q + 4)) (some (q + 5)) (some (q + 6)) t 0 0 0 45 0 none m0 d1) (k_RX15_210 S.2.2.2.2 ⟨Nat.le_of_ble_eq_true rfl, Nat.le_of_ble_eq_true rfl⟩) m0 rfl rfl rfl rfl (Nat.le_of_ble_eq_true rfl) dX15_value_2 ⟨Nat.le_of_ble_eq_true rfl, Nat.le_of_ble_eq_true rfl⟩) (fun r u H locs hp hnz w => ?_)
    obtain ⟨rfl, rfl⟩ := hp
    dsimp only at w
    refine lv_if_eq (tgt := 12) hx hb dX15_value_5 (by decide) (fun c => absurd c (by decide)) (fun _ => ?_)
    refine lv_iconst (v := 0) hx hb dX15_value_8 (by decide) ?_
    refine lv_goto (tgt := 21) hx hb dX15_value_9 (by decide) ?_
    exact g_iret hx hb hr hlk w (Nat.le_of_ble_eq_true rfl) (Nat.le_of_ble_eq_true rfl) dX15_value_21 ⟨(nz_first (T := 1) (by simp [K_gl, isB03, isB13, isB23, isPl0, isPl1, isPl2, d1]) (by decide)), TH_mk (T := 1) g_up_s rfl (by simp [K_gl, isB03, isB13, isB23, isPl0, isPl1, isPl2, d1])⟩
  · refine lv_aload_n hx hb dX15_value_0 rfl (lv_at hl 0 rfl) ?_
    refine lv_iload_n hx hb dX15_value_1 rfl (lv_at hl 1 rfl) ?_
    refine g_calli w (g_runV (As := [.int g]) (rest := []) S hE w hl (c_isNoGlobalB l D ar κ G sz y g (some q) (some (q + 1)) (some (q + 2)) (some (q + 3)) (some (q + 4)) (some (q + 5)) (some (q + 6)) t 0 0 0 45 0 none m0 d1) (k_RX15_210 S.2.2.2.2 ⟨Nat.le_of_ble_eq_true rfl, Nat.le_of_ble_eq_true rfl⟩) m0 rfl rfl rfl rfl (Nat.le_of_ble_eq_true rfl) dX15_value_2 ⟨Nat.le_of_ble_eq_true rfl, Nat.le_of_ble_eq_true rfl⟩) (fun r u H locs hp hnz w => ?_)
    obtain ⟨rfl, rfl⟩ := hp
    dsimp only at w
    refine lv_if_eq (tgt := 12) hx hb dX15_value_5 (by decide) (fun _ => ?_) (fun c => absurd (by decide) c)
    refine lv_aload_n hx hb dX15_value_12 rfl (lv_at hl 0 rfl) ?_
    refine gf_RX15_37_19 S hE w g_up_s rfl dX15_value_13 ?_
    refine lv_iload_n hx hb dX15_value_16 rfl (lv_at hl 1 rfl) ?_
    refine va_aldq hx hb hE.1 (g_1 w.1 (g_up_o (g_nx m7 m0 (by simp)) m7)) 0 10 rfl rfl (vinB (n := 8) rfl (by decide) d1) dX15_value_17 ?_
    rw [show (va_up (va_up (va_up (va_up (va_up (va_up (va_up (va_up (fun _ => none) (Int32.toNatClampNeg 0) (some q)) (Int32.toNatClampNeg 1) (some q)) (Int32.toNatClampNeg 2) (some q)) (Int32.toNatClampNeg 3) (some q)) (Int32.toNatClampNeg 4) (some q)) (Int32.toNatClampNeg 5) (some q)) (Int32.toNatClampNeg 6) (some q)) (Int32.toNatClampNeg 7) (some q)) (Int32.toNatClampNeg g) = some q from gl8 (vinB (n := 8) rfl (by decide) d1)]
    show W p l e _ s m _ below meth c _ _ _ _ _ (F0 m _ ls (.ref q :: _))
    refine gf_RX15_225_18 S hE w (g_up_o (g_nx m1 m0 (by simp)) m1) rfl dX15_value_18 ?_
    exact g_iret hx hb hr hlk w (Nat.le_of_ble_eq_true rfl) (Nat.le_of_ble_eq_true rfl) dX15_value_21 ⟨(fun _ => rfl), TH_mk (T := 0) g_up_s rfl (by simp [K_gl, isB03, isB13, isB23, isPl0, isPl1, isPl2, d1])⟩
set_option maxHeartbeats 4000000 in
set_option maxRecDepth 100000 in
theorem m_hot (l : Launch) (D : va_G) (ar : Nat → ClassId) (κ : Nat → Nat) (G : gW) (sz : Nat) (y : Nat) (a : Int32) (q : Nat) (t : Int32) (hM : FM ar κ G y q t) : Met l yX15_hot (lwC yX15_hot cX15_hot 3 (some .int)) (rD 5 0 0) (g_Pc D vwCl (gT ar) (EX1 κ) G sz [.ref y, .int a]) (g_Qi D vwCl (g_A G sz) (fun r u => ((K_hot a : Int32) = 0 → r = 0) ∧ TH y (K_hot a) u)) 0 0 (g_A G sz) := by
  refine g_ofW (by decide +kernel) (Nat.le_of_ble_eq_true rfl) ?_
  intro p e s m below meth c ls S hr hlk hin hE w hl
  have hx := S.1
  have hb := S.2.1
  have hl : lv_has ls 3 [(0, .ref y), (1, .int a)] := hl
  obtain ⟨hyq, m0, m1, m2, m3, m4, m5, m6, m7, m8, m9, m10, m11, m12, m13, m14⟩ := id hM
  have lt13 : q + 13 < sz := g_ltn w m14
  refine lv_aload_n hx hb dX15_hot_0 rfl (lv_at hl 0 rfl) ?_
  refine lv_iload_n hx hb dX15_hot_1 rfl (lv_at hl 1 rfl) ?_
  refine lv_iconst (v := 0) hx hb dX15_hot_2 (by decide) ?_
  refine lv_bipush (v := 99) hx hb dX15_hot_3 (by decide) ?_
  refine g_calli w (g_runS (As := [.int a, .int 0, .int 99]) (rest := [.ref y]) S hE w hl (c_isBetween l D ar κ G sz a 0 99) (k_RX15_62 S.2.2.2.2 ⟨Nat.le_of_ble_eq_true rfl, Nat.le_of_ble_eq_true rfl⟩) rfl rfl (Nat.le_of_ble_eq_true rfl) dX15_hot_5 ⟨Nat.le_of_ble_eq_true rfl, Nat.le_of_ble_eq_true rfl⟩) (fun r u H locs hp hnz w => ?_)
  obtain ⟨rfl, rfl⟩ := hp
  rw [show (isW a 0 99) = isB a 100 from isW_B rfl (by decide) (by decide)]
  dsimp only at w
  refine lv_if_eq (tgt := 15) hx hb dX15_hot_8 (by decide) (fun c_8 => ?_) (fun c_8 => ?_)
  · refine lv_iconst (v := 1) hx hb dX15_hot_15 (by decide) ?_
    refine g_calli w (g_runV (As := [.int 1]) (rest := []) S hE w hl (c_isWrong l D ar κ G sz y 1 (some q) (some (q + 1)) (some (q + 2)) (some (q + 3)) (some (q + 4)) (some (q + 5)) (some (q + 6)) t 0 0 0 45 0 none m0) (k_RX15_77 S.2.2.2.2 ⟨Nat.le_of_ble_eq_true rfl, Nat.le_of_ble_eq_true rfl⟩) m0 rfl rfl rfl rfl (Nat.le_of_ble_eq_true rfl) dX15_hot_16 ⟨Nat.le_of_ble_eq_true rfl, Nat.le_of_ble_eq_true rfl⟩) (fun r u H locs hp hnz w => ?_)
    obtain ⟨rfl, rfl⟩ := hp
    rw [show (if (1 : Int32) = 0 then (0 : Int32) else 1) = 1 from by decide]
    dsimp only at w
    refine lv_if_eq (tgt := 24) hx hb dX15_hot_19 (by decide) (fun c => absurd c (by decide)) (fun _ => ?_)
    refine lv_iconst (v := 0) hx hb dX15_hot_22 (by decide) ?_
    exact g_iret hx hb hr hlk w (Nat.le_of_ble_eq_true rfl) (Nat.le_of_ble_eq_true rfl) dX15_hot_23 ⟨(nz_first (T := 1) (by simp [K_hot, isB03, isB13, isB23, isPl0, isPl1, isPl2, c_8]) (by decide)), TH_mk (T := 1) g_up_s rfl (by simp [K_hot, isB03, isB13, isB23, isPl0, isPl1, isPl2, c_8])⟩
  · refine lv_iconst (v := 0) hx hb dX15_hot_11 (by decide) ?_
    refine lv_goto (tgt := 16) hx hb dX15_hot_12 (by decide) ?_
    refine g_calli w (g_runV (As := [.int 0]) (rest := []) S hE w hl (c_isWrong l D ar κ G sz y 0 (some q) (some (q + 1)) (some (q + 2)) (some (q + 3)) (some (q + 4)) (some (q + 5)) (some (q + 6)) t 0 0 0 45 0 none m0) (k_RX15_77 S.2.2.2.2 ⟨Nat.le_of_ble_eq_true rfl, Nat.le_of_ble_eq_true rfl⟩) m0 rfl rfl rfl rfl (Nat.le_of_ble_eq_true rfl) dX15_hot_16 ⟨Nat.le_of_ble_eq_true rfl, Nat.le_of_ble_eq_true rfl⟩) (fun r u H locs hp hnz w => ?_)
    obtain ⟨rfl, rfl⟩ := hp
    rw [show (if (0 : Int32) = 0 then (0 : Int32) else 1) = 0 from by decide]
    dsimp only at w
    refine lv_if_eq (tgt := 24) hx hb dX15_hot_19 (by decide) (fun _ => ?_) (fun c => absurd (by decide) c)
    refine lv_aload_n hx hb dX15_hot_24 rfl (lv_at hl 0 rfl) ?_
    refine gf_RX15_204_19 S hE w g_up_s rfl dX15_hot_25 ?_
    refine lv_istore_n (lv' := [(2, .int 0), (0, .ref y), (1, .int a)]) hx hb dX15_hot_28 rfl hl (by decide) rfl (fun ls hl => ?_)
    refine lv_aload_n hx hb dX15_hot_29 rfl (lv_at hl 1 rfl) ?_
    refine lv_iload_n hx hb dX15_hot_30 rfl (lv_at hl 2 rfl) ?_
    refine pf_RX15_204_19 (fs1 := [.ref q, .ref (q + 1), .ref (q + 2), .ref (q + 3), .ref (q + 4), .ref (q + 5), .ref (q + 6), .int 0, .int a, .int 0, .int 0, .int 45, .int 0, .null]) S hE w g_up_s rfl rfl (Nat.le_of_ble_eq_true rfl) rfl dX15_hot_31 (fun H locs w => ?_)
    have w := g_eqw w g_over
    refine lv_iload_n hx hb dX15_hot_34 rfl (lv_at hl 0 rfl) ?_
    exact g_iret hx hb hr hlk w (Nat.le_of_ble_eq_true rfl) (Nat.le_of_ble_eq_true rfl) dX15_hot_35 ⟨(fun _ => rfl), TH_mk (T := 0) g_up_s rfl (by simp [K_hot, isB03, isB13, isB23, isPl0, isPl1, isPl2, c_8])⟩
set_option maxHeartbeats 4000000 in
set_option maxRecDepth 100000 in
theorem m_add (l : Launch) (D : va_G) (ar : Nat → ClassId) (κ : Nat → Nat) (G : gW) (sz : Nat) (y : Nat) (a : Int32) (f : Int32) (q : Nat) (t : Int32) (hM : FM ar κ G y q t) : Met l yX15_add (lwC yX15_add cX15_add 4 (some .int)) (rD 7 2 19) (g_Pc D vwCl (gT ar) (EX1 κ) G sz [.ref y, .int a, .int f]) (g_Qi D vwCl (g_A G sz) (fun r u => ((K_add a f : Int32) = 0 → r = 3) ∧ TH y (K_add a f) u)) 2 19 (g_A G sz) := by
  refine g_ofW (by decide +kernel) (Nat.le_of_ble_eq_true rfl) ?_
  intro p e s m below meth c ls S hr hlk hin hE w hl
  have hx := S.1
  have hb := S.2.1
  have hl : lv_has ls 4 [(0, .ref y), (1, .int a), (2, .int f)] := hl
  obtain ⟨hyq, m0, m1, m2, m3, m4, m5, m6, m7, m8, m9, m10, m11, m12, m13, m14⟩ := id hM
  have lt13 : q + 13 < sz := g_ltn w m14
  by_cases c0 : isB a 3 = 0
  · refine lv_aload_n hx hb dX15_add_0 rfl (lv_at hl 0 rfl) ?_
    refine lv_iload_n hx hb dX15_add_1 rfl (lv_at hl 1 rfl) ?_
    refine g_calli w (g_runV (As := [.int a]) (rest := []) S hE w hl (c_isClass l D ar κ G sz y a (some q) (q + 1) (some (q + 2)) (some (q + 3)) (some (q + 4)) (some (q + 5)) (some (q + 6)) t 0 0 0 45 0 none 3 (some (q + 9)) 3 m0 m2) (k_RX15_66 S.2.2.2.2 ⟨Nat.le_of_ble_eq_true rfl, Nat.le_of_ble_eq_true rfl⟩) m0 rfl rfl rfl rfl (Nat.le_of_ble_eq_true rfl) dX15_add_2 ⟨Nat.le_of_ble_eq_true rfl, Nat.le_of_ble_eq_true rfl⟩) (fun r u H locs hp hnz w => ?_)
    obtain ⟨rfl, rfl⟩ := hp
    rw [show (isW a 0 (3 - 1)) = isB a 3 from isW_B rfl (by decide) (by decide)]
    dsimp only at w
    refine lv_if_eq (tgt := 52) hx hb dX15_add_5 (by decide) (fun _ => ?_) (fun c_5 => absurd c0 c_5)
    refine lv_iconst (v := 0) hx hb dX15_add_52 (by decide) ?_
    refine lv_istore_n (lv' := [(3, .int 0), (0, .ref y), (1, .int a), (2, .int f)]) hx hb dX15_add_53 rfl hl (by decide) rfl (fun ls hl => ?_)
    refine lv_aload_n hx hb dX15_add_54 rfl (lv_at hl 1 rfl) ?_
    refine lv_aload_n hx hb dX15_add_55 rfl (lv_at hl 1 rfl) ?_
    refine lv_iload_n hx hb dX15_add_56 rfl (lv_at hl 2 rfl) ?_
    refine g_calli w (g_runV (As := [.int a]) (rest := [.ref y]) S hE w hl (c_isClass l D ar κ G sz y a (some q) (q + 1) (some (q + 2)) (some (q + 3)) (some (q + 4)) (some (q + 5)) (some (q + 6)) t 0 0 0 45 0 none 3 (some (q + 9)) 3 m0 m2) (k_RX15_66 S.2.2.2.2 ⟨Nat.le_of_ble_eq_true rfl, Nat.le_of_ble_eq_true rfl⟩) m0 rfl rfl rfl rfl (Nat.le_of_ble_eq_true rfl) dX15_add_57 ⟨Nat.le_of_ble_eq_true rfl, Nat.le_of_ble_eq_true rfl⟩) (fun r u H locs hp hnz w => ?_)
    obtain ⟨rfl, rfl⟩ := hp
    rw [show (isW a 0 (3 - 1)) = isB a 3 from isW_B rfl (by decide) (by decide)]
    dsimp only at w
    refine lv_if_ne (tgt := 67) hx hb dX15_add_60 (by decide) (fun c_60 => absurd c0 c_60) (fun _ => ?_)
    refine lv_iconst (v := 1) hx hb dX15_add_63 (by decide) ?_
    refine lv_goto (tgt := 92) hx hb dX15_add_64 (by decide) ?_
    refine g_calli w (g_runV (As := [.int 1]) (rest := []) S hE w hl (c_isWrong l D ar κ G sz y 1 (some q) (some (q + 1)) (some (q + 2)) (some (q + 3)) (some (q + 4)) (some (q + 5)) (some (q + 6)) t 0 0 0 45 0 none m0) (k_RX15_77 S.2.2.2.2 ⟨Nat.le_of_ble_eq_true rfl, Nat.le_of_ble_eq_true rfl⟩) m0 rfl rfl rfl rfl (Nat.le_of_ble_eq_true rfl) dX15_add_92 ⟨Nat.le_of_ble_eq_true rfl, Nat.le_of_ble_eq_true rfl⟩) (fun r u H locs hp hnz w => ?_)
    obtain ⟨rfl, rfl⟩ := hp
    rw [show (if (1 : Int32) = 0 then (0 : Int32) else 1) = 1 from by decide]
    dsimp only at w
    refine lv_if_eq (tgt := 100) hx hb dX15_add_95 (by decide) (fun c => absurd c (by decide)) (fun _ => ?_)
    refine lv_iconst (v := 0) hx hb dX15_add_98 (by decide) ?_
    exact g_iret hx hb hr hlk w (Nat.le_of_ble_eq_true rfl) (Nat.le_of_ble_eq_true rfl) dX15_add_99 ⟨(nz_first (T := 1) (by simp [K_add, isB03, isB13, isB23, isPl0, isPl1, isPl2, c0]) (by decide)), TH_mk (T := 1) g_up_s rfl (by simp [K_add, isB03, isB13, isB23, isPl0, isPl1, isPl2, c0])⟩
  rcases isB3 c0 with rfl | rfl | rfl
  · refine lv_aload_n hx hb dX15_add_0 rfl (lv_at hl 0 rfl) ?_
    refine lv_iload_n hx hb dX15_add_1 rfl (lv_at hl 1 rfl) ?_
    refine g_calli w (g_runV (As := [.int 0]) (rest := []) S hE w hl (c_isClass l D ar κ G sz y 0 (some q) (q + 1) (some (q + 2)) (some (q + 3)) (some (q + 4)) (some (q + 5)) (some (q + 6)) t 0 0 0 45 0 none 3 (some (q + 9)) 3 m0 m2) (k_RX15_66 S.2.2.2.2 ⟨Nat.le_of_ble_eq_true rfl, Nat.le_of_ble_eq_true rfl⟩) m0 rfl rfl rfl rfl (Nat.le_of_ble_eq_true rfl) dX15_add_2 ⟨Nat.le_of_ble_eq_true rfl, Nat.le_of_ble_eq_true rfl⟩) (fun r u H locs hp hnz w => ?_)
    obtain ⟨rfl, rfl⟩ := hp
    rw [show (isW 0 0 (3 - 1)) = 1 from by decide]
    dsimp only at w
    refine lv_if_eq (tgt := 52) hx hb dX15_add_5 (by decide) (fun c => absurd c (by decide)) (fun _ => ?_)
    refine lv_iload_n hx hb dX15_add_8 rfl (lv_at hl 1 rfl) ?_
    refine lv_iconst (v := 1) hx hb dX15_add_9 (by decide) ?_
    refine lv_icmp_eq (tgt := 52) hx hb dX15_add_10 (by decide) (fun c => absurd c (by decide)) (fun _ => ?_)
    refine lv_iload_n hx hb dX15_add_13 rfl (lv_at hl 1 rfl) ?_
    refine lv_iconst (v := 2) hx hb dX15_add_14 (by decide) ?_
    refine lv_icmp_eq (tgt := 52) hx hb dX15_add_15 (by decide) (fun c => absurd c (by decide)) (fun _ => ?_)
    refine lv_iload_n hx hb dX15_add_18 rfl (lv_at hl 2 rfl) ?_
    refine lv_iconst (v := 0) hx hb dX15_add_19 (by decide) ?_
    refine lv_iconst (v := 4) hx hb dX15_add_20 (by decide) ?_
    refine g_calli w (g_runS (As := [.int f, .int 0, .int 4]) (rest := []) S hE w hl (c_isBetween l D ar κ G sz f 0 4) (k_RX15_62 S.2.2.2.2 ⟨Nat.le_of_ble_eq_true rfl, Nat.le_of_ble_eq_true rfl⟩) rfl rfl (Nat.le_of_ble_eq_true rfl) dX15_add_21 ⟨Nat.le_of_ble_eq_true rfl, Nat.le_of_ble_eq_true rfl⟩) (fun r u H locs hp hnz w => ?_)
    obtain ⟨rfl, rfl⟩ := hp
    rw [show (isW f 0 4) = isB f 5 from isW_B rfl (by decide) (by decide)]
    dsimp only at w
    refine lv_if_eq (tgt := 52) hx hb dX15_add_24 (by decide) (fun c_24 => ?_) (fun c_24 => ?_)
    · refine lv_iconst (v := 0) hx hb dX15_add_52 (by decide) ?_
      refine lv_istore_n (lv' := [(3, .int 0), (0, .ref y), (1, .int 0), (2, .int f)]) hx hb dX15_add_53 rfl hl (by decide) rfl (fun ls hl => ?_)
      refine lv_aload_n hx hb dX15_add_54 rfl (lv_at hl 1 rfl) ?_
      refine lv_aload_n hx hb dX15_add_55 rfl (lv_at hl 1 rfl) ?_
      refine lv_iload_n hx hb dX15_add_56 rfl (lv_at hl 2 rfl) ?_
      refine g_calli w (g_runV (As := [.int 0]) (rest := [.ref y]) S hE w hl (c_isClass l D ar κ G sz y 0 (some q) (q + 1) (some (q + 2)) (some (q + 3)) (some (q + 4)) (some (q + 5)) (some (q + 6)) t 0 0 0 45 0 none 3 (some (q + 9)) 3 m0 m2) (k_RX15_66 S.2.2.2.2 ⟨Nat.le_of_ble_eq_true rfl, Nat.le_of_ble_eq_true rfl⟩) m0 rfl rfl rfl rfl (Nat.le_of_ble_eq_true rfl) dX15_add_57 ⟨Nat.le_of_ble_eq_true rfl, Nat.le_of_ble_eq_true rfl⟩) (fun r u H locs hp hnz w => ?_)
      obtain ⟨rfl, rfl⟩ := hp
      rw [show (isW 0 0 (3 - 1)) = 1 from by decide]
      dsimp only at w
      refine lv_if_ne (tgt := 67) hx hb dX15_add_60 (by decide) (fun _ => ?_) (fun c => absurd c (by decide))
      refine lv_iload_n hx hb dX15_add_67 rfl (lv_at hl 0 rfl) ?_
      refine lv_if_ne (tgt := 75) hx hb dX15_add_68 (by decide) (fun c => absurd (by decide) c) (fun _ => ?_)
      refine lv_iconst (v := 2) hx hb dX15_add_71 (by decide) ?_
      refine lv_goto (tgt := 92) hx hb dX15_add_72 (by decide) ?_
      refine g_calli w (g_runV (As := [.int 2]) (rest := []) S hE w hl (c_isWrong l D ar κ G sz y 2 (some q) (some (q + 1)) (some (q + 2)) (some (q + 3)) (some (q + 4)) (some (q + 5)) (some (q + 6)) t 0 0 0 45 0 none m0) (k_RX15_77 S.2.2.2.2 ⟨Nat.le_of_ble_eq_true rfl, Nat.le_of_ble_eq_true rfl⟩) m0 rfl rfl rfl rfl (Nat.le_of_ble_eq_true rfl) dX15_add_92 ⟨Nat.le_of_ble_eq_true rfl, Nat.le_of_ble_eq_true rfl⟩) (fun r u H locs hp hnz w => ?_)
      obtain ⟨rfl, rfl⟩ := hp
      rw [show (if (2 : Int32) = 0 then (0 : Int32) else 1) = 1 from by decide]
      dsimp only at w
      refine lv_if_eq (tgt := 100) hx hb dX15_add_95 (by decide) (fun c => absurd c (by decide)) (fun _ => ?_)
      refine lv_iconst (v := 0) hx hb dX15_add_98 (by decide) ?_
      exact g_iret hx hb hr hlk w (Nat.le_of_ble_eq_true rfl) (Nat.le_of_ble_eq_true rfl) dX15_add_99 ⟨(nz_first (T := 2) (by simp [K_add, isB03, isB13, isB23, isPl0, isPl1, isPl2, c_24]) (by decide)), TH_mk (T := 2) g_up_s rfl (by simp [K_add, isB03, isB13, isB23, isPl0, isPl1, isPl2, c_24])⟩
    · refine lv_aload_n hx hb dX15_add_27 rfl (lv_at hl 0 rfl) ?_
      refine gf_RX15_21_19 S hE w m0 rfl dX15_add_28 ?_
      refine lv_iload_n hx hb dX15_add_31 rfl (lv_at hl 1 rfl) ?_
      refine g_callq w (g_runV (As := [.int 0]) (rest := []) S hE w hl (c_get l D ar κ G sz (q + 1) 0 3 (q + 9) 3 (va_up (va_up (va_up (fun _ => none) (Int32.toNatClampNeg 0) (some (q + 7))) (Int32.toNatClampNeg 1) (some (q + 10))) (Int32.toNatClampNeg 2) (some (q + 12))) m2 m10 (vp_in_nI (n := 0) (by decide) (by decide)) (by decide) (by decide)) (k_RX15_70 S.2.2.2.2 ⟨Nat.le_of_ble_eq_true rfl, Nat.le_of_ble_eq_true rfl⟩) m2 rfl rfl rfl rfl (Nat.le_of_ble_eq_true rfl) dX15_add_32 ⟨Nat.le_of_ble_eq_true rfl, Nat.le_of_ble_eq_true rfl⟩) (fun r u H locs hp hnz w => ?_)
      obtain ⟨rfl, rfl⟩ := hp
      rw [show (va_up (va_up (va_up (fun _ => none) (Int32.toNatClampNeg 0) (some (q + 7))) (Int32.toNatClampNeg 1) (some (q + 10))) (Int32.toNatClampNeg 2) (some (q + 12))) (Int32.toNatClampNeg 0) = some (q + 7) from rfl]
      show W p l e _ s m _ below meth c _ _ _ _ _ (F0 m _ ls (.ref (q + 7) :: _))
      dsimp only at w
      refine g_castS S hE w m_6_123 m8 rfl rfl dX15_add_35 ?_
      refine gf_RX15_74_14 S hE w m8 rfl dX15_add_38 ?_
      refine lv_iload_n hx hb dX15_add_41 rfl (lv_at hl 2 rfl) ?_
      refine lv_iadd hx hb dX15_add_42 ?_
      refine lv_bipush (v := 8) hx hb dX15_add_43 (by decide) ?_
      refine lv_icmp_gt (tgt := 52) hx hb dX15_add_45 (by decide) (fun c_45 => absurd c_45 (Int32.not_lt.mpr (i32_le_add c_24))) (fun c_45 => ?_)
      refine lv_iconst (v := 1) hx hb dX15_add_48 (by decide) ?_
      refine lv_goto (tgt := 53) hx hb dX15_add_49 (by decide) ?_
      refine lv_istore_n (lv' := [(3, .int 1), (0, .ref y), (1, .int 0), (2, .int f)]) hx hb dX15_add_53 rfl hl (by decide) rfl (fun ls hl => ?_)
      refine lv_aload_n hx hb dX15_add_54 rfl (lv_at hl 1 rfl) ?_
      refine lv_aload_n hx hb dX15_add_55 rfl (lv_at hl 1 rfl) ?_
      refine lv_iload_n hx hb dX15_add_56 rfl (lv_at hl 2 rfl) ?_
      refine g_calli w (g_runV (As := [.int 0]) (rest := [.ref y]) S hE w hl (c_isClass l D ar κ G sz y 0 (some q) (q + 1) (some (q + 2)) (some (q + 3)) (some (q + 4)) (some (q + 5)) (some (q + 6)) t 0 0 0 45 0 none 3 (some (q + 9)) 3 m0 m2) (k_RX15_66 S.2.2.2.2 ⟨Nat.le_of_ble_eq_true rfl, Nat.le_of_ble_eq_true rfl⟩) m0 rfl rfl rfl rfl (Nat.le_of_ble_eq_true rfl) dX15_add_57 ⟨Nat.le_of_ble_eq_true rfl, Nat.le_of_ble_eq_true rfl⟩) (fun r u H locs hp hnz w => ?_)
      obtain ⟨rfl, rfl⟩ := hp
      rw [show (isW 0 0 (3 - 1)) = 1 from by decide]
      dsimp only at w
      refine lv_if_ne (tgt := 67) hx hb dX15_add_60 (by decide) (fun _ => ?_) (fun c => absurd c (by decide))
      refine lv_iload_n hx hb dX15_add_67 rfl (lv_at hl 0 rfl) ?_
      refine lv_if_ne (tgt := 75) hx hb dX15_add_68 (by decide) (fun _ => ?_) (fun c => absurd c (by decide))
      refine lv_aload_n hx hb dX15_add_75 rfl (lv_at hl 1 rfl) ?_
      refine gf_RX15_21_19 S hE w m0 rfl dX15_add_76 ?_
      refine g_calli w (g_runV (As := []) (rest := [.ref y]) S hE w hl (c_size l D ar κ G sz (q + 1) 3 (some (q + 9)) 3 m2) (k_RX15_58 S.2.2.2.2 ⟨Nat.le_of_ble_eq_true rfl, Nat.le_of_ble_eq_true rfl⟩) m2 rfl rfl rfl rfl (Nat.le_of_ble_eq_true rfl) dX15_add_79 ⟨Nat.le_of_ble_eq_true rfl, Nat.le_of_ble_eq_true rfl⟩) (fun r u H locs hp hnz w => ?_)
      obtain ⟨rfl, rfl⟩ := hp
      dsimp only at w
      refine lv_bipush (v := 12) hx hb dX15_add_82 (by decide) ?_
      refine lv_icmp_ne (tgt := 91) hx hb dX15_add_84 (by decide) (fun _ => ?_) (fun c => absurd c (by decide))
      refine lv_iconst (v := 0) hx hb dX15_add_91 (by decide) ?_
      refine g_calli w (g_runV (As := [.int 0]) (rest := []) S hE w hl (c_isWrong l D ar κ G sz y 0 (some q) (some (q + 1)) (some (q + 2)) (some (q + 3)) (some (q + 4)) (some (q + 5)) (some (q + 6)) t 0 0 0 45 0 none m0) (k_RX15_77 S.2.2.2.2 ⟨Nat.le_of_ble_eq_true rfl, Nat.le_of_ble_eq_true rfl⟩) m0 rfl rfl rfl rfl (Nat.le_of_ble_eq_true rfl) dX15_add_92 ⟨Nat.le_of_ble_eq_true rfl, Nat.le_of_ble_eq_true rfl⟩) (fun r u H locs hp hnz w => ?_)
      obtain ⟨rfl, rfl⟩ := hp
      rw [show (if (0 : Int32) = 0 then (0 : Int32) else 1) = 0 from by decide]
      dsimp only at w
      refine lv_if_eq (tgt := 100) hx hb dX15_add_95 (by decide) (fun _ => ?_) (fun c => absurd (by decide) c)
      refine lv_aload_n hx hb dX15_add_100 rfl (lv_at hl 1 rfl) ?_
      refine gf_RX15_21_19 S hE w g_up_s rfl dX15_add_101 ?_
      refine nw_RX15_45 S hE w (Nat.le_of_ble_eq_true rfl) (Nat.le_of_ble_eq_true rfl) dX15_add_104 (fun H w => ?_)
      refine lv_dup hx hb dX15_add_107 rfl ?_
      refine lv_iload_n hx hb dX15_add_108 rfl (lv_at hl 2 rfl) ?_
      refine lv_aload_n hx hb dX15_add_109 rfl (lv_at hl 1 rfl) ?_
      refine gf_RX15_21_19 S hE w (g_up_o (by omega) g_up_s) rfl dX15_add_110 ?_
      refine lv_iload_n hx hb dX15_add_113 rfl (lv_at hl 2 rfl) ?_
      refine g_callq w (g_runV (As := [.int 0]) (rest := [.int 0, .ref sz, .ref sz, .ref (q + 1)]) S hE w hl (c_get l D ar κ (g_up (g_up G y (.inr (19, [.ref q, .ref (q + 1), .ref (q + 2), .ref (q + 3), .ref (q + 4), .ref (q + 5), .ref (q + 6), .int 0, .int 0, .int 0, .int 0, .int 45, .int 0, .null]))) sz (.inr (14, [.int 0, .int 0, .null]))) (sz + 1) (q + 1) 0 3 (q + 9) 3 (va_up (va_up (va_up (fun _ => none) (Int32.toNatClampNeg 0) (some (q + 7))) (Int32.toNatClampNeg 1) (some (q + 10))) (Int32.toNatClampNeg 2) (some (q + 12))) (g_up_o (by omega) (g_up_o (g_nx m2 m0 (by simp)) m2)) (g_up_o (by omega) (g_up_o (g_nx m10 m0 (by simp)) m10)) (vp_in_nI (n := 0) (by decide) (by decide)) (by decide) (by decide)) (k_RX15_70 S.2.2.2.2 ⟨Nat.le_of_ble_eq_true rfl, Nat.le_of_ble_eq_true rfl⟩) (g_up_o (by omega) (g_up_o (g_nx m2 m0 (by simp)) m2)) rfl rfl rfl rfl (Nat.le_of_ble_eq_true rfl) dX15_add_114 ⟨Nat.le_of_ble_eq_true rfl, Nat.le_of_ble_eq_true rfl⟩) (fun r u H locs hp hnz w => ?_)
      obtain ⟨rfl, rfl⟩ := hp
      rw [show (va_up (va_up (va_up (fun _ => none) (Int32.toNatClampNeg 0) (some (q + 7))) (Int32.toNatClampNeg 1) (some (q + 10))) (Int32.toNatClampNeg 2) (some (q + 12))) (Int32.toNatClampNeg 0) = some (q + 7) from rfl]
      show W p l e _ s m _ below meth c _ _ _ _ _ (F0 m _ ls (.ref (q + 7) :: _))
      dsimp only at w
      refine g_castS S hE w m_6_123 (g_up_o (by omega) (g_up_o (g_nx m8 m0 (by simp)) m8)) rfl rfl dX15_add_117 ?_
      refine gf_RX15_74_14 S hE w (g_up_o (by omega) (g_up_o (g_nx m8 m0 (by simp)) m8)) rfl dX15_add_120 ?_
      refine lv_iload_n hx hb dX15_add_123 rfl (lv_at hl 3 rfl) ?_
      refine lv_iadd hx hb dX15_add_124 ?_
      refine g_callv w (g_runI (As := [.int 0, .int (0 + f)]) (rest := [.ref sz, .ref (q + 1)]) S hE w hl (c_X10_init l D ar κ (g_up (g_up G y (.inr (19, [.ref q, .ref (q + 1), .ref (q + 2), .ref (q + 3), .ref (q + 4), .ref (q + 5), .ref (q + 6), .int 0, .int 0, .int 0, .int 0, .int 45, .int 0, .null]))) sz (.inr (14, [.int 0, .int 0, .null]))) (sz + 1) sz 0 (0 + f) g_up_s) (k_RX15_47 S.2.2.2.2 ⟨Nat.le_of_ble_eq_true rfl, Nat.le_of_ble_eq_true rfl⟩) rfl rfl (Nat.le_of_ble_eq_true rfl) dX15_add_125 ⟨Nat.le_of_ble_eq_true rfl, Nat.le_of_ble_eq_true rfl⟩) (fun u H locs hp hnz w => ?_)
      obtain rfl := hp
      dsimp only at w
      have w := g_eqw w (g_inn g_over (by omega))
      refine g_calli w (g_runV (As := [.ref sz]) (rest := []) S hE w hl (c_add1B_14 l D ar κ (g_up (g_up (g_up G y (.inr (19, [.ref q, .ref (q + 1), .ref (q + 2), .ref (q + 3), .ref (q + 4), .ref (q + 5), .ref (q + 6), .int 0, .int 0, .int 0, .int 0, .int 45, .int 0, .null]))) sz (.inr (14, [.int 0, .int (0 + f), .ref (sz + 1)]))) (sz + 1) (.inl (ar 9, 16, .inr (.inr (.inr (.inr (fun _ => none))))))) (sz + 2) (q + 1) sz 3 (q + 9) 3 (va_up (va_up (va_up (fun _ => none) (Int32.toNatClampNeg 0) (some (q + 7))) (Int32.toNatClampNeg 1) (some (q + 10))) (Int32.toNatClampNeg 2) (some (q + 12))) 0 (0 + f) (some (sz + 1)) (g_up_o (by omega) (g_up_o (by omega) (g_up_o (g_nx m2 m0 (by simp)) m2))) (g_up_o (by omega) (g_up_o (by omega) (g_up_o (g_nx m10 m0 (by simp)) m10))) (g_up_o (by omega) g_up_s) (by decide) (vp_in_nI (n := 3) (by decide) (by decide))) (k_RX15_50 S.2.2.2.2 ⟨Nat.le_of_ble_eq_true rfl, Nat.le_of_ble_eq_true rfl⟩) (g_up_o (by omega) (g_up_o (by omega) (g_up_o (g_nx m2 m0 (by simp)) m2))) rfl rfl rfl rfl (Nat.le_of_ble_eq_true rfl) dX15_add_128 ⟨Nat.le_of_ble_eq_true rfl, Nat.le_of_ble_eq_true rfl⟩) (fun r u H locs hp hnz w => ?_)
      obtain ⟨rfl, rfl⟩ := hp
      dsimp only at w
      rw [show ((3 + 1) : Int32) = 4 from by decide +kernel] at w
      refine lv_pop hx hb dX15_add_131 rfl ?_
      refine lv_aload_n hx hb dX15_add_132 rfl (lv_at hl 1 rfl) ?_
      refine gf_RX15_21_19 S hE w (g_up_o (g_nx m0 m10 (by simp)) (g_up_o (g_nx m0 m2 (by simp)) (g_up_o (by omega) (g_up_o (by omega) g_up_s)))) rfl dX15_add_133 ?_
      refine g_calli w (g_runV (As := []) (rest := []) S hE w hl (c_size l D ar κ (g_up (g_up (g_up (g_up (g_up G y (.inr (19, [.ref q, .ref (q + 1), .ref (q + 2), .ref (q + 3), .ref (q + 4), .ref (q + 5), .ref (q + 6), .int 0, .int 0, .int 0, .int 0, .int 45, .int 0, .null]))) sz (.inr (14, [.int 0, .int (0 + f), .ref (sz + 1)]))) (sz + 1) (.inl (ar 9, 16, .inr (.inr (.inr (.inr (fun _ => none))))))) (q + 1) (.inr (3, [.int 4, .ref (q + 9), .int 4]))) (q + 9) (.inl (ar 11, 10, .inr (.inr (.inr (.inr (va_up (va_up (va_up (va_up (fun _ => none) (Int32.toNatClampNeg 0) (some (q + 7))) (Int32.toNatClampNeg 1) (some (q + 10))) (Int32.toNatClampNeg 2) (some (q + 12))) (Int32.toNatClampNeg 3) (some sz)))))))) (sz + 2) (q + 1) 4 (some (q + 9)) 4 (g_up_o (g_nx m2 m10 (by simp)) g_up_s)) (k_RX15_58 S.2.2.2.2 ⟨Nat.le_of_ble_eq_true rfl, Nat.le_of_ble_eq_true rfl⟩) (g_up_o (g_nx m2 m10 (by simp)) g_up_s) rfl rfl rfl rfl (Nat.le_of_ble_eq_true rfl) dX15_add_136 ⟨Nat.le_of_ble_eq_true rfl, Nat.le_of_ble_eq_true rfl⟩) (fun r u H locs hp hnz w => ?_)
      obtain ⟨rfl, rfl⟩ := hp
      dsimp only at w
      refine lv_iconst (v := 1) hx hb dX15_add_139 (by decide) ?_
      refine lv_isub hx hb dX15_add_140 ?_
      rw [show (4 - 1 : Int32) = 3 by decide +kernel]
      exact g_iret hx hb hr hlk w (Nat.le_of_ble_eq_true rfl) (Nat.le_of_ble_eq_true rfl) dX15_add_141 ⟨(fun _ => rfl), TH_mk (T := 0) (g_up_o (by omega) (g_up_o (by omega) (g_up_o (by omega) (g_up_o (by omega) g_up_s)))) rfl (by simp [K_add, isB03, isB13, isB23, isPl0, isPl1, isPl2, c_24, c_45])⟩
  · refine lv_aload_n hx hb dX15_add_0 rfl (lv_at hl 0 rfl) ?_
    refine lv_iload_n hx hb dX15_add_1 rfl (lv_at hl 1 rfl) ?_
    refine g_calli w (g_runV (As := [.int 1]) (rest := []) S hE w hl (c_isClass l D ar κ G sz y 1 (some q) (q + 1) (some (q + 2)) (some (q + 3)) (some (q + 4)) (some (q + 5)) (some (q + 6)) t 0 0 0 45 0 none 3 (some (q + 9)) 3 m0 m2) (k_RX15_66 S.2.2.2.2 ⟨Nat.le_of_ble_eq_true rfl, Nat.le_of_ble_eq_true rfl⟩) m0 rfl rfl rfl rfl (Nat.le_of_ble_eq_true rfl) dX15_add_2 ⟨Nat.le_of_ble_eq_true rfl, Nat.le_of_ble_eq_true rfl⟩) (fun r u H locs hp hnz w => ?_)
    obtain ⟨rfl, rfl⟩ := hp
    rw [show (isW 1 0 (3 - 1)) = 1 from by decide]
    dsimp only at w
    refine lv_if_eq (tgt := 52) hx hb dX15_add_5 (by decide) (fun c => absurd c (by decide)) (fun _ => ?_)
    refine lv_iload_n hx hb dX15_add_8 rfl (lv_at hl 1 rfl) ?_
    refine lv_iconst (v := 1) hx hb dX15_add_9 (by decide) ?_
    refine lv_icmp_eq (tgt := 52) hx hb dX15_add_10 (by decide) (fun _ => ?_) (fun c => absurd (by decide) c)
    refine lv_iconst (v := 0) hx hb dX15_add_52 (by decide) ?_
    refine lv_istore_n (lv' := [(3, .int 0), (0, .ref y), (1, .int 1), (2, .int f)]) hx hb dX15_add_53 rfl hl (by decide) rfl (fun ls hl => ?_)
    refine lv_aload_n hx hb dX15_add_54 rfl (lv_at hl 1 rfl) ?_
    refine lv_aload_n hx hb dX15_add_55 rfl (lv_at hl 1 rfl) ?_
    refine lv_iload_n hx hb dX15_add_56 rfl (lv_at hl 2 rfl) ?_
    refine g_calli w (g_runV (As := [.int 1]) (rest := [.ref y]) S hE w hl (c_isClass l D ar κ G sz y 1 (some q) (q + 1) (some (q + 2)) (some (q + 3)) (some (q + 4)) (some (q + 5)) (some (q + 6)) t 0 0 0 45 0 none 3 (some (q + 9)) 3 m0 m2) (k_RX15_66 S.2.2.2.2 ⟨Nat.le_of_ble_eq_true rfl, Nat.le_of_ble_eq_true rfl⟩) m0 rfl rfl rfl rfl (Nat.le_of_ble_eq_true rfl) dX15_add_57 ⟨Nat.le_of_ble_eq_true rfl, Nat.le_of_ble_eq_true rfl⟩) (fun r u H locs hp hnz w => ?_)
    obtain ⟨rfl, rfl⟩ := hp
    rw [show (isW 1 0 (3 - 1)) = 1 from by decide]
    dsimp only at w
    refine lv_if_ne (tgt := 67) hx hb dX15_add_60 (by decide) (fun _ => ?_) (fun c => absurd c (by decide))
    refine lv_iload_n hx hb dX15_add_67 rfl (lv_at hl 0 rfl) ?_
    refine lv_if_ne (tgt := 75) hx hb dX15_add_68 (by decide) (fun c => absurd (by decide) c) (fun _ => ?_)
    refine lv_iconst (v := 2) hx hb dX15_add_71 (by decide) ?_
    refine lv_goto (tgt := 92) hx hb dX15_add_72 (by decide) ?_
    refine g_calli w (g_runV (As := [.int 2]) (rest := []) S hE w hl (c_isWrong l D ar κ G sz y 2 (some q) (some (q + 1)) (some (q + 2)) (some (q + 3)) (some (q + 4)) (some (q + 5)) (some (q + 6)) t 0 0 0 45 0 none m0) (k_RX15_77 S.2.2.2.2 ⟨Nat.le_of_ble_eq_true rfl, Nat.le_of_ble_eq_true rfl⟩) m0 rfl rfl rfl rfl (Nat.le_of_ble_eq_true rfl) dX15_add_92 ⟨Nat.le_of_ble_eq_true rfl, Nat.le_of_ble_eq_true rfl⟩) (fun r u H locs hp hnz w => ?_)
    obtain ⟨rfl, rfl⟩ := hp
    rw [show (if (2 : Int32) = 0 then (0 : Int32) else 1) = 1 from by decide]
    dsimp only at w
    refine lv_if_eq (tgt := 100) hx hb dX15_add_95 (by decide) (fun c => absurd c (by decide)) (fun _ => ?_)
    refine lv_iconst (v := 0) hx hb dX15_add_98 (by decide) ?_
    exact g_iret hx hb hr hlk w (Nat.le_of_ble_eq_true rfl) (Nat.le_of_ble_eq_true rfl) dX15_add_99 ⟨(nz_first (T := 2) (by simp [K_add, isB03, isB13, isB23, isPl0, isPl1, isPl2]) (by decide)), TH_mk (T := 2) g_up_s rfl (by simp [K_add, isB03, isB13, isB23, isPl0, isPl1, isPl2])⟩
  · refine lv_aload_n hx hb dX15_add_0 rfl (lv_at hl 0 rfl) ?_
    refine lv_iload_n hx hb dX15_add_1 rfl (lv_at hl 1 rfl) ?_
    refine g_calli w (g_runV (As := [.int 2]) (rest := []) S hE w hl (c_isClass l D ar κ G sz y 2 (some q) (q + 1) (some (q + 2)) (some (q + 3)) (some (q + 4)) (some (q + 5)) (some (q + 6)) t 0 0 0 45 0 none 3 (some (q + 9)) 3 m0 m2) (k_RX15_66 S.2.2.2.2 ⟨Nat.le_of_ble_eq_true rfl, Nat.le_of_ble_eq_true rfl⟩) m0 rfl rfl rfl rfl (Nat.le_of_ble_eq_true rfl) dX15_add_2 ⟨Nat.le_of_ble_eq_true rfl, Nat.le_of_ble_eq_true rfl⟩) (fun r u H locs hp hnz w => ?_)
    obtain ⟨rfl, rfl⟩ := hp
    rw [show (isW 2 0 (3 - 1)) = 1 from by decide]
    dsimp only at w
    refine lv_if_eq (tgt := 52) hx hb dX15_add_5 (by decide) (fun c => absurd c (by decide)) (fun _ => ?_)
    refine lv_iload_n hx hb dX15_add_8 rfl (lv_at hl 1 rfl) ?_
    refine lv_iconst (v := 1) hx hb dX15_add_9 (by decide) ?_
    refine lv_icmp_eq (tgt := 52) hx hb dX15_add_10 (by decide) (fun c => absurd c (by decide)) (fun _ => ?_)
    refine lv_iload_n hx hb dX15_add_13 rfl (lv_at hl 1 rfl) ?_
    refine lv_iconst (v := 2) hx hb dX15_add_14 (by decide) ?_
    refine lv_icmp_eq (tgt := 52) hx hb dX15_add_15 (by decide) (fun _ => ?_) (fun c => absurd (by decide) c)
    refine lv_iconst (v := 0) hx hb dX15_add_52 (by decide) ?_
    refine lv_istore_n (lv' := [(3, .int 0), (0, .ref y), (1, .int 2), (2, .int f)]) hx hb dX15_add_53 rfl hl (by decide) rfl (fun ls hl => ?_)
    refine lv_aload_n hx hb dX15_add_54 rfl (lv_at hl 1 rfl) ?_
    refine lv_aload_n hx hb dX15_add_55 rfl (lv_at hl 1 rfl) ?_
    refine lv_iload_n hx hb dX15_add_56 rfl (lv_at hl 2 rfl) ?_
    refine g_calli w (g_runV (As := [.int 2]) (rest := [.ref y]) S hE w hl (c_isClass l D ar κ G sz y 2 (some q) (q + 1) (some (q + 2)) (some (q + 3)) (some (q + 4)) (some (q + 5)) (some (q + 6)) t 0 0 0 45 0 none 3 (some (q + 9)) 3 m0 m2) (k_RX15_66 S.2.2.2.2 ⟨Nat.le_of_ble_eq_true rfl, Nat.le_of_ble_eq_true rfl⟩) m0 rfl rfl rfl rfl (Nat.le_of_ble_eq_true rfl) dX15_add_57 ⟨Nat.le_of_ble_eq_true rfl, Nat.le_of_ble_eq_true rfl⟩) (fun r u H locs hp hnz w => ?_)
    obtain ⟨rfl, rfl⟩ := hp
    rw [show (isW 2 0 (3 - 1)) = 1 from by decide]
    dsimp only at w
    refine lv_if_ne (tgt := 67) hx hb dX15_add_60 (by decide) (fun _ => ?_) (fun c => absurd c (by decide))
    refine lv_iload_n hx hb dX15_add_67 rfl (lv_at hl 0 rfl) ?_
    refine lv_if_ne (tgt := 75) hx hb dX15_add_68 (by decide) (fun c => absurd (by decide) c) (fun _ => ?_)
    refine lv_iconst (v := 2) hx hb dX15_add_71 (by decide) ?_
    refine lv_goto (tgt := 92) hx hb dX15_add_72 (by decide) ?_
    refine g_calli w (g_runV (As := [.int 2]) (rest := []) S hE w hl (c_isWrong l D ar κ G sz y 2 (some q) (some (q + 1)) (some (q + 2)) (some (q + 3)) (some (q + 4)) (some (q + 5)) (some (q + 6)) t 0 0 0 45 0 none m0) (k_RX15_77 S.2.2.2.2 ⟨Nat.le_of_ble_eq_true rfl, Nat.le_of_ble_eq_true rfl⟩) m0 rfl rfl rfl rfl (Nat.le_of_ble_eq_true rfl) dX15_add_92 ⟨Nat.le_of_ble_eq_true rfl, Nat.le_of_ble_eq_true rfl⟩) (fun r u H locs hp hnz w => ?_)
    obtain ⟨rfl, rfl⟩ := hp
    rw [show (if (2 : Int32) = 0 then (0 : Int32) else 1) = 1 from by decide]
    dsimp only at w
    refine lv_if_eq (tgt := 100) hx hb dX15_add_95 (by decide) (fun c => absurd c (by decide)) (fun _ => ?_)
    refine lv_iconst (v := 0) hx hb dX15_add_98 (by decide) ?_
    exact g_iret hx hb hr hlk w (Nat.le_of_ble_eq_true rfl) (Nat.le_of_ble_eq_true rfl) dX15_add_99 ⟨(nz_first (T := 2) (by simp [K_add, isB03, isB13, isB23, isPl0, isPl1, isPl2]) (by decide)), TH_mk (T := 2) g_up_s rfl (by simp [K_add, isB03, isB13, isB23, isPl0, isPl1, isPl2])⟩
