theorem dJ0_split_1b221_0 : decode cJ0_split_1b221 0 = .ok (.iconst 0, 1) := by decide +kernel
theorem dJ0_split_1b221_1 : decode cJ0_split_1b221 1 = .ok (.istore 4, 2) := by decide +kernel
theorem dJ0_split_1b221_3 : decode cJ0_split_1b221 3 = .ok (.aload_n 1, 1) := by decide +kernel
theorem dJ0_split_1b221_4 : decode cJ0_split_1b221 4 = .ok (.invokevirtual 505, 3) := by decide +kernel
theorem dJ0_split_1b221_7 : decode cJ0_split_1b221 7 = .ok (.iconst 1, 1) := by decide +kernel
theorem dJ0_split_1b221_8 : decode cJ0_split_1b221 8 = .ok (.if_icmp .ne 21, 3) := by decide +kernel
theorem dJ0_split_1b221_11 : decode cJ0_split_1b221 11 = .ok (.ldc_w 761, 3) := by decide +kernel
theorem dJ0_split_1b221_14 : decode cJ0_split_1b221 14 = .ok (.aload_n 1, 1) := by decide +kernel
theorem dJ0_split_1b221_15 : decode cJ0_split_1b221 15 = .ok (.iconst 0, 1) := by decide +kernel
theorem dJ0_split_1b221_16 : decode cJ0_split_1b221 16 = .ok (.invokevirtual 656, 3) := by decide +kernel
theorem dJ0_split_1b221_19 : decode cJ0_split_1b221 19 = .ok (.dup, 1) := by decide +kernel
theorem dJ0_split_1b221_20 : decode cJ0_split_1b221 20 = .ok (.istore 4, 2) := by decide +kernel
theorem dJ0_split_1b221_22 : decode cJ0_split_1b221 22 = .ok (.invokevirtual 763, 3) := by decide +kernel
theorem dJ0_split_1b221_25 : decode cJ0_split_1b221 25 = .ok (.iconst (-1), 1) := by decide +kernel
theorem dJ0_split_1b221_26 : decode cJ0_split_1b221 26 = .ok (.if_icmp .eq 69, 3) := by decide +kernel
theorem dJ0_split_1b221_29 : decode cJ0_split_1b221 29 = .ok (.aload_n 1, 1) := by decide +kernel
theorem dJ0_split_1b221_30 : decode cJ0_split_1b221 30 = .ok (.invokevirtual 505, 3) := by decide +kernel
theorem dJ0_split_1b221_33 : decode cJ0_split_1b221 33 = .ok (.iconst 2, 1) := by decide +kernel
theorem dJ0_split_1b221_34 : decode cJ0_split_1b221 34 = .ok (.if_icmp .ne 86, 3) := by decide +kernel
theorem dJ0_split_1b221_37 : decode cJ0_split_1b221 37 = .ok (.aload_n 1, 1) := by decide +kernel
theorem dJ0_split_1b221_38 : decode cJ0_split_1b221 38 = .ok (.iconst 0, 1) := by decide +kernel
theorem dJ0_split_1b221_39 : decode cJ0_split_1b221 39 = .ok (.invokevirtual 656, 3) := by decide +kernel
theorem dJ0_split_1b221_42 : decode cJ0_split_1b221 42 = .ok (.bipush 92, 2) := by decide +kernel
theorem dJ0_split_1b221_44 : decode cJ0_split_1b221 44 = .ok (.if_icmp .ne 76, 3) := by decide +kernel
theorem dJ0_split_1b221_47 : decode cJ0_split_1b221 47 = .ok (.aload_n 1, 1) := by decide +kernel
theorem dJ0_split_1b221_48 : decode cJ0_split_1b221 48 = .ok (.iconst 1, 1) := by decide +kernel
theorem dJ0_split_1b221_49 : decode cJ0_split_1b221 49 = .ok (.invokevirtual 656, 3) := by decide +kernel
theorem dJ0_split_1b221_52 : decode cJ0_split_1b221 52 = .ok (.dup, 1) := by decide +kernel
theorem dJ0_split_1b221_53 : decode cJ0_split_1b221 53 = .ok (.istore 4, 2) := by decide +kernel
theorem dJ0_split_1b221_55 : decode cJ0_split_1b221 55 = .ok (.bipush 48, 2) := by decide +kernel
theorem dJ0_split_1b221_57 : decode cJ0_split_1b221 57 = .ok (.isub, 1) := by decide +kernel
theorem dJ0_split_1b221_58 : decode cJ0_split_1b221 58 = .ok (.bipush 57, 2) := by decide +kernel
theorem dJ0_split_1b221_60 : decode cJ0_split_1b221 60 = .ok (.iload 4, 2) := by decide +kernel
theorem dJ0_split_1b221_62 : decode cJ0_split_1b221 62 = .ok (.isub, 1) := by decide +kernel
theorem dJ0_split_1b221_63 : decode cJ0_split_1b221 63 = .ok (.ior, 1) := by decide +kernel
theorem dJ0_split_1b221_64 : decode cJ0_split_1b221 64 = .ok (.ifCond .ge 56, 3) := by decide +kernel
theorem dJ0_split_1b221_67 : decode cJ0_split_1b221 67 = .ok (.iload 4, 2) := by decide +kernel
theorem dJ0_split_1b221_69 : decode cJ0_split_1b221 69 = .ok (.bipush 97, 2) := by decide +kernel
theorem dJ0_split_1b221_71 : decode cJ0_split_1b221 71 = .ok (.isub, 1) := by decide +kernel
theorem dJ0_split_1b221_72 : decode cJ0_split_1b221 72 = .ok (.bipush 122, 2) := by decide +kernel
theorem dJ0_split_1b221_74 : decode cJ0_split_1b221 74 = .ok (.iload 4, 2) := by decide +kernel
theorem dJ0_split_1b221_76 : decode cJ0_split_1b221 76 = .ok (.isub, 1) := by decide +kernel
theorem dJ0_split_1b221_77 : decode cJ0_split_1b221 77 = .ok (.ior, 1) := by decide +kernel
theorem dJ0_split_1b221_78 : decode cJ0_split_1b221 78 = .ok (.ifCond .ge 42, 3) := by decide +kernel
theorem dJ0_split_1b221_81 : decode cJ0_split_1b221 81 = .ok (.iload 4, 2) := by decide +kernel
theorem dJ0_split_1b221_83 : decode cJ0_split_1b221 83 = .ok (.bipush 65, 2) := by decide +kernel
theorem dJ0_split_1b221_85 : decode cJ0_split_1b221 85 = .ok (.isub, 1) := by decide +kernel
theorem dJ0_split_1b221_86 : decode cJ0_split_1b221 86 = .ok (.bipush 90, 2) := by decide +kernel
theorem dJ0_split_1b221_88 : decode cJ0_split_1b221 88 = .ok (.iload 4, 2) := by decide +kernel
theorem dJ0_split_1b221_90 : decode cJ0_split_1b221 90 = .ok (.isub, 1) := by decide +kernel
theorem dJ0_split_1b221_91 : decode cJ0_split_1b221 91 = .ok (.ior, 1) := by decide +kernel
theorem dJ0_split_1b221_92 : decode cJ0_split_1b221 92 = .ok (.ifCond .ge 28, 3) := by decide +kernel
theorem dJ0_split_1b221_95 : decode cJ0_split_1b221 95 = .ok (.iload 4, 2) := by decide +kernel
theorem dJ0_split_1b221_97 : decode cJ0_split_1b221 97 = .ok (.ldc_w 766, 3) := by decide +kernel
theorem dJ0_split_1b221_100 : decode cJ0_split_1b221 100 = .ok (.if_icmp .lt 11, 3) := by decide +kernel
theorem dJ0_split_1b221_103 : decode cJ0_split_1b221 103 = .ok (.iload 4, 2) := by decide +kernel
theorem dJ0_split_1b221_105 : decode cJ0_split_1b221 105 = .ok (.ldc_w 767, 3) := by decide +kernel
theorem dJ0_split_1b221_108 : decode cJ0_split_1b221 108 = .ok (.if_icmp .le 12, 3) := by decide +kernel
theorem dJ0_split_1b221_111 : decode cJ0_split_1b221 111 = .ok (.aload_n 0, 1) := by decide +kernel
theorem dJ0_split_1b221_112 : decode cJ0_split_1b221 112 = .ok (.iload 4, 2) := by decide +kernel
theorem dJ0_split_1b221_114 : decode cJ0_split_1b221 114 = .ok (.iload_n 2, 1) := by decide +kernel
theorem dJ0_split_1b221_115 : decode cJ0_split_1b221 115 = .ok (.iload_n 3, 1) := by decide +kernel
theorem dJ0_split_1b221_116 : decode cJ0_split_1b221 116 = .ok (.invokevirtual 768, 3) := by decide +kernel
theorem dJ0_split_1b221_119 : decode cJ0_split_1b221 119 = .ok (.areturn, 1) := by decide +kernel
theorem dJ0_split_1b221_120 : decode cJ0_split_1b221 120 = .ok (.aload_n 1, 1) := by decide +kernel
theorem dJ0_split_1b221_121 : decode cJ0_split_1b221 121 = .ok (.invokestatic 714, 3) := by decide +kernel
theorem dJ0_split_1b221_124 : decode cJ0_split_1b221 124 = .ok (.astore 5, 2) := by decide +kernel
theorem dJ0_split_1b221_126 : decode cJ0_split_1b221 126 = .ok (.iload_n 3, 1) := by decide +kernel
theorem dJ0_split_1b221_127 : decode cJ0_split_1b221 127 = .ok (.ifCond .eq 13, 3) := by decide +kernel
theorem dJ0_split_1b221_130 : decode cJ0_split_1b221 130 = .ok (.aload 5, 2) := by decide +kernel
theorem dJ0_split_1b221_132 : decode cJ0_split_1b221 132 = .ok (.aload_n 0, 1) := by decide +kernel
theorem dJ0_split_1b221_133 : decode cJ0_split_1b221 133 = .ok (.iload_n 2, 1) := by decide +kernel
theorem dJ0_split_1b221_134 : decode cJ0_split_1b221 134 = .ok (.invokevirtual 771, 3) := by decide +kernel
theorem dJ0_split_1b221_137 : decode cJ0_split_1b221 137 = .ok (.goto 10, 3) := by decide +kernel
theorem dJ0_split_1b221_140 : decode cJ0_split_1b221 140 = .ok (.aload 5, 2) := by decide +kernel
theorem dJ0_split_1b221_142 : decode cJ0_split_1b221 142 = .ok (.aload_n 0, 1) := by decide +kernel
theorem dJ0_split_1b221_143 : decode cJ0_split_1b221 143 = .ok (.iload_n 2, 1) := by decide +kernel
theorem dJ0_split_1b221_144 : decode cJ0_split_1b221 144 = .ok (.invokevirtual 775, 3) := by decide +kernel
theorem dJ0_split_1b221_147 : decode cJ0_split_1b221 147 = .ok (.areturn, 1) := by decide +kernel
theorem dJ0_split_19a83_0 : decode cJ0_split_19a83 0 = .ok (.aload_n 0, 1) := by decide +kernel
theorem dJ0_split_19a83_1 : decode cJ0_split_19a83 1 = .ok (.aload_n 1, 1) := by decide +kernel
theorem dJ0_split_19a83_2 : decode cJ0_split_19a83 2 = .ok (.iconst 0, 1) := by decide +kernel
theorem dJ0_split_19a83_3 : decode cJ0_split_19a83 3 = .ok (.iconst 0, 1) := by decide +kernel
theorem dJ0_split_19a83_4 : decode cJ0_split_19a83 4 = .ok (.invokevirtual 757, 3) := by decide +kernel
theorem dJ0_split_19a83_7 : decode cJ0_split_19a83 7 = .ok (.areturn, 1) := by decide +kernel
theorem dL_types_0 : decode cL_types 0 = .ok (.aload_n 0, 1) := by decide +kernel
theorem dL_types_1 : decode cL_types 1 = .ok (.invokestatic 143, 3) := by decide +kernel
theorem dL_types_4 : decode cL_types 4 = .ok (.pop2, 1) := by decide +kernel
theorem dL_types_5 : decode cL_types 5 = .ok (.aload_n 1, 1) := by decide +kernel
theorem dL_types_6 : decode cL_types 6 = .ok (.ldc 146, 2) := by decide +kernel
theorem dL_types_8 : decode cL_types 8 = .ok (.invokevirtual 148, 3) := by decide +kernel
theorem dL_types_11 : decode cL_types 11 = .ok (.astore_n 2, 1) := by decide +kernel
theorem dL_types_12 : decode cL_types 12 = .ok (.aload_n 2, 1) := by decide +kernel
theorem dL_types_13 : decode cL_types 13 = .ok (.astore_n 3, 1) := by decide +kernel
theorem dL_types_14 : decode cL_types 14 = .ok (.aload_n 3, 1) := by decide +kernel
theorem dL_types_15 : decode cL_types 15 = .ok (.arraylength, 1) := by decide +kernel
theorem dL_types_16 : decode cL_types 16 = .ok (.istore 4, 2) := by decide +kernel
theorem dL_types_18 : decode cL_types 18 = .ok (.iconst 0, 1) := by decide +kernel
theorem dL_types_19 : decode cL_types 19 = .ok (.istore 5, 2) := by decide +kernel
theorem dL_types_21 : decode cL_types 21 = .ok (.iload 5, 2) := by decide +kernel
theorem dL_types_23 : decode cL_types 23 = .ok (.iload 4, 2) := by decide +kernel
theorem dL_types_25 : decode cL_types 25 = .ok (.if_icmp .ge 97, 3) := by decide +kernel
theorem dL_types_28 : decode cL_types 28 = .ok (.aload_n 3, 1) := by decide +kernel
theorem dL_types_29 : decode cL_types 29 = .ok (.iload 5, 2) := by decide +kernel
theorem dL_types_31 : decode cL_types 31 = .ok (.aaload, 1) := by decide +kernel
theorem dL_types_32 : decode cL_types 32 = .ok (.astore 6, 2) := by decide +kernel
theorem dL_types_34 : decode cL_types 34 = .ok (.aload 6, 2) := by decide +kernel
theorem dL_types_36 : decode cL_types 36 = .ok (.bipush 44, 2) := by decide +kernel
theorem dL_types_38 : decode cL_types 38 = .ok (.invokevirtual 154, 3) := by decide +kernel
theorem dL_types_41 : decode cL_types 41 = .ok (.istore 7, 2) := by decide +kernel
theorem dL_types_43 : decode cL_types 43 = .ok (.iload 7, 2) := by decide +kernel
theorem dL_types_45 : decode cL_types 45 = .ok (.ifCond .ge 12, 3) := by decide +kernel
theorem dL_types_48 : decode cL_types 48 = .ok (.aload 6, 2) := by decide +kernel
theorem dL_types_50 : decode cL_types 50 = .ok (.iconst 1, 1) := by decide +kernel
theorem dL_types_51 : decode cL_types 51 = .ok (.invokevirtual 157, 3) := by decide +kernel
theorem dL_types_54 : decode cL_types 54 = .ok (.goto 11, 3) := by decide +kernel
theorem dL_types_57 : decode cL_types 57 = .ok (.aload 6, 2) := by decide +kernel
theorem dL_types_59 : decode cL_types 59 = .ok (.iconst 1, 1) := by decide +kernel
theorem dL_types_60 : decode cL_types 60 = .ok (.iload 7, 2) := by decide +kernel
theorem dL_types_62 : decode cL_types 62 = .ok (.invokevirtual 161, 3) := by decide +kernel
theorem dL_types_65 : decode cL_types 65 = .ok (.astore 8, 2) := by decide +kernel
theorem dL_types_67 : decode cL_types 67 = .ok (.aload_n 0, 1) := by decide +kernel
theorem dL_types_68 : decode cL_types 68 = .ok (.aload 6, 2) := by decide +kernel
theorem dL_types_70 : decode cL_types 70 = .ok (.iconst 0, 1) := by decide +kernel
theorem dL_types_71 : decode cL_types 71 = .ok (.invokevirtual 164, 3) := by decide +kernel
theorem dL_types_74 : decode cL_types 74 = .ok (.aload 8, 2) := by decide +kernel
theorem dL_types_76 : decode cL_types 76 = .ok (.invokevirtual 167, 3) := by decide +kernel
theorem dL_types_79 : decode cL_types 79 = .ok (.ifCond .eq 7, 3) := by decide +kernel
theorem dL_types_82 : decode cL_types 82 = .ok (.iconst 0, 1) := by decide +kernel
theorem dL_types_83 : decode cL_types 83 = .ok (.goto 8, 3) := by decide +kernel
theorem dL_types_86 : decode cL_types 86 = .ok (.aload 8, 2) := by decide +kernel
theorem dL_types_88 : decode cL_types 88 = .ok (.invokestatic 170, 3) := by decide +kernel
theorem dL_types_91 : decode cL_types 91 = .ok (.iload 7, 2) := by decide +kernel
theorem dL_types_93 : decode cL_types 93 = .ok (.ifCond .ge 7, 3) := by decide +kernel
theorem dL_types_96 : decode cL_types 96 = .ok (.iconst 0, 1) := by decide +kernel
theorem dL_types_97 : decode cL_types 97 = .ok (.goto 15, 3) := by decide +kernel
theorem dL_types_100 : decode cL_types 100 = .ok (.aload 6, 2) := by decide +kernel
theorem dL_types_102 : decode cL_types 102 = .ok (.iload 7, 2) := by decide +kernel
theorem dL_types_104 : decode cL_types 104 = .ok (.iconst 1, 1) := by decide +kernel
theorem dL_types_105 : decode cL_types 105 = .ok (.iadd, 1) := by decide +kernel
theorem dL_types_106 : decode cL_types 106 = .ok (.invokevirtual 157, 3) := by decide +kernel
theorem dL_types_109 : decode cL_types 109 = .ok (.invokestatic 170, 3) := by decide +kernel
theorem dL_types_112 : decode cL_types 112 = .ok (.invokestatic 176, 3) := by decide +kernel
theorem dL_types_115 : decode cL_types 115 = .ok (.pop2, 1) := by decide +kernel
theorem dL_types_116 : decode cL_types 116 = .ok (.iinc 5 1, 3) := by decide +kernel
theorem dL_types_119 : decode cL_types 119 = .ok (.goto (-98), 3) := by decide +kernel
theorem dL_types_122 : decode cL_types 122 = .ok (.return_, 1) := by decide +kernel
theorem dL_tells_0 : decode cL_tells 0 = .ok (.aload_n 0, 1) := by decide +kernel
theorem dL_tells_1 : decode cL_tells 1 = .ok (.aload 5, 2) := by decide +kernel
theorem dL_tells_3 : decode cL_tells 3 = .ok (.invokestatic 179, 3) := by decide +kernel
theorem dL_tells_6 : decode cL_tells 6 = .ok (.aload_n 0, 1) := by decide +kernel
theorem dL_tells_7 : decode cL_tells 7 = .ok (.iload_n 1, 1) := by decide +kernel
theorem dL_tells_8 : decode cL_tells 8 = .ok (.iload_n 2, 1) := by decide +kernel
theorem dL_tells_9 : decode cL_tells 9 = .ok (.iload_n 3, 1) := by decide +kernel
theorem dL_tells_10 : decode cL_tells 10 = .ok (.iload 4, 2) := by decide +kernel
theorem dL_tells_12 : decode cL_tells 12 = .ok (.invokestatic 183, 3) := by decide +kernel
theorem dL_tells_15 : decode cL_tells 15 = .ok (.lreturn, 1) := by decide +kernel
section SITES
variable {p : Program} {l : Launch} {e : Env} {R : Room} {s : State} {m : MethodId} {args : Array Value} {below : List Frame} {meth : Method} {c : Code} {H : Heap} {locs : List Loc} {cells slots : Nat} {Q : State → Prop}
variable {pc : Nat} {ls : Array Slot} {rest : List Value} {D : va_G} {ar : Nat → ClassId} {κ : Nat → Nat} {A : Nat → Prop} {a : Nat} {H0 : Heap} {G : gW} {nz nL : Nat} {cc : ByteArray}
def lwT_3 : String × Nat × String × Nat × List Int32 := ("java/lang/String", 761, ".$|()[{^?*+\\", 26, [46, 36, 124, 40, 41, 91, 123, 94, 63, 42, 43, 92])
theorem lwT_m3 : lwT_3 ∈ lwT := List.mem_of_getElem? (i := 3) rfl
theorem m_5_160 : (Cond.methodLink RJ0 656 yJ0_charAt_5068e) ∈ lwA := lwA_mk (ck_5 _ (List.mem_of_getElem? (i := 160) rfl)) rfl
theorem k_RJ0_656 {args : Array Value} {s : State} {R rm : Room} (hts : ∀ w ∈ lwA, w.before args s = true) (hR : rm.frames + 1 ≤ R.frames ∧ 8 + (2 + 11) + rm.locals ≤ R.locals) : CallW R s args RJ0 RJ0 656 yJ0_charAt_5068e cJ0_charAt_5068e 2 (some .char) (lwC yJ0_charAt_5068e cJ0_charAt_5068e 2 (some .char)) rm rm.cells rm.slots 1 := cwV 1 hts (gdV m_5_160 m_5_161 m_5_162 m_1_17 m_5_163) rfl rfl rfl (by decide +kernel) hR
theorem m_5_185 : (Cond.code yJ0_indexOf_0f7a4 cJ0_indexOf_0f7a4 2 (some .int)) ∈ lwA := lwA_mk (ck_5 _ (List.mem_of_getElem? (i := 185) rfl)) rfl
theorem m_5_182 : (Cond.methodLink RJ0 763 yJ0_indexOf_0f7a4) ∈ lwA := lwA_mk (ck_5 _ (List.mem_of_getElem? (i := 182) rfl)) rfl
theorem m_5_183 : (Cond.instanceMethod yJ0_indexOf_0f7a4) ∈ lwA := lwA_mk (ck_5 _ (List.mem_of_getElem? (i := 183) rfl)) rfl
theorem m_5_184 : (Cond.selects RJ0 yJ0_indexOf_0f7a4 yJ0_indexOf_0f7a4) ∈ lwA := lwA_mk (ck_5 _ (List.mem_of_getElem? (i := 184) rfl)) rfl
theorem k_RJ0_763 {args : Array Value} {s : State} {R rm : Room} (hts : ∀ w ∈ lwA, w.before args s = true) (hR : rm.frames + 1 ≤ R.frames ∧ 8 + (2 + 11) + rm.locals ≤ R.locals) : CallW R s args RJ0 RJ0 763 yJ0_indexOf_0f7a4 cJ0_indexOf_0f7a4 2 (some .int) (lwC yJ0_indexOf_0f7a4 cJ0_indexOf_0f7a4 2 (some .int)) rm rm.cells rm.slots 1 := cwV 1 hts (gdV m_5_182 m_5_183 m_5_184 m_1_17 m_5_185) rfl rfl rfl (by decide +kernel) hR
theorem m_5_227 : (Cond.constant RJ0 766 (55296)) ∈ lwA := lwA_mk (ck_5 _ (List.mem_of_getElem? (i := 227) rfl)) rfl
theorem m_5_232 : (Cond.code yJ0_split_f8566 cJ0_split_f8566 12 (some (.array (.object "java/lang/String")))) ∈ lwA := lwA_mk (ck_5 _ (List.mem_of_getElem? (i := 232) rfl)) rfl
theorem m_5_229 : (Cond.methodLink RJ0 768 yJ0_split_f8566) ∈ lwA := lwA_mk (ck_5 _ (List.mem_of_getElem? (i := 229) rfl)) rfl
theorem m_5_231 : (Cond.instanceMethod yJ0_split_f8566) ∈ lwA := lwA_mk (ck_5 _ (List.mem_of_getElem? (i := 231) rfl)) rfl
theorem ms_27 : (Cond.selects RJ0 yJ0_split_f8566 yJ0_split_f8566) ∈ lwA := lwA_mk (List.mem_append_left _ (List.mem_of_getElem? (i := 27) rfl)) rfl
theorem k_RJ0_768 {args : Array Value} {s : State} {R rm : Room} (hts : ∀ w ∈ lwA, w.before args s = true) (hR : rm.frames + 1 ≤ R.frames ∧ 8 + (12 + 11) + rm.locals ≤ R.locals) : CallW R s args RJ0 RJ0 768 yJ0_split_f8566 cJ0_split_f8566 12 (some (.array (.object "java/lang/String"))) (lwC yJ0_split_f8566 cJ0_split_f8566 12 (some (.array (.object "java/lang/String")))) rm rm.cells rm.slots 3 := cwV 3 hts (gdV m_5_229 m_5_231 ms_27 m_1_17 m_5_232) rfl rfl rfl (by decide +kernel) hR
theorem m_5_157 : (Cond.code yJ0_split_1b221 cJ0_split_1b221 6 (some (.array (.object "java/lang/String")))) ∈ lwA := lwA_mk (ck_5 _ (List.mem_of_getElem? (i := 157) rfl)) rfl
theorem m_5_154 : (Cond.methodLink RJ0 757 yJ0_split_1b221) ∈ lwA := lwA_mk (ck_5 _ (List.mem_of_getElem? (i := 154) rfl)) rfl
theorem m_5_156 : (Cond.instanceMethod yJ0_split_1b221) ∈ lwA := lwA_mk (ck_5 _ (List.mem_of_getElem? (i := 156) rfl)) rfl
theorem ms_26 : (Cond.selects RJ0 yJ0_split_1b221 yJ0_split_1b221) ∈ lwA := lwA_mk (List.mem_append_left _ (List.mem_of_getElem? (i := 26) rfl)) rfl
theorem k_RJ0_757 {args : Array Value} {s : State} {R rm : Room} (hts : ∀ w ∈ lwA, w.before args s = true) (hR : rm.frames + 1 ≤ R.frames ∧ 8 + (6 + 11) + rm.locals ≤ R.locals) : CallW R s args RJ0 RJ0 757 yJ0_split_1b221 cJ0_split_1b221 6 (some (.array (.object "java/lang/String"))) (lwC yJ0_split_1b221 cJ0_split_1b221 6 (some (.array (.object "java/lang/String")))) rm rm.cells rm.slots 3 := cwV 3 hts (gdV m_5_154 m_5_156 ms_26 m_1_17 m_5_157) rfl rfl rfl (by decide +kernel) hR
theorem m_6_111 : (Cond.methodLink RL 154 yJ0_indexOf_0f7a4) ∈ lwA := lwA_mk (ck_6 _ (List.mem_of_getElem? (i := 111) rfl)) rfl
theorem k_RL_154 {args : Array Value} {s : State} {R rm : Room} (hts : ∀ w ∈ lwA, w.before args s = true) (hR : rm.frames + 1 ≤ R.frames ∧ 8 + (2 + 11) + rm.locals ≤ R.locals) : CallW R s args RL RJ0 154 yJ0_indexOf_0f7a4 cJ0_indexOf_0f7a4 2 (some .int) (lwC yJ0_indexOf_0f7a4 cJ0_indexOf_0f7a4 2 (some .int)) rm rm.cells rm.slots 1 := cwV 1 hts (gdV m_6_111 m_5_183 m_5_184 m_1_17 m_5_185) rfl rfl rfl (by decide +kernel) hR
theorem m_6_115 : (Cond.code yJ0_substring_b52d3 cJ0_substring_b52d3 2 (some (.object "java/lang/String"))) ∈ lwA := lwA_mk (ck_6 _ (List.mem_of_getElem? (i := 115) rfl)) rfl
theorem m_6_112 : (Cond.methodLink RL 157 yJ0_substring_b52d3) ∈ lwA := lwA_mk (ck_6 _ (List.mem_of_getElem? (i := 112) rfl)) rfl
theorem m_6_113 : (Cond.instanceMethod yJ0_substring_b52d3) ∈ lwA := lwA_mk (ck_6 _ (List.mem_of_getElem? (i := 113) rfl)) rfl
theorem m_6_114 : (Cond.selects RJ0 yJ0_substring_b52d3 yJ0_substring_b52d3) ∈ lwA := lwA_mk (ck_6 _ (List.mem_of_getElem? (i := 114) rfl)) rfl
theorem k_RL_157 {args : Array Value} {s : State} {R rm : Room} (hts : ∀ w ∈ lwA, w.before args s = true) (hR : rm.frames + 1 ≤ R.frames ∧ 8 + (2 + 11) + rm.locals ≤ R.locals) : CallW R s args RL RJ0 157 yJ0_substring_b52d3 cJ0_substring_b52d3 2 (some (.object "java/lang/String")) (lwC yJ0_substring_b52d3 cJ0_substring_b52d3 2 (some (.object "java/lang/String"))) rm rm.cells rm.slots 1 := cwV 1 hts (gdV m_6_112 m_6_113 m_6_114 m_1_17 m_6_115) rfl rfl rfl (by decide +kernel) hR
theorem m_6_117 : (Cond.methodLink RL 164 yJ0_charAt_5068e) ∈ lwA := lwA_mk (ck_6 _ (List.mem_of_getElem? (i := 117) rfl)) rfl
theorem k_RL_164 {args : Array Value} {s : State} {R rm : Room} (hts : ∀ w ∈ lwA, w.before args s = true) (hR : rm.frames + 1 ≤ R.frames ∧ 8 + (2 + 11) + rm.locals ≤ R.locals) : CallW R s args RL RJ0 164 yJ0_charAt_5068e cJ0_charAt_5068e 2 (some .char) (lwC yJ0_charAt_5068e cJ0_charAt_5068e 2 (some .char)) rm rm.cells rm.slots 1 := cwV 1 hts (gdV m_6_117 m_5_161 m_5_162 m_1_17 m_5_163) rfl rfl rfl (by decide +kernel) hR
theorem m_6_118 : (Cond.methodLink RL 167 yJ0_isEmpty_aae02) ∈ lwA := lwA_mk (ck_6 _ (List.mem_of_getElem? (i := 118) rfl)) rfl
theorem k_RL_167 {args : Array Value} {s : State} {R rm : Room} (hts : ∀ w ∈ lwA, w.before args s = true) (hR : rm.frames + 1 ≤ R.frames ∧ 8 + (1 + 11) + rm.locals ≤ R.locals) : CallW R s args RL RJ0 167 yJ0_isEmpty_aae02 cJ0_isEmpty_aae02 1 (some .boolean) (lwC yJ0_isEmpty_aae02 cJ0_isEmpty_aae02 1 (some .boolean)) rm rm.cells rm.slots 0 := cwV 0 hts (gdV m_6_118 m_6_37 m_6_38 m_1_17 m_6_39) rfl rfl rfl (by decide +kernel) hR
theorem m_6_186 : (Cond.codeWith yL_row cL_row 5 (some .long) [(0, 8, 9, 23), (0, 8, 15, 27)]) ∈ lwA := lwA_mk (ck_6 _ (List.mem_of_getElem? (i := 186) rfl)) rfl
theorem m_6_184 : (Cond.methodLink RL 176 yL_row) ∈ lwA := lwA_mk (ck_6 _ (List.mem_of_getElem? (i := 184) rfl)) rfl
theorem m_6_185 : (Cond.static yL_row) ∈ lwA := lwA_mk (ck_6 _ (List.mem_of_getElem? (i := 185) rfl)) rfl
theorem kW_176 {args : Array Value} {s : State} {R rm : Room} (hts : ∀ w ∈ lwA, w.before args s = true) (hR : rm.frames + 1 ≤ R.frames ∧ 8 + (5 + 11) + rm.locals ≤ R.locals) : vx_CSW R s args RL 176 yL_row cL_row 5 (some .long) [(0, 8, 9, 23), (0, 8, 15, 27)] (lwCW yL_row cL_row 5 (some .long) [(0, 8, 9, 23), (0, 8, 15, 27)]) rm rm.cells rm.slots 4 := vx_cwSW 4 hts (gdT m_6_184 m_6_185 m_1_0 m_6_186) rfl rfl rfl (by decide +kernel) hR
theorem m_6_121 : (Cond.code yJ6_parseInt_2f485 cJ6_parseInt_2f485 1 (some .int)) ∈ lwA := lwA_mk (ck_6 _ (List.mem_of_getElem? (i := 121) rfl)) rfl
theorem m_6_119 : (Cond.methodLink RL 170 yJ6_parseInt_2f485) ∈ lwA := lwA_mk (ck_6 _ (List.mem_of_getElem? (i := 119) rfl)) rfl
theorem m_6_120 : (Cond.static yJ6_parseInt_2f485) ∈ lwA := lwA_mk (ck_6 _ (List.mem_of_getElem? (i := 120) rfl)) rfl
theorem k_RL_170 {args : Array Value} {s : State} {R rm : Room} (hts : ∀ w ∈ lwA, w.before args s = true) (hR : rm.frames + 1 ≤ R.frames ∧ 8 + (1 + 11) + rm.locals ≤ R.locals) : CallB R s args RL 170 yJ6_parseInt_2f485 cJ6_parseInt_2f485 1 (some .int) (lwC yJ6_parseInt_2f485 cJ6_parseInt_2f485 1 (some .int)) rm rm.cells rm.slots 1 ∧ (Cond.static yJ6_parseInt_2f485).before args s = true := va_cwS 1 hts (gdT m_6_119 m_6_120 m_1_29 m_6_121) rfl rfl rfl (by decide +kernel) hR
theorem m_6_116 : (Cond.methodLink RL 161 yJ0_substring_37a41) ∈ lwA := lwA_mk (ck_6 _ (List.mem_of_getElem? (i := 116) rfl)) rfl
theorem k_RL_161 {args : Array Value} {s : State} {R rm : Room} (hts : ∀ w ∈ lwA, w.before args s = true) (hR : rm.frames + 1 ≤ R.frames ∧ 8 + (5 + 11) + rm.locals ≤ R.locals) : CallW R s args RL RJ0 161 yJ0_substring_37a41 cJ0_substring_37a41 5 (some (.object "java/lang/String")) (lwC yJ0_substring_37a41 cJ0_substring_37a41 5 (some (.object "java/lang/String"))) rm rm.cells rm.slots 2 := cwV 2 hts (gdV m_6_116 m_6_12 m_6_13 m_1_17 m_6_14) rfl rfl rfl (by decide +kernel) hR
theorem m_5_144 : (Cond.code yL_wipe cL_wipe 1 (some .long)) ∈ lwA := lwA_mk (ck_5 _ (List.mem_of_getElem? (i := 144) rfl)) rfl
theorem m_5_142 : (Cond.methodLink RL 143 yL_wipe) ∈ lwA := lwA_mk (ck_5 _ (List.mem_of_getElem? (i := 142) rfl)) rfl
theorem m_5_143 : (Cond.static yL_wipe) ∈ lwA := lwA_mk (ck_5 _ (List.mem_of_getElem? (i := 143) rfl)) rfl
theorem k_RL_143 {args : Array Value} {s : State} {R rm : Room} (hts : ∀ w ∈ lwA, w.before args s = true) (hR : rm.frames + 1 ≤ R.frames ∧ 8 + (1 + 11) + rm.locals ≤ R.locals) : CallB R s args RL 143 yL_wipe cL_wipe 1 (some .long) (lwC yL_wipe cL_wipe 1 (some .long)) rm rm.cells rm.slots 1 ∧ (Cond.static yL_wipe).before args s = true := cwS 1 hts (gdS m_5_142 m_5_143 m_1_0 m_5_144) rfl rfl rfl (by decide +kernel) hR
def lwT_2 : String × Nat × String × Nat × List Int32 := ("SendhouseLaw", 146, " ", 24, [32])
theorem lwT_m2 : lwT_2 ∈ lwT := List.mem_of_getElem? (i := 2) rfl
theorem m_5_153 : (Cond.code yJ0_split_19a83 cJ0_split_19a83 2 (some (.array (.object "java/lang/String")))) ∈ lwA := lwA_mk (ck_5 _ (List.mem_of_getElem? (i := 153) rfl)) rfl
theorem m_5_150 : (Cond.methodLink RL 148 yJ0_split_19a83) ∈ lwA := lwA_mk (ck_5 _ (List.mem_of_getElem? (i := 150) rfl)) rfl
theorem m_5_151 : (Cond.instanceMethod yJ0_split_19a83) ∈ lwA := lwA_mk (ck_5 _ (List.mem_of_getElem? (i := 151) rfl)) rfl
theorem m_5_152 : (Cond.selects RJ0 yJ0_split_19a83 yJ0_split_19a83) ∈ lwA := lwA_mk (ck_5 _ (List.mem_of_getElem? (i := 152) rfl)) rfl
theorem k_RL_148 {args : Array Value} {s : State} {R rm : Room} (hts : ∀ w ∈ lwA, w.before args s = true) (hR : rm.frames + 1 ≤ R.frames ∧ 8 + (2 + 11) + rm.locals ≤ R.locals) : CallW R s args RL RJ0 148 yJ0_split_19a83 cJ0_split_19a83 2 (some (.array (.object "java/lang/String"))) (lwC yJ0_split_19a83 cJ0_split_19a83 2 (some (.array (.object "java/lang/String")))) rm rm.cells rm.slots 1 := cwV 1 hts (gdV m_5_150 m_5_151 m_5_152 m_1_17 m_5_153) rfl rfl rfl (by decide +kernel) hR
theorem m_5_141 : (Cond.code yL_types cL_types 9 none) ∈ lwA := lwA_mk (ck_5 _ (List.mem_of_getElem? (i := 141) rfl)) rfl
theorem m_5_139 : (Cond.methodLink RL 179 yL_types) ∈ lwA := lwA_mk (ck_5 _ (List.mem_of_getElem? (i := 139) rfl)) rfl
theorem m_5_140 : (Cond.static yL_types) ∈ lwA := lwA_mk (ck_5 _ (List.mem_of_getElem? (i := 140) rfl)) rfl
theorem k_RL_179 {args : Array Value} {s : State} {R rm : Room} (hts : ∀ w ∈ lwA, w.before args s = true) (hR : rm.frames + 1 ≤ R.frames ∧ 8 + (9 + 11) + rm.locals ≤ R.locals) : CallB R s args RL 179 yL_types cL_types 9 none (lwC yL_types cL_types 9 none) rm rm.cells rm.slots 2 ∧ (Cond.static yL_types).before args s = true := cwS 2 hts (gdS m_5_139 m_5_140 m_1_0 m_5_141) rfl rfl rfl (by decide +kernel) hR
theorem m_6_202 : (Cond.codeWith yL_method cL_method 6 (some .long) [(0, 10, 11, 17), (0, 10, 17, 23), (0, 10, 23, 47)]) ∈ lwA := lwA_mk (ck_6 _ (List.mem_of_getElem? (i := 202) rfl)) rfl
theorem m_6_200 : (Cond.methodLink RL 183 yL_method) ∈ lwA := lwA_mk (ck_6 _ (List.mem_of_getElem? (i := 200) rfl)) rfl
theorem m_6_201 : (Cond.static yL_method) ∈ lwA := lwA_mk (ck_6 _ (List.mem_of_getElem? (i := 201) rfl)) rfl
theorem kW_183 {args : Array Value} {s : State} {R rm : Room} (hts : ∀ w ∈ lwA, w.before args s = true) (hR : rm.frames + 1 ≤ R.frames ∧ 8 + (6 + 11) + rm.locals ≤ R.locals) : vx_CSW R s args RL 183 yL_method cL_method 6 (some .long) [(0, 10, 11, 17), (0, 10, 17, 23), (0, 10, 23, 47)] (lwCW yL_method cL_method 6 (some .long) [(0, 10, 11, 17), (0, 10, 17, 23), (0, 10, 23, 47)]) rm rm.cells rm.slots 5 := vx_cwSW 5 hts (gdT m_6_200 m_6_201 m_1_0 m_6_202) rfl rfl rfl (by decide +kernel) hR
end SITES
set_option maxHeartbeats 4000000 in
set_option maxRecDepth 100000 in
theorem j_split3 (l : Launch) (D : va_G) (ar : Nat → ClassId) (κ : Nat → Nat) (G : gW) (sz : Nat) (a : Nat) (t : Nat) (v : Nat) (bs : List Int32) (vt : Nat) (L : List (List Int32)) (ht : TX ar κ G a v bs) (ht2 : TX ar κ G t vt [32]) (hA : Asc bs) (hbs : bs = jn L) (hL2 : 2 ≤ L.length) (hL15 : L.length ≤ 15) (htk : ∀ t ∈ L, tkO t) (hL : bs.length ≤ 100) : Met l yJ0_split_1b221 (lwC yJ0_split_1b221 cJ0_split_1b221 6 (some (.array (.object "java/lang/String")))) (rD 10 50 2000) (g_Pc D vwCl (gT ar) (EX1 κ) G sz [.ref a, .ref t, .int 0, .int 0]) (g_Qq D vwCl (g_A G sz) (fun r u => ∃ q g, r = some q ∧ sz ≤ q ∧ u.1 q = some (.inl (ar 9, L.length, .inr (.inr (.inr (.inr g))))) ∧ gLe G u.1 ∧ ∀ j, j < L.length → ∃ y yv, g j = some y ∧ TX ar κ u.1 y yv (L.getD j []))) 50 2000 (g_A G sz) := by
  refine g_ofW (by decide +kernel) (Nat.le_of_ble_eq_true rfl) ?_
  intro p e s m below meth c ls S hr hlk hin hE w hl
  have hx := S.1
  have hb := S.2.1
  have hl : lv_has ls 6 [(0, .ref a), (1, .ref t), (2, .int 0), (3, .int 0)] := hl
  have hch : (32 : Int32).toInt8.toInt32 = 32 := by decide +kernel
  have h0 : ¬ (32 : Int32) < 0 := by decide
  have h1 : ¬ (255 : Int32) < 32 := by decide
  have h32 : ([32] : List Int32).length = 1 := rfl
  have hAs : Asc ([32] : List Int32) := fun b hb => ⟨32, by decide, List.mem_singleton.mp hb⟩
  have hl3 : lwT_3.2.2.2.2.length = 12 := rfl
  refine lv_iconst (v := 0) hx hb dJ0_split_1b221_0 (by decide) ?_
  refine lv_istore (lv' := [(4, .int 0), (0, .ref a), (1, .ref t), (2, .int 0), (3, .int 0)]) hx hb dJ0_split_1b221_1 hl (by decide) rfl (fun ls hl => ?_)
  refine lv_aload_n hx hb dJ0_split_1b221_3 rfl (lv_at hl 2 rfl) ?_
  refine g_calli w (g_runT (As := []) (rest := []) S hE w hl (j_length l D ar κ G sz t vt ([32] : List Int32) ht2) (k_RJ0_505 S.2.2.2.2  ⟨Nat.le_of_ble_eq_true rfl, Nat.le_of_ble_eq_true rfl⟩) ht2 rfl rfl (Nat.le_of_ble_eq_true rfl) dJ0_split_1b221_4 ⟨Nat.le_of_ble_eq_true rfl, Nat.le_of_ble_eq_true rfl⟩) (fun r u H locs hp hnz w => ?_)
  obtain ⟨rfl, rfl⟩ := hp
  try dsimp only at w
  rw [show nI ([32] : List Int32).length = 1 from rfl]
  refine lv_iconst (v := 1) hx hb dJ0_split_1b221_7 (by decide) ?_
  refine lv_icmp_ne (tgt := 29) hx hb dJ0_split_1b221_8 (by decide) (fun c => absurd (by decide) c) (fun _ => ?_)
  have hq3 := (hE.2.2.2.2.2.2.1 lwT_3 lwT_m3).1
  refine va_ldcSW hx hb (own := RJ0) S.2.2.2.1 hq3 dJ0_split_1b221_11 ?_
  show W p l e _ s m _ below meth c _ _ _ _ _ (F0 m 14 ls [.ref (κ 26)])
  refine lv_aload_n hx hb dJ0_split_1b221_14 rfl (lv_at hl 2 rfl) ?_
  refine lv_iconst (v := 0) hx hb dJ0_split_1b221_15 (by decide) ?_
  refine g_calli w (g_runT (As := [.int 0]) (rest := [.ref (κ 26)]) S hE w hl (j_charAt l D ar κ G sz t vt ([32] : List Int32) 0 ht2 hAs (by omega) (by omega)) (k_RJ0_656 S.2.2.2.2  ⟨Nat.le_of_ble_eq_true rfl, Nat.le_of_ble_eq_true rfl⟩) ht2 rfl rfl (Nat.le_of_ble_eq_true rfl) dJ0_split_1b221_16 ⟨Nat.le_of_ble_eq_true rfl, Nat.le_of_ble_eq_true rfl⟩) (fun r u H locs hp hnz w => ?_)
  obtain ⟨rfl, rfl⟩ := hp
  try dsimp only at w
  rw [show ([32] : List Int32).getD 0 0 = 32 from rfl]
  refine lv_dup hx hb dJ0_split_1b221_19 rfl ?_
  refine lv_istore (lv' := [(4, .int 32), (0, .ref a), (1, .ref t), (2, .int 0), (3, .int 0)]) hx hb dJ0_split_1b221_20 hl (by decide) rfl (fun ls hl => ?_)
  refine g_calli w (g_runT (As := [.int 32]) (rest := []) S hE w hl (j_indexOf1 l D ar κ G sz (κ 26) 32 (κ 27) lwT_3.2.2.2.2 (TX.lit lwT_m3) (by omega) hch h0 h1) (k_RJ0_763 S.2.2.2.2  ⟨Nat.le_of_ble_eq_true rfl, Nat.le_of_ble_eq_true rfl⟩) (TX.lit lwT_m3) rfl rfl (Nat.le_of_ble_eq_true rfl) dJ0_split_1b221_22 ⟨Nat.le_of_ble_eq_true rfl, Nat.le_of_ble_eq_true rfl⟩) (fun r u H locs hp hnz w => ?_)
  obtain ⟨rfl, rfl⟩ := hp
  try dsimp only at w
  rw [show ixF 32 lwT_3.2.2.2.2 0 lwT_3.2.2.2.2.length = -1 from by decide +kernel]
  refine lv_iconst (v := (-1)) hx hb dJ0_split_1b221_25 (by decide) ?_
  refine lv_icmp_eq (tgt := 95) hx hb dJ0_split_1b221_26 (by decide) (fun _ => ?_) (fun c => absurd (by decide) c)
  refine lv_iload hx hb dJ0_split_1b221_95 (lv_at hl 0 rfl) ?_
  refine lv_ldcw hx hb S.2.2.2.1 (S.2.2.2.2 _ m_5_227) dJ0_split_1b221_97 ?_
  refine lv_icmp_lt (tgt := 111) hx hb dJ0_split_1b221_100 (by decide) (fun _ => ?_) (fun c => absurd (by decide) c)
  refine lv_aload_n hx hb dJ0_split_1b221_111 rfl (lv_at hl 1 rfl) ?_
  refine lv_iload hx hb dJ0_split_1b221_112 (lv_at hl 0 rfl) ?_
  refine lv_iload_n hx hb dJ0_split_1b221_114 rfl (lv_at hl 3 rfl) ?_
  refine lv_iload_n hx hb dJ0_split_1b221_115 rfl (lv_at hl 4 rfl) ?_
  refine g_callq w (g_runT (As := [.int 32, .int 0, .int 0]) (rest := []) S hE w hl (j_splitC l D ar κ G sz a v bs L ht hA hbs hL2 hL15 htk hL) (k_RJ0_768 S.2.2.2.2  ⟨Nat.le_of_ble_eq_true rfl, Nat.le_of_ble_eq_true rfl⟩) ht rfl rfl (Nat.le_of_ble_eq_true rfl) dJ0_split_1b221_116 ⟨Nat.le_of_ble_eq_true rfl, Nat.le_of_ble_eq_true rfl⟩) (fun r u H locs hp hnz w => ?_)
  obtain ⟨q1, g1, rfl, hq1, hc1, hg1, hel1⟩ := hp
  try dsimp only at w
  exact g_qret (r := (some q1)) hx hb hr (Or.inr ⟨_, rfl⟩) hlk w (Nat.le_of_ble_eq_true rfl) (Nat.le_of_ble_eq_true rfl) dJ0_split_1b221_119 ⟨q1, g1, rfl, hq1, hc1, hg1, hel1⟩
set_option maxHeartbeats 4000000 in
set_option maxRecDepth 100000 in
theorem j_split1 (l : Launch) (D : va_G) (ar : Nat → ClassId) (κ : Nat → Nat) (G : gW) (sz : Nat) (a : Nat) (t : Nat) (v : Nat) (bs : List Int32) (vt : Nat) (L : List (List Int32)) (ht : TX ar κ G a v bs) (ht2 : TX ar κ G t vt [32]) (hA : Asc bs) (hbs : bs = jn L) (hL2 : 2 ≤ L.length) (hL15 : L.length ≤ 15) (htk : ∀ t ∈ L, tkO t) (hL : bs.length ≤ 100) : Met l yJ0_split_19a83 (lwC yJ0_split_19a83 cJ0_split_19a83 2 (some (.array (.object "java/lang/String")))) (rD 11 50 2000) (g_Pc D vwCl (gT ar) (EX1 κ) G sz [.ref a, .ref t]) (g_Qq D vwCl (g_A G sz) (fun r u => ∃ q g, r = some q ∧ sz ≤ q ∧ u.1 q = some (.inl (ar 9, L.length, .inr (.inr (.inr (.inr g))))) ∧ gLe G u.1 ∧ ∀ j, j < L.length → ∃ y yv, g j = some y ∧ TX ar κ u.1 y yv (L.getD j []))) 50 2000 (g_A G sz) := by
  refine g_ofW (by decide +kernel) (Nat.le_of_ble_eq_true rfl) ?_
  intro p e s m below meth c ls S hr hlk hin hE w hl
  have hx := S.1
  have hb := S.2.1
  have hl : lv_has ls 2 [(0, .ref a), (1, .ref t)] := hl
  have hch : (32 : Int32).toInt8.toInt32 = 32 := by decide +kernel
  have h0 : ¬ (32 : Int32) < 0 := by decide
  have h1 : ¬ (255 : Int32) < 32 := by decide
  have h32 : ([32] : List Int32).length = 1 := rfl
  have hAs : Asc ([32] : List Int32) := fun b hb => ⟨32, by decide, List.mem_singleton.mp hb⟩
  refine lv_aload_n hx hb dJ0_split_19a83_0 rfl (lv_at hl 0 rfl) ?_
  refine lv_aload_n hx hb dJ0_split_19a83_1 rfl (lv_at hl 1 rfl) ?_
  refine lv_iconst (v := 0) hx hb dJ0_split_19a83_2 (by decide) ?_
  refine lv_iconst (v := 0) hx hb dJ0_split_19a83_3 (by decide) ?_
  refine g_callq w (g_runT (As := [.ref t, .int 0, .int 0]) (rest := []) S hE w hl (j_split3 l D ar κ G sz a t v bs vt L ht ht2 hA hbs hL2 hL15 htk hL) (k_RJ0_757 S.2.2.2.2  ⟨Nat.le_of_ble_eq_true rfl, Nat.le_of_ble_eq_true rfl⟩) ht rfl rfl (Nat.le_of_ble_eq_true rfl) dJ0_split_19a83_4 ⟨Nat.le_of_ble_eq_true rfl, Nat.le_of_ble_eq_true rfl⟩) (fun r u H locs hp hnz w => ?_)
  obtain ⟨q1, g1, rfl, hq1, hc1, hg1, hel1⟩ := hp
  try dsimp only at w
  exact g_qret (r := (some q1)) hx hb hr (Or.inr ⟨_, rfl⟩) hlk w (Nat.le_of_ble_eq_true rfl) (Nat.le_of_ble_eq_true rfl) dJ0_split_19a83_7 ⟨q1, g1, rfl, hq1, hc1, hg1, hel1⟩
set_option maxHeartbeats 4000000 in
set_option maxRecDepth 100000 in
theorem hL_types (l : Launch) (D : va_G) (ar : Nat → ClassId) (κ : Nat → Nat) (G : gW) (x : Xo) (Z : Ho) (sz : Nat) (a v : Nat) (bs : List Int32) (T : List Tk) (hk : OK x Z) (hlt : l.stackTraces = false) (ht : TX ar κ (ov κ ar x Z G) a v bs) (hbs : bs = jn (T.map tkB)) (hT2 : 2 ≤ T.length) (hT15 : T.length ≤ 15) (hT : ∀ t ∈ T, tkG t) (hbl : bs.length ≤ 100) : Met l yL_types (lwC yL_types cL_types 9 none) (rD 14 130 5400) (g_Pc D vwCl (gT ar) (EX1 κ) (ov κ ar x Z G) sz [.ref (x.f .ho), .ref a]) (g_Qv D vwCl (g_A (ov κ ar x Z G) sz) (fun u => ∃ G9, u.1 = ov κ ar x (tyS Z T) G9 ∧ gLv x G G9 ∧ OK x (tyS Z T))) 130 5400 (g_A (ov κ ar x Z G) sz) := by
  refine g_ofW (by decide +kernel) (Nat.le_of_ble_eq_true rfl) ?_
  intro p e s m below meth c ls S hr hlk hin hE w hl
  have hx := S.1
  have hb := S.2.1
  have hl : lv_has ls 9 [(0, .ref (x.f .ho)), (1, .ref a)] := hl
  have hrr := ar_ne hE.1
  have hch : (44 : Int32).toInt8.toInt32 = 44 := by decide +kernel
  have h0 : ¬ (44 : Int32) < 0 := by decide
  have h1 : ¬ (255 : Int32) < 44 := by decide
  have hxq0 : ∀ q, sz ≤ q → x.b q = none := fun q z => ov_b0 (g_free w z)
  have key : ∀ (q : Nat) (f : Nat → Option Nat), x.b q = none → ∀ (r dn : List Tk), dn ++ r = T → ∀ (Zi : Ho), r.foldl tyR Zi = tyS Z T → OK x Zi → ∀ (Gi : gW) (n1 : Nat), sz ≤ n1 → Gi q = some (.inl (ar 9, T.length, .inr (.inr (.inr (.inr f))))) → gLv x G Gi → (∀ j, j < T.length → ∃ y yv, f j = some y ∧ TX ar κ (ov κ ar x Zi Gi) y yv ((T.map tkB).getD j [])) → ∀ (x5 : Int32), x5 = nI dn.length → ∀ (H : Heap) (locs : List Loc) (ls : Array Slot), g_S D vwCl (g_A (ov κ ar x Z G) sz) s.heap (ov κ ar x Zi Gi) H locs n1 → lv_has ls 9 [(5, .int x5), (4, .int (nI T.length)), (3, .ref q), (0, .ref (x.f .ho))] → W p l e (rD 14 130 5400) s m (([.ref (x.f .ho), .ref a] : List Value).toArray) below meth c H locs (50 + 5 * dn.length) (2000 + 214 * dn.length) (MQ below (g_Qv D vwCl (g_A (ov κ ar x Z G) sz) (fun u => ∃ G9, u.1 = ov κ ar x (tyS Z T) G9 ∧ gLv x G G9 ∧ OK x (tyS Z T))) (([.ref (x.f .ho), .ref a] : List Value).toArray) s 130 5400 (g_A (ov κ ar x Z G) sz)) (F0 m 21 ls []) := by
    intro q f hxq r
    induction r with
    | nil =>
      intro dn hdn Zi hZ hk Gi n1 hn1 hq hgG hel x5 ex5 H locs ls w hl
      subst ex5
      have hdl := congrArg List.length hdn
      rw [List.length_append] at hdl
      rw [List.length_nil] at hdl
      refine lv_iload hx hb dL_types_21 (lv_at hl 0 rfl) ?_
      refine lv_iload hx hb dL_types_23 (lv_at hl 1 rfl) ?_
      refine lv_icmp_ge (tgt := 122) hx hb dL_types_25 (by decide) (fun c_25 => ?_) (fun c_25 => absurd (nI_le (by omega) (by omega)) c_25)
      exact g_vret hx hb hr hlk w (by (try dsimp only [rD]); omega) (by (try dsimp only [rD]); omega) dL_types_122 ⟨Gi, congrArg (fun z => ov κ ar x z Gi) hZ, hgG, (show Zi = tyS Z T from hZ) ▸ hk⟩
    | cons t r7 ih =>
      intro dn hdn Zi hZ hk Gi n1 hn1 hq hgG hel x5 ex5 H locs ls w hl
      subst ex5
      have hdl := congrArg List.length hdn
      rw [List.length_append] at hdl
      rw [List.length_cons] at hdl
      have htm : t ∈ T := by rw [← hdn]; exact List.mem_append_right _ List.mem_cons_self
      have htg := hT t htm
      have htk := tkB_asc htg
      obtain ⟨y, yv, hy, hty⟩ := hel dn.length (by omega)
      rw [show (T.map tkB).getD dn.length [] = tkB t by rw [← hdn]; exact map_at] at hty
      have hlb : (tkB t).length ≤ 100 := by
        have h9 := jn_le (T.map tkB) (tkB t) (List.mem_map_of_mem htm)
        rw [← hbs] at h9
        omega
      have hnx : ∀ r9, dn ++ [t] ++ r9 = dn ++ t :: r9 := fun r9 => by rw [List.append_assoc]; rfl
      have hdl9 : (dn ++ [t]).length = dn.length + 1 := by rw [List.length_append]; rfl
      obtain ⟨c9, d, e9⟩ := t
      generalize hbt : tkB (c9, d, e9) = bt at hty htk hlb
      replace hbt := hbt.symm
      have hc0 : bt.getD 0 0 = c9 := by rw [hbt]; rfl
      cases e9 with
      | none =>
        have hix := tk_no hbt htg
        rcases htg.2 with hd | hd
        · have hd : d = [] := hd
          have hd0 : d.length = 0 := by rw [hd]; rfl
          have hlt9 : bt.length = d.length + 1 := by rw [hbt]; exact tk_len0
          refine lv_iload hx hb dL_types_21 (lv_at hl 0 rfl) ?_
          refine lv_iload hx hb dL_types_23 (lv_at hl 1 rfl) ?_
          refine lv_icmp_ge (tgt := 122) hx hb dL_types_25 (by decide) (fun c_25_1 => absurd c_25_1 (nI_ge (by omega) (by omega))) (fun c_25_1 => ?_)
          refine lv_aload_n hx hb dL_types_28 rfl (lv_at hl 2 rfl) ?_
          refine lv_iload hx hb dL_types_29 (lv_at hl 0 rfl) ?_
          refine va_aldq hx hb hE.1 (g_1 w.1 (ov_o hxq hq)) 0 9 rfl rfl (vp_in_nI (n := dn.length) (by omega) (by omega)) dL_types_31 ?_
          rw [show f (Int32.toNatClampNeg (nI dn.length)) = some y from (by rw [nI_clamp (by omega)]; exact hy)]
          show W p l e _ s m _ below meth c _ _ _ _ _ (F0 m 32 ls (.ref y :: _))
          refine lv_astore (lv' := [(6, .ref y), (5, .int (nI dn.length)), (4, .int (nI T.length)), (3, .ref q), (0, .ref (x.f .ho))]) hx hb dL_types_32 hl (by decide) rfl (fun ls hl => ?_)
          refine lv_aload hx hb dL_types_34 (lv_at hl 0 rfl) ?_
          refine lv_bipush (v := 44) hx hb dL_types_36 (by decide) ?_
          refine g_calli w (g_runT (As := [.int 44]) (rest := []) S hE w hl (j_indexOf1 l D ar κ (ov κ ar x Zi Gi) n1 y 44 yv bt hty (by omega) hch h0 h1) (k_RL_154 S.2.2.2.2  ⟨Nat.le_of_ble_eq_true rfl, Nat.le_of_ble_eq_true rfl⟩) hty rfl rfl (Nat.le_of_ble_eq_true rfl) dL_types_38 ⟨(by (try dsimp only [rD]); omega), (by (try dsimp only [rD]); omega)⟩) (fun r u H locs hp hnz w => ?_)
          obtain ⟨rfl, rfl⟩ := hp
          try dsimp only at w
          rw [hix]
          refine lv_istore (lv' := [(7, .int (-1)), (6, .ref y), (5, .int (nI dn.length)), (4, .int (nI T.length)), (3, .ref q), (0, .ref (x.f .ho))]) hx hb dL_types_41 hl (by decide) rfl (fun ls hl => ?_)
          refine lv_iload hx hb dL_types_43 (lv_at hl 0 rfl) ?_
          refine lv_if_ge (tgt := 57) hx hb dL_types_45 (by decide) (fun c => absurd c (by decide)) (fun _ => ?_)
          refine lv_aload hx hb dL_types_48 (lv_at hl 1 rfl) ?_
          refine lv_iconst (v := 1) hx hb dL_types_50 (by decide) ?_
          refine g_callq w (g_runT (As := [.int 1]) (rest := []) S hE w hl (j_substring1 l D ar κ (ov κ ar x Zi Gi) n1 y yv bt 1 hty htk (by omega) (by omega)) (k_RL_157 S.2.2.2.2  ⟨Nat.le_of_ble_eq_true rfl, Nat.le_of_ble_eq_true rfl⟩) hty rfl rfl (Nat.le_of_ble_eq_true rfl) dL_types_51 ⟨(by (try dsimp only [rD]); omega), (by (try dsimp only [rD]); omega)⟩) (fun r u H locs hp hnz w => ?_)
          obtain ⟨a1, v1, rfl, ht1, hg1⟩ := hp
          obtain ⟨u1, hU1⟩ : ∃ U9, U9 = u := ⟨_, rfl⟩
          rw [← hU1] at w hnz ht1 hg1
          try dsimp only at w
          rw [tk_cut0 hbt] at ht1
          refine lv_goto (tgt := 65) hx hb dL_types_54 (by decide) ?_
          refine lv_astore (lv' := [(8, .ref a1), (7, .int (-1)), (6, .ref y), (5, .int (nI dn.length)), (4, .int (nI T.length)), (3, .ref q), (0, .ref (x.f .ho))]) hx hb dL_types_65 hl (by decide) rfl (fun ls hl => ?_)
          refine lv_aload_n hx hb dL_types_67 rfl (lv_at hl 6 rfl) ?_
          refine lv_aload hx hb dL_types_68 (lv_at hl 2 rfl) ?_
          refine lv_iconst (v := 0) hx hb dL_types_70 (by decide) ?_
          refine g_calli w (g_runT (As := [.int 0]) (rest := [.ref (x.f .ho)]) S hE w hl (j_charAt l D ar κ u1.1 u1.2 y yv bt 0 (hty.le hg1) htk (by omega) (by omega)) (k_RL_164 S.2.2.2.2  ⟨Nat.le_of_ble_eq_true rfl, Nat.le_of_ble_eq_true rfl⟩) (hty.le hg1) rfl rfl (Nat.le_of_ble_eq_true rfl) dL_types_71 ⟨(by (try dsimp only [rD]); omega), (by (try dsimp only [rD]); omega)⟩) (fun r u H locs hp hnz w => ?_)
          obtain ⟨rfl, rfl⟩ := hp
          try dsimp only at w
          rw [hc0]
          refine lv_aload hx hb dL_types_74 (lv_at hl 0 rfl) ?_
          refine g_calli w (g_runT (As := []) (rest := [.int c9, .ref (x.f .ho)]) S hE w hl (j_isEmpty l D ar κ u1.1 u1.2 a1 v1 d ht1 (by omega)) (k_RL_167 S.2.2.2.2  ⟨Nat.le_of_ble_eq_true rfl, Nat.le_of_ble_eq_true rfl⟩) ht1 rfl rfl (Nat.le_of_ble_eq_true rfl) dL_types_76 ⟨(by (try dsimp only [rD]); omega), (by (try dsimp only [rD]); omega)⟩) (fun r u H locs hp hnz w => ?_)
          obtain ⟨rfl, rfl⟩ := hp
          try dsimp only at w
          rw [if_pos hd0]
          refine lv_if_eq (tgt := 86) hx hb dL_types_79 (by decide) (fun c => absurd c (by decide)) (fun _ => ?_)
          refine lv_iconst (v := 0) hx hb dL_types_82 (by decide) ?_
          refine lv_goto (tgt := 91) hx hb dL_types_83 (by decide) ?_
          refine lv_iload hx hb dL_types_91 (lv_at hl 1 rfl) ?_
          refine lv_if_ge (tgt := 100) hx hb dL_types_93 (by decide) (fun c => absurd c (by decide)) (fun _ => ?_)
          refine lv_iconst (v := 0) hx hb dL_types_96 (by decide) ?_
          refine lv_goto (tgt := 112) hx hb dL_types_97 (by decide) ?_
          have w := g_eqw w (ov_ge hg1)
          refine g_calll w (g_runSW (As := [.ref (x.f .ho), .int c9, .int 0, .int 0]) (rest := []) S hE w hl (hL_row l D ar κ u1.1 x Zi u1.2 c9 0 0 hk hlt) (kW_176 S.2.2.2.2 ⟨Nat.le_of_ble_eq_true rfl, Nat.le_of_ble_eq_true rfl⟩) rfl rfl (Nat.le_of_ble_eq_true rfl) dL_types_112 ⟨(by (try dsimp only [rD]); omega), (by (try dsimp only [rD]); omega)⟩) (fun r u H locs hp hnz w => ?_)
          obtain ⟨T9, e9, hu9, hk9, sq9⟩ := hp
          obtain ⟨v9, m9⟩ := u
          dsimp only at hu9 w hnz
          subst hu9
          refine lv_pop2_2 hx hb dL_types_115 rfl ?_
          refine lv_iinc (v := (nI dn.length) + 1) (lv' := [(5, .int ((nI dn.length) + 1)), (8, .ref a1), (7, .int (-1)), (6, .ref y), (4, .int (nI T.length)), (3, .ref q), (0, .ref (x.f .ho))]) hx hb dL_types_116 hl (k := 3) rfl rfl (by decide) rfl (fun ls hl => ?_)
          rw [nI_1 _] at hl
          refine lv_goto (tgt := 21) hx hb dL_types_119 (by decide) ?_
          have hzz : tyR Zi (c9, d, none) = T9 := (by rw [hd]; exact congrArg Prod.snd e9)
          refine W.widen (k := 50 + 5 * (dn ++ [(c9, d, none)]).length) (n := 2000 + 214 * (dn ++ [(c9, d, none)]).length) (by rw [hdl9]; omega) (by rw [hdl9]; omega) ?_
          exact ih (dn ++ [(c9, d, none)]) ((hnx r7).trans hdn) T9 (by rw [← hzz]; exact hZ) hk9 u1.1 m9 (by omega) (hg1 _ _ (ov_o hxq hq)) (hgG.t (gLv.o hg1)) (fun j hj => (hel j hj).elim fun y z => z.elim fun yv z => ⟨y, yv, z.1, tx_on hrr z.2 hg1⟩) _ (by rw [hdl9]) _ _ _ w (lv_sub hl [0, 4, 5, 6] rfl)
        · have hd : okD d := hd
          have hd9 := okD_len hd
          have hlt9 : bt.length = d.length + 1 := by rw [hbt]; exact tk_len0
          refine lv_iload hx hb dL_types_21 (lv_at hl 0 rfl) ?_
          refine lv_iload hx hb dL_types_23 (lv_at hl 1 rfl) ?_
          refine lv_icmp_ge (tgt := 122) hx hb dL_types_25 (by decide) (fun c_25_2 => absurd c_25_2 (nI_ge (by omega) (by omega))) (fun c_25_2 => ?_)
          refine lv_aload_n hx hb dL_types_28 rfl (lv_at hl 2 rfl) ?_
          refine lv_iload hx hb dL_types_29 (lv_at hl 0 rfl) ?_
          refine va_aldq hx hb hE.1 (g_1 w.1 (ov_o hxq hq)) 0 9 rfl rfl (vp_in_nI (n := dn.length) (by omega) (by omega)) dL_types_31 ?_
          rw [show f (Int32.toNatClampNeg (nI dn.length)) = some y from (by rw [nI_clamp (by omega)]; exact hy)]
          show W p l e _ s m _ below meth c _ _ _ _ _ (F0 m 32 ls (.ref y :: _))
          refine lv_astore (lv' := [(6, .ref y), (5, .int (nI dn.length)), (4, .int (nI T.length)), (3, .ref q), (0, .ref (x.f .ho))]) hx hb dL_types_32 hl (by decide) rfl (fun ls hl => ?_)
          refine lv_aload hx hb dL_types_34 (lv_at hl 0 rfl) ?_
          refine lv_bipush (v := 44) hx hb dL_types_36 (by decide) ?_
          refine g_calli w (g_runT (As := [.int 44]) (rest := []) S hE w hl (j_indexOf1 l D ar κ (ov κ ar x Zi Gi) n1 y 44 yv bt hty (by omega) hch h0 h1) (k_RL_154 S.2.2.2.2  ⟨Nat.le_of_ble_eq_true rfl, Nat.le_of_ble_eq_true rfl⟩) hty rfl rfl (Nat.le_of_ble_eq_true rfl) dL_types_38 ⟨(by (try dsimp only [rD]); omega), (by (try dsimp only [rD]); omega)⟩) (fun r u H locs hp hnz w => ?_)
          obtain ⟨rfl, rfl⟩ := hp
          try dsimp only at w
          rw [hix]
          refine lv_istore (lv' := [(7, .int (-1)), (6, .ref y), (5, .int (nI dn.length)), (4, .int (nI T.length)), (3, .ref q), (0, .ref (x.f .ho))]) hx hb dL_types_41 hl (by decide) rfl (fun ls hl => ?_)
          refine lv_iload hx hb dL_types_43 (lv_at hl 0 rfl) ?_
          refine lv_if_ge (tgt := 57) hx hb dL_types_45 (by decide) (fun c => absurd c (by decide)) (fun _ => ?_)
          refine lv_aload hx hb dL_types_48 (lv_at hl 1 rfl) ?_
          refine lv_iconst (v := 1) hx hb dL_types_50 (by decide) ?_
          refine g_callq w (g_runT (As := [.int 1]) (rest := []) S hE w hl (j_substring1 l D ar κ (ov κ ar x Zi Gi) n1 y yv bt 1 hty htk (by omega) (by omega)) (k_RL_157 S.2.2.2.2  ⟨Nat.le_of_ble_eq_true rfl, Nat.le_of_ble_eq_true rfl⟩) hty rfl rfl (Nat.le_of_ble_eq_true rfl) dL_types_51 ⟨(by (try dsimp only [rD]); omega), (by (try dsimp only [rD]); omega)⟩) (fun r u H locs hp hnz w => ?_)
          obtain ⟨a1, v1, rfl, ht1, hg1⟩ := hp
          obtain ⟨u1, hU1⟩ : ∃ U9, U9 = u := ⟨_, rfl⟩
          rw [← hU1] at w hnz ht1 hg1
          try dsimp only at w
          rw [tk_cut0 hbt] at ht1
          refine lv_goto (tgt := 65) hx hb dL_types_54 (by decide) ?_
          refine lv_astore (lv' := [(8, .ref a1), (7, .int (-1)), (6, .ref y), (5, .int (nI dn.length)), (4, .int (nI T.length)), (3, .ref q), (0, .ref (x.f .ho))]) hx hb dL_types_65 hl (by decide) rfl (fun ls hl => ?_)
          refine lv_aload_n hx hb dL_types_67 rfl (lv_at hl 6 rfl) ?_
          refine lv_aload hx hb dL_types_68 (lv_at hl 2 rfl) ?_
          refine lv_iconst (v := 0) hx hb dL_types_70 (by decide) ?_
          refine g_calli w (g_runT (As := [.int 0]) (rest := [.ref (x.f .ho)]) S hE w hl (j_charAt l D ar κ u1.1 u1.2 y yv bt 0 (hty.le hg1) htk (by omega) (by omega)) (k_RL_164 S.2.2.2.2  ⟨Nat.le_of_ble_eq_true rfl, Nat.le_of_ble_eq_true rfl⟩) (hty.le hg1) rfl rfl (Nat.le_of_ble_eq_true rfl) dL_types_71 ⟨(by (try dsimp only [rD]); omega), (by (try dsimp only [rD]); omega)⟩) (fun r u H locs hp hnz w => ?_)
          obtain ⟨rfl, rfl⟩ := hp
          try dsimp only at w
          rw [hc0]
          refine lv_aload hx hb dL_types_74 (lv_at hl 0 rfl) ?_
          refine g_calli w (g_runT (As := []) (rest := [.int c9, .ref (x.f .ho)]) S hE w hl (j_isEmpty l D ar κ u1.1 u1.2 a1 v1 d ht1 (by omega)) (k_RL_167 S.2.2.2.2  ⟨Nat.le_of_ble_eq_true rfl, Nat.le_of_ble_eq_true rfl⟩) ht1 rfl rfl (Nat.le_of_ble_eq_true rfl) dL_types_76 ⟨(by (try dsimp only [rD]); omega), (by (try dsimp only [rD]); omega)⟩) (fun r u H locs hp hnz w => ?_)
          obtain ⟨rfl, rfl⟩ := hp
          try dsimp only at w
          rw [if_neg (by have := okD_len hd; omega)]
          refine lv_if_eq (tgt := 86) hx hb dL_types_79 (by decide) (fun _ => ?_) (fun c => absurd (by decide) c)
          refine lv_aload hx hb dL_types_86 (lv_at hl 0 rfl) ?_
          refine g_calli w (g_runS (As := [.ref a1]) (rest := [.int c9, .ref (x.f .ho)]) S hE w hl (j_parseInt l D ar κ u1.1 u1.2 a1 v1 d ht1 hd) (k_RL_170 S.2.2.2.2 ⟨Nat.le_of_ble_eq_true rfl, Nat.le_of_ble_eq_true rfl⟩) rfl rfl (Nat.le_of_ble_eq_true rfl) dL_types_88 ⟨(by (try dsimp only [rD]); omega), (by (try dsimp only [rD]); omega)⟩) (fun r u H locs hp hnz w => ?_)
          obtain ⟨rfl, rfl⟩ := hp
          try dsimp only at w
          refine lv_iload hx hb dL_types_91 (lv_at hl 1 rfl) ?_
          refine lv_if_ge (tgt := 100) hx hb dL_types_93 (by decide) (fun c => absurd c (by decide)) (fun _ => ?_)
          refine lv_iconst (v := 0) hx hb dL_types_96 (by decide) ?_
          refine lv_goto (tgt := 112) hx hb dL_types_97 (by decide) ?_
          have w := g_eqw w (ov_ge hg1)
          refine g_calll w (g_runSW (As := [.ref (x.f .ho), .int c9, .int (pI d), .int 0]) (rest := []) S hE w hl (hL_row l D ar κ u1.1 x Zi u1.2 c9 (pI d) 0 hk hlt) (kW_176 S.2.2.2.2 ⟨Nat.le_of_ble_eq_true rfl, Nat.le_of_ble_eq_true rfl⟩) rfl rfl (Nat.le_of_ble_eq_true rfl) dL_types_112 ⟨(by (try dsimp only [rD]); omega), (by (try dsimp only [rD]); omega)⟩) (fun r u H locs hp hnz w => ?_)
          obtain ⟨T9, e9, hu9, hk9, sq9⟩ := hp
          obtain ⟨v9, m9⟩ := u
          dsimp only at hu9 w hnz
          subst hu9
          refine lv_pop2_2 hx hb dL_types_115 rfl ?_
          refine lv_iinc (v := (nI dn.length) + 1) (lv' := [(5, .int ((nI dn.length) + 1)), (8, .ref a1), (7, .int (-1)), (6, .ref y), (4, .int (nI T.length)), (3, .ref q), (0, .ref (x.f .ho))]) hx hb dL_types_116 hl (k := 3) rfl rfl (by decide) rfl (fun ls hl => ?_)
          rw [nI_1 _] at hl
          refine lv_goto (tgt := 21) hx hb dL_types_119 (by decide) ?_
          have hzz : tyR Zi (c9, d, none) = T9 := (tyR_1 hd).trans (congrArg Prod.snd e9)
          refine W.widen (k := 50 + 5 * (dn ++ [(c9, d, none)]).length) (n := 2000 + 214 * (dn ++ [(c9, d, none)]).length) (by rw [hdl9]; omega) (by rw [hdl9]; omega) ?_
          exact ih (dn ++ [(c9, d, none)]) ((hnx r7).trans hdn) T9 (by rw [← hzz]; exact hZ) hk9 u1.1 m9 (by omega) (hg1 _ _ (ov_o hxq hq)) (hgG.t (gLv.o hg1)) (fun j hj => (hel j hj).elim fun y z => z.elim fun yv z => ⟨y, yv, z.1, tx_on hrr z.2 hg1⟩) _ (by rw [hdl9]) _ _ _ w (lv_sub hl [0, 4, 5, 6] rfl)
      | some f9 =>
        have hix := tk_yes hbt htg
        have hd : okD d := htg.2.1
        have hf : okD f9 := htg.2.2
        have hd9 := okD_len hd
        have hf9 := okD_len hf
        have hlt9 : bt.length = d.length + f9.length + 2 := by rw [hbt]; exact tk_len1
        refine lv_iload hx hb dL_types_21 (lv_at hl 0 rfl) ?_
        refine lv_iload hx hb dL_types_23 (lv_at hl 1 rfl) ?_
        refine lv_icmp_ge (tgt := 122) hx hb dL_types_25 (by decide) (fun c_25_3 => absurd c_25_3 (nI_ge (by omega) (by omega))) (fun c_25_3 => ?_)
        refine lv_aload_n hx hb dL_types_28 rfl (lv_at hl 2 rfl) ?_
        refine lv_iload hx hb dL_types_29 (lv_at hl 0 rfl) ?_
        refine va_aldq hx hb hE.1 (g_1 w.1 (ov_o hxq hq)) 0 9 rfl rfl (vp_in_nI (n := dn.length) (by omega) (by omega)) dL_types_31 ?_
        rw [show f (Int32.toNatClampNeg (nI dn.length)) = some y from (by rw [nI_clamp (by omega)]; exact hy)]
        show W p l e _ s m _ below meth c _ _ _ _ _ (F0 m 32 ls (.ref y :: _))
        refine lv_astore (lv' := [(6, .ref y), (5, .int (nI dn.length)), (4, .int (nI T.length)), (3, .ref q), (0, .ref (x.f .ho))]) hx hb dL_types_32 hl (by decide) rfl (fun ls hl => ?_)
        refine lv_aload hx hb dL_types_34 (lv_at hl 0 rfl) ?_
        refine lv_bipush (v := 44) hx hb dL_types_36 (by decide) ?_
        refine g_calli w (g_runT (As := [.int 44]) (rest := []) S hE w hl (j_indexOf1 l D ar κ (ov κ ar x Zi Gi) n1 y 44 yv bt hty (by omega) hch h0 h1) (k_RL_154 S.2.2.2.2  ⟨Nat.le_of_ble_eq_true rfl, Nat.le_of_ble_eq_true rfl⟩) hty rfl rfl (Nat.le_of_ble_eq_true rfl) dL_types_38 ⟨(by (try dsimp only [rD]); omega), (by (try dsimp only [rD]); omega)⟩) (fun r u H locs hp hnz w => ?_)
        obtain ⟨rfl, rfl⟩ := hp
        try dsimp only at w
        rw [hix]
        refine lv_istore (lv' := [(7, .int (nI (d.length + 1))), (6, .ref y), (5, .int (nI dn.length)), (4, .int (nI T.length)), (3, .ref q), (0, .ref (x.f .ho))]) hx hb dL_types_41 hl (by decide) rfl (fun ls hl => ?_)
        refine lv_iload hx hb dL_types_43 (lv_at hl 0 rfl) ?_
        refine lv_if_ge (tgt := 57) hx hb dL_types_45 (by decide) (fun c_45_2 => ?_) (fun c_45_2 => absurd (nI_pos' (by omega)) c_45_2)
        refine lv_aload hx hb dL_types_57 (lv_at hl 1 rfl) ?_
        refine lv_iconst (v := 1) hx hb dL_types_59 (by decide) ?_
        refine lv_iload hx hb dL_types_60 (lv_at hl 0 rfl) ?_
        refine g_callq w (g_runT (As := [.int 1, .int (nI (d.length + 1))]) (rest := []) S hE w hl (j_substring2 l D ar κ (ov κ ar x Zi Gi) n1 y yv bt 1 (d.length + 1) hty htk (by omega) (by omega) (by omega)) (k_RL_161 S.2.2.2.2  ⟨Nat.le_of_ble_eq_true rfl, Nat.le_of_ble_eq_true rfl⟩) hty rfl rfl (Nat.le_of_ble_eq_true rfl) dL_types_62 ⟨(by (try dsimp only [rD]); omega), (by (try dsimp only [rD]); omega)⟩) (fun r u H locs hp hnz w => ?_)
        obtain ⟨a1, v1, rfl, ht1, hg1⟩ := hp
        obtain ⟨u1, hU1⟩ : ∃ U9, U9 = u := ⟨_, rfl⟩
        rw [← hU1] at w hnz ht1 hg1
        try dsimp only at w
        rw [tk_cut1 hbt] at ht1
        refine lv_astore (lv' := [(8, .ref a1), (7, .int (nI (d.length + 1))), (6, .ref y), (5, .int (nI dn.length)), (4, .int (nI T.length)), (3, .ref q), (0, .ref (x.f .ho))]) hx hb dL_types_65 hl (by decide) rfl (fun ls hl => ?_)
        refine lv_aload_n hx hb dL_types_67 rfl (lv_at hl 6 rfl) ?_
        refine lv_aload hx hb dL_types_68 (lv_at hl 2 rfl) ?_
        refine lv_iconst (v := 0) hx hb dL_types_70 (by decide) ?_
        refine g_calli w (g_runT (As := [.int 0]) (rest := [.ref (x.f .ho)]) S hE w hl (j_charAt l D ar κ u1.1 u1.2 y yv bt 0 (hty.le hg1) htk (by omega) (by omega)) (k_RL_164 S.2.2.2.2  ⟨Nat.le_of_ble_eq_true rfl, Nat.le_of_ble_eq_true rfl⟩) (hty.le hg1) rfl rfl (Nat.le_of_ble_eq_true rfl) dL_types_71 ⟨(by (try dsimp only [rD]); omega), (by (try dsimp only [rD]); omega)⟩) (fun r u H locs hp hnz w => ?_)
        obtain ⟨rfl, rfl⟩ := hp
        try dsimp only at w
        rw [hc0]
        refine lv_aload hx hb dL_types_74 (lv_at hl 0 rfl) ?_
        refine g_calli w (g_runT (As := []) (rest := [.int c9, .ref (x.f .ho)]) S hE w hl (j_isEmpty l D ar κ u1.1 u1.2 a1 v1 d ht1 (by omega)) (k_RL_167 S.2.2.2.2  ⟨Nat.le_of_ble_eq_true rfl, Nat.le_of_ble_eq_true rfl⟩) ht1 rfl rfl (Nat.le_of_ble_eq_true rfl) dL_types_76 ⟨(by (try dsimp only [rD]); omega), (by (try dsimp only [rD]); omega)⟩) (fun r u H locs hp hnz w => ?_)
        obtain ⟨rfl, rfl⟩ := hp
        try dsimp only at w
        rw [if_neg (by have := okD_len hd; omega)]
        refine lv_if_eq (tgt := 86) hx hb dL_types_79 (by decide) (fun _ => ?_) (fun c => absurd (by decide) c)
        refine lv_aload hx hb dL_types_86 (lv_at hl 0 rfl) ?_
        refine g_calli w (g_runS (As := [.ref a1]) (rest := [.int c9, .ref (x.f .ho)]) S hE w hl (j_parseInt l D ar κ u1.1 u1.2 a1 v1 d ht1 hd) (k_RL_170 S.2.2.2.2 ⟨Nat.le_of_ble_eq_true rfl, Nat.le_of_ble_eq_true rfl⟩) rfl rfl (Nat.le_of_ble_eq_true rfl) dL_types_88 ⟨(by (try dsimp only [rD]); omega), (by (try dsimp only [rD]); omega)⟩) (fun r u H locs hp hnz w => ?_)
        obtain ⟨rfl, rfl⟩ := hp
        try dsimp only at w
        refine lv_iload hx hb dL_types_91 (lv_at hl 1 rfl) ?_
        refine lv_if_ge (tgt := 100) hx hb dL_types_93 (by decide) (fun _ => ?_) (fun c_93_2 => absurd c_45_2 c_93_2)
        refine lv_aload hx hb dL_types_100 (lv_at hl 2 rfl) ?_
        refine lv_iload hx hb dL_types_102 (lv_at hl 1 rfl) ?_
        refine lv_iconst (v := 1) hx hb dL_types_104 (by decide) ?_
        refine lv_iadd hx hb dL_types_105 ?_
        rw [show ((nI (d.length + 1)) + 1 : Int32) = nI (d.length + 1 + 1) from nI_1 _]
        refine g_callq w (g_runT (As := [.int (nI (d.length + 1 + 1))]) (rest := [.int (pI d), .int c9, .ref (x.f .ho)]) S hE w hl (j_substring1 l D ar κ u1.1 u1.2 y yv bt (d.length + 1 + 1) (hty.le hg1) htk (by omega) (by omega)) (k_RL_157 S.2.2.2.2  ⟨Nat.le_of_ble_eq_true rfl, Nat.le_of_ble_eq_true rfl⟩) (hty.le hg1) rfl rfl (Nat.le_of_ble_eq_true rfl) dL_types_106 ⟨(by (try dsimp only [rD]); omega), (by (try dsimp only [rD]); omega)⟩) (fun r u H locs hp hnz w => ?_)
        obtain ⟨a2, v2, rfl, ht2, hg2⟩ := hp
        obtain ⟨u2, hU2⟩ : ∃ U9, U9 = u := ⟨_, rfl⟩
        rw [← hU2] at w hnz ht2 hg2
        try dsimp only at w
        rw [tk_cut2 hbt] at ht2
        refine g_calli w (g_runS (As := [.ref a2]) (rest := [.int (pI d), .int c9, .ref (x.f .ho)]) S hE w hl (j_parseInt l D ar κ u2.1 u2.2 a2 v2 f9 ht2 hf) (k_RL_170 S.2.2.2.2 ⟨Nat.le_of_ble_eq_true rfl, Nat.le_of_ble_eq_true rfl⟩) rfl rfl (Nat.le_of_ble_eq_true rfl) dL_types_109 ⟨(by (try dsimp only [rD]); omega), (by (try dsimp only [rD]); omega)⟩) (fun r u H locs hp hnz w => ?_)
        obtain ⟨rfl, rfl⟩ := hp
        try dsimp only at w
        have w := g_eqw w (ov_ge (hg1.t hg2))
        refine g_calll w (g_runSW (As := [.ref (x.f .ho), .int c9, .int (pI d), .int (pI f9)]) (rest := []) S hE w hl (hL_row l D ar κ u2.1 x Zi u2.2 c9 (pI d) (pI f9) hk hlt) (kW_176 S.2.2.2.2 ⟨Nat.le_of_ble_eq_true rfl, Nat.le_of_ble_eq_true rfl⟩) rfl rfl (Nat.le_of_ble_eq_true rfl) dL_types_112 ⟨(by (try dsimp only [rD]); omega), (by (try dsimp only [rD]); omega)⟩) (fun r u H locs hp hnz w => ?_)
        obtain ⟨T9, e9, hu9, hk9, sq9⟩ := hp
        obtain ⟨v9, m9⟩ := u
        dsimp only at hu9 w hnz
        subst hu9
        refine lv_pop2_2 hx hb dL_types_115 rfl ?_
        refine lv_iinc (v := (nI dn.length) + 1) (lv' := [(5, .int ((nI dn.length) + 1)), (8, .ref a1), (7, .int (nI (d.length + 1))), (6, .ref y), (4, .int (nI T.length)), (3, .ref q), (0, .ref (x.f .ho))]) hx hb dL_types_116 hl (k := 3) rfl rfl (by decide) rfl (fun ls hl => ?_)
        rw [nI_1 _] at hl
        refine lv_goto (tgt := 21) hx hb dL_types_119 (by decide) ?_
        have hzz : tyR Zi (c9, d, some f9) = T9 := (tyR_1 hd).trans (congrArg Prod.snd e9)
        refine W.widen (k := 50 + 5 * (dn ++ [(c9, d, some f9)]).length) (n := 2000 + 214 * (dn ++ [(c9, d, some f9)]).length) (by rw [hdl9]; omega) (by rw [hdl9]; omega) ?_
        exact ih (dn ++ [(c9, d, some f9)]) ((hnx r7).trans hdn) T9 (by rw [← hzz]; exact hZ) hk9 u2.1 m9 (by omega) ((hg1.t hg2) _ _ (ov_o hxq hq)) (hgG.t (gLv.o (hg1.t hg2))) (fun j hj => (hel j hj).elim fun y z => z.elim fun yv z => ⟨y, yv, z.1, tx_on hrr z.2 (hg1.t hg2)⟩) _ (by rw [hdl9]) _ _ _ w (lv_sub hl [0, 4, 5, 6] rfl)
  have hJ := jn_tk T hT
  have hA : Asc bs := by rw [hbs]; exact hJ.2
  refine lv_aload_n hx hb dL_types_0 rfl (lv_at hl 0 rfl) ?_
  refine g_calll w (g_runS (As := [.ref (x.f .ho)]) (rest := []) S hE w hl (hL_wipe l D ar κ G x Z sz hk) (k_RL_143 S.2.2.2.2 ⟨Nat.le_of_ble_eq_true rfl, Nat.le_of_ble_eq_true rfl⟩) rfl rfl (Nat.le_of_ble_eq_true rfl) dL_types_1 ⟨Nat.le_of_ble_eq_true rfl, Nat.le_of_ble_eq_true rfl⟩) (fun r u H locs hp hnz w => ?_)
  obtain ⟨T9, e9, hu9, hk9, sq9⟩ := hp
  subst hu9
  try dsimp only at w
  have ht9 : TX ar κ (ov κ ar x T9 G) a v bs := tx_ov hrr ht
  refine lv_pop2_2 hx hb dL_types_4 rfl ?_
  refine lv_aload_n hx hb dL_types_5 rfl (lv_at hl 1 rfl) ?_
  have hq2 := (hE.2.2.2.2.2.2.1 lwT_2 lwT_m2).1
  refine va_ldcS hx hb (own := RL) S.2.2.2.1 hq2 dL_types_6 ?_
  show W p l e _ s m _ below meth c _ _ _ _ _ (F0 m 8 ls [.ref (κ 24), .ref a])
  refine g_callq w (g_runT (As := [.ref (κ 24)]) (rest := []) S hE w hl (j_split1 l D ar κ (ov κ ar x T9 G) sz a (κ 24) v bs (κ 25) (T.map tkB) ht9 (TX.lit lwT_m2) hA hbs (by rw [List.length_map]; exact hT2) (by rw [List.length_map]; exact hT15) hJ.1 hbl) (k_RL_148 S.2.2.2.2  ⟨Nat.le_of_ble_eq_true rfl, Nat.le_of_ble_eq_true rfl⟩) ht9 rfl rfl (Nat.le_of_ble_eq_true rfl) dL_types_8 ⟨Nat.le_of_ble_eq_true rfl, Nat.le_of_ble_eq_true rfl⟩) (fun r u H locs hp hnz w => ?_)
  obtain ⟨q1, g1, rfl, hq1, hc1, hg1, hel1⟩ := hp
  obtain ⟨U1, hU1⟩ : ∃ U1, U1 = u := ⟨_, rfl⟩
  rw [← hU1] at w hnz hc1 hg1 hel1
  have w := g_eqw w (ov_ge hg1)
  rw [List.length_map] at hc1 hel1
  try dsimp only at w
  refine lv_astore_n (lv' := [(2, .ref q1), (0, .ref (x.f .ho)), (1, .ref a)]) hx hb dL_types_11 rfl hl (by decide) rfl (fun ls hl => ?_)
  refine lv_aload_n hx hb dL_types_12 rfl (lv_at hl 0 rfl) ?_
  refine lv_astore_n (lv' := [(3, .ref q1), (2, .ref q1), (0, .ref (x.f .ho)), (1, .ref a)]) hx hb dL_types_13 rfl hl (by decide) rfl (fun ls hl => ?_)
  refine lv_aload_n hx hb dL_types_14 rfl (lv_at hl 0 rfl) ?_
  refine va_alen (v := nI T.length) hx hb hE.1 (g_1 w.1 (ov_o (hxq0 q1 hq1) hc1)) 0 9 rfl rfl rfl dL_types_15 ?_
  refine lv_istore (lv' := [(4, .int (nI T.length)), (3, .ref q1), (2, .ref q1), (0, .ref (x.f .ho)), (1, .ref a)]) hx hb dL_types_16 hl (by decide) rfl (fun ls hl => ?_)
  refine lv_iconst (v := 0) hx hb dL_types_18 (by decide) ?_
  refine lv_istore (lv' := [(5, .int 0), (4, .int (nI T.length)), (3, .ref q1), (2, .ref q1), (0, .ref (x.f .ho)), (1, .ref a)]) hx hb dL_types_19 hl (by decide) rfl (fun ls hl => ?_)
  refine W.widen (k := 50 + 5 * ([] : List Tk).length) (n := 2000 + 214 * ([] : List Tk).length) (Nat.le_of_ble_eq_true rfl) (Nat.le_of_ble_eq_true rfl) ?_
  exact key q1 g1 (hxq0 q1 hq1) T [] rfl T9 (by show T.foldl tyR T9 = T.foldl tyR (sL_wipe Z).2; rw [e9]) hk9 U1.1 U1.2 hnz hc1 (gLv.o hg1) (fun j hj => (hel1 j hj).elim fun y z => z.elim fun yv z => ⟨y, yv, z.1, tx_eq (ov_ge hg1) z.2⟩) _ rfl _ _ _ w (lv_sub hl [0, 1, 2, 4] rfl)
set_option maxHeartbeats 4000000 in
set_option maxRecDepth 100000 in
theorem hL_tells (l : Launch) (D : va_G) (ar : Nat → ClassId) (κ : Nat → Nat) (G : gW) (x : Xo) (Z : Ho) (sz : Nat) (i0 j0 n0 t0 : Int32) (a v : Nat) (bs : List Int32) (T : List Tk) (hk : OK x Z) (hlt : l.stackTraces = false) (ht : TX ar κ (ov κ ar x Z G) a v bs) (hbs : bs = jn (T.map tkB)) (hT2 : 2 ≤ T.length) (hT15 : T.length ≤ 15) (hT : ∀ t ∈ T, tkG t) (hbl : bs.length ≤ 100) : Met l yL_tells (lwC yL_tells cL_tells 6 (some .long)) (rD 15 140 5560) (g_Pc D vwCl (gT ar) (EX1 κ) (ov κ ar x Z G) sz [.ref (x.f .ho), .int i0, .int j0, .int n0, .int t0, .ref a]) (g_Ql D vwCl (g_A (ov κ ar x Z G) sz) (fun r u => ∃ (y9 : Xo) (T9 : Ho) (G9 : gW), sL_method (tyS Z T) i0 j0 n0 t0 = (r, T9) ∧ u.1 = ov κ ar y9 T9 G9 ∧ OK y9 T9 ∧ BY x y9 sz ∧ gLv x G G9)) 140 5560 (g_A (ov κ ar x Z G) sz) := by
  refine g_ofW (by decide +kernel) (Nat.le_of_ble_eq_true rfl) ?_
  intro p e s m below meth c ls S hr hlk hin hE w hl
  have hx := S.1
  have hb := S.2.1
  have hl : lv_has ls 6 [(0, .ref (x.f .ho)), (1, .int i0), (2, .int j0), (3, .int n0), (4, .int t0), (5, .ref a)] := hl
  refine lv_aload_n hx hb dL_tells_0 rfl (lv_at hl 0 rfl) ?_
  refine lv_aload hx hb dL_tells_1 (lv_at hl 5 rfl) ?_
  refine g_callv w (g_runS (As := [.ref (x.f .ho), .ref a]) (rest := []) S hE w hl (hL_types l D ar κ G x Z sz a v bs T hk hlt ht hbs hT2 hT15 hT hbl) (k_RL_179 S.2.2.2.2 ⟨Nat.le_of_ble_eq_true rfl, Nat.le_of_ble_eq_true rfl⟩) rfl rfl (Nat.le_of_ble_eq_true rfl) dL_tells_3 ⟨Nat.le_of_ble_eq_true rfl, Nat.le_of_ble_eq_true rfl⟩) (fun u H locs hp hnz w => ?_)
  obtain ⟨G9, hu9, hg9, hk9⟩ := hp
  obtain ⟨v9, m9⟩ := u
  dsimp only at hu9 w hnz
  subst hu9
  have hnz9 := hnz
  refine lv_aload_n hx hb dL_tells_6 rfl (lv_at hl 0 rfl) ?_
  refine lv_iload_n hx hb dL_tells_7 rfl (lv_at hl 1 rfl) ?_
  refine lv_iload_n hx hb dL_tells_8 rfl (lv_at hl 2 rfl) ?_
  refine lv_iload_n hx hb dL_tells_9 rfl (lv_at hl 3 rfl) ?_
  refine lv_iload hx hb dL_tells_10 (lv_at hl 4 rfl) ?_
  refine g_calll w (g_runSW (As := [.ref (x.f .ho), .int i0, .int j0, .int n0, .int t0]) (rest := []) S hE w hl (hL_method l D ar κ G9 x (tyS Z T) m9 i0 j0 n0 t0 hk9 hlt) (kW_183 S.2.2.2.2 ⟨Nat.le_of_ble_eq_true rfl, Nat.le_of_ble_eq_true rfl⟩) rfl rfl (Nat.le_of_ble_eq_true rfl) dL_tells_12 ⟨Nat.le_of_ble_eq_true rfl, Nat.le_of_ble_eq_true rfl⟩) (fun r u H locs hp hnz w => ?_)
  obtain ⟨y9, T9, e9, hu8, hk8, by8⟩ := hp
  obtain ⟨v8, m8⟩ := u
  dsimp only at hu8 w hnz
  subst hu8
  exact g_lret hx hb hr hlk w (Nat.le_of_ble_eq_true rfl) (Nat.le_of_ble_eq_true rfl) dL_tells_15 ⟨y9, T9, G9, e9, rfl, hk8, BY.tr BY.r by8 hnz9, hg9⟩
