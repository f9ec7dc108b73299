theorem dJx4a65c_subList_8a2a7_0 : decode cJx4a65c_subList_8a2a7 0 = .ok (.iload_n 1, 1) := by decide +kernel
theorem dJx4a65c_subList_8a2a7_1 : decode cJx4a65c_subList_8a2a7 1 = .ok (.iload_n 2, 1) := by decide +kernel
theorem dJx4a65c_subList_8a2a7_2 : decode cJx4a65c_subList_8a2a7 2 = .ok (.aload_n 0, 1) := by decide +kernel
theorem dJx4a65c_subList_8a2a7_3 : decode cJx4a65c_subList_8a2a7 3 = .ok (.getfield 48, 3) := by decide +kernel
theorem dJx4a65c_subList_8a2a7_6 : decode cJx4a65c_subList_8a2a7 6 = .ok (.invokestatic 272, 3) := by decide +kernel
theorem dJx4a65c_subList_8a2a7_9 : decode cJx4a65c_subList_8a2a7 9 = .ok (.new 276, 3) := by decide +kernel
theorem dJx4a65c_subList_8a2a7_12 : decode cJx4a65c_subList_8a2a7 12 = .ok (.dup, 1) := by decide +kernel
theorem dJx4a65c_subList_8a2a7_13 : decode cJx4a65c_subList_8a2a7 13 = .ok (.aload_n 0, 1) := by decide +kernel
theorem dJx4a65c_subList_8a2a7_14 : decode cJx4a65c_subList_8a2a7 14 = .ok (.iload_n 1, 1) := by decide +kernel
theorem dJx4a65c_subList_8a2a7_15 : decode cJx4a65c_subList_8a2a7 15 = .ok (.iload_n 2, 1) := by decide +kernel
theorem dJx4a65c_subList_8a2a7_16 : decode cJx4a65c_subList_8a2a7 16 = .ok (.invokespecial 278, 3) := by decide +kernel
theorem dJx4a65c_subList_8a2a7_19 : decode cJx4a65c_subList_8a2a7 19 = .ok (.areturn, 1) := by decide +kernel
theorem dJ0_split_f8566_0 : decode cJ0_split_f8566 0 = .ok (.iconst 0, 1) := by decide +kernel
theorem dJ0_split_f8566_1 : decode cJ0_split_f8566 1 = .ok (.istore 4, 2) := by decide +kernel
theorem dJ0_split_f8566_3 : decode cJ0_split_f8566 3 = .ok (.iconst 0, 1) := by decide +kernel
theorem dJ0_split_f8566_4 : decode cJ0_split_f8566 4 = .ok (.istore 5, 2) := by decide +kernel
theorem dJ0_split_f8566_6 : decode cJ0_split_f8566 6 = .ok (.iload_n 2, 1) := by decide +kernel
theorem dJ0_split_f8566_7 : decode cJ0_split_f8566 7 = .ok (.ifCond .le 7, 3) := by decide +kernel
theorem dJ0_split_f8566_10 : decode cJ0_split_f8566 10 = .ok (.iconst 1, 1) := by decide +kernel
theorem dJ0_split_f8566_11 : decode cJ0_split_f8566 11 = .ok (.goto 4, 3) := by decide +kernel
theorem dJ0_split_f8566_14 : decode cJ0_split_f8566 14 = .ok (.iconst 0, 1) := by decide +kernel
theorem dJ0_split_f8566_15 : decode cJ0_split_f8566 15 = .ok (.istore 7, 2) := by decide +kernel
theorem dJ0_split_f8566_17 : decode cJ0_split_f8566 17 = .ok (.new 777, 3) := by decide +kernel
theorem dJ0_split_f8566_20 : decode cJ0_split_f8566 20 = .ok (.dup, 1) := by decide +kernel
theorem dJ0_split_f8566_21 : decode cJ0_split_f8566 21 = .ok (.invokespecial 779, 3) := by decide +kernel
theorem dJ0_split_f8566_24 : decode cJ0_split_f8566 24 = .ok (.astore 8, 2) := by decide +kernel
theorem dJ0_split_f8566_26 : decode cJ0_split_f8566 26 = .ok (.iload_n 3, 1) := by decide +kernel
theorem dJ0_split_f8566_27 : decode cJ0_split_f8566 27 = .ok (.ifCond .eq 10, 3) := by decide +kernel
theorem dJ0_split_f8566_30 : decode cJ0_split_f8566 30 = .ok (.iload_n 1, 1) := by decide +kernel
theorem dJ0_split_f8566_31 : decode cJ0_split_f8566 31 = .ok (.invokestatic 780, 3) := by decide +kernel
theorem dJ0_split_f8566_34 : decode cJ0_split_f8566 34 = .ok (.goto 4, 3) := by decide +kernel
theorem dJ0_split_f8566_37 : decode cJ0_split_f8566 37 = .ok (.aconst_null, 1) := by decide +kernel
theorem dJ0_split_f8566_38 : decode cJ0_split_f8566 38 = .ok (.astore 9, 2) := by decide +kernel
theorem dJ0_split_f8566_40 : decode cJ0_split_f8566 40 = .ok (.aload_n 0, 1) := by decide +kernel
theorem dJ0_split_f8566_41 : decode cJ0_split_f8566 41 = .ok (.iload_n 1, 1) := by decide +kernel
theorem dJ0_split_f8566_42 : decode cJ0_split_f8566 42 = .ok (.iload 5, 2) := by decide +kernel
theorem dJ0_split_f8566_44 : decode cJ0_split_f8566 44 = .ok (.invokevirtual 633, 3) := by decide +kernel
theorem dJ0_split_f8566_47 : decode cJ0_split_f8566 47 = .ok (.dup, 1) := by decide +kernel
theorem dJ0_split_f8566_48 : decode cJ0_split_f8566 48 = .ok (.istore 6, 2) := by decide +kernel
theorem dJ0_split_f8566_50 : decode cJ0_split_f8566 50 = .ok (.iconst (-1), 1) := by decide +kernel
theorem dJ0_split_f8566_51 : decode cJ0_split_f8566 51 = .ok (.if_icmp .eq 84, 3) := by decide +kernel
theorem dJ0_split_f8566_54 : decode cJ0_split_f8566 54 = .ok (.iload 7, 2) := by decide +kernel
theorem dJ0_split_f8566_56 : decode cJ0_split_f8566 56 = .ok (.ifCond .eq 11, 3) := by decide +kernel
theorem dJ0_split_f8566_59 : decode cJ0_split_f8566 59 = .ok (.iload 4, 2) := by decide +kernel
theorem dJ0_split_f8566_61 : decode cJ0_split_f8566 61 = .ok (.iload_n 2, 1) := by decide +kernel
theorem dJ0_split_f8566_62 : decode cJ0_split_f8566 62 = .ok (.iconst 1, 1) := by decide +kernel
theorem dJ0_split_f8566_63 : decode cJ0_split_f8566 63 = .ok (.isub, 1) := by decide +kernel
theorem dJ0_split_f8566_64 : decode cJ0_split_f8566 64 = .ok (.if_icmp .ge 41, 3) := by decide +kernel
theorem dJ0_split_f8566_67 : decode cJ0_split_f8566 67 = .ok (.aload 8, 2) := by decide +kernel
theorem dJ0_split_f8566_69 : decode cJ0_split_f8566 69 = .ok (.aload_n 0, 1) := by decide +kernel
theorem dJ0_split_f8566_70 : decode cJ0_split_f8566 70 = .ok (.iload 5, 2) := by decide +kernel
theorem dJ0_split_f8566_72 : decode cJ0_split_f8566 72 = .ok (.iload 6, 2) := by decide +kernel
theorem dJ0_split_f8566_74 : decode cJ0_split_f8566 74 = .ok (.invokevirtual 681, 3) := by decide +kernel
theorem dJ0_split_f8566_77 : decode cJ0_split_f8566 77 = .ok (.invokevirtual 784, 3) := by decide +kernel
theorem dJ0_split_f8566_80 : decode cJ0_split_f8566 80 = .ok (.pop, 1) := by decide +kernel
theorem dJ0_split_f8566_81 : decode cJ0_split_f8566 81 = .ok (.iload_n 3, 1) := by decide +kernel
theorem dJ0_split_f8566_82 : decode cJ0_split_f8566 82 = .ok (.ifCond .eq 11, 3) := by decide +kernel
theorem dJ0_split_f8566_85 : decode cJ0_split_f8566 85 = .ok (.aload 8, 2) := by decide +kernel
theorem dJ0_split_f8566_87 : decode cJ0_split_f8566 87 = .ok (.aload 9, 2) := by decide +kernel
theorem dJ0_split_f8566_89 : decode cJ0_split_f8566 89 = .ok (.invokevirtual 784, 3) := by decide +kernel
theorem dJ0_split_f8566_92 : decode cJ0_split_f8566 92 = .ok (.pop, 1) := by decide +kernel
theorem dJ0_split_f8566_93 : decode cJ0_split_f8566 93 = .ok (.iload 6, 2) := by decide +kernel
theorem dJ0_split_f8566_95 : decode cJ0_split_f8566 95 = .ok (.iconst 1, 1) := by decide +kernel
theorem dJ0_split_f8566_96 : decode cJ0_split_f8566 96 = .ok (.iadd, 1) := by decide +kernel
theorem dJ0_split_f8566_97 : decode cJ0_split_f8566 97 = .ok (.istore 5, 2) := by decide +kernel
theorem dJ0_split_f8566_99 : decode cJ0_split_f8566 99 = .ok (.iinc 4 1, 3) := by decide +kernel
theorem dJ0_split_f8566_102 : decode cJ0_split_f8566 102 = .ok (.goto (-62), 3) := by decide +kernel
theorem dJ0_split_f8566_105 : decode cJ0_split_f8566 105 = .ok (.aload_n 0, 1) := by decide +kernel
theorem dJ0_split_f8566_106 : decode cJ0_split_f8566 106 = .ok (.invokevirtual 505, 3) := by decide +kernel
theorem dJ0_split_f8566_109 : decode cJ0_split_f8566 109 = .ok (.istore 10, 2) := by decide +kernel
theorem dJ0_split_f8566_111 : decode cJ0_split_f8566 111 = .ok (.aload 8, 2) := by decide +kernel
theorem dJ0_split_f8566_113 : decode cJ0_split_f8566 113 = .ok (.aload_n 0, 1) := by decide +kernel
theorem dJ0_split_f8566_114 : decode cJ0_split_f8566 114 = .ok (.iload 5, 2) := by decide +kernel
theorem dJ0_split_f8566_116 : decode cJ0_split_f8566 116 = .ok (.iload 10, 2) := by decide +kernel
theorem dJ0_split_f8566_118 : decode cJ0_split_f8566 118 = .ok (.invokevirtual 681, 3) := by decide +kernel
theorem dJ0_split_f8566_121 : decode cJ0_split_f8566 121 = .ok (.invokevirtual 784, 3) := by decide +kernel
theorem dJ0_split_f8566_124 : decode cJ0_split_f8566 124 = .ok (.pop, 1) := by decide +kernel
theorem dJ0_split_f8566_125 : decode cJ0_split_f8566 125 = .ok (.iload 10, 2) := by decide +kernel
theorem dJ0_split_f8566_127 : decode cJ0_split_f8566 127 = .ok (.istore 5, 2) := by decide +kernel
theorem dJ0_split_f8566_129 : decode cJ0_split_f8566 129 = .ok (.iinc 4 1, 3) := by decide +kernel
theorem dJ0_split_f8566_132 : decode cJ0_split_f8566 132 = .ok (.goto 3, 3) := by decide +kernel
theorem dJ0_split_f8566_135 : decode cJ0_split_f8566 135 = .ok (.iload 5, 2) := by decide +kernel
theorem dJ0_split_f8566_137 : decode cJ0_split_f8566 137 = .ok (.ifCond .ne 12, 3) := by decide +kernel
theorem dJ0_split_f8566_140 : decode cJ0_split_f8566 140 = .ok (.iconst 1, 1) := by decide +kernel
theorem dJ0_split_f8566_141 : decode cJ0_split_f8566 141 = .ok (.anewarray 10, 3) := by decide +kernel
theorem dJ0_split_f8566_144 : decode cJ0_split_f8566 144 = .ok (.dup, 1) := by decide +kernel
theorem dJ0_split_f8566_145 : decode cJ0_split_f8566 145 = .ok (.iconst 0, 1) := by decide +kernel
theorem dJ0_split_f8566_146 : decode cJ0_split_f8566 146 = .ok (.aload_n 0, 1) := by decide +kernel
theorem dJ0_split_f8566_147 : decode cJ0_split_f8566 147 = .ok (.aastore, 1) := by decide +kernel
theorem dJ0_split_f8566_148 : decode cJ0_split_f8566 148 = .ok (.areturn, 1) := by decide +kernel
theorem dJ0_split_f8566_149 : decode cJ0_split_f8566 149 = .ok (.iload 7, 2) := by decide +kernel
theorem dJ0_split_f8566_151 : decode cJ0_split_f8566 151 = .ok (.ifCond .eq 9, 3) := by decide +kernel
theorem dJ0_split_f8566_154 : decode cJ0_split_f8566 154 = .ok (.iload 4, 2) := by decide +kernel
theorem dJ0_split_f8566_156 : decode cJ0_split_f8566 156 = .ok (.iload_n 2, 1) := by decide +kernel
theorem dJ0_split_f8566_157 : decode cJ0_split_f8566 157 = .ok (.if_icmp .ge 19, 3) := by decide +kernel
theorem dJ0_split_f8566_160 : decode cJ0_split_f8566 160 = .ok (.aload 8, 2) := by decide +kernel
theorem dJ0_split_f8566_162 : decode cJ0_split_f8566 162 = .ok (.aload_n 0, 1) := by decide +kernel
theorem dJ0_split_f8566_163 : decode cJ0_split_f8566 163 = .ok (.iload 5, 2) := by decide +kernel
theorem dJ0_split_f8566_165 : decode cJ0_split_f8566 165 = .ok (.aload_n 0, 1) := by decide +kernel
theorem dJ0_split_f8566_166 : decode cJ0_split_f8566 166 = .ok (.invokevirtual 505, 3) := by decide +kernel
theorem dJ0_split_f8566_169 : decode cJ0_split_f8566 169 = .ok (.invokevirtual 681, 3) := by decide +kernel
theorem dJ0_split_f8566_172 : decode cJ0_split_f8566 172 = .ok (.invokevirtual 784, 3) := by decide +kernel
theorem dJ0_split_f8566_175 : decode cJ0_split_f8566 175 = .ok (.pop, 1) := by decide +kernel
theorem dJ0_split_f8566_176 : decode cJ0_split_f8566 176 = .ok (.aload 8, 2) := by decide +kernel
theorem dJ0_split_f8566_178 : decode cJ0_split_f8566 178 = .ok (.invokevirtual 787, 3) := by decide +kernel
theorem dJ0_split_f8566_181 : decode cJ0_split_f8566 181 = .ok (.istore 10, 2) := by decide +kernel
theorem dJ0_split_f8566_183 : decode cJ0_split_f8566 183 = .ok (.iload_n 2, 1) := by decide +kernel
theorem dJ0_split_f8566_184 : decode cJ0_split_f8566 184 = .ok (.ifCond .ne 32, 3) := by decide +kernel
theorem dJ0_split_f8566_187 : decode cJ0_split_f8566 187 = .ok (.iload 10, 2) := by decide +kernel
theorem dJ0_split_f8566_189 : decode cJ0_split_f8566 189 = .ok (.ifCond .le 27, 3) := by decide +kernel
theorem dJ0_split_f8566_192 : decode cJ0_split_f8566 192 = .ok (.aload 8, 2) := by decide +kernel
theorem dJ0_split_f8566_194 : decode cJ0_split_f8566 194 = .ok (.iload 10, 2) := by decide +kernel
theorem dJ0_split_f8566_196 : decode cJ0_split_f8566 196 = .ok (.iconst 1, 1) := by decide +kernel
theorem dJ0_split_f8566_197 : decode cJ0_split_f8566 197 = .ok (.isub, 1) := by decide +kernel
theorem dJ0_split_f8566_198 : decode cJ0_split_f8566 198 = .ok (.invokevirtual 790, 3) := by decide +kernel
theorem dJ0_split_f8566_201 : decode cJ0_split_f8566 201 = .ok (.checkcast 10, 3) := by decide +kernel
theorem dJ0_split_f8566_204 : decode cJ0_split_f8566 204 = .ok (.invokevirtual 690, 3) := by decide +kernel
theorem dJ0_split_f8566_207 : decode cJ0_split_f8566 207 = .ok (.ifCond .eq 9, 3) := by decide +kernel
theorem dJ0_split_f8566_210 : decode cJ0_split_f8566 210 = .ok (.iinc 10 (-1), 3) := by decide +kernel
theorem dJ0_split_f8566_213 : decode cJ0_split_f8566 213 = .ok (.goto (-26), 3) := by decide +kernel
theorem dJ0_split_f8566_216 : decode cJ0_split_f8566 216 = .ok (.iload 10, 2) := by decide +kernel
theorem dJ0_split_f8566_218 : decode cJ0_split_f8566 218 = .ok (.anewarray 10, 3) := by decide +kernel
theorem dJ0_split_f8566_221 : decode cJ0_split_f8566 221 = .ok (.astore 11, 2) := by decide +kernel
theorem dJ0_split_f8566_223 : decode cJ0_split_f8566 223 = .ok (.aload 8, 2) := by decide +kernel
theorem dJ0_split_f8566_225 : decode cJ0_split_f8566 225 = .ok (.iconst 0, 1) := by decide +kernel
theorem dJ0_split_f8566_226 : decode cJ0_split_f8566 226 = .ok (.iload 10, 2) := by decide +kernel
theorem dJ0_split_f8566_228 : decode cJ0_split_f8566 228 = .ok (.invokevirtual 794, 3) := by decide +kernel
theorem dJ0_split_f8566_231 : decode cJ0_split_f8566 231 = .ok (.aload 11, 2) := by decide +kernel
theorem dJ0_split_f8566_233 : decode cJ0_split_f8566 233 = .ok (.invokeinterface 798 2, 5) := by decide +kernel
theorem dJ0_split_f8566_238 : decode cJ0_split_f8566 238 = .ok (.checkcast 804, 3) := by decide +kernel
theorem dJ0_split_f8566_241 : decode cJ0_split_f8566 241 = .ok (.areturn, 1) := by decide +kernel
section SITES
variable {p : Program} {l : Launch} {e : Env} {R : Room} {s : State} {m : MethodId} {args : Array Value} {below : List Frame} {meth : Method} {c : Code} {H : Heap} {locs : List Loc} {cells slots : Nat} {Q : State → Prop}
variable {pc : Nat} {ls : Array Slot} {rest : List Value} {D : va_G} {ar : Nat → ClassId} {κ : Nat → Nat} {A : Nat → Prop} {a : Nat} {H0 : Heap} {G : gW} {nz nL : Nat} {cc : ByteArray}
theorem m_6_47 : (Cond.code yJxc12de_subListRangeCheck_23922 cJxc12de_subListRangeCheck_23922 3 none) ∈ lwA := lwA_mk (ck_6 _ (List.mem_of_getElem? (i := 47) rfl)) rfl
theorem m_6_44 : (Cond.methodLink RJx4a65c 272 ⟨RJx4a65c, yJxc12de_subListRangeCheck_23922.name, yJxc12de_subListRangeCheck_23922.desc⟩) ∈ lwA := lwA_mk (ck_6 _ (List.mem_of_getElem? (i := 44) rfl)) rfl
theorem m_6_45 : (Cond.sameMethod RJx4a65c yJxc12de_subListRangeCheck_23922.cls yJxc12de_subListRangeCheck_23922.name yJxc12de_subListRangeCheck_23922.desc) ∈ lwA := lwA_mk (ck_6 _ (List.mem_of_getElem? (i := 45) rfl)) rfl
theorem m_6_46 : (Cond.static yJxc12de_subListRangeCheck_23922) ∈ lwA := lwA_mk (ck_6 _ (List.mem_of_getElem? (i := 46) rfl)) rfl
theorem kP_RJx4a65c_272 {args : Array Value} {s : State} {R rm : Room} (hts : ∀ w ∈ lwA, w.before args s = true) (hR : rm.frames + 1 ≤ R.frames ∧ 8 + (3 + 11) + rm.locals ≤ R.locals) : up_CS R s args RJx4a65c RJx4a65c 272 yJxc12de_subListRangeCheck_23922 cJxc12de_subListRangeCheck_23922 3 none (lwC yJxc12de_subListRangeCheck_23922 cJxc12de_subListRangeCheck_23922 3 none) rm rm.cells rm.slots 3 := up_cwS 3 hts (gdUp m_6_44 m_6_45 m_6_46 m_1_8 m_6_47) rfl rfl rfl (by decide +kernel) hR
theorem m_6_62 : (Cond.classLink RJx4a65c 276 RJxc9f04) ∈ lwA := lwA_mk (ck_6 _ (List.mem_of_getElem? (i := 62) rfl)) rfl
theorem m_6_63 : (Cond.instantiable RJxc9f04 5) ∈ lwA := lwA_mk (ck_6 _ (List.mem_of_getElem? (i := 63) rfl)) rfl
theorem nw_RJx4a65c_276 {A9 : Nat → Prop} {H9 : Heap} (S : CallFix p m c cc nL s args lwA RJx4a65c) (hE : g_E D vwCl (gT ar) (EX1 κ) A9 s H9) (w : g_S D vwCl A H0 G H locs nz) (hcells : cells + 1 ≤ R.cells) (hslots : slots + 5 ≤ R.slots) (hdg : decode cc pc = .ok (.new 276, 3)) (kk : ∀ (H1 : Heap), g_S D vwCl A H0 (g_up G nz (.inr (4, [.int 0, .null, .null, .int 0, .int 0]))) H1 locs (nz + 1) → W p l e R s m args below meth c H1 locs (cells + 1) (slots + 5) Q (F0 m (pc + 3) ls (.ref nz :: rest))) : W p l e R s m args below meth c H locs cells slots Q (F0 m pc ls rest) :=
  g_new (ci := 4) (fs := [.int 0, .null, .null, .int 0, .int 0]) (C := RJxc9f04) (T := TJxc9f04) (N := 5) S.1 S.2.1 S.2.2.2.2 inA_RJxc9f04 tyJxc9f04 tyJxc9f04_ok S.2.2.2.1 (S.2.2.2.2 _ m_6_62) (S.2.2.2.2 _ m_6_63) (S.2.2.2.2 _ m_1_32) hE.1 w rfl (fun j hj => by rcases (show j = 0 ∨ j = 1 ∨ j = 2 ∨ j = 3 ∨ j = 4 by omega) with rfl | rfl | rfl | rfl | rfl <;> rfl) hcells hslots hdg kk
theorem m_6_66 : (Cond.code yJxc9f04_init_1a8f5 cJxc9f04_init_1a8f5 4 none) ∈ lwA := lwA_mk (ck_6 _ (List.mem_of_getElem? (i := 66) rfl)) rfl
theorem m_6_64 : (Cond.methodLink RJx4a65c 278 yJxc9f04_init_1a8f5) ∈ lwA := lwA_mk (ck_6 _ (List.mem_of_getElem? (i := 64) rfl)) rfl
theorem m_6_65 : (Cond.instanceMethod yJxc9f04_init_1a8f5) ∈ lwA := lwA_mk (ck_6 _ (List.mem_of_getElem? (i := 65) rfl)) rfl
theorem k_RJx4a65c_278 {args : Array Value} {s : State} {R rm : Room} (hts : ∀ w ∈ lwA, w.before args s = true) (hR : rm.frames + 1 ≤ R.frames ∧ 8 + (4 + 11) + rm.locals ≤ R.locals) : CallB R s args RJx4a65c 278 yJxc9f04_init_1a8f5 cJxc9f04_init_1a8f5 4 none (lwC yJxc9f04_init_1a8f5 cJxc9f04_init_1a8f5 4 none) rm rm.cells rm.slots 3 ∧ yJxc9f04_init_1a8f5.name = "<init>" ∧ (Cond.instanceMethod yJxc9f04_init_1a8f5).before args s = true := cwI 3 hts (gd m_6_66) rfl rfl rfl (hts _ m_1_32) (hts _ m_6_64) (hts _ m_6_65) rfl (by decide +kernel) hR
theorem m_6_32 : (Cond.methodLink RJ0 784 yJx4a65c_add_9ea2d) ∈ lwA := lwA_mk (ck_6 _ (List.mem_of_getElem? (i := 32) rfl)) rfl
theorem k_RJ0_784 {args : Array Value} {s : State} {R rm : Room} (hts : ∀ w ∈ lwA, w.before args s = true) (hR : rm.frames + 1 ≤ R.frames ∧ 8 + (2 + 11) + rm.locals ≤ R.locals) : CallW R s args RJ0 RJx4a65c 784 yJx4a65c_add_9ea2d cJx4a65c_add_9ea2d 2 (some .boolean) (lwC yJx4a65c_add_9ea2d cJx4a65c_add_9ea2d 2 (some .boolean)) rm rm.cells rm.slots 1 := cwV 1 hts (gdV m_6_32 m_4_40 m_4_41 m_1_9 m_4_42) rfl rfl rfl (by decide +kernel) hR
theorem m_6_34 : (Cond.methodLink RJ0 787 yJx4a65c_size_8abf5) ∈ lwA := lwA_mk (ck_6 _ (List.mem_of_getElem? (i := 34) rfl)) rfl
theorem k_RJ0_787 {args : Array Value} {s : State} {R rm : Room} (hts : ∀ w ∈ lwA, w.before args s = true) (hR : rm.frames + 1 ≤ R.frames ∧ 8 + (1 + 11) + rm.locals ≤ R.locals) : CallW R s args RJ0 RJx4a65c 787 yJx4a65c_size_8abf5 cJx4a65c_size_8abf5 1 (some .int) (lwC yJx4a65c_size_8abf5 cJx4a65c_size_8abf5 1 (some .int)) rm rm.cells rm.slots 0 := cwV 0 hts (gdV m_6_34 m_4_25 m_4_26 m_1_9 m_4_27) rfl rfl rfl (by decide +kernel) hR
theorem m_6_35 : (Cond.methodLink RJ0 790 yJx4a65c_get_915e3) ∈ lwA := lwA_mk (ck_6 _ (List.mem_of_getElem? (i := 35) rfl)) rfl
theorem k_RJ0_790 {args : Array Value} {s : State} {R rm : Room} (hts : ∀ w ∈ lwA, w.before args s = true) (hR : rm.frames + 1 ≤ R.frames ∧ 8 + (2 + 11) + rm.locals ≤ R.locals) : CallW R s args RJ0 RJx4a65c 790 yJx4a65c_get_915e3 cJx4a65c_get_915e3 2 (some (.object "java/lang/Object")) (lwC yJx4a65c_get_915e3 cJx4a65c_get_915e3 2 (some (.object "java/lang/Object"))) rm rm.cells rm.slots 1 := cwV 1 hts (gdV m_6_35 m_4_113 m_4_114 m_1_9 m_4_115) rfl rfl rfl (by decide +kernel) hR
theorem m_6_1 : (Cond.classLink RJ0 10 "java/lang/String") ∈ lwA := lwA_mk (ck_6 _ (List.mem_of_getElem? (i := 1) rfl)) rfl
theorem m_6_39 : (Cond.code yJ0_isEmpty_aae02 cJ0_isEmpty_aae02 1 (some .boolean)) ∈ lwA := lwA_mk (ck_6 _ (List.mem_of_getElem? (i := 39) rfl)) rfl
theorem m_6_36 : (Cond.methodLink RJ0 690 yJ0_isEmpty_aae02) ∈ lwA := lwA_mk (ck_6 _ (List.mem_of_getElem? (i := 36) rfl)) rfl
theorem m_6_37 : (Cond.instanceMethod yJ0_isEmpty_aae02) ∈ lwA := lwA_mk (ck_6 _ (List.mem_of_getElem? (i := 37) rfl)) rfl
theorem m_6_38 : (Cond.selects RJ0 yJ0_isEmpty_aae02 yJ0_isEmpty_aae02) ∈ lwA := lwA_mk (ck_6 _ (List.mem_of_getElem? (i := 38) rfl)) rfl
theorem k_RJ0_690 {args : Array Value} {s : State} {R rm : Room} (hts : ∀ w ∈ lwA, w.before args s = true) (hR : rm.frames + 1 ≤ R.frames ∧ 8 + (1 + 11) + rm.locals ≤ R.locals) : CallW R s args RJ0 RJ0 690 yJ0_isEmpty_aae02 cJ0_isEmpty_aae02 1 (some .boolean) (lwC yJ0_isEmpty_aae02 cJ0_isEmpty_aae02 1 (some .boolean)) rm rm.cells rm.slots 0 := cwV 0 hts (gdV m_6_36 m_6_37 m_6_38 m_1_17 m_6_39) rfl rfl rfl (by decide +kernel) hR
theorem m_6_43 : (Cond.code yJx4a65c_subList_8a2a7 cJx4a65c_subList_8a2a7 3 (some (.object "java/util/List"))) ∈ lwA := lwA_mk (ck_6 _ (List.mem_of_getElem? (i := 43) rfl)) rfl
theorem m_6_40 : (Cond.methodLink RJ0 794 yJx4a65c_subList_8a2a7) ∈ lwA := lwA_mk (ck_6 _ (List.mem_of_getElem? (i := 40) rfl)) rfl
theorem m_6_41 : (Cond.instanceMethod yJx4a65c_subList_8a2a7) ∈ lwA := lwA_mk (ck_6 _ (List.mem_of_getElem? (i := 41) rfl)) rfl
theorem m_6_42 : (Cond.selects RJx4a65c yJx4a65c_subList_8a2a7 yJx4a65c_subList_8a2a7) ∈ lwA := lwA_mk (ck_6 _ (List.mem_of_getElem? (i := 42) rfl)) rfl
theorem k_RJ0_794 {args : Array Value} {s : State} {R rm : Room} (hts : ∀ w ∈ lwA, w.before args s = true) (hR : rm.frames + 1 ≤ R.frames ∧ 8 + (3 + 11) + rm.locals ≤ R.locals) : CallW R s args RJ0 RJx4a65c 794 yJx4a65c_subList_8a2a7 cJx4a65c_subList_8a2a7 3 (some (.object "java/util/List")) (lwC yJx4a65c_subList_8a2a7 cJx4a65c_subList_8a2a7 3 (some (.object "java/util/List"))) rm rm.cells rm.slots 2 := cwV 2 hts (gdV m_6_40 m_6_41 m_6_42 m_1_9 m_6_43) rfl rfl rfl (by decide +kernel) hR
theorem m_6_100 : (Cond.code yJxc9f04_toArray_0fdad cJxc9f04_toArray_0fdad 2 (some (.array (.object "java/lang/Object")))) ∈ lwA := lwA_mk (ck_6 _ (List.mem_of_getElem? (i := 100) rfl)) rfl
theorem m_6_83 : (Cond.methodLink RJ0 798 ⟨"java/util/List", "toArray", "([Ljava/lang/Object;)[Ljava/lang/Object;"⟩) ∈ lwA := lwA_mk (ck_6 _ (List.mem_of_getElem? (i := 83) rfl)) rfl
theorem m_6_98 : (Cond.instanceMethod yJxc9f04_toArray_0fdad) ∈ lwA := lwA_mk (ck_6 _ (List.mem_of_getElem? (i := 98) rfl)) rfl
theorem m_6_96 : (Cond.selects RJxc9f04 ⟨"java/util/List", "toArray", "([Ljava/lang/Object;)[Ljava/lang/Object;"⟩ yJxc9f04_toArray_0fdad) ∈ lwA := lwA_mk (ck_6 _ (List.mem_of_getElem? (i := 96) rfl)) rfl
theorem kF_RJ0_798_4 {args : Array Value} {s : State} {R rm : Room} (hts : ∀ w ∈ lwA, w.before args s = true) (hF : va_Fw RJxc9f04 ⟨"java/util/List", "toArray", "([Ljava/lang/Object;)[Ljava/lang/Object;"⟩ yJxc9f04_toArray_0fdad s) (hR : rm.frames + 1 ≤ R.frames ∧ 8 + (2 + 11) + rm.locals ≤ R.locals) : va_CI R s args RJ0 RJxc9f04 798 ⟨"java/util/List", "toArray", "([Ljava/lang/Object;)[Ljava/lang/Object;"⟩ yJxc9f04_toArray_0fdad cJxc9f04_toArray_0fdad 2 (some (.array (.object "java/lang/Object"))) (lwC yJxc9f04_toArray_0fdad cJxc9f04_toArray_0fdad 2 (some (.array (.object "java/lang/Object")))) rm rm.cells rm.slots 1 := va_cwF 1 hts (gdF m_6_83 m_6_96 m_6_98 m_1_32 m_6_100) rfl rfl rfl hF (by decide +kernel) hR
theorem m_6_110 : (Cond.classLink RJ0 804 "[Ljava/lang/String;") ∈ lwA := lwA_mk (ck_6 _ (List.mem_of_getElem? (i := 110) rfl)) rfl
theorem m_5_233 : (Cond.classLink RJ0 777 RJx4a65c) ∈ lwA := lwA_mk (ck_5 _ (List.mem_of_getElem? (i := 233) rfl)) rfl
theorem nw_RJ0_777 {A9 : Nat → Prop} {H9 : Heap} (S : CallFix p m c cc nL s args lwA RJ0) (hE : g_E D vwCl (gT ar) (EX1 κ) A9 s H9) (w : g_S D vwCl A H0 G H locs nz) (hcells : cells + 1 ≤ R.cells) (hslots : slots + 3 ≤ R.slots) (hdg : decode cc pc = .ok (.new 777, 3)) (kk : ∀ (H1 : Heap), g_S D vwCl A H0 (g_up G nz (.inr (5, [.int 0, .null, .int 0]))) H1 locs (nz + 1) → W p l e R s m args below meth c H1 locs (cells + 1) (slots + 3) Q (F0 m (pc + 3) ls (.ref nz :: rest))) : W p l e R s m args below meth c H locs cells slots Q (F0 m pc ls rest) :=
  g_new (ci := 5) (fs := [.int 0, .null, .int 0]) (C := RJx4a65c) (T := TJx4a65c) (N := 3) S.1 S.2.1 S.2.2.2.2 inA_RJx4a65c tyJx4a65c tyJx4a65c_ok S.2.2.2.1 (S.2.2.2.2 _ m_5_233) (S.2.2.2.2 _ m_1_165) (S.2.2.2.2 _ m_1_9) hE.1 w rfl (fun j hj => by rcases (show j = 0 ∨ j = 1 ∨ j = 2 by omega) with rfl | rfl | rfl <;> rfl) hcells hslots hdg kk
theorem m_5_234 : (Cond.methodLink RJ0 779 yJx4a65c_init_da8c8) ∈ lwA := lwA_mk (ck_5 _ (List.mem_of_getElem? (i := 234) rfl)) rfl
theorem k_RJ0_779 {args : Array Value} {s : State} {R rm : Room} (hts : ∀ w ∈ lwA, w.before args s = true) (hR : rm.frames + 1 ≤ R.frames ∧ 8 + (1 + 11) + rm.locals ≤ R.locals) : CallB R s args RJ0 779 yJx4a65c_init_da8c8 cJx4a65c_init_da8c8 1 none (lwC yJx4a65c_init_da8c8 cJx4a65c_init_da8c8 1 none) rm rm.cells rm.slots 0 ∧ yJx4a65c_init_da8c8.name = "<init>" ∧ (Cond.instanceMethod yJx4a65c_init_da8c8).before args s = true := cwI 0 hts (gd m_1_168) rfl rfl rfl (hts _ m_1_9) (hts _ m_5_234) (hts _ m_1_167) rfl (by decide +kernel) hR
end SITES
theorem va_nmS {s : State} {cA : ClassId} (h : va_RA s cA (.object "java/lang/String")) : s.vm.findClass "[Ljava/lang/String;" = some cA := by
  have e : "[" ++ (FieldType.object "java/lang/String").toString = "[Ljava/lang/String;" := by decide +kernel
  rw [← e]
  obtain ⟨kA, comp, h1, h2, h3, h4⟩ := h
  exact h4
set_option maxHeartbeats 4000000 in
set_option maxRecDepth 100000 in
theorem j_subList (l : Launch) (D : va_G) (ar : Nat → ClassId) (κ : Nat → Nat) (G : gW) (sz : Nat) (o : Nat) (mc : Int32) (ed : Nat) (n9 : Nat) (ho : G o = some (.inr (5, [.int mc, .ref ed, .int (nI n9)]))) (hn : n9 < 2 ^ 20) : Met l yJx4a65c_subList_8a2a7 (lwC yJx4a65c_subList_8a2a7 cJx4a65c_subList_8a2a7 3 (some (.object "java/util/List"))) (rD 5 1 5) (g_Pc D vwCl (gT ar) (EX1 κ) G sz [.ref o, .int 0, .int (nI n9)]) (g_Qq D vwCl (g_A G sz) (fun r u => r = some sz ∧ u = (g_up G sz (.inr (4, [.int mc, .ref o, .null, .int 0, .int (nI n9)])), sz + 1))) 1 5 (g_A G sz) := by
  refine g_ofW (by decide +kernel) (Nat.le_of_ble_eq_true rfl) ?_
  intro p e s m below meth c ls S hr hlk hin hE w hl
  have hx := S.1
  have hb := S.2.1
  have hl : lv_has ls 3 [(0, .ref o), (1, .int 0), (2, .int (nI n9))] := hl
  have hfr : ∀ q, sz ≤ q → G q = none := fun q z => g_free w z
  have lt_ho : o < sz := g_ltn w ho
  refine lv_iload_n hx hb dJx4a65c_subList_8a2a7_0 rfl (lv_at hl 1 rfl) ?_
  refine lv_iload_n hx hb dJx4a65c_subList_8a2a7_1 rfl (lv_at hl 2 rfl) ?_
  refine lv_aload_n hx hb dJx4a65c_subList_8a2a7_2 rfl (lv_at hl 0 rfl) ?_
  refine gf_RJx4a65c_48_5 S hE w ho rfl dJx4a65c_subList_8a2a7_3 ?_
  refine g_callv w (g_runSp (As := [.int 0, .int (nI n9), .int (nI n9)]) (rest := []) S hE w hl (j_slrc l D ar κ G sz n9 (by omega)) (kP_RJx4a65c_272 S.2.2.2.2 ⟨Nat.le_of_ble_eq_true rfl, Nat.le_of_ble_eq_true rfl⟩) rfl rfl (Nat.le_of_ble_eq_true rfl) dJx4a65c_subList_8a2a7_6 ⟨Nat.le_of_ble_eq_true rfl, Nat.le_of_ble_eq_true rfl⟩) (fun u H locs hp hnz w => ?_)
  obtain rfl := hp
  try dsimp only at w
  refine nw_RJx4a65c_276 S hE w (Nat.le_of_ble_eq_true rfl) (Nat.le_of_ble_eq_true rfl) dJx4a65c_subList_8a2a7_9 (fun H w => ?_)
  refine lv_dup hx hb dJx4a65c_subList_8a2a7_12 rfl ?_
  refine lv_aload_n hx hb dJx4a65c_subList_8a2a7_13 rfl (lv_at hl 0 rfl) ?_
  refine lv_iload_n hx hb dJx4a65c_subList_8a2a7_14 rfl (lv_at hl 1 rfl) ?_
  refine lv_iload_n hx hb dJx4a65c_subList_8a2a7_15 rfl (lv_at hl 2 rfl) ?_
  refine g_callv w (g_runI (As := [.ref o, .int 0, .int (nI n9)]) (rest := [.ref sz]) S hE w hl (j_slinit l D ar κ (g_up G sz (.inr (4, [.int 0, .null, .null, .int 0, .int 0]))) (sz + 1) sz o mc ed n9 g_up_s (g_up_o (by omega) ho)) (k_RJx4a65c_278 S.2.2.2.2 ⟨Nat.le_of_ble_eq_true rfl, Nat.le_of_ble_eq_true rfl⟩) rfl rfl (Nat.le_of_ble_eq_true rfl) dJx4a65c_subList_8a2a7_16 ⟨Nat.le_of_ble_eq_true rfl, Nat.le_of_ble_eq_true rfl⟩) (fun u H locs hp hnz w => ?_)
  obtain rfl := hp
  try dsimp only at w
  have w := g_eqw w g_over
  exact g_qret (r := (some sz)) hx hb hr (Or.inl ⟨_, rfl⟩) hlk w (Nat.le_of_ble_eq_true rfl) (Nat.le_of_ble_eq_true rfl) dJx4a65c_subList_8a2a7_19 ⟨rfl, rfl⟩
set_option maxHeartbeats 4000000 in
set_option maxRecDepth 100000 in
theorem j_splitC (l : Launch) (D : va_G) (ar : Nat → ClassId) (κ : Nat → Nat) (G : gW) (sz : Nat) (a v : Nat) (bs : List Int32) (L : List (List Int32)) (ht : TX ar κ G a v bs) (hA : Asc bs) (hbs : bs = jn L) (hL2 : 2 ≤ L.length) (hL15 : L.length ≤ 15) (htk : ∀ t ∈ L, tkO t) (hL : bs.length ≤ 100) : Met l yJ0_split_f8566 (lwC yJ0_split_f8566 cJ0_split_f8566 12 (some (.array (.object "java/lang/String")))) (rD 9 50 2000) (g_Pc D vwCl (gT ar) (EX1 κ) G sz [.ref a, .int 32, .int 0, .int 0]) (g_Qq D vwCl (g_A G sz) (fun r u => ∃ q g, r = some q ∧ sz ≤ q ∧ u.1 q = some (.inl (ar 9, L.length, .inr (.inr (.inr (.inr g))))) ∧ gLe G u.1 ∧ ∀ j, j < L.length → ∃ y yv, g j = some y ∧ TX ar κ u.1 y yv (L.getD j []))) 50 2000 (g_A G sz) := by
  refine g_ofW (by decide +kernel) (Nat.le_of_ble_eq_true rfl) ?_
  intro p e s m below meth c ls S hr hlk hin hE w hl
  have hx := S.1
  have hb := S.2.1
  have hl : lv_has ls 12 [(0, .ref a), (1, .int 32), (2, .int 0), (3, .int 0)] := hl
  have hch : (32 : Int32).toInt8.toInt32 = 32 := by decide +kernel
  have h0 : ¬ (32 : Int32) < 0 := by decide
  have h1 : ¬ (255 : Int32) < 32 := by decide
  have hfr : ∀ q, sz ≤ q → G q = none := fun q z => g_free w z
  have key : ∀ (r : List (List Int32)) (t : List Int32) (pre : List Int32) (dn : List (List Int32)), dn ++ t :: r = L → bs = pre ++ jn (t :: r) → (r = [] → 0 < pre.length) → ∀ (o : Nat) (x4 x5 : Int32), x5 = nI pre.length → ∀ (G1 : gW) (n1 : Nat) (H : Heap) (locs : List Loc) (ls : Array Slot), sz ≤ n1 → LsT ar κ G G1 o dn → g_S D vwCl (g_A G sz) s.heap G1 H locs n1 → lv_has ls 12 [(5, .int x5), (4, .int x4), (9, .null), (8, .ref o), (7, .int 0), (3, .int 0), (2, .int 0), (1, .int 32), (0, .ref a)] → W p l e (rD 9 50 2000) s m (([.ref a, .int 32, .int 0, .int 0] : List Value).toArray) below meth c H locs (1 + 3 * dn.length) (3 + 119 * dn.length) (MQ below (g_Qq D vwCl (g_A G sz) (fun r u => ∃ q g, r = some q ∧ sz ≤ q ∧ u.1 q = some (.inl (ar 9, L.length, .inr (.inr (.inr (.inr g))))) ∧ gLe G u.1 ∧ ∀ j, j < L.length → ∃ y yv, g j = some y ∧ TX ar κ u.1 y yv (L.getD j []))) (([.ref a, .int 32, .int 0, .int 0] : List Value).toArray) s 50 2000 (g_A G sz)) (F0 m 40 ls []) := by
    intro r
    induction r with
    | nil =>
      intro t pre dn hdn hbp hpre o x4 x5 ex5 G1 n1 H locs ls hn1 hLs w hl
      subst ex5
      have htt : tkO t := htk t (by rw [← hdn]; exact List.mem_append_right _ List.mem_cons_self)
      have hdl := congrArg List.length hdn
      rw [List.length_append, List.length_cons] at hdl
      rw [List.length_nil] at hdl
      have htp := htt.1
      have ht1 : TX ar κ G1 a v bs := ht.le hLs.1
      have hp0 : 0 < pre.length := hpre rfl
      have hle := sp_lenE hbp
      have hix := sp_miss hbp htt
      refine lv_aload_n hx hb dJ0_split_f8566_40 rfl (lv_at hl 8 rfl) ?_
      refine lv_iload_n hx hb dJ0_split_f8566_41 rfl (lv_at hl 7 rfl) ?_
      refine lv_iload hx hb dJ0_split_f8566_42 (lv_at hl 0 rfl) ?_
      refine g_calli w (g_runT (As := [.int 32, .int (nI pre.length)]) (rest := []) S hE w hl (j_indexOf2 l D ar κ G1 n1 a 32 v bs pre.length ht1 (by omega) (by omega) hch h0 h1) (k_RJ0_633 S.2.2.2.2  ⟨Nat.le_of_ble_eq_true rfl, Nat.le_of_ble_eq_true rfl⟩) ht1 rfl rfl (Nat.le_of_ble_eq_true rfl) dJ0_split_f8566_44 ⟨(by (try dsimp only [rD]); omega), (by (try dsimp only [rD]); omega)⟩) (fun r u H locs hp hnz w => ?_)
      obtain ⟨rfl, rfl⟩ := hp
      try dsimp only at w
      rw [hix]
      refine lv_dup hx hb dJ0_split_f8566_47 rfl ?_
      refine lv_istore (lv' := [(6, .int (-1)), (5, .int (nI pre.length)), (4, .int x4), (9, .null), (8, .ref o), (7, .int 0), (3, .int 0), (2, .int 0), (1, .int 32), (0, .ref a)]) hx hb dJ0_split_f8566_48 hl (by decide) rfl (fun ls hl => ?_)
      refine lv_iconst (v := (-1)) hx hb dJ0_split_f8566_50 (by decide) ?_
      refine lv_icmp_eq (tgt := 135) hx hb dJ0_split_f8566_51 (by decide) (fun _ => ?_) (fun c => absurd (by decide) c)
      refine lv_iload hx hb dJ0_split_f8566_135 (lv_at hl 1 rfl) ?_
      refine lv_if_ne (tgt := 149) hx hb dJ0_split_f8566_137 (by decide) (fun c_137 => ?_) (fun c_137 => absurd (show nI pre.length = nI 0 from c_137) (fun q => absurd (nI_inj (by omega) (by decide) q) (Nat.ne_of_gt hp0)))
      refine lv_iload hx hb dJ0_split_f8566_149 (lv_at hl 5 rfl) ?_
      refine lv_if_eq (tgt := 160) hx hb dJ0_split_f8566_151 (by decide) (fun _ => ?_) (fun c => absurd (by decide) c)
      refine lv_aload hx hb dJ0_split_f8566_160 (lv_at hl 4 rfl) ?_
      refine lv_aload_n hx hb dJ0_split_f8566_162 rfl (lv_at hl 9 rfl) ?_
      refine lv_iload hx hb dJ0_split_f8566_163 (lv_at hl 1 rfl) ?_
      refine lv_aload_n hx hb dJ0_split_f8566_165 rfl (lv_at hl 9 rfl) ?_
      refine g_calli w (g_runT (As := []) (rest := [.int (nI pre.length), .ref a, .ref o]) S hE w hl (j_length l D ar κ G1 n1 a v bs ht1) (k_RJ0_505 S.2.2.2.2  ⟨Nat.le_of_ble_eq_true rfl, Nat.le_of_ble_eq_true rfl⟩) ht1 rfl rfl (Nat.le_of_ble_eq_true rfl) dJ0_split_f8566_166 ⟨(by (try dsimp only [rD]); omega), (by (try dsimp only [rD]); omega)⟩) (fun r u H locs hp hnz w => ?_)
      obtain ⟨rfl, rfl⟩ := hp
      try dsimp only at w
      refine g_callq w (g_runT (As := [.int (nI pre.length), .int (nI bs.length)]) (rest := [.ref o]) S hE w hl (j_substring2 l D ar κ G1 n1 a v bs pre.length bs.length ht1 hA (by omega) (by omega) (by omega)) (k_RJ0_681 S.2.2.2.2  ⟨Nat.le_of_ble_eq_true rfl, Nat.le_of_ble_eq_true rfl⟩) ht1 rfl rfl (Nat.le_of_ble_eq_true rfl) dJ0_split_f8566_169 ⟨(by (try dsimp only [rD]); omega), (by (try dsimp only [rD]); omega)⟩) (fun r u H locs hp hnz w => ?_)
      obtain ⟨a1, v1, rfl, ht1, hg1⟩ := hp
      obtain ⟨u1, hU1⟩ : ∃ U9, U9 = u := ⟨_, rfl⟩
      rw [← hU1] at w hnz ht1 hg1
      try dsimp only at w
      have hLt1 := hLs.le hg1
      obtain ⟨mc1, ed1, n19, ho1⟩ := hLt1.o
      refine g_calli w (g_runV (As := [.ref a1]) (rest := []) S hE w hl (j_add l D ar κ u1.1 u1.2 o a1 v1 (slc bs pre.length bs.length) G dn hLt1 ht1 (by omega)) (k_RJ0_784 S.2.2.2.2 ⟨Nat.le_of_ble_eq_true rfl, Nat.le_of_ble_eq_true rfl⟩) ho1 rfl rfl rfl rfl (Nat.le_of_ble_eq_true rfl) dJ0_split_f8566_172 ⟨(by (try dsimp only [rD]); omega), (by (try dsimp only [rD]); omega)⟩) (fun r u H locs hp hnz w => ?_)
      obtain ⟨rfl, hLs1⟩ := hp
      obtain ⟨X1, hUX1⟩ : ∃ X1, X1 = u := ⟨_, rfl⟩
      rw [← hUX1] at w hnz hLs1
      have hfr : ∀ q, X1.2 ≤ q → X1.1 q = none := fun q z => g_free w z
      try dsimp only at w
      rw [sp_cutE hbp, hdn] at hLs1
      obtain ⟨hgG, -, ⟨hno, -⟩ | ⟨mc9, ed, c9, f9, -, ho, hed, -, hLc, hc15, hel⟩⟩ := hLs1
      · rw [hno] at hL2; exact absurd hL2 (by decide)
      obtain ⟨y, yv, hy, hty⟩ := hel (L.length - 1) (by omega)
      have hy1 : tkO (L.getD (L.length - 1) []) := htk _ (getD_mem (by omega))
      have hed9 : ed < X1.2 := g_ltn w hed
      have ho9 : o < X1.2 := g_ltn w ho
      have hyl := jn_le L _ (getD_mem (L := L) (d := []) (j := L.length - 1) (by omega))
      rw [← hbs] at hyl
      refine lv_pop hx hb dJ0_split_f8566_175 rfl ?_
      refine lv_aload hx hb dJ0_split_f8566_176 (lv_at hl 4 rfl) ?_
      refine g_calli w (g_runV (As := []) (rest := []) S hE w hl (j_lsize l D ar κ X1.1 X1.2 o mc9 ed L.length ho) (k_RJ0_787 S.2.2.2.2 ⟨Nat.le_of_ble_eq_true rfl, Nat.le_of_ble_eq_true rfl⟩) ho rfl rfl rfl rfl (Nat.le_of_ble_eq_true rfl) dJ0_split_f8566_178 ⟨(by (try dsimp only [rD]); omega), (by (try dsimp only [rD]); omega)⟩) (fun r u H locs hp hnz w => ?_)
      obtain ⟨rfl, rfl⟩ := hp
      try dsimp only at w
      refine lv_istore (lv' := [(10, .int (nI L.length)), (6, .int (-1)), (5, .int (nI pre.length)), (4, .int x4), (9, .null), (8, .ref o), (7, .int 0), (3, .int 0), (2, .int 0), (1, .int 32), (0, .ref a)]) hx hb dJ0_split_f8566_181 hl (by decide) rfl (fun ls hl => ?_)
      refine lv_iload_n hx hb dJ0_split_f8566_183 rfl (lv_at hl 8 rfl) ?_
      refine lv_if_ne (tgt := 216) hx hb dJ0_split_f8566_184 (by decide) (fun c => absurd (by decide) c) (fun _ => ?_)
      refine lv_iload hx hb dJ0_split_f8566_187 (lv_at hl 0 rfl) ?_
      refine lv_if_le (tgt := 216) hx hb dJ0_split_f8566_189 (by decide) (fun c_189 => absurd c_189 (nI_nle (by omega) (by omega))) (fun c_189 => ?_)
      refine lv_aload hx hb dJ0_split_f8566_192 (lv_at hl 5 rfl) ?_
      refine lv_iload hx hb dJ0_split_f8566_194 (lv_at hl 0 rfl) ?_
      refine lv_iconst (v := 1) hx hb dJ0_split_f8566_196 (by decide) ?_
      refine lv_isub hx hb dJ0_split_f8566_197 ?_
      rw [show ((nI L.length) - 1 : Int32) = nI (L.length - 1) from (pk_sub (b := 1) (by omega))]
      refine g_callq w (g_runV (As := [.int (nI (L.length - 1))]) (rest := []) S hE w hl (j_lget l D ar κ X1.1 X1.2 o mc9 ed L.length c9 f9 (L.length - 1) y ho hed (by omega) (by omega) (by omega) hy) (k_RJ0_790 S.2.2.2.2 ⟨Nat.le_of_ble_eq_true rfl, Nat.le_of_ble_eq_true rfl⟩) ho rfl rfl rfl rfl (Nat.le_of_ble_eq_true rfl) dJ0_split_f8566_198 ⟨(by (try dsimp only [rD]); omega), (by (try dsimp only [rD]); omega)⟩) (fun r u H locs hp hnz w => ?_)
      obtain ⟨rfl, rfl⟩ := hp
      try dsimp only at w
      refine tx_cast S hE w hty m_6_1 dJ0_split_f8566_201 ?_
      refine g_calli w (g_runT (As := []) (rest := []) S hE w hl (j_isEmpty l D ar κ X1.1 X1.2 y yv (L.getD (L.length - 1) []) hty (by omega)) (k_RJ0_690 S.2.2.2.2  ⟨Nat.le_of_ble_eq_true rfl, Nat.le_of_ble_eq_true rfl⟩) hty rfl rfl (Nat.le_of_ble_eq_true rfl) dJ0_split_f8566_204 ⟨(by (try dsimp only [rD]); omega), (by (try dsimp only [rD]); omega)⟩) (fun r u H locs hp hnz w => ?_)
      obtain ⟨rfl, rfl⟩ := hp
      try dsimp only at w
      rw [if_neg (by have := hy1.1; omega)]
      refine lv_if_eq (tgt := 216) hx hb dJ0_split_f8566_207 (by decide) (fun _ => ?_) (fun c => absurd (by decide) c)
      refine lv_iload hx hb dJ0_split_f8566_216 (lv_at hl 0 rfl) ?_
      refine g_newq (N' := L.length) hx hb S.2.2.2.1 (S.2.2.2.2 _ m_6_1) (va_AO.use (C := "java/lang/String") (hE.2.1.1 _ (ckN_1 _ (List.mem_of_getElem? (i := 18) rfl)))) hE.1 w 9 rfl (nI_pos (by omega)) (nI_clamp (by omega)) (by omega) (by (try dsimp only [rD]); omega) (by dsimp only [rD]; omega) dJ0_split_f8566_218 (fun H w => ?_)
      refine W.widen (k := 1 + 3 * dn.length + 0 + 0 + 2 + 1 + 0 + 0 + 0 + 1) (n := 3 + 119 * dn.length + 0 + 0 + 104 + 15 + 0 + 0 + 0 + 15) (by omega) (by omega) ?_
      refine lv_astore (lv' := [(11, .ref X1.2), (10, .int (nI L.length)), (6, .int (-1)), (5, .int (nI pre.length)), (4, .int x4), (9, .null), (8, .ref o), (7, .int 0), (3, .int 0), (2, .int 0), (1, .int 32), (0, .ref a)]) hx hb dJ0_split_f8566_221 hl (by decide) rfl (fun ls hl => ?_)
      refine lv_aload hx hb dJ0_split_f8566_223 (lv_at hl 6 rfl) ?_
      refine lv_iconst (v := 0) hx hb dJ0_split_f8566_225 (by decide) ?_
      refine lv_iload hx hb dJ0_split_f8566_226 (lv_at hl 1 rfl) ?_
      refine g_callq w (g_runV (As := [.int 0, .int (nI L.length)]) (rest := []) S hE w hl (j_subList l D ar κ (g_up X1.1 X1.2 (.inl (ar 9, L.length, .inr (.inr (.inr (.inr (fun _ => none))))))) (X1.2 + 1) o mc9 ed L.length (g_up_o (by omega) ho) (by omega)) (k_RJ0_794 S.2.2.2.2 ⟨Nat.le_of_ble_eq_true rfl, Nat.le_of_ble_eq_true rfl⟩) (g_up_o (by omega) ho) rfl rfl rfl rfl (Nat.le_of_ble_eq_true rfl) dJ0_split_f8566_228 ⟨(by (try dsimp only [rD]); omega), (by (try dsimp only [rD]); omega)⟩) (fun r u H locs hp hnz w => ?_)
      obtain ⟨rfl, rfl⟩ := hp
      try dsimp only at w
      refine lv_aload hx hb dJ0_split_f8566_231 (lv_at hl 0 rfl) ?_
      refine g_callFq w (g_runF (As := [.ref X1.2]) (rest := []) S hE w hl (j_toArray l D ar κ (g_up (g_up X1.1 X1.2 (.inl (ar 9, L.length, .inr (.inr (.inr (.inr (fun _ => none))))))) (X1.2 + 1) (.inr (4, [.int mc9, .ref o, .null, .int 0, .int (nI L.length)]))) (X1.2 + 2) (X1.2 + 1) X1.2 o mc9 ed L.length c9 f9 (fun _ => none) g_up_s (g_up_o (by omega) (g_up_o (by omega) ho)) (g_up_o (by omega) (g_up_o (by omega) hed)) (g_up_o (by omega) g_up_s) (fun j y hj hy => (hel j hj).elim fun y2 z => z.elim fun yv z => ⟨yv, L.getD j [], by rw [show y = y2 from Option.some.inj (hy.symm.trans z.1)]; exact z.2.le (gLe.up (gLe.up gLe.r (hfr _ (by omega))) (hfr _ (by omega)))⟩) (by omega) (by omega)) (kF_RJ0_798_4 S.2.2.2.2 (hE.2.1.2.1 _ (List.mem_of_getElem? (i := 0) rfl)) ⟨Nat.le_of_ble_eq_true rfl, Nat.le_of_ble_eq_true rfl⟩) g_up_s rfl rfl rfl rfl (Nat.le_of_ble_eq_true rfl) dJ0_split_f8566_233 ⟨(by (try dsimp only [rD]); omega), (by (try dsimp only [rD]); omega)⟩) (fun r u H locs hp hnz w => ?_)
      obtain ⟨rfl, rfl⟩ := hp
      try dsimp only at w
      have w := g_eqw w (g_inn g_over (by omega))
      refine va_castA hx hb S.2.2.2.1 (S.2.2.2.2 _ m_6_110) (g_1 w.1 (g_up_o (by omega) g_up_s)) 0 rfl (va_nmS (hE.1.2 9 (ar 9, .object "java/lang/String") rfl).2) dJ0_split_f8566_238 ?_
      exact g_qret (r := (some X1.2)) hx hb hr (Or.inr ⟨_, rfl⟩) hlk w (by (try dsimp only [rD]); omega) (by (try dsimp only [rD]); omega) dJ0_split_f8566_241 ⟨X1.2, _, rfl, by omega, (g_up_o (by omega) g_up_s), hgG.t (gLe.up (gLe.up gLe.r (hfr _ (by omega))) (hfr _ (by omega))), fun j hj => (hel j hj).elim fun y z => z.elim fun yv z => ⟨y, yv, (pk_cpy_in (Nat.zero_le _) (by omega)).trans (by rw [Nat.sub_zero, Nat.zero_add]; exact z.1), z.2.le (gLe.up (gLe.up gLe.r (hfr _ (by omega))) (hfr _ (by omega)))⟩⟩
    | cons u7 r7 ih =>
      intro t pre dn hdn hbp hpre o x4 x5 ex5 G1 n1 H locs ls hn1 hLs w hl
      subst ex5
      have htt : tkO t := htk t (by rw [← hdn]; exact List.mem_append_right _ List.mem_cons_self)
      have hdl := congrArg List.length hdn
      rw [List.length_append, List.length_cons, List.length_cons] at hdl
      have htp := htt.1
      have ht1 : TX ar κ G1 a v bs := ht.le hLs.1
      have hle := sp_len hbp
      have hix := sp_hit hbp htt
      have hnm1 : ¬ nI (pre.length + t.length) = -1 := fun q => absurd (q ▸ nI_pos (n := pre.length + t.length) (by omega)) (by decide)
      refine lv_aload_n hx hb dJ0_split_f8566_40 rfl (lv_at hl 8 rfl) ?_
      refine lv_iload_n hx hb dJ0_split_f8566_41 rfl (lv_at hl 7 rfl) ?_
      refine lv_iload hx hb dJ0_split_f8566_42 (lv_at hl 0 rfl) ?_
      refine g_calli w (g_runT (As := [.int 32, .int (nI pre.length)]) (rest := []) S hE w hl (j_indexOf2 l D ar κ G1 n1 a 32 v bs pre.length ht1 (by omega) (by omega) hch h0 h1) (k_RJ0_633 S.2.2.2.2  ⟨Nat.le_of_ble_eq_true rfl, Nat.le_of_ble_eq_true rfl⟩) ht1 rfl rfl (Nat.le_of_ble_eq_true rfl) dJ0_split_f8566_44 ⟨(by (try dsimp only [rD]); omega), (by (try dsimp only [rD]); omega)⟩) (fun r u H locs hp hnz w => ?_)
      obtain ⟨rfl, rfl⟩ := hp
      try dsimp only at w
      rw [hix]
      refine lv_dup hx hb dJ0_split_f8566_47 rfl ?_
      refine lv_istore (lv' := [(6, .int (nI (pre.length + t.length))), (5, .int (nI pre.length)), (4, .int x4), (9, .null), (8, .ref o), (7, .int 0), (3, .int 0), (2, .int 0), (1, .int 32), (0, .ref a)]) hx hb dJ0_split_f8566_48 hl (by decide) rfl (fun ls hl => ?_)
      refine lv_iconst (v := (-1)) hx hb dJ0_split_f8566_50 (by decide) ?_
      refine lv_icmp_eq (tgt := 135) hx hb dJ0_split_f8566_51 (by decide) (fun c_51_1 => absurd c_51_1 hnm1) (fun c_51_1 => ?_)
      refine lv_iload hx hb dJ0_split_f8566_54 (lv_at hl 5 rfl) ?_
      refine lv_if_eq (tgt := 67) hx hb dJ0_split_f8566_56 (by decide) (fun _ => ?_) (fun c => absurd (by decide) c)
      refine lv_aload hx hb dJ0_split_f8566_67 (lv_at hl 4 rfl) ?_
      refine lv_aload_n hx hb dJ0_split_f8566_69 rfl (lv_at hl 9 rfl) ?_
      refine lv_iload hx hb dJ0_split_f8566_70 (lv_at hl 1 rfl) ?_
      refine lv_iload hx hb dJ0_split_f8566_72 (lv_at hl 0 rfl) ?_
      refine g_callq w (g_runT (As := [.int (nI pre.length), .int (nI (pre.length + t.length))]) (rest := [.ref o]) S hE w hl (j_substring2 l D ar κ G1 n1 a v bs pre.length (pre.length + t.length) ht1 hA (by omega) (by omega) (by omega)) (k_RJ0_681 S.2.2.2.2  ⟨Nat.le_of_ble_eq_true rfl, Nat.le_of_ble_eq_true rfl⟩) ht1 rfl rfl (Nat.le_of_ble_eq_true rfl) dJ0_split_f8566_74 ⟨(by (try dsimp only [rD]); omega), (by (try dsimp only [rD]); omega)⟩) (fun r u H locs hp hnz w => ?_)
      obtain ⟨a2, v2, rfl, ht2, hg2⟩ := hp
      obtain ⟨u2, hU2⟩ : ∃ U9, U9 = u := ⟨_, rfl⟩
      rw [← hU2] at w hnz ht2 hg2
      try dsimp only at w
      have hLt2 := hLs.le hg2
      obtain ⟨mc2, ed2, n29, ho2⟩ := hLt2.o
      refine g_calli w (g_runV (As := [.ref a2]) (rest := []) S hE w hl (j_add l D ar κ u2.1 u2.2 o a2 v2 (slc bs pre.length (pre.length + t.length)) G dn hLt2 ht2 (by omega)) (k_RJ0_784 S.2.2.2.2 ⟨Nat.le_of_ble_eq_true rfl, Nat.le_of_ble_eq_true rfl⟩) ho2 rfl rfl rfl rfl (Nat.le_of_ble_eq_true rfl) dJ0_split_f8566_77 ⟨(by (try dsimp only [rD]); omega), (by (try dsimp only [rD]); omega)⟩) (fun r u H locs hp hnz w => ?_)
      obtain ⟨rfl, hLs2⟩ := hp
      obtain ⟨X2, hUX2⟩ : ∃ X2, X2 = u := ⟨_, rfl⟩
      rw [← hUX2] at w hnz hLs2
      have hfr : ∀ q, X2.2 ≤ q → X2.1 q = none := fun q z => g_free w z
      try dsimp only at w
      refine lv_pop hx hb dJ0_split_f8566_80 rfl ?_
      refine lv_iload_n hx hb dJ0_split_f8566_81 rfl (lv_at hl 6 rfl) ?_
      refine lv_if_eq (tgt := 93) hx hb dJ0_split_f8566_82 (by decide) (fun _ => ?_) (fun c => absurd (by decide) c)
      refine lv_iload hx hb dJ0_split_f8566_93 (lv_at hl 0 rfl) ?_
      refine lv_iconst (v := 1) hx hb dJ0_split_f8566_95 (by decide) ?_
      refine lv_iadd hx hb dJ0_split_f8566_96 ?_
      rw [show ((nI (pre.length + t.length)) + 1 : Int32) = nI (pre.length + t.length + 1) from nI_1 _]
      refine lv_istore (lv' := [(5, .int (nI (pre.length + t.length + 1))), (6, .int (nI (pre.length + t.length))), (4, .int x4), (9, .null), (8, .ref o), (7, .int 0), (3, .int 0), (2, .int 0), (1, .int 32), (0, .ref a)]) hx hb dJ0_split_f8566_97 hl (by decide) rfl (fun ls hl => ?_)
      refine lv_iinc (v := x4 + 1) (lv' := [(4, .int (x4 + 1)), (5, .int (nI (pre.length + t.length + 1))), (6, .int (nI (pre.length + t.length))), (9, .null), (8, .ref o), (7, .int 0), (3, .int 0), (2, .int 0), (1, .int 32), (0, .ref a)]) hx hb dJ0_split_f8566_99 hl (k := 2) rfl rfl (by decide) rfl (fun ls hl => ?_)
      refine lv_goto (tgt := 40) hx hb dJ0_split_f8566_102 (by decide) ?_
      rw [sp_cut hbp] at hLs2
      refine W.widen (k := 1 + 3 * (dn ++ [t]).length) (n := 3 + 119 * (dn ++ [t]).length) (by rw [List.length_append, List.length_singleton]; omega) (by rw [List.length_append, List.length_singleton]; omega) ?_
      exact ih u7 (pre ++ t ++ [32]) (dn ++ [t]) (by rw [← hdn, List.append_assoc]; rfl) (sp_on hbp) (fun _ => by rw [sp_onL]; omega) o _ _ (by rw [sp_onL]) X2.1 X2.2 _ _ _ (by omega) hLs2 w (lv_sub hl [1, 0, 3, 4, 5, 6, 7, 8, 9] rfl)
  refine lv_iconst (v := 0) hx hb dJ0_split_f8566_0 (by decide) ?_
  refine lv_istore (lv' := [(4, .int 0), (0, .ref a), (1, .int 32), (2, .int 0), (3, .int 0)]) hx hb dJ0_split_f8566_1 hl (by decide) rfl (fun ls hl => ?_)
  refine lv_iconst (v := 0) hx hb dJ0_split_f8566_3 (by decide) ?_
  refine lv_istore (lv' := [(5, .int 0), (4, .int 0), (0, .ref a), (1, .int 32), (2, .int 0), (3, .int 0)]) hx hb dJ0_split_f8566_4 hl (by decide) rfl (fun ls hl => ?_)
  refine lv_iload_n hx hb dJ0_split_f8566_6 rfl (lv_at hl 4 rfl) ?_
  refine lv_if_le (tgt := 14) hx hb dJ0_split_f8566_7 (by decide) (fun _ => ?_) (fun c => absurd (by decide) c)
  refine lv_iconst (v := 0) hx hb dJ0_split_f8566_14 (by decide) ?_
  refine lv_istore (lv' := [(7, .int 0), (5, .int 0), (4, .int 0), (0, .ref a), (1, .int 32), (2, .int 0), (3, .int 0)]) hx hb dJ0_split_f8566_15 hl (by decide) rfl (fun ls hl => ?_)
  refine nw_RJ0_777 S hE w (Nat.le_of_ble_eq_true rfl) (Nat.le_of_ble_eq_true rfl) dJ0_split_f8566_17 (fun H w => ?_)
  refine lv_dup hx hb dJ0_split_f8566_20 rfl ?_
  refine g_callv w (g_runI (As := []) (rest := [.ref sz]) S hE w hl (c_ArrayList_init l D ar κ (g_up G sz (.inr (5, [.int 0, .null, .int 0]))) (sz + 1) sz g_up_s) (k_RJ0_779 S.2.2.2.2 ⟨Nat.le_of_ble_eq_true rfl, Nat.le_of_ble_eq_true rfl⟩) rfl rfl (Nat.le_of_ble_eq_true rfl) dJ0_split_f8566_21 ⟨Nat.le_of_ble_eq_true rfl, Nat.le_of_ble_eq_true rfl⟩) (fun u H locs hp hnz w => ?_)
  obtain rfl := hp
  try dsimp only at w
  have w := g_eqw w g_over
  refine lv_astore (lv' := [(8, .ref sz), (7, .int 0), (5, .int 0), (4, .int 0), (0, .ref a), (1, .int 32), (2, .int 0), (3, .int 0)]) hx hb dJ0_split_f8566_24 hl (by decide) rfl (fun ls hl => ?_)
  refine lv_iload_n hx hb dJ0_split_f8566_26 rfl (lv_at hl 7 rfl) ?_
  refine lv_if_eq (tgt := 37) hx hb dJ0_split_f8566_27 (by decide) (fun _ => ?_) (fun c => absurd (by decide) c)
  refine lv_null hx hb dJ0_split_f8566_37 ?_
  refine lv_astoreN (lv' := [(9, .null), (8, .ref sz), (7, .int 0), (5, .int 0), (4, .int 0), (0, .ref a), (1, .int 32), (2, .int 0), (3, .int 0)]) hx hb dJ0_split_f8566_38 hl (by decide) rfl (fun ls hl => ?_)
  obtain ⟨t, r, htr⟩ : ∃ t r, t :: r = L := by
    cases L with
    | nil => exact absurd hL2 (by decide)
    | cons t r => exact ⟨t, r, rfl⟩
  refine W.widen (k := 1 + 3 * ([] : List (List Int32)).length) (n := 3 + 119 * ([] : List (List Int32)).length) (Nat.le_of_ble_eq_true rfl) (Nat.le_of_ble_eq_true rfl) ?_
  exact key r t [] [] htr (by rw [htr]; exact hbs) (fun q => by rw [← htr, q] at hL2; exact absurd hL2 (by show ¬ 2 ≤ 1; decide)) _ _ _ rfl _ _ _ _ _ (by omega) ⟨(gLe.up gLe.r (hfr _ (by omega))), hfr _ (Nat.le_refl _), Or.inl ⟨rfl, _, g_up_s⟩⟩ w (lv_sub hl [3, 4, 0, 1, 2, 8, 7, 6, 5] rfl)
