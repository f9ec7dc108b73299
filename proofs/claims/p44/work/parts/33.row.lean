theorem dX8_doRowWithoutFault_0 : decode cX8_doRowWithoutFault 0 = .ok (.iload_n 2, 1) := by decide +kernel
theorem dX8_doRowWithoutFault_1 : decode cX8_doRowWithoutFault 1 = .ok (.lookupswitch 159 #[(61, 111), (71, 74), (84, 59), (107, 138), (112, 89), (119, 97)], 59) := by decide +kernel
theorem dX8_doRowWithoutFault_60 : decode cX8_doRowWithoutFault 60 = .ok (.aload_n 1, 1) := by decide +kernel
theorem dX8_doRowWithoutFault_61 : decode cX8_doRowWithoutFault 61 = .ok (.getfield 419, 3) := by decide +kernel
theorem dX8_doRowWithoutFault_64 : decode cX8_doRowWithoutFault 64 = .ok (.iload_n 3, 1) := by decide +kernel
theorem dX8_doRowWithoutFault_65 : decode cX8_doRowWithoutFault 65 = .ok (.aload_n 1, 1) := by decide +kernel
theorem dX8_doRowWithoutFault_66 : decode cX8_doRowWithoutFault 66 = .ok (.invokevirtual 409, 3) := by decide +kernel
theorem dX8_doRowWithoutFault_69 : decode cX8_doRowWithoutFault 69 = .ok (.invokestatic 203, 3) := by decide +kernel
theorem dX8_doRowWithoutFault_72 : decode cX8_doRowWithoutFault 72 = .ok (.goto 99, 3) := by decide +kernel
theorem dX8_doRowWithoutFault_75 : decode cX8_doRowWithoutFault 75 = .ok (.aload_n 0, 1) := by decide +kernel
theorem dX8_doRowWithoutFault_76 : decode cX8_doRowWithoutFault 76 = .ok (.getfield 33, 3) := by decide +kernel
theorem dX8_doRowWithoutFault_79 : decode cX8_doRowWithoutFault 79 = .ok (.iload_n 3, 1) := by decide +kernel
theorem dX8_doRowWithoutFault_80 : decode cX8_doRowWithoutFault 80 = .ok (.aload_n 1, 1) := by decide +kernel
theorem dX8_doRowWithoutFault_81 : decode cX8_doRowWithoutFault 81 = .ok (.invokevirtual 409, 3) := by decide +kernel
theorem dX8_doRowWithoutFault_84 : decode cX8_doRowWithoutFault 84 = .ok (.invokestatic 203, 3) := by decide +kernel
theorem dX8_doRowWithoutFault_87 : decode cX8_doRowWithoutFault 87 = .ok (.goto 84, 3) := by decide +kernel
theorem dX8_doRowWithoutFault_90 : decode cX8_doRowWithoutFault 90 = .ok (.aload_n 1, 1) := by decide +kernel
theorem dX8_doRowWithoutFault_91 : decode cX8_doRowWithoutFault 91 = .ok (.invokevirtual 409, 3) := by decide +kernel
theorem dX8_doRowWithoutFault_94 : decode cX8_doRowWithoutFault 94 = .ok (.pop2, 1) := by decide +kernel
theorem dX8_doRowWithoutFault_95 : decode cX8_doRowWithoutFault 95 = .ok (.goto 76, 3) := by decide +kernel
theorem dX8_doRowWithoutFault_98 : decode cX8_doRowWithoutFault 98 = .ok (.aload_n 0, 1) := by decide +kernel
theorem dX8_doRowWithoutFault_99 : decode cX8_doRowWithoutFault 99 = .ok (.getfield 72, 3) := by decide +kernel
theorem dX8_doRowWithoutFault_102 : decode cX8_doRowWithoutFault 102 = .ok (.aload_n 1, 1) := by decide +kernel
theorem dX8_doRowWithoutFault_103 : decode cX8_doRowWithoutFault 103 = .ok (.invokevirtual 409, 3) := by decide +kernel
theorem dX8_doRowWithoutFault_106 : decode cX8_doRowWithoutFault 106 = .ok (.invokevirtual 422, 3) := by decide +kernel
theorem dX8_doRowWithoutFault_109 : decode cX8_doRowWithoutFault 109 = .ok (.goto 62, 3) := by decide +kernel
theorem dX8_doRowWithoutFault_112 : decode cX8_doRowWithoutFault 112 = .ok (.aload_n 1, 1) := by decide +kernel
theorem dX8_doRowWithoutFault_113 : decode cX8_doRowWithoutFault 113 = .ok (.aload_n 1, 1) := by decide +kernel
theorem dX8_doRowWithoutFault_114 : decode cX8_doRowWithoutFault 114 = .ok (.invokevirtual 409, 3) := by decide +kernel
theorem dX8_doRowWithoutFault_117 : decode cX8_doRowWithoutFault 117 = .ok (.aload_n 1, 1) := by decide +kernel
theorem dX8_doRowWithoutFault_118 : decode cX8_doRowWithoutFault 118 = .ok (.invokevirtual 409, 3) := by decide +kernel
theorem dX8_doRowWithoutFault_121 : decode cX8_doRowWithoutFault 121 = .ok (.lcmp, 1) := by decide +kernel
theorem dX8_doRowWithoutFault_122 : decode cX8_doRowWithoutFault 122 = .ok (.ifCond .ne 7, 3) := by decide +kernel
theorem dX8_doRowWithoutFault_125 : decode cX8_doRowWithoutFault 125 = .ok (.iconst 1, 1) := by decide +kernel
theorem dX8_doRowWithoutFault_126 : decode cX8_doRowWithoutFault 126 = .ok (.goto 4, 3) := by decide +kernel
theorem dX8_doRowWithoutFault_129 : decode cX8_doRowWithoutFault 129 = .ok (.iconst 0, 1) := by decide +kernel
theorem dX8_doRowWithoutFault_130 : decode cX8_doRowWithoutFault 130 = .ok (.invokestatic 199, 3) := by decide +kernel
theorem dX8_doRowWithoutFault_133 : decode cX8_doRowWithoutFault 133 = .ok (.invokevirtual 424, 3) := by decide +kernel
theorem dX8_doRowWithoutFault_136 : decode cX8_doRowWithoutFault 136 = .ok (.goto 35, 3) := by decide +kernel
theorem dX8_doRowWithoutFault_139 : decode cX8_doRowWithoutFault 139 = .ok (.aload_n 1, 1) := by decide +kernel
theorem dX8_doRowWithoutFault_140 : decode cX8_doRowWithoutFault 140 = .ok (.aload_n 0, 1) := by decide +kernel
theorem dX8_doRowWithoutFault_141 : decode cX8_doRowWithoutFault 141 = .ok (.getfield 40, 3) := by decide +kernel
theorem dX8_doRowWithoutFault_144 : decode cX8_doRowWithoutFault 144 = .ok (.aload_n 1, 1) := by decide +kernel
theorem dX8_doRowWithoutFault_145 : decode cX8_doRowWithoutFault 145 = .ok (.invokevirtual 409, 3) := by decide +kernel
theorem dX8_doRowWithoutFault_148 : decode cX8_doRowWithoutFault 148 = .ok (.invokevirtual 284, 3) := by decide +kernel
theorem dX8_doRowWithoutFault_151 : decode cX8_doRowWithoutFault 151 = .ok (.invokestatic 199, 3) := by decide +kernel
theorem dX8_doRowWithoutFault_154 : decode cX8_doRowWithoutFault 154 = .ok (.invokevirtual 424, 3) := by decide +kernel
theorem dX8_doRowWithoutFault_157 : decode cX8_doRowWithoutFault 157 = .ok (.goto 14, 3) := by decide +kernel
theorem dX8_doRowWithoutFault_160 : decode cX8_doRowWithoutFault 160 = .ok (.aload_n 1, 1) := by decide +kernel
theorem dX8_doRowWithoutFault_161 : decode cX8_doRowWithoutFault 161 = .ok (.aload_n 0, 1) := by decide +kernel
theorem dX8_doRowWithoutFault_162 : decode cX8_doRowWithoutFault 162 = .ok (.aload_n 1, 1) := by decide +kernel
theorem dX8_doRowWithoutFault_163 : decode cX8_doRowWithoutFault 163 = .ok (.iload_n 2, 1) := by decide +kernel
theorem dX8_doRowWithoutFault_164 : decode cX8_doRowWithoutFault 164 = .ok (.iload_n 3, 1) := by decide +kernel
theorem dX8_doRowWithoutFault_165 : decode cX8_doRowWithoutFault 165 = .ok (.invokevirtual 427, 3) := by decide +kernel
theorem dX8_doRowWithoutFault_168 : decode cX8_doRowWithoutFault 168 = .ok (.invokevirtual 424, 3) := by decide +kernel
theorem dX8_doRowWithoutFault_171 : decode cX8_doRowWithoutFault 171 = .ok (.return_, 1) := by decide +kernel
theorem dX8_doRow_0 : decode cX8_doRow 0 = .ok (.aload_n 1, 1) := by decide +kernel
theorem dX8_doRow_1 : decode cX8_doRow 1 = .ok (.invokevirtual 368, 3) := by decide +kernel
theorem dX8_doRow_4 : decode cX8_doRow 4 = .ok (.istore_n 2, 1) := by decide +kernel
theorem dX8_doRow_5 : decode cX8_doRow 5 = .ok (.aload_n 1, 1) := by decide +kernel
theorem dX8_doRow_6 : decode cX8_doRow 6 = .ok (.invokevirtual 372, 3) := by decide +kernel
theorem dX8_doRow_9 : decode cX8_doRow 9 = .ok (.istore_n 3, 1) := by decide +kernel
theorem dX8_doRow_10 : decode cX8_doRow 10 = .ok (.iload_n 2, 1) := by decide +kernel
theorem dX8_doRow_11 : decode cX8_doRow 11 = .ok (.lookupswitch 191 #[(42, 131), (43, 131), (45, 131), (47, 131), (60, 131), (70, 122), (77, 149), (99, 140), (102, 113), (106, 163), (109, 149), (114, 180), (121, 171)], 113) := by decide +kernel
theorem dX8_doRow_124 : decode cX8_doRow 124 = .ok (.aload_n 0, 1) := by decide +kernel
theorem dX8_doRow_125 : decode cX8_doRow 125 = .ok (.aload_n 1, 1) := by decide +kernel
theorem dX8_doRow_126 : decode cX8_doRow 126 = .ok (.iload_n 3, 1) := by decide +kernel
theorem dX8_doRow_127 : decode cX8_doRow 127 = .ok (.invokevirtual 385, 3) := by decide +kernel
theorem dX8_doRow_130 : decode cX8_doRow 130 = .ok (.goto 89, 3) := by decide +kernel
theorem dX8_doRow_133 : decode cX8_doRow 133 = .ok (.aload_n 0, 1) := by decide +kernel
theorem dX8_doRow_134 : decode cX8_doRow 134 = .ok (.aload_n 1, 1) := by decide +kernel
theorem dX8_doRow_135 : decode cX8_doRow 135 = .ok (.iload_n 3, 1) := by decide +kernel
theorem dX8_doRow_136 : decode cX8_doRow 136 = .ok (.invokevirtual 389, 3) := by decide +kernel
theorem dX8_doRow_139 : decode cX8_doRow 139 = .ok (.goto 80, 3) := by decide +kernel
theorem dX8_doRow_142 : decode cX8_doRow 142 = .ok (.aload_n 0, 1) := by decide +kernel
theorem dX8_doRow_143 : decode cX8_doRow 143 = .ok (.aload_n 1, 1) := by decide +kernel
theorem dX8_doRow_144 : decode cX8_doRow 144 = .ok (.iload_n 2, 1) := by decide +kernel
theorem dX8_doRow_145 : decode cX8_doRow 145 = .ok (.invokevirtual 392, 3) := by decide +kernel
theorem dX8_doRow_148 : decode cX8_doRow 148 = .ok (.goto 71, 3) := by decide +kernel
theorem dX8_doRow_151 : decode cX8_doRow 151 = .ok (.aload_n 0, 1) := by decide +kernel
theorem dX8_doRow_152 : decode cX8_doRow 152 = .ok (.aload_n 1, 1) := by decide +kernel
theorem dX8_doRow_153 : decode cX8_doRow 153 = .ok (.iload_n 3, 1) := by decide +kernel
theorem dX8_doRow_154 : decode cX8_doRow 154 = .ok (.invokevirtual 396, 3) := by decide +kernel
theorem dX8_doRow_157 : decode cX8_doRow 157 = .ok (.goto 62, 3) := by decide +kernel
theorem dX8_doRow_160 : decode cX8_doRow 160 = .ok (.aload_n 0, 1) := by decide +kernel
theorem dX8_doRow_161 : decode cX8_doRow 161 = .ok (.aload_n 1, 1) := by decide +kernel
theorem dX8_doRow_162 : decode cX8_doRow 162 = .ok (.iload_n 2, 1) := by decide +kernel
theorem dX8_doRow_163 : decode cX8_doRow 163 = .ok (.iload_n 3, 1) := by decide +kernel
theorem dX8_doRow_164 : decode cX8_doRow 164 = .ok (.aload_n 1, 1) := by decide +kernel
theorem dX8_doRow_165 : decode cX8_doRow 165 = .ok (.invokevirtual 399, 3) := by decide +kernel
theorem dX8_doRow_168 : decode cX8_doRow 168 = .ok (.invokevirtual 402, 3) := by decide +kernel
theorem dX8_doRow_171 : decode cX8_doRow 171 = .ok (.goto 48, 3) := by decide +kernel
theorem dX8_doRow_174 : decode cX8_doRow 174 = .ok (.aload_n 1, 1) := by decide +kernel
theorem dX8_doRow_175 : decode cX8_doRow 175 = .ok (.iload_n 3, 1) := by decide +kernel
theorem dX8_doRow_176 : decode cX8_doRow 176 = .ok (.putfield 324, 3) := by decide +kernel
theorem dX8_doRow_179 : decode cX8_doRow 179 = .ok (.goto 40, 3) := by decide +kernel
theorem dX8_doRow_182 : decode cX8_doRow 182 = .ok (.aload_n 0, 1) := by decide +kernel
theorem dX8_doRow_183 : decode cX8_doRow 183 = .ok (.aload_n 1, 1) := by decide +kernel
theorem dX8_doRow_184 : decode cX8_doRow 184 = .ok (.iload_n 3, 1) := by decide +kernel
theorem dX8_doRow_185 : decode cX8_doRow 185 = .ok (.invokevirtual 406, 3) := by decide +kernel
theorem dX8_doRow_188 : decode cX8_doRow 188 = .ok (.goto 31, 3) := by decide +kernel
theorem dX8_doRow_191 : decode cX8_doRow 191 = .ok (.aload_n 0, 1) := by decide +kernel
theorem dX8_doRow_192 : decode cX8_doRow 192 = .ok (.aload_n 1, 1) := by decide +kernel
theorem dX8_doRow_193 : decode cX8_doRow 193 = .ok (.invokevirtual 409, 3) := by decide +kernel
theorem dX8_doRow_196 : decode cX8_doRow 196 = .ok (.invokevirtual 412, 3) := by decide +kernel
theorem dX8_doRow_199 : decode cX8_doRow 199 = .ok (.goto 20, 3) := by decide +kernel
theorem dX8_doRow_202 : decode cX8_doRow 202 = .ok (.aload_n 0, 1) := by decide +kernel
theorem dX8_doRow_203 : decode cX8_doRow 203 = .ok (.aload_n 1, 1) := by decide +kernel
theorem dX8_doRow_204 : decode cX8_doRow 204 = .ok (.iload_n 2, 1) := by decide +kernel
theorem dX8_doRow_205 : decode cX8_doRow 205 = .ok (.iload_n 3, 1) := by decide +kernel
theorem dX8_doRow_206 : decode cX8_doRow 206 = .ok (.invokevirtual 415, 3) := by decide +kernel
theorem dX8_doRow_209 : decode cX8_doRow 209 = .ok (.aload_n 1, 1) := by decide +kernel
theorem dX8_doRow_210 : decode cX8_doRow 210 = .ok (.dup, 1) := by decide +kernel
theorem dX8_doRow_211 : decode cX8_doRow 211 = .ok (.getfield 324, 3) := by decide +kernel
theorem dX8_doRow_214 : decode cX8_doRow 214 = .ok (.iconst 1, 1) := by decide +kernel
theorem dX8_doRow_215 : decode cX8_doRow 215 = .ok (.iadd, 1) := by decide +kernel
theorem dX8_doRow_216 : decode cX8_doRow 216 = .ok (.putfield 324, 3) := by decide +kernel
theorem dX8_doRow_219 : decode cX8_doRow 219 = .ok (.return_, 1) := by decide +kernel
section SITES
variable {p : Program} {l : Launch} {e : Env} {R : Room} {s : State} {m : MethodId} {args : Array Value} {below : List Frame} {meth : Method} {c : Code} {H : Heap} {locs : List Loc} {cells slots : Nat} {Q : State → Prop}
variable {pc : Nat} {ls : Array Slot} {rest : List Value} {D : va_G} {ar : Nat → ClassId} {κ : Nat → Nat} {A : Nat → Prop} {a : Nat} {H0 : Heap} {G : gW} {nz nL : Nat} {cc : ByteArray}
theorem m_4_23 : (Cond.code yX7_enlist cX7_enlist 5 none) ∈ lwA := lwA_mk (ck_4 _ (List.mem_of_getElem? (i := 23) rfl)) rfl
theorem m_4_20 : (Cond.methodLink RX8 422 yX7_enlist) ∈ lwA := lwA_mk (ck_4 _ (List.mem_of_getElem? (i := 20) rfl)) rfl
theorem m_4_21 : (Cond.instanceMethod yX7_enlist) ∈ lwA := lwA_mk (ck_4 _ (List.mem_of_getElem? (i := 21) rfl)) rfl
theorem m_4_22 : (Cond.selects RX7 yX7_enlist yX7_enlist) ∈ lwA := lwA_mk (ck_4 _ (List.mem_of_getElem? (i := 22) rfl)) rfl
theorem k_RX8_422 {args : Array Value} {s : State} {R rm : Room} (hts : ∀ w ∈ lwA, w.before args s = true) (hR : rm.frames + 1 ≤ R.frames ∧ 8 + (5 + 11) + rm.locals ≤ R.locals) : CallW R s args RX8 RX7 422 yX7_enlist cX7_enlist 5 none (lwC yX7_enlist cX7_enlist 5 none) rm rm.cells rm.slots 1 := cwV 1 hts (gdV m_4_20 m_4_21 m_4_22 m_1_6 m_4_23) rfl rfl rfl (by decide +kernel) hR
theorem m_4_138 : (Cond.code yX8_valueToPut cX8_valueToPut 4 (some .long)) ∈ lwA := lwA_mk (ck_4 _ (List.mem_of_getElem? (i := 138) rfl)) rfl
theorem m_4_135 : (Cond.methodLink RX8 427 yX8_valueToPut) ∈ lwA := lwA_mk (ck_4 _ (List.mem_of_getElem? (i := 135) rfl)) rfl
theorem m_4_137 : (Cond.instanceMethod yX8_valueToPut) ∈ lwA := lwA_mk (ck_4 _ (List.mem_of_getElem? (i := 137) rfl)) rfl
theorem ms_25 : (Cond.selects RX8 yX8_valueToPut yX8_valueToPut) ∈ lwA := lwA_mk (List.mem_append_left _ (List.mem_of_getElem? (i := 25) rfl)) rfl
theorem k_RX8_427 {args : Array Value} {s : State} {R rm : Room} (hts : ∀ w ∈ lwA, w.before args s = true) (hR : rm.frames + 1 ≤ R.frames ∧ 8 + (4 + 11) + rm.locals ≤ R.locals) : CallW R s args RX8 RX8 427 yX8_valueToPut cX8_valueToPut 4 (some .long) (lwC yX8_valueToPut cX8_valueToPut 4 (some .long)) rm rm.cells rm.slots 3 := cwV 3 hts (gdV m_4_135 m_4_137 ms_25 m_1_1 m_4_138) rfl rfl rfl (by decide +kernel) hR
theorem m_3_202 : (Cond.code yX8_reckon cX8_reckon 7 none) ∈ lwA := lwA_mk (ck_3 _ (List.mem_of_getElem? (i := 202) rfl)) rfl
theorem m_3_199 : (Cond.methodLink RX8 392 yX8_reckon) ∈ lwA := lwA_mk (ck_3 _ (List.mem_of_getElem? (i := 199) rfl)) rfl
theorem m_3_201 : (Cond.instanceMethod yX8_reckon) ∈ lwA := lwA_mk (ck_3 _ (List.mem_of_getElem? (i := 201) rfl)) rfl
theorem ms_15 : (Cond.selects RX8 yX8_reckon yX8_reckon) ∈ lwA := lwA_mk (List.mem_append_left _ (List.mem_of_getElem? (i := 15) rfl)) rfl
theorem k_RX8_392 {args : Array Value} {s : State} {R rm : Room} (hts : ∀ w ∈ lwA, w.before args s = true) (hR : rm.frames + 1 ≤ R.frames ∧ 8 + (7 + 11) + rm.locals ≤ R.locals) : CallW R s args RX8 RX8 392 yX8_reckon cX8_reckon 7 none (lwC yX8_reckon cX8_reckon 7 none) rm rm.cells rm.slots 2 := cwV 2 hts (gdV m_3_199 m_3_201 ms_15 m_1_1 m_3_202) rfl rfl rfl (by decide +kernel) hR
theorem m_3_194 : (Cond.code yX8_takeIntoField cX8_takeIntoField 4 none) ∈ lwA := lwA_mk (ck_3 _ (List.mem_of_getElem? (i := 194) rfl)) rfl
theorem m_3_191 : (Cond.methodLink RX8 389 yX8_takeIntoField) ∈ lwA := lwA_mk (ck_3 _ (List.mem_of_getElem? (i := 191) rfl)) rfl
theorem m_3_193 : (Cond.instanceMethod yX8_takeIntoField) ∈ lwA := lwA_mk (ck_3 _ (List.mem_of_getElem? (i := 193) rfl)) rfl
theorem ms_14 : (Cond.selects RX8 yX8_takeIntoField yX8_takeIntoField) ∈ lwA := lwA_mk (List.mem_append_left _ (List.mem_of_getElem? (i := 14) rfl)) rfl
theorem k_RX8_389 {args : Array Value} {s : State} {R rm : Room} (hts : ∀ w ∈ lwA, w.before args s = true) (hR : rm.frames + 1 ≤ R.frames ∧ 8 + (4 + 11) + rm.locals ≤ R.locals) : CallW R s args RX8 RX8 389 yX8_takeIntoField cX8_takeIntoField 4 none (lwC yX8_takeIntoField cX8_takeIntoField 4 none) rm rm.cells rm.slots 2 := cwV 2 hts (gdV m_3_191 m_3_193 ms_14 m_1_1 m_3_194) rfl rfl rfl (by decide +kernel) hR
theorem m_3_235 : (Cond.code yX1_second cX1_second 1 (some .int)) ∈ lwA := lwA_mk (ck_3 _ (List.mem_of_getElem? (i := 235) rfl)) rfl
theorem m_3_232 : (Cond.methodLink RX8 399 yX1_second) ∈ lwA := lwA_mk (ck_3 _ (List.mem_of_getElem? (i := 232) rfl)) rfl
theorem m_3_233 : (Cond.instanceMethod yX1_second) ∈ lwA := lwA_mk (ck_3 _ (List.mem_of_getElem? (i := 233) rfl)) rfl
theorem m_3_234 : (Cond.selects RX1 yX1_second yX1_second) ∈ lwA := lwA_mk (ck_3 _ (List.mem_of_getElem? (i := 234) rfl)) rfl
theorem k_RX8_399 {args : Array Value} {s : State} {R rm : Room} (hts : ∀ w ∈ lwA, w.before args s = true) (hR : rm.frames + 1 ≤ R.frames ∧ 8 + (1 + 11) + rm.locals ≤ R.locals) : CallW R s args RX8 RX1 399 yX1_second cX1_second 1 (some .int) (lwC yX1_second cX1_second 1 (some .int)) rm rm.cells rm.slots 0 := cwV 0 hts (gdV m_3_232 m_3_233 m_3_234 m_1_11 m_3_235) rfl rfl rfl (by decide +kernel) hR
theorem m_4_3 : (Cond.code yX8_send cX8_send 11 none) ∈ lwA := lwA_mk (ck_4 _ (List.mem_of_getElem? (i := 3) rfl)) rfl
theorem m_4_0 : (Cond.methodLink RX8 402 yX8_send) ∈ lwA := lwA_mk (ck_4 _ (List.mem_of_getElem? (i := 0) rfl)) rfl
theorem m_4_2 : (Cond.instanceMethod yX8_send) ∈ lwA := lwA_mk (ck_4 _ (List.mem_of_getElem? (i := 2) rfl)) rfl
theorem ms_17 : (Cond.selects RX8 yX8_send yX8_send) ∈ lwA := lwA_mk (List.mem_append_left _ (List.mem_of_getElem? (i := 17) rfl)) rfl
theorem k_RX8_402 {args : Array Value} {s : State} {R rm : Room} (hts : ∀ w ∈ lwA, w.before args s = true) (hR : rm.frames + 1 ≤ R.frames ∧ 8 + (11 + 11) + rm.locals ≤ R.locals) : CallW R s args RX8 RX8 402 yX8_send cX8_send 11 none (lwC yX8_send cX8_send 11 none) rm rm.cells rm.slots 4 := cwV 4 hts (gdV m_4_0 m_4_2 ms_17 m_1_1 m_4_3) rfl rfl rfl (by decide +kernel) hR
theorem m_3_209 : (Cond.code yX8_makeThing cX8_makeThing 3 none) ∈ lwA := lwA_mk (ck_3 _ (List.mem_of_getElem? (i := 209) rfl)) rfl
theorem m_3_206 : (Cond.methodLink RX8 396 yX8_makeThing) ∈ lwA := lwA_mk (ck_3 _ (List.mem_of_getElem? (i := 206) rfl)) rfl
theorem m_3_208 : (Cond.instanceMethod yX8_makeThing) ∈ lwA := lwA_mk (ck_3 _ (List.mem_of_getElem? (i := 208) rfl)) rfl
theorem ms_16 : (Cond.selects RX8 yX8_makeThing yX8_makeThing) ∈ lwA := lwA_mk (List.mem_append_left _ (List.mem_of_getElem? (i := 16) rfl)) rfl
theorem k_RX8_396 {args : Array Value} {s : State} {R rm : Room} (hts : ∀ w ∈ lwA, w.before args s = true) (hR : rm.frames + 1 ≤ R.frames ∧ 8 + (3 + 11) + rm.locals ≤ R.locals) : CallW R s args RX8 RX8 396 yX8_makeThing cX8_makeThing 3 none (lwC yX8_makeThing cX8_makeThing 3 none) rm rm.cells rm.slots 2 := cwV 2 hts (gdV m_3_206 m_3_208 ms_16 m_1_1 m_3_209) rfl rfl rfl (by decide +kernel) hR
theorem m_3_175 : (Cond.code yX8_putField cX8_putField 4 none) ∈ lwA := lwA_mk (ck_3 _ (List.mem_of_getElem? (i := 175) rfl)) rfl
theorem m_3_172 : (Cond.methodLink RX8 385 yX8_putField) ∈ lwA := lwA_mk (ck_3 _ (List.mem_of_getElem? (i := 172) rfl)) rfl
theorem m_3_174 : (Cond.instanceMethod yX8_putField) ∈ lwA := lwA_mk (ck_3 _ (List.mem_of_getElem? (i := 174) rfl)) rfl
theorem ms_12 : (Cond.selects RX8 yX8_putField yX8_putField) ∈ lwA := lwA_mk (List.mem_append_left _ (List.mem_of_getElem? (i := 12) rfl)) rfl
theorem k_RX8_385 {args : Array Value} {s : State} {R rm : Room} (hts : ∀ w ∈ lwA, w.before args s = true) (hR : rm.frames + 1 ≤ R.frames ∧ 8 + (4 + 11) + rm.locals ≤ R.locals) : CallW R s args RX8 RX8 385 yX8_putField cX8_putField 4 none (lwC yX8_putField cX8_putField 4 none) rm rm.cells rm.slots 2 := cwV 2 hts (gdV m_3_172 m_3_174 ms_12 m_1_1 m_3_175) rfl rfl rfl (by decide +kernel) hR
theorem m_4_15 : (Cond.code yX8_giveBack cX8_giveBack 4 none) ∈ lwA := lwA_mk (ck_4 _ (List.mem_of_getElem? (i := 15) rfl)) rfl
theorem m_4_12 : (Cond.methodLink RX8 412 yX8_giveBack) ∈ lwA := lwA_mk (ck_4 _ (List.mem_of_getElem? (i := 12) rfl)) rfl
theorem m_4_14 : (Cond.instanceMethod yX8_giveBack) ∈ lwA := lwA_mk (ck_4 _ (List.mem_of_getElem? (i := 14) rfl)) rfl
theorem ms_19 : (Cond.selects RX8 yX8_giveBack yX8_giveBack) ∈ lwA := lwA_mk (List.mem_append_left _ (List.mem_of_getElem? (i := 19) rfl)) rfl
theorem k_RX8_412 {args : Array Value} {s : State} {R rm : Room} (hts : ∀ w ∈ lwA, w.before args s = true) (hR : rm.frames + 1 ≤ R.frames ∧ 8 + (4 + 11) + rm.locals ≤ R.locals) : CallW R s args RX8 RX8 412 yX8_giveBack cX8_giveBack 4 none (lwC yX8_giveBack cX8_giveBack 4 none) rm rm.cells rm.slots 1 := cwV 1 hts (gdV m_4_12 m_4_14 ms_19 m_1_1 m_4_15) rfl rfl rfl (by decide +kernel) hR
theorem m_4_11 : (Cond.code yX8_goThereIfNotZero cX8_goThereIfNotZero 5 none) ∈ lwA := lwA_mk (ck_4 _ (List.mem_of_getElem? (i := 11) rfl)) rfl
theorem m_4_8 : (Cond.methodLink RX8 406 yX8_goThereIfNotZero) ∈ lwA := lwA_mk (ck_4 _ (List.mem_of_getElem? (i := 8) rfl)) rfl
theorem m_4_10 : (Cond.instanceMethod yX8_goThereIfNotZero) ∈ lwA := lwA_mk (ck_4 _ (List.mem_of_getElem? (i := 10) rfl)) rfl
theorem ms_18 : (Cond.selects RX8 yX8_goThereIfNotZero yX8_goThereIfNotZero) ∈ lwA := lwA_mk (List.mem_append_left _ (List.mem_of_getElem? (i := 18) rfl)) rfl
theorem k_RX8_406 {args : Array Value} {s : State} {R rm : Room} (hts : ∀ w ∈ lwA, w.before args s = true) (hR : rm.frames + 1 ≤ R.frames ∧ 8 + (5 + 11) + rm.locals ≤ R.locals) : CallW R s args RX8 RX8 406 yX8_goThereIfNotZero cX8_goThereIfNotZero 5 none (lwC yX8_goThereIfNotZero cX8_goThereIfNotZero 5 none) rm rm.cells rm.slots 2 := cwV 2 hts (gdV m_4_8 m_4_10 ms_18 m_1_1 m_4_11) rfl rfl rfl (by decide +kernel) hR
theorem m_4_19 : (Cond.code yX8_doRowWithoutFault cX8_doRowWithoutFault 4 none) ∈ lwA := lwA_mk (ck_4 _ (List.mem_of_getElem? (i := 19) rfl)) rfl
theorem m_4_16 : (Cond.methodLink RX8 415 yX8_doRowWithoutFault) ∈ lwA := lwA_mk (ck_4 _ (List.mem_of_getElem? (i := 16) rfl)) rfl
theorem m_4_18 : (Cond.instanceMethod yX8_doRowWithoutFault) ∈ lwA := lwA_mk (ck_4 _ (List.mem_of_getElem? (i := 18) rfl)) rfl
theorem ms_20 : (Cond.selects RX8 yX8_doRowWithoutFault yX8_doRowWithoutFault) ∈ lwA := lwA_mk (List.mem_append_left _ (List.mem_of_getElem? (i := 20) rfl)) rfl
theorem k_RX8_415 {args : Array Value} {s : State} {R rm : Room} (hts : ∀ w ∈ lwA, w.before args s = true) (hR : rm.frames + 1 ≤ R.frames ∧ 8 + (4 + 11) + rm.locals ≤ R.locals) : CallW R s args RX8 RX8 415 yX8_doRowWithoutFault cX8_doRowWithoutFault 4 none (lwC yX8_doRowWithoutFault cX8_doRowWithoutFault 4 none) rm rm.cells rm.slots 3 := cwV 3 hts (gdV m_4_16 m_4_18 ms_20 m_1_1 m_4_19) rfl rfl rfl (by decide +kernel) hR
end SITES
def sX8_doRowWithoutFault (Z : Ho) (i0 : Fin 12) (c0 : Int32) (j0 : Int32) : Ho := if c0 = 61 then (pc (sX1_pop Z i0) (fun r1 T2 => pc (sX1_pop T2 i0) (fun r6 T7 => if lg_cmp r1 r6 = 0 then (vc (sX1_push T7 i0 (sX8_ofNumber T7 1)) (fun T15 => T15)) else (vc (sX1_push T7 i0 (sX8_ofNumber T7 0)) (fun T11 => T11))))) else (if c0 = 71 then (pc (sX1_pop Z i0) (fun r19 T20 => (T20.sgl (pU T20.gl 8 j0 r19)))) else (if c0 = 84 then (pc (sX1_pop Z i0) (fun r24 T25 => (T25.frS i0 ((T25.fr i0).st (pU ((T25.fr i0).t) 4 j0 r24))))) else (if c0 = 107 then (pc (sX1_pop Z i0) (fun r29 T30 => vc (sX1_push T30 i0 (sX8_ofNumber T30 (sX5_classOfValue T30 r29))) (fun T34 => T34))) else (if c0 = 112 then (pc (sX1_pop Z i0) (fun r38 T39 => T39)) else (if c0 = 119 then (pc (sX1_pop Z i0) (fun r43 T44 => vc (sX7_enlist T44 r43) (fun T48 => T48))) else (vc (sX1_push Z i0 (sX8_valueToPut Z i0 c0 j0)) (fun T57 => T57)))))))
theorem sX8_doRowWithoutFault_u (Z : Ho) (i0 : Fin 12) (c0 : Int32) (j0 : Int32) : sX8_doRowWithoutFault Z i0 c0 j0 = if c0 = 61 then (pc (sX1_pop Z i0) (fun r1 T2 => pc (sX1_pop T2 i0) (fun r6 T7 => if lg_cmp r1 r6 = 0 then (vc (sX1_push T7 i0 (sX8_ofNumber T7 1)) (fun T15 => T15)) else (vc (sX1_push T7 i0 (sX8_ofNumber T7 0)) (fun T11 => T11))))) else (if c0 = 71 then (pc (sX1_pop Z i0) (fun r19 T20 => (T20.sgl (pU T20.gl 8 j0 r19)))) else (if c0 = 84 then (pc (sX1_pop Z i0) (fun r24 T25 => (T25.frS i0 ((T25.fr i0).st (pU ((T25.fr i0).t) 4 j0 r24))))) else (if c0 = 107 then (pc (sX1_pop Z i0) (fun r29 T30 => vc (sX1_push T30 i0 (sX8_ofNumber T30 (sX5_classOfValue T30 r29))) (fun T34 => T34))) else (if c0 = 112 then (pc (sX1_pop Z i0) (fun r38 T39 => T39)) else (if c0 = 119 then (pc (sX1_pop Z i0) (fun r43 T44 => vc (sX7_enlist T44 r43) (fun T48 => T48))) else (vc (sX1_push Z i0 (sX8_valueToPut Z i0 c0 j0)) (fun T57 => T57))))))) := rfl
set_option maxHeartbeats 4000000 in
set_option maxRecDepth 100000 in
theorem hX8_doRowWithoutFault (l : Launch) (D : va_G) (ar : Nat → ClassId) (κ : Nat → Nat) (G : gW) (x : Xo) (Z : Ho) (sz : Nat) (i0 : Fin 12) (c0 : Int32) (j0 : Int32) (hk : OK x Z) (hw : Wk Z) : Met l yX8_doRowWithoutFault (lwC yX8_doRowWithoutFault cX8_doRowWithoutFault 4 none) (rD 8 (3 * ((sX8_doRowWithoutFault Z i0 c0 j0).np - Z.np)) (523 * ((sX8_doRowWithoutFault Z i0 c0 j0).np - Z.np))) (g_Pc D vwCl (gT ar) (EX1 κ) (ov κ ar x Z G) sz [.ref (x.f .ho), .ref (x.f (.fr i0)), .int c0, .int j0]) (g_Qv D vwCl (g_A (ov κ ar x Z G) sz) (fun u => ∃ z9 : Zo, ∃ T9 : Ho, sX8_doRowWithoutFault Z i0 c0 j0 = T9 ∧ u.1 = ov κ ar (x.pgs z9) T9 G ∧ OK (x.pgs z9) T9 ∧ BX x z9 sz ∧ SZW T9 Z)) (3 * ((sX8_doRowWithoutFault Z i0 c0 j0).np - Z.np)) (523 * ((sX8_doRowWithoutFault Z i0 c0 j0).np - Z.np)) (g_A (ov κ ar x Z G) sz) := by
  refine g_ofW (by decide +kernel) (Nat.le_of_ble_eq_true rfl) ?_
  intro p e s m below meth c ls S hr hlk hin hE w hl
  have hx := S.1
  have hb := S.2.1
  have hl : lv_has ls 4 [(0, .ref (x.f .ho)), (1, .ref (x.f (.fr i0))), (2, .int c0), (3, .int j0)] := hl
  refine lv_iload_n hx hb dX8_doRowWithoutFault_0 rfl (lv_at hl 2 rfl) ?_
  by_cases c_1_0 : c0 = 61
  · refine lv_lookup (off := 111) (tgt := 112) hx hb dX8_doRowWithoutFault_1 (by decide) (by have h9 := c_1_0; (rw [h9]; decide)) (by decide) ?_
    refine lv_aload_n hx hb dX8_doRowWithoutFault_112 rfl (lv_at hl 1 rfl) ?_
    refine lv_aload_n hx hb dX8_doRowWithoutFault_113 rfl (lv_at hl 1 rfl) ?_
    refine g_calll w (g_runV (As := []) (rest := [.ref (x.f (.fr i0))]) S hE w hl (hX1_pop l D ar κ G x Z sz i0 hk ) (k_RX8_409 S.2.2.2.2 ⟨Nat.le_of_ble_eq_true rfl, Nat.le_of_ble_eq_true rfl⟩) (ov_r (t := .fr i0) (hk.e (.fr i0) rfl)) rfl rfl rfl rfl (Nat.le_of_ble_eq_true rfl) dX8_doRowWithoutFault_114 ⟨Nat.zero_le _, Nat.zero_le _⟩) (fun r1 u H locs hp hnz w => ?_)
    obtain ⟨T2, e3, hu9, hk4, sq5⟩ := hp
    subst hu9
    dsimp only at w
    refine lv_aload_n hx hb dX8_doRowWithoutFault_117 rfl (lv_at hl 1 rfl) ?_
    refine g_calll w (g_runV (As := []) (rest := [.long r1, .ref (x.f (.fr i0))]) S hE w hl (hX1_pop l D ar κ G x T2 sz i0 hk4 ) (k_RX8_409 S.2.2.2.2 ⟨Nat.le_of_ble_eq_true rfl, Nat.le_of_ble_eq_true rfl⟩) (ov_r (t := .fr i0) (hk4.e (.fr i0) rfl)) rfl rfl rfl rfl (Nat.le_of_ble_eq_true rfl) dX8_doRowWithoutFault_118 ⟨Nat.zero_le _, Nat.zero_le _⟩) (fun r6 u H locs hp hnz w => ?_)
    obtain ⟨T7, e8, hu9, hk9, sq10⟩ := hp
    subst hu9
    dsimp only at w
    refine W.lcmp hx hb dX8_doRowWithoutFault_121 ?_
    refine lv_if_ne (tgt := 129) hx hb dX8_doRowWithoutFault_122 (by decide) (fun c_122 => ?_) (fun c_122 => ?_)
    · refine lv_iconst (v := 0) hx hb dX8_doRowWithoutFault_129 (by decide) ?_
      refine g_calll w (g_runS (As := [.int 0]) (rest := [.ref (x.f (.fr i0))]) S hE w hl (hX8_ofNumber l D ar κ G x T7 sz 0 hk9 ) (k_RX8_199 S.2.2.2.2 ⟨Nat.le_of_ble_eq_true rfl, Nat.le_of_ble_eq_true rfl⟩) rfl rfl (Nat.le_of_ble_eq_true rfl) dX8_doRowWithoutFault_130 ⟨Nat.zero_le _, Nat.zero_le _⟩) (fun r u H locs hp hnz w => ?_)
      obtain ⟨rfl, rfl⟩ := hp
      dsimp only at w
      refine g_callv w (g_runV (As := [.long (sX8_ofNumber T7 0)]) (rest := []) S hE w hl (hX1_push l D ar κ G x T7 sz i0 (sX8_ofNumber T7 0) hk9 ) (k_RX8_424 S.2.2.2.2 ⟨Nat.le_of_ble_eq_true rfl, Nat.le_of_ble_eq_true rfl⟩) (ov_r (t := .fr i0) (hk9.e (.fr i0) rfl)) rfl rfl rfl rfl (Nat.le_of_ble_eq_true rfl) dX8_doRowWithoutFault_133 ⟨Nat.zero_le _, Nat.zero_le _⟩) (fun u H locs hp hnz w => ?_)
      obtain ⟨T11, e12, hu9, hk13, sq14⟩ := hp
      subst hu9
      dsimp only at w
      refine lv_goto (tgt := 171) hx hb dX8_doRowWithoutFault_136 (by decide) ?_
      exact g_vret hx hb hr hlk w (Nat.zero_le _) (Nat.zero_le _) dX8_doRowWithoutFault_171 ⟨x.z, _, ((sX8_doRowWithoutFault_u Z i0 c0 j0).trans ((if_pos c_1_0).trans ((pc_e e3).trans ((pc_e e8).trans ((if_neg c_122).trans (vc_e e12)))))), rfl, hk13, (fun a9 t9 h9 => Or.inl h9), (SZW.t (SZ.w sq14) (SZW.t (SZ.w sq10) (SZW.t (SZ.w sq5) ⟨rfl, rfl, Nat.le_refl _⟩)))⟩
    · refine lv_iconst (v := 1) hx hb dX8_doRowWithoutFault_125 (by decide) ?_
      refine lv_goto (tgt := 130) hx hb dX8_doRowWithoutFault_126 (by decide) ?_
      refine g_calll w (g_runS (As := [.int 1]) (rest := [.ref (x.f (.fr i0))]) S hE w hl (hX8_ofNumber l D ar κ G x T7 sz 1 hk9 ) (k_RX8_199 S.2.2.2.2 ⟨Nat.le_of_ble_eq_true rfl, Nat.le_of_ble_eq_true rfl⟩) rfl rfl (Nat.le_of_ble_eq_true rfl) dX8_doRowWithoutFault_130 ⟨Nat.zero_le _, Nat.zero_le _⟩) (fun r u H locs hp hnz w => ?_)
      obtain ⟨rfl, rfl⟩ := hp
      dsimp only at w
      refine g_callv w (g_runV (As := [.long (sX8_ofNumber T7 1)]) (rest := []) S hE w hl (hX1_push l D ar κ G x T7 sz i0 (sX8_ofNumber T7 1) hk9 ) (k_RX8_424 S.2.2.2.2 ⟨Nat.le_of_ble_eq_true rfl, Nat.le_of_ble_eq_true rfl⟩) (ov_r (t := .fr i0) (hk9.e (.fr i0) rfl)) rfl rfl rfl rfl (Nat.le_of_ble_eq_true rfl) dX8_doRowWithoutFault_133 ⟨Nat.zero_le _, Nat.zero_le _⟩) (fun u H locs hp hnz w => ?_)
      obtain ⟨T15, e16, hu9, hk17, sq18⟩ := hp
      subst hu9
      dsimp only at w
      refine lv_goto (tgt := 171) hx hb dX8_doRowWithoutFault_136 (by decide) ?_
      exact g_vret hx hb hr hlk w (Nat.zero_le _) (Nat.zero_le _) dX8_doRowWithoutFault_171 ⟨x.z, _, ((sX8_doRowWithoutFault_u Z i0 c0 j0).trans ((if_pos c_1_0).trans ((pc_e e3).trans ((pc_e e8).trans ((if_pos c_122).trans (vc_e e16)))))), rfl, hk17, (fun a9 t9 h9 => Or.inl h9), (SZW.t (SZ.w sq18) (SZW.t (SZ.w sq10) (SZW.t (SZ.w sq5) ⟨rfl, rfl, Nat.le_refl _⟩)))⟩
  by_cases c_1_1 : c0 = 71
  · refine lv_lookup (off := 74) (tgt := 75) hx hb dX8_doRowWithoutFault_1 (by decide) (by have h9 := c_1_1; (rw [h9]; decide)) (by decide) ?_
    refine lv_aload_n hx hb dX8_doRowWithoutFault_75 rfl (lv_at hl 0 rfl) ?_
    refine gf_RX8_33_14 (v := .ref (x.f .gl)) S hE w (ov_r (t := .ho) (hk.e (.ho) rfl)) rfl dX8_doRowWithoutFault_76 ?_
    refine lv_iload_n hx hb dX8_doRowWithoutFault_79 rfl (lv_at hl 3 rfl) ?_
    refine lv_aload_n hx hb dX8_doRowWithoutFault_80 rfl (lv_at hl 1 rfl) ?_
    refine g_calll w (g_runV (As := []) (rest := [.int j0, .ref (x.f .gl)]) S hE w hl (hX1_pop l D ar κ G x Z sz i0 hk ) (k_RX8_409 S.2.2.2.2 ⟨Nat.le_of_ble_eq_true rfl, Nat.le_of_ble_eq_true rfl⟩) (ov_r (t := .fr i0) (hk.e (.fr i0) rfl)) rfl rfl rfl rfl (Nat.le_of_ble_eq_true rfl) dX8_doRowWithoutFault_81 ⟨Nat.zero_le _, Nat.zero_le _⟩) (fun r19 u H locs hp hnz w => ?_)
    obtain ⟨T20, e21, hu9, hk22, sq23⟩ := hp
    subst hu9
    dsimp only at w
    refine g_callv w (g_runS (As := [.ref (x.f .gl), .int j0, .long r19]) (rest := []) S hE w hl (c_putAt l D ar κ (ov κ ar x T20 G) sz (x.f .gl) j0 r19 8 T20.gl (ov_r (t := .gl) (hk22.e (.gl) rfl)) (by decide)) (k_RX8_203 S.2.2.2.2 ⟨Nat.le_of_ble_eq_true rfl, Nat.le_of_ble_eq_true rfl⟩) rfl rfl (Nat.le_of_ble_eq_true rfl) dX8_doRowWithoutFault_84 ⟨Nat.zero_le _, Nat.zero_le _⟩) (fun u H locs hp hnz w => ?_)
    obtain rfl := hp
    dsimp only at w
    have w : g_S D vwCl (g_A (ov κ ar x Z G) sz) s.heap (ov κ ar x (T20.sgl (pU T20.gl 8 j0 r19)) G) H _ sz := g_eqw w (ov_wgl (S := T20) (T := (T20.sgl (pU T20.gl 8 j0 r19))) hk22.v (hk22.e (.gl) rfl) rfl Ho_ab_sgl Ho_fc_sgl Ho_cn_sgl Ho_me_sgl Ho_nt_sgl Ho_nr_sgl Ho_ty_sgl Ho_to_sgl Ho_ro_sgl Ho_al_sgl Ho_re_sgl Ho_th_sgl Ho_tc_sgl Ho_rc_sgl Ho_mk_sgl Ho_fr_sgl Ho_fn_sgl Ho_st_sgl Ho_rs_sgl Ho_an_sgl Ho_sp_sgl Ho_np_sgl Ho_pg_sgl Ho_wc_sgl Ho_ws_sgl Ho_wp_sgl)
    refine lv_goto (tgt := 171) hx hb dX8_doRowWithoutFault_87 (by decide) ?_
    exact g_vret hx hb hr hlk w (Nat.zero_le _) (Nat.zero_le _) dX8_doRowWithoutFault_171 ⟨x.z, _, ((sX8_doRowWithoutFault_u Z i0 c0 j0).trans ((if_neg c_1_0).trans ((if_pos c_1_1).trans (pc_e e21)))), rfl, (hk22.plain (T := (T20.sgl (pU T20.gl 8 j0 r19))) rfl rfl rfl rfl rfl rfl rfl), (fun a9 t9 h9 => Or.inl h9), (SZW.t (SZ.w sq23) ⟨rfl, rfl, Nat.le_refl _⟩)⟩
  by_cases c_1_2 : c0 = 84
  · refine lv_lookup (off := 59) (tgt := 60) hx hb dX8_doRowWithoutFault_1 (by decide) (by have h9 := c_1_2; (rw [h9]; decide)) (by decide) ?_
    refine lv_aload_n hx hb dX8_doRowWithoutFault_60 rfl (lv_at hl 1 rfl) ?_
    refine gf_RX8_419_7 (v := .ref (x.f (.ft i0))) S hE w (ov_r (t := .fr i0) (hk.e (.fr i0) rfl)) rfl dX8_doRowWithoutFault_61 ?_
    refine lv_iload_n hx hb dX8_doRowWithoutFault_64 rfl (lv_at hl 3 rfl) ?_
    refine lv_aload_n hx hb dX8_doRowWithoutFault_65 rfl (lv_at hl 1 rfl) ?_
    refine g_calll w (g_runV (As := []) (rest := [.int j0, .ref (x.f (.ft i0))]) S hE w hl (hX1_pop l D ar κ G x Z sz i0 hk ) (k_RX8_409 S.2.2.2.2 ⟨Nat.le_of_ble_eq_true rfl, Nat.le_of_ble_eq_true rfl⟩) (ov_r (t := .fr i0) (hk.e (.fr i0) rfl)) rfl rfl rfl rfl (Nat.le_of_ble_eq_true rfl) dX8_doRowWithoutFault_66 ⟨Nat.zero_le _, Nat.zero_le _⟩) (fun r24 u H locs hp hnz w => ?_)
    obtain ⟨T25, e26, hu9, hk27, sq28⟩ := hp
    subst hu9
    dsimp only at w
    refine g_callv w (g_runS (As := [.ref (x.f (.ft i0)), .int j0, .long r24]) (rest := []) S hE w hl (c_putAt l D ar κ (ov κ ar x T25 G) sz (x.f (.ft i0)) j0 r24 4 ((T25.fr i0).t) (ov_r (t := .ft i0) (hk27.e (.ft i0) rfl)) (by decide)) (k_RX8_203 S.2.2.2.2 ⟨Nat.le_of_ble_eq_true rfl, Nat.le_of_ble_eq_true rfl⟩) rfl rfl (Nat.le_of_ble_eq_true rfl) dX8_doRowWithoutFault_69 ⟨Nat.zero_le _, Nat.zero_le _⟩) (fun u H locs hp hnz w => ?_)
    obtain rfl := hp
    dsimp only at w
    have w := g_eqw w (congrArg (fun Z9 => g_up (ov κ ar x Z9 G) (x.f (.ft i0)) (.inl (ar 1, 4, .inr (.inl (pU ((T25.fr i0).t) 4 j0 r24))))) (frS_id (S := T25) (i := i0)).symm)
    have w : g_S D vwCl (g_A (ov κ ar x Z G) sz) s.heap (ov κ ar x (T25.frS i0 ((T25.fr i0).st (pU ((T25.fr i0).t) 4 j0 r24))) G) H _ sz := g_eqw w (ov_wft (S := T25) (v := (T25.fr i0)) (v' := ((T25.fr i0).st (pU ((T25.fr i0).t) 4 j0 r24))) hk27.v (hk27.e (.ft i0) rfl) rfl Fr_a_st Fr_p_st Fr_o_st Fr_v_st Fr_w_st Fr_d_st)
    refine lv_goto (tgt := 171) hx hb dX8_doRowWithoutFault_72 (by decide) ?_
    exact g_vret hx hb hr hlk w (Nat.zero_le _) (Nat.zero_le _) dX8_doRowWithoutFault_171 ⟨x.z, _, ((sX8_doRowWithoutFault_u Z i0 c0 j0).trans ((if_neg c_1_0).trans ((if_neg c_1_1).trans ((if_pos c_1_2).trans (pc_e e26))))), rfl, (OK.frS (S := T25) hk27 (fun k9 q9 => hk27.o (i := i0) q9)), (fun a9 t9 h9 => Or.inl h9), (SZW.t (SZ.w sq28) ⟨rfl, rfl, Nat.le_refl _⟩)⟩
  by_cases c_1_3 : c0 = 107
  · refine lv_lookup (off := 138) (tgt := 139) hx hb dX8_doRowWithoutFault_1 (by decide) (by have h9 := c_1_3; (rw [h9]; decide)) (by decide) ?_
    refine lv_aload_n hx hb dX8_doRowWithoutFault_139 rfl (lv_at hl 1 rfl) ?_
    refine lv_aload_n hx hb dX8_doRowWithoutFault_140 rfl (lv_at hl 0 rfl) ?_
    refine gf_RX8_40_14 (v := .ref (x.f .ts)) S hE w (ov_r (t := .ho) (hk.e (.ho) rfl)) rfl dX8_doRowWithoutFault_141 ?_
    refine lv_aload_n hx hb dX8_doRowWithoutFault_144 rfl (lv_at hl 1 rfl) ?_
    refine g_calll w (g_runV (As := []) (rest := [.ref (x.f .ts), .ref (x.f (.fr i0))]) S hE w hl (hX1_pop l D ar κ G x Z sz i0 hk ) (k_RX8_409 S.2.2.2.2 ⟨Nat.le_of_ble_eq_true rfl, Nat.le_of_ble_eq_true rfl⟩) (ov_r (t := .fr i0) (hk.e (.fr i0) rfl)) rfl rfl rfl rfl (Nat.le_of_ble_eq_true rfl) dX8_doRowWithoutFault_145 ⟨Nat.zero_le _, Nat.zero_le _⟩) (fun r29 u H locs hp hnz w => ?_)
    obtain ⟨T30, e31, hu9, hk32, sq33⟩ := hp
    subst hu9
    dsimp only at w
    refine g_calli w (g_runV (As := [.long r29]) (rest := [.ref (x.f (.fr i0))]) S hE w hl (hX5_classOfValue l D ar κ G x T30 sz r29 hk32 ) (k_RX8_284 S.2.2.2.2 ⟨Nat.le_of_ble_eq_true rfl, Nat.le_of_ble_eq_true rfl⟩) (ov_r (t := .ts) (hk32.e (.ts) rfl)) rfl rfl rfl rfl (Nat.le_of_ble_eq_true rfl) dX8_doRowWithoutFault_148 ⟨Nat.zero_le _, Nat.zero_le _⟩) (fun r u H locs hp hnz w => ?_)
    obtain ⟨rfl, rfl⟩ := hp
    dsimp only at w
    refine g_calll w (g_runS (As := [.int (sX5_classOfValue T30 r29)]) (rest := [.ref (x.f (.fr i0))]) S hE w hl (hX8_ofNumber l D ar κ G x T30 sz (sX5_classOfValue T30 r29) hk32 ) (k_RX8_199 S.2.2.2.2 ⟨Nat.le_of_ble_eq_true rfl, Nat.le_of_ble_eq_true rfl⟩) rfl rfl (Nat.le_of_ble_eq_true rfl) dX8_doRowWithoutFault_151 ⟨Nat.zero_le _, Nat.zero_le _⟩) (fun r u H locs hp hnz w => ?_)
    obtain ⟨rfl, rfl⟩ := hp
    dsimp only at w
    refine g_callv w (g_runV (As := [.long (sX8_ofNumber T30 (sX5_classOfValue T30 r29))]) (rest := []) S hE w hl (hX1_push l D ar κ G x T30 sz i0 (sX8_ofNumber T30 (sX5_classOfValue T30 r29)) hk32 ) (k_RX8_424 S.2.2.2.2 ⟨Nat.le_of_ble_eq_true rfl, Nat.le_of_ble_eq_true rfl⟩) (ov_r (t := .fr i0) (hk32.e (.fr i0) rfl)) rfl rfl rfl rfl (Nat.le_of_ble_eq_true rfl) dX8_doRowWithoutFault_154 ⟨Nat.zero_le _, Nat.zero_le _⟩) (fun u H locs hp hnz w => ?_)
    obtain ⟨T34, e35, hu9, hk36, sq37⟩ := hp
    subst hu9
    dsimp only at w
    refine lv_goto (tgt := 171) hx hb dX8_doRowWithoutFault_157 (by decide) ?_
    exact g_vret hx hb hr hlk w (Nat.zero_le _) (Nat.zero_le _) dX8_doRowWithoutFault_171 ⟨x.z, _, ((sX8_doRowWithoutFault_u Z i0 c0 j0).trans ((if_neg c_1_0).trans ((if_neg c_1_1).trans ((if_neg c_1_2).trans ((if_pos c_1_3).trans ((pc_e e31).trans (vc_e e35))))))), rfl, hk36, (fun a9 t9 h9 => Or.inl h9), (SZW.t (SZ.w sq37) (SZW.t (SZ.w sq33) ⟨rfl, rfl, Nat.le_refl _⟩))⟩
  by_cases c_1_4 : c0 = 112
  · refine lv_lookup (off := 89) (tgt := 90) hx hb dX8_doRowWithoutFault_1 (by decide) (by have h9 := c_1_4; (rw [h9]; decide)) (by decide) ?_
    refine lv_aload_n hx hb dX8_doRowWithoutFault_90 rfl (lv_at hl 1 rfl) ?_
    refine g_calll w (g_runV (As := []) (rest := []) S hE w hl (hX1_pop l D ar κ G x Z sz i0 hk ) (k_RX8_409 S.2.2.2.2 ⟨Nat.le_of_ble_eq_true rfl, Nat.le_of_ble_eq_true rfl⟩) (ov_r (t := .fr i0) (hk.e (.fr i0) rfl)) rfl rfl rfl rfl (Nat.le_of_ble_eq_true rfl) dX8_doRowWithoutFault_91 ⟨Nat.zero_le _, Nat.zero_le _⟩) (fun r38 u H locs hp hnz w => ?_)
    obtain ⟨T39, e40, hu9, hk41, sq42⟩ := hp
    subst hu9
    dsimp only at w
    refine lv_pop2_2 hx hb dX8_doRowWithoutFault_94 rfl ?_
    refine lv_goto (tgt := 171) hx hb dX8_doRowWithoutFault_95 (by decide) ?_
    exact g_vret hx hb hr hlk w (Nat.zero_le _) (Nat.zero_le _) dX8_doRowWithoutFault_171 ⟨x.z, _, ((sX8_doRowWithoutFault_u Z i0 c0 j0).trans ((if_neg c_1_0).trans ((if_neg c_1_1).trans ((if_neg c_1_2).trans ((if_neg c_1_3).trans ((if_pos c_1_4).trans (pc_e e40))))))), rfl, hk41, (fun a9 t9 h9 => Or.inl h9), (SZW.t (SZ.w sq42) ⟨rfl, rfl, Nat.le_refl _⟩)⟩
  by_cases c_1_5 : c0 = 119
  · refine lv_lookup (off := 97) (tgt := 98) hx hb dX8_doRowWithoutFault_1 (by decide) (by have h9 := c_1_5; (rw [h9]; decide)) (by decide) ?_
    refine lv_aload_n hx hb dX8_doRowWithoutFault_98 rfl (lv_at hl 0 rfl) ?_
    refine gf_RX8_72_14 (v := .ref (x.f .wr)) S hE w (ov_r (t := .ho) (hk.e (.ho) rfl)) rfl dX8_doRowWithoutFault_99 ?_
    refine lv_aload_n hx hb dX8_doRowWithoutFault_102 rfl (lv_at hl 1 rfl) ?_
    refine g_calll w (g_runV (As := []) (rest := [.ref (x.f .wr)]) S hE w hl (hX1_pop l D ar κ G x Z sz i0 hk ) (k_RX8_409 S.2.2.2.2 ⟨Nat.le_of_ble_eq_true rfl, Nat.le_of_ble_eq_true rfl⟩) (ov_r (t := .fr i0) (hk.e (.fr i0) rfl)) rfl rfl rfl rfl (Nat.le_of_ble_eq_true rfl) dX8_doRowWithoutFault_103 ⟨Nat.zero_le _, Nat.zero_le _⟩) (fun r43 u H locs hp hnz w => ?_)
    obtain ⟨T44, e45, hu9, hk46, sq47⟩ := hp
    subst hu9
    dsimp only at w
    have q7 := ((sX8_doRowWithoutFault_u Z i0 c0 j0).trans ((if_neg c_1_0).trans ((if_neg c_1_1).trans ((if_neg c_1_2).trans ((if_neg c_1_3).trans ((if_neg c_1_4).trans ((if_pos c_1_5).trans (pc_e e45))))))))
    have q9 : (sX8_doRowWithoutFault Z i0 c0 j0).np = (sX7_enlist T44 r43).np := (congrArg Ho.np q7).trans rfl
    have q8 : (T44).np = Z.np := (show SZ (T44) Z from (SZ.t sq47 ⟨rfl, rfl, rfl, rfl⟩)).2.2.1
    refine g_callv w (g_runV (As := [.long r43]) (rest := []) S hE w hl (hX7_enlist l D ar κ G x T44 sz r43 hk46 (Wk.sz hw (SZ.t sq47 ⟨rfl, rfl, rfl, rfl⟩))) (k_RX8_422 S.2.2.2.2 ⟨Nat.le_of_ble_eq_true rfl, Nat.le_of_ble_eq_true rfl⟩) (ov_r (t := .wr) (hk46.e (.wr) rfl)) rfl rfl rfl rfl (Nat.le_of_ble_eq_true rfl) dX8_doRowWithoutFault_106 ⟨(by (try dsimp only [rD]); omega), (by (try dsimp only [rD]); omega)⟩) (fun u H locs hp hnz w => ?_)
    obtain ⟨z51, T48, e49, hu9, hk50, bx52, sq53⟩ := hp
    obtain ⟨u55, n54⟩ := u
    dsimp only at hu9 w hnz
    subst hu9
    have hz56 := hnz
    refine lv_goto (tgt := 171) hx hb dX8_doRowWithoutFault_109 (by decide) ?_
    exact g_vret hx hb hr hlk w (by (try dsimp only [rD]); omega) (by (try dsimp only [rD]); omega) dX8_doRowWithoutFault_171 ⟨z51, _, ((sX8_doRowWithoutFault_u Z i0 c0 j0).trans ((if_neg c_1_0).trans ((if_neg c_1_1).trans ((if_neg c_1_2).trans ((if_neg c_1_3).trans ((if_neg c_1_4).trans ((if_pos c_1_5).trans ((pc_e e45).trans (vc_e e49))))))))), rfl, hk50, bx52, (SZW.t sq53 (SZW.t (SZ.w sq47) ⟨rfl, rfl, Nat.le_refl _⟩))⟩
  refine lv_lookup (off := 159) (tgt := 160) hx hb dX8_doRowWithoutFault_1 (by decide) (sw_def (ks := [61, 71, 84, 107, 112, 119]) ⟨c_1_0, c_1_1, c_1_2, c_1_3, c_1_4, c_1_5, trivial⟩ (by decide +kernel)) (by decide) ?_
  refine lv_aload_n hx hb dX8_doRowWithoutFault_160 rfl (lv_at hl 1 rfl) ?_
  refine lv_aload_n hx hb dX8_doRowWithoutFault_161 rfl (lv_at hl 0 rfl) ?_
  refine lv_aload_n hx hb dX8_doRowWithoutFault_162 rfl (lv_at hl 1 rfl) ?_
  refine lv_iload_n hx hb dX8_doRowWithoutFault_163 rfl (lv_at hl 2 rfl) ?_
  refine lv_iload_n hx hb dX8_doRowWithoutFault_164 rfl (lv_at hl 3 rfl) ?_
  refine g_calll w (g_runV (As := [.ref (x.f (.fr i0)), .int c0, .int j0]) (rest := [.ref (x.f (.fr i0))]) S hE w hl (hX8_valueToPut l D ar κ G x Z sz i0 c0 j0 hk ) (k_RX8_427 S.2.2.2.2 ⟨Nat.le_of_ble_eq_true rfl, Nat.le_of_ble_eq_true rfl⟩) (ov_r (t := .ho) (hk.e (.ho) rfl)) rfl rfl rfl rfl (Nat.le_of_ble_eq_true rfl) dX8_doRowWithoutFault_165 ⟨Nat.zero_le _, Nat.zero_le _⟩) (fun r u H locs hp hnz w => ?_)
  obtain ⟨rfl, rfl⟩ := hp
  dsimp only at w
  refine g_callv w (g_runV (As := [.long (sX8_valueToPut Z i0 c0 j0)]) (rest := []) S hE w hl (hX1_push l D ar κ G x Z sz i0 (sX8_valueToPut Z i0 c0 j0) hk ) (k_RX8_424 S.2.2.2.2 ⟨Nat.le_of_ble_eq_true rfl, Nat.le_of_ble_eq_true rfl⟩) (ov_r (t := .fr i0) (hk.e (.fr i0) rfl)) rfl rfl rfl rfl (Nat.le_of_ble_eq_true rfl) dX8_doRowWithoutFault_168 ⟨Nat.zero_le _, Nat.zero_le _⟩) (fun u H locs hp hnz w => ?_)
  obtain ⟨T57, e58, hu9, hk59, sq60⟩ := hp
  subst hu9
  dsimp only at w
  exact g_vret hx hb hr hlk w (Nat.zero_le _) (Nat.zero_le _) dX8_doRowWithoutFault_171 ⟨x.z, _, ((sX8_doRowWithoutFault_u Z i0 c0 j0).trans ((if_neg c_1_0).trans ((if_neg c_1_1).trans ((if_neg c_1_2).trans ((if_neg c_1_3).trans ((if_neg c_1_4).trans ((if_neg c_1_5).trans (vc_e e58)))))))), rfl, hk59, (fun a9 t9 h9 => Or.inl h9), (SZW.t (SZ.w sq60) ⟨rfl, rfl, Nat.le_refl _⟩)⟩
noncomputable def sX8_doRow (Z : Ho) (i0 : Fin 12) : Ho := if sX1_letter Z i0 = 42 ∨ sX1_letter Z i0 = 43 ∨ sX1_letter Z i0 = 45 ∨ sX1_letter Z i0 = 47 ∨ sX1_letter Z i0 = 60 then (vc (sX8_reckon Z i0 (sX1_letter Z i0)) (fun T1 => T1)) else (if sX1_letter Z i0 = 70 then (vc (sX8_takeIntoField Z i0 (sX1_first Z i0)) (fun T5 => T5)) else (if sX1_letter Z i0 = 77 ∨ sX1_letter Z i0 = 109 then (vc (sX8_send Z i0 (sX1_letter Z i0) (sX1_first Z i0) (sX1_second Z i0)) (fun T9 => T9)) else (if sX1_letter Z i0 = 99 then (vc (sX8_makeThing Z i0 (sX1_first Z i0)) (fun T18 => T18)) else (if sX1_letter Z i0 = 102 then (vc (sX8_putField Z i0 (sX1_first Z i0)) (fun T22 => T22)) else (if sX1_letter Z i0 = 106 then ((Z.frS i0 ((Z.fr i0).sw (sX1_first Z i0)))) else (if sX1_letter Z i0 = 114 then (pc (sX1_pop Z i0) (fun r26 T27 => vc (sX8_giveBack T27 r26) (fun T31 => T31))) else (if sX1_letter Z i0 = 121 then (vc (sX8_goThereIfNotZero Z i0 (sX1_first Z i0)) (fun T35 => T35)) else (vc (sX8_doRowWithoutFault Z i0 (sX1_letter Z i0) (sX1_first Z i0)) (fun T39 => (T39.frS i0 ((T39.fr i0).sw (((T39.fr i0).w) + 1))))))))))))
theorem sX8_doRow_u (Z : Ho) (i0 : Fin 12) : sX8_doRow Z i0 = if sX1_letter Z i0 = 42 ∨ sX1_letter Z i0 = 43 ∨ sX1_letter Z i0 = 45 ∨ sX1_letter Z i0 = 47 ∨ sX1_letter Z i0 = 60 then (vc (sX8_reckon Z i0 (sX1_letter Z i0)) (fun T1 => T1)) else (if sX1_letter Z i0 = 70 then (vc (sX8_takeIntoField Z i0 (sX1_first Z i0)) (fun T5 => T5)) else (if sX1_letter Z i0 = 77 ∨ sX1_letter Z i0 = 109 then (vc (sX8_send Z i0 (sX1_letter Z i0) (sX1_first Z i0) (sX1_second Z i0)) (fun T9 => T9)) else (if sX1_letter Z i0 = 99 then (vc (sX8_makeThing Z i0 (sX1_first Z i0)) (fun T18 => T18)) else (if sX1_letter Z i0 = 102 then (vc (sX8_putField Z i0 (sX1_first Z i0)) (fun T22 => T22)) else (if sX1_letter Z i0 = 106 then ((Z.frS i0 ((Z.fr i0).sw (sX1_first Z i0)))) else (if sX1_letter Z i0 = 114 then (pc (sX1_pop Z i0) (fun r26 T27 => vc (sX8_giveBack T27 r26) (fun T31 => T31))) else (if sX1_letter Z i0 = 121 then (vc (sX8_goThereIfNotZero Z i0 (sX1_first Z i0)) (fun T35 => T35)) else (vc (sX8_doRowWithoutFault Z i0 (sX1_letter Z i0) (sX1_first Z i0)) (fun T39 => (T39.frS i0 ((T39.fr i0).sw (((T39.fr i0).w) + 1)))))))))))) := rfl
set_option maxHeartbeats 4000000 in
set_option maxRecDepth 100000 in
theorem hX8_doRow (l : Launch) (D : va_G) (ar : Nat → ClassId) (κ : Nat → Nat) (G : gW) (x : Xo) (Z : Ho) (sz : Nat) (i0 : Fin 12) (hk : OK x Z) (hw : Wk Z) : Met l yX8_doRow (lwC yX8_doRow cX8_doRow 4 none) (rD 10 (3 * ((sX8_doRow Z i0).np - Z.np)) (523 * ((sX8_doRow Z i0).np - Z.np))) (g_Pc D vwCl (gT ar) (EX1 κ) (ov κ ar x Z G) sz [.ref (x.f .ho), .ref (x.f (.fr i0))]) (g_Qv D vwCl (g_A (ov κ ar x Z G) sz) (fun u => ∃ z9 : Zo, ∃ T9 : Ho, sX8_doRow Z i0 = T9 ∧ u.1 = ov κ ar (x.pgs z9) T9 G ∧ OK (x.pgs z9) T9 ∧ BX x z9 sz ∧ SZW T9 Z)) (3 * ((sX8_doRow Z i0).np - Z.np)) (523 * ((sX8_doRow Z i0).np - Z.np)) (g_A (ov κ ar x Z G) sz) := by
  refine g_ofW (by decide +kernel) (Nat.le_of_ble_eq_true rfl) ?_
  intro p e s m below meth c ls S hr hlk hin hE w hl
  have hx := S.1
  have hb := S.2.1
  have hl : lv_has ls 4 [(0, .ref (x.f .ho)), (1, .ref (x.f (.fr i0)))] := hl
  refine lv_aload_n hx hb dX8_doRow_0 rfl (lv_at hl 1 rfl) ?_
  refine g_calli w (g_runV (As := []) (rest := []) S hE w hl (hX1_letter l D ar κ G x Z sz i0 hk ) (k_RX8_368 S.2.2.2.2 ⟨Nat.le_of_ble_eq_true rfl, Nat.le_of_ble_eq_true rfl⟩) (ov_r (t := .fr i0) (hk.e (.fr i0) rfl)) rfl rfl rfl rfl (Nat.le_of_ble_eq_true rfl) dX8_doRow_1 ⟨Nat.zero_le _, Nat.zero_le _⟩) (fun r u H locs hp hnz w => ?_)
  obtain ⟨rfl, rfl⟩ := hp
  dsimp only at w
  refine lv_istore_n (lv' := [(2, .int (sX1_letter Z i0)), (0, .ref (x.f .ho)), (1, .ref (x.f (.fr i0)))]) hx hb dX8_doRow_4 rfl hl (by decide) rfl (fun ls hl => ?_)
  refine lv_aload_n hx hb dX8_doRow_5 rfl (lv_at hl 2 rfl) ?_
  refine g_calli w (g_runV (As := []) (rest := []) S hE w hl (hX1_first l D ar κ G x Z sz i0 hk ) (k_RX8_372 S.2.2.2.2 ⟨Nat.le_of_ble_eq_true rfl, Nat.le_of_ble_eq_true rfl⟩) (ov_r (t := .fr i0) (hk.e (.fr i0) rfl)) rfl rfl rfl rfl (Nat.le_of_ble_eq_true rfl) dX8_doRow_6 ⟨Nat.zero_le _, Nat.zero_le _⟩) (fun r u H locs hp hnz w => ?_)
  obtain ⟨rfl, rfl⟩ := hp
  dsimp only at w
  refine lv_istore_n (lv' := [(3, .int (sX1_first Z i0)), (2, .int (sX1_letter Z i0)), (0, .ref (x.f .ho)), (1, .ref (x.f (.fr i0)))]) hx hb dX8_doRow_9 rfl hl (by decide) rfl (fun ls hl => ?_)
  refine lv_iload_n hx hb dX8_doRow_10 rfl (lv_at hl 1 rfl) ?_
  by_cases c_11_0 : sX1_letter Z i0 = 42 ∨ sX1_letter Z i0 = 43 ∨ sX1_letter Z i0 = 45 ∨ sX1_letter Z i0 = 47 ∨ sX1_letter Z i0 = 60
  · refine lv_lookup (off := 131) (tgt := 142) hx hb dX8_doRow_11 (by decide) (by rcases c_11_0 with h9 | h9 | h9 | h9 | h9 <;> (rw [h9]; decide)) (by decide) ?_
    refine lv_aload_n hx hb dX8_doRow_142 rfl (lv_at hl 2 rfl) ?_
    refine lv_aload_n hx hb dX8_doRow_143 rfl (lv_at hl 3 rfl) ?_
    refine lv_iload_n hx hb dX8_doRow_144 rfl (lv_at hl 1 rfl) ?_
    refine g_callv w (g_runV (As := [.ref (x.f (.fr i0)), .int (sX1_letter Z i0)]) (rest := []) S hE w hl (hX8_reckon l D ar κ G x Z sz i0 (sX1_letter Z i0) hk ) (k_RX8_392 S.2.2.2.2 ⟨Nat.le_of_ble_eq_true rfl, Nat.le_of_ble_eq_true rfl⟩) (ov_r (t := .ho) (hk.e (.ho) rfl)) rfl rfl rfl rfl (Nat.le_of_ble_eq_true rfl) dX8_doRow_145 ⟨Nat.zero_le _, Nat.zero_le _⟩) (fun u H locs hp hnz w => ?_)
    obtain ⟨T1, e2, hu9, hk3, sq4⟩ := hp
    subst hu9
    dsimp only at w
    refine lv_goto (tgt := 219) hx hb dX8_doRow_148 (by decide) ?_
    exact g_vret hx hb hr hlk w (Nat.zero_le _) (Nat.zero_le _) dX8_doRow_219 ⟨x.z, _, ((sX8_doRow_u Z i0).trans ((if_pos c_11_0).trans (vc_e e2))), rfl, hk3, (fun a9 t9 h9 => Or.inl h9), (SZW.t (SZ.w sq4) ⟨rfl, rfl, Nat.le_refl _⟩)⟩
  by_cases c_11_1 : sX1_letter Z i0 = 70
  · refine lv_lookup (off := 122) (tgt := 133) hx hb dX8_doRow_11 (by decide) (by have h9 := c_11_1; (rw [h9]; decide)) (by decide) ?_
    refine lv_aload_n hx hb dX8_doRow_133 rfl (lv_at hl 2 rfl) ?_
    refine lv_aload_n hx hb dX8_doRow_134 rfl (lv_at hl 3 rfl) ?_
    refine lv_iload_n hx hb dX8_doRow_135 rfl (lv_at hl 0 rfl) ?_
    refine g_callv w (g_runV (As := [.ref (x.f (.fr i0)), .int (sX1_first Z i0)]) (rest := []) S hE w hl (hX8_takeIntoField l D ar κ G x Z sz i0 (sX1_first Z i0) hk ) (k_RX8_389 S.2.2.2.2 ⟨Nat.le_of_ble_eq_true rfl, Nat.le_of_ble_eq_true rfl⟩) (ov_r (t := .ho) (hk.e (.ho) rfl)) rfl rfl rfl rfl (Nat.le_of_ble_eq_true rfl) dX8_doRow_136 ⟨Nat.zero_le _, Nat.zero_le _⟩) (fun u H locs hp hnz w => ?_)
    obtain ⟨T5, e6, hu9, hk7, sq8⟩ := hp
    subst hu9
    dsimp only at w
    refine lv_goto (tgt := 219) hx hb dX8_doRow_139 (by decide) ?_
    exact g_vret hx hb hr hlk w (Nat.zero_le _) (Nat.zero_le _) dX8_doRow_219 ⟨x.z, _, ((sX8_doRow_u Z i0).trans ((if_neg c_11_0).trans ((if_pos c_11_1).trans (vc_e e6)))), rfl, hk7, (fun a9 t9 h9 => Or.inl h9), (SZW.t (SZ.w sq8) ⟨rfl, rfl, Nat.le_refl _⟩)⟩
  by_cases c_11_2 : sX1_letter Z i0 = 77 ∨ sX1_letter Z i0 = 109
  · refine lv_lookup (off := 149) (tgt := 160) hx hb dX8_doRow_11 (by decide) (by rcases c_11_2 with h9 | h9 <;> (rw [h9]; decide)) (by decide) ?_
    refine lv_aload_n hx hb dX8_doRow_160 rfl (lv_at hl 2 rfl) ?_
    refine lv_aload_n hx hb dX8_doRow_161 rfl (lv_at hl 3 rfl) ?_
    refine lv_iload_n hx hb dX8_doRow_162 rfl (lv_at hl 1 rfl) ?_
    refine lv_iload_n hx hb dX8_doRow_163 rfl (lv_at hl 0 rfl) ?_
    refine lv_aload_n hx hb dX8_doRow_164 rfl (lv_at hl 3 rfl) ?_
    refine g_calli w (g_runV (As := []) (rest := [.int (sX1_first Z i0), .int (sX1_letter Z i0), .ref (x.f (.fr i0)), .ref (x.f .ho)]) S hE w hl (hX1_second l D ar κ G x Z sz i0 hk ) (k_RX8_399 S.2.2.2.2 ⟨Nat.le_of_ble_eq_true rfl, Nat.le_of_ble_eq_true rfl⟩) (ov_r (t := .fr i0) (hk.e (.fr i0) rfl)) rfl rfl rfl rfl (Nat.le_of_ble_eq_true rfl) dX8_doRow_165 ⟨Nat.zero_le _, Nat.zero_le _⟩) (fun r u H locs hp hnz w => ?_)
    obtain ⟨rfl, rfl⟩ := hp
    dsimp only at w
    refine g_callv w (g_runV (As := [.ref (x.f (.fr i0)), .int (sX1_letter Z i0), .int (sX1_first Z i0), .int (sX1_second Z i0)]) (rest := []) S hE w hl (hX8_send l D ar κ G x Z sz i0 (sX1_letter Z i0) (sX1_first Z i0) (sX1_second Z i0) hk ) (k_RX8_402 S.2.2.2.2 ⟨Nat.le_of_ble_eq_true rfl, Nat.le_of_ble_eq_true rfl⟩) (ov_r (t := .ho) (hk.e (.ho) rfl)) rfl rfl rfl rfl (Nat.le_of_ble_eq_true rfl) dX8_doRow_168 ⟨Nat.zero_le _, Nat.zero_le _⟩) (fun u H locs hp hnz w => ?_)
    obtain ⟨z12, T9, e10, hu9, hk11, bx13, sq14⟩ := hp
    obtain ⟨u16, n15⟩ := u
    dsimp only at hu9 w hnz
    subst hu9
    have hz17 := hnz
    refine lv_goto (tgt := 219) hx hb dX8_doRow_171 (by decide) ?_
    exact g_vret hx hb hr hlk w (Nat.zero_le _) (Nat.zero_le _) dX8_doRow_219 ⟨z12, _, ((sX8_doRow_u Z i0).trans ((if_neg c_11_0).trans ((if_neg c_11_1).trans ((if_pos c_11_2).trans (vc_e e10))))), rfl, hk11, bx13, (SZW.t (SZ.w sq14) ⟨rfl, rfl, Nat.le_refl _⟩)⟩
  by_cases c_11_3 : sX1_letter Z i0 = 99
  · refine lv_lookup (off := 140) (tgt := 151) hx hb dX8_doRow_11 (by decide) (by have h9 := c_11_3; (rw [h9]; decide)) (by decide) ?_
    refine lv_aload_n hx hb dX8_doRow_151 rfl (lv_at hl 2 rfl) ?_
    refine lv_aload_n hx hb dX8_doRow_152 rfl (lv_at hl 3 rfl) ?_
    refine lv_iload_n hx hb dX8_doRow_153 rfl (lv_at hl 0 rfl) ?_
    refine g_callv w (g_runV (As := [.ref (x.f (.fr i0)), .int (sX1_first Z i0)]) (rest := []) S hE w hl (hX8_makeThing l D ar κ G x Z sz i0 (sX1_first Z i0) hk ) (k_RX8_396 S.2.2.2.2 ⟨Nat.le_of_ble_eq_true rfl, Nat.le_of_ble_eq_true rfl⟩) (ov_r (t := .ho) (hk.e (.ho) rfl)) rfl rfl rfl rfl (Nat.le_of_ble_eq_true rfl) dX8_doRow_154 ⟨Nat.zero_le _, Nat.zero_le _⟩) (fun u H locs hp hnz w => ?_)
    obtain ⟨T18, e19, hu9, hk20, sq21⟩ := hp
    subst hu9
    dsimp only at w
    refine lv_goto (tgt := 219) hx hb dX8_doRow_157 (by decide) ?_
    exact g_vret hx hb hr hlk w (Nat.zero_le _) (Nat.zero_le _) dX8_doRow_219 ⟨x.z, _, ((sX8_doRow_u Z i0).trans ((if_neg c_11_0).trans ((if_neg c_11_1).trans ((if_neg c_11_2).trans ((if_pos c_11_3).trans (vc_e e19)))))), rfl, hk20, (fun a9 t9 h9 => Or.inl h9), (SZW.t (SZ.w sq21) ⟨rfl, rfl, Nat.le_refl _⟩)⟩
  by_cases c_11_4 : sX1_letter Z i0 = 102
  · refine lv_lookup (off := 113) (tgt := 124) hx hb dX8_doRow_11 (by decide) (by have h9 := c_11_4; (rw [h9]; decide)) (by decide) ?_
    refine lv_aload_n hx hb dX8_doRow_124 rfl (lv_at hl 2 rfl) ?_
    refine lv_aload_n hx hb dX8_doRow_125 rfl (lv_at hl 3 rfl) ?_
    refine lv_iload_n hx hb dX8_doRow_126 rfl (lv_at hl 0 rfl) ?_
    refine g_callv w (g_runV (As := [.ref (x.f (.fr i0)), .int (sX1_first Z i0)]) (rest := []) S hE w hl (hX8_putField l D ar κ G x Z sz i0 (sX1_first Z i0) hk ) (k_RX8_385 S.2.2.2.2 ⟨Nat.le_of_ble_eq_true rfl, Nat.le_of_ble_eq_true rfl⟩) (ov_r (t := .ho) (hk.e (.ho) rfl)) rfl rfl rfl rfl (Nat.le_of_ble_eq_true rfl) dX8_doRow_127 ⟨Nat.zero_le _, Nat.zero_le _⟩) (fun u H locs hp hnz w => ?_)
    obtain ⟨T22, e23, hu9, hk24, sq25⟩ := hp
    subst hu9
    dsimp only at w
    refine lv_goto (tgt := 219) hx hb dX8_doRow_130 (by decide) ?_
    exact g_vret hx hb hr hlk w (Nat.zero_le _) (Nat.zero_le _) dX8_doRow_219 ⟨x.z, _, ((sX8_doRow_u Z i0).trans ((if_neg c_11_0).trans ((if_neg c_11_1).trans ((if_neg c_11_2).trans ((if_neg c_11_3).trans ((if_pos c_11_4).trans (vc_e e23))))))), rfl, hk24, (fun a9 t9 h9 => Or.inl h9), (SZW.t (SZ.w sq25) ⟨rfl, rfl, Nat.le_refl _⟩)⟩
  by_cases c_11_5 : sX1_letter Z i0 = 106
  · refine lv_lookup (off := 163) (tgt := 174) hx hb dX8_doRow_11 (by decide) (by have h9 := c_11_5; (rw [h9]; decide)) (by decide) ?_
    refine lv_aload_n hx hb dX8_doRow_174 rfl (lv_at hl 3 rfl) ?_
    refine lv_iload_n hx hb dX8_doRow_175 rfl (lv_at hl 0 rfl) ?_
    refine pf_RX8_324_7 (fs1 := [.ref (x.f (.fa i0)), .ref (x.f (.ft i0)), .ref (x.f (.fp i0)), va_rf (((Z.fr i0).o).map (fun k9 => x.f (.to k9))), .long ((Z.fr i0).v), .int (sX1_first Z i0), .int ((Z.fr i0).d)]) S hE w (ov_r (t := .fr i0) (hk.e (.fr i0) rfl)) rfl rfl (Nat.le_of_ble_eq_true rfl) rfl dX8_doRow_176 (fun H locs w => ?_)
    have w := g_eqw w (congrArg (fun Z9 => g_up (ov κ ar x Z9 G) (x.f (.fr i0)) (.inr (7, [.ref (x.f (.fa i0)), .ref (x.f (.ft i0)), .ref (x.f (.fp i0)), va_rf (((Z.fr i0).o).map (fun k9 => x.f (.to k9))), .long ((Z.fr i0).v), .int (sX1_first Z i0), .int ((Z.fr i0).d)]))) (frS_id (S := Z) (i := i0)).symm)
    have w : g_S D vwCl (g_A (ov κ ar x Z G) sz) s.heap (ov κ ar x (Z.frS i0 ((Z.fr i0).sw (sX1_first Z i0))) G) H _ sz := g_eqw w (ov_wfr (S := Z) (v := (Z.fr i0)) (v' := ((Z.fr i0).sw (sX1_first Z i0))) hk.v (hk.e (.fr i0) rfl) rfl Fr_a_sw Fr_t_sw Fr_p_sw)
    refine lv_goto (tgt := 219) hx hb dX8_doRow_179 (by decide) ?_
    exact g_vret hx hb hr hlk w (Nat.zero_le _) (Nat.zero_le _) dX8_doRow_219 ⟨x.z, _, ((sX8_doRow_u Z i0).trans ((if_neg c_11_0).trans ((if_neg c_11_1).trans ((if_neg c_11_2).trans ((if_neg c_11_3).trans ((if_neg c_11_4).trans (if_pos c_11_5))))))), rfl, (OK.frS (S := Z) hk (fun k9 q9 => hk.o (i := i0) q9)), (fun a9 t9 h9 => Or.inl h9), ⟨rfl, rfl, Nat.le_refl _⟩⟩
  by_cases c_11_6 : sX1_letter Z i0 = 114
  · refine lv_lookup (off := 180) (tgt := 191) hx hb dX8_doRow_11 (by decide) (by have h9 := c_11_6; (rw [h9]; decide)) (by decide) ?_
    refine lv_aload_n hx hb dX8_doRow_191 rfl (lv_at hl 2 rfl) ?_
    refine lv_aload_n hx hb dX8_doRow_192 rfl (lv_at hl 3 rfl) ?_
    refine g_calll w (g_runV (As := []) (rest := [.ref (x.f .ho)]) S hE w hl (hX1_pop l D ar κ G x Z sz i0 hk ) (k_RX8_409 S.2.2.2.2 ⟨Nat.le_of_ble_eq_true rfl, Nat.le_of_ble_eq_true rfl⟩) (ov_r (t := .fr i0) (hk.e (.fr i0) rfl)) rfl rfl rfl rfl (Nat.le_of_ble_eq_true rfl) dX8_doRow_193 ⟨Nat.zero_le _, Nat.zero_le _⟩) (fun r26 u H locs hp hnz w => ?_)
    obtain ⟨T27, e28, hu9, hk29, sq30⟩ := hp
    subst hu9
    dsimp only at w
    refine g_callv w (g_runV (As := [.long r26]) (rest := []) S hE w hl (hX8_giveBack l D ar κ G x T27 sz r26 hk29 ) (k_RX8_412 S.2.2.2.2 ⟨Nat.le_of_ble_eq_true rfl, Nat.le_of_ble_eq_true rfl⟩) (ov_r (t := .ho) (hk29.e (.ho) rfl)) rfl rfl rfl rfl (Nat.le_of_ble_eq_true rfl) dX8_doRow_196 ⟨Nat.zero_le _, Nat.zero_le _⟩) (fun u H locs hp hnz w => ?_)
    obtain ⟨T31, e32, hu9, hk33, sq34⟩ := hp
    subst hu9
    dsimp only at w
    refine lv_goto (tgt := 219) hx hb dX8_doRow_199 (by decide) ?_
    exact g_vret hx hb hr hlk w (Nat.zero_le _) (Nat.zero_le _) dX8_doRow_219 ⟨x.z, _, ((sX8_doRow_u Z i0).trans ((if_neg c_11_0).trans ((if_neg c_11_1).trans ((if_neg c_11_2).trans ((if_neg c_11_3).trans ((if_neg c_11_4).trans ((if_neg c_11_5).trans ((if_pos c_11_6).trans ((pc_e e28).trans (vc_e e32)))))))))), rfl, hk33, (fun a9 t9 h9 => Or.inl h9), (SZW.t (SZ.w sq34) (SZW.t (SZ.w sq30) ⟨rfl, rfl, Nat.le_refl _⟩))⟩
  by_cases c_11_7 : sX1_letter Z i0 = 121
  · refine lv_lookup (off := 171) (tgt := 182) hx hb dX8_doRow_11 (by decide) (by have h9 := c_11_7; (rw [h9]; decide)) (by decide) ?_
    refine lv_aload_n hx hb dX8_doRow_182 rfl (lv_at hl 2 rfl) ?_
    refine lv_aload_n hx hb dX8_doRow_183 rfl (lv_at hl 3 rfl) ?_
    refine lv_iload_n hx hb dX8_doRow_184 rfl (lv_at hl 0 rfl) ?_
    refine g_callv w (g_runV (As := [.ref (x.f (.fr i0)), .int (sX1_first Z i0)]) (rest := []) S hE w hl (hX8_goThereIfNotZero l D ar κ G x Z sz i0 (sX1_first Z i0) hk ) (k_RX8_406 S.2.2.2.2 ⟨Nat.le_of_ble_eq_true rfl, Nat.le_of_ble_eq_true rfl⟩) (ov_r (t := .ho) (hk.e (.ho) rfl)) rfl rfl rfl rfl (Nat.le_of_ble_eq_true rfl) dX8_doRow_185 ⟨Nat.zero_le _, Nat.zero_le _⟩) (fun u H locs hp hnz w => ?_)
    obtain ⟨T35, e36, hu9, hk37, sq38⟩ := hp
    subst hu9
    dsimp only at w
    refine lv_goto (tgt := 219) hx hb dX8_doRow_188 (by decide) ?_
    exact g_vret hx hb hr hlk w (Nat.zero_le _) (Nat.zero_le _) dX8_doRow_219 ⟨x.z, _, ((sX8_doRow_u Z i0).trans ((if_neg c_11_0).trans ((if_neg c_11_1).trans ((if_neg c_11_2).trans ((if_neg c_11_3).trans ((if_neg c_11_4).trans ((if_neg c_11_5).trans ((if_neg c_11_6).trans ((if_pos c_11_7).trans (vc_e e36)))))))))), rfl, hk37, (fun a9 t9 h9 => Or.inl h9), (SZW.t (SZ.w sq38) ⟨rfl, rfl, Nat.le_refl _⟩)⟩
  refine lv_lookup (off := 191) (tgt := 202) hx hb dX8_doRow_11 (by decide) (sw_def (ks := [42, 43, 45, 47, 60, 70, 77, 99, 102, 106, 109, 114, 121]) ⟨(fun h9 => c_11_0 (Or.inl h9)), (fun h9 => c_11_0 (Or.inr (Or.inl h9))), (fun h9 => c_11_0 (Or.inr (Or.inr (Or.inl h9)))), (fun h9 => c_11_0 (Or.inr (Or.inr (Or.inr (Or.inl h9))))), (fun h9 => c_11_0 (Or.inr (Or.inr (Or.inr (Or.inr (h9)))))), c_11_1, (fun h9 => c_11_2 (Or.inl h9)), c_11_3, c_11_4, c_11_5, (fun h9 => c_11_2 (Or.inr (h9))), c_11_6, c_11_7, trivial⟩ (by decide +kernel)) (by decide) ?_
  refine lv_aload_n hx hb dX8_doRow_202 rfl (lv_at hl 2 rfl) ?_
  refine lv_aload_n hx hb dX8_doRow_203 rfl (lv_at hl 3 rfl) ?_
  refine lv_iload_n hx hb dX8_doRow_204 rfl (lv_at hl 1 rfl) ?_
  refine lv_iload_n hx hb dX8_doRow_205 rfl (lv_at hl 0 rfl) ?_
  have q7 := ((sX8_doRow_u Z i0).trans ((if_neg c_11_0).trans ((if_neg c_11_1).trans ((if_neg c_11_2).trans ((if_neg c_11_3).trans ((if_neg c_11_4).trans ((if_neg c_11_5).trans ((if_neg c_11_6).trans (if_neg c_11_7)))))))))
  have q9 : (sX8_doRow Z i0).np = (sX8_doRowWithoutFault Z i0 (sX1_letter Z i0) (sX1_first Z i0)).np := (congrArg Ho.np q7).trans rfl
  have q8 : (Z).np = Z.np := (show SZ (Z) Z from ⟨rfl, rfl, rfl, rfl⟩).2.2.1
  refine g_callv w (g_runV (As := [.ref (x.f (.fr i0)), .int (sX1_letter Z i0), .int (sX1_first Z i0)]) (rest := []) S hE w hl (hX8_doRowWithoutFault l D ar κ G x Z sz i0 (sX1_letter Z i0) (sX1_first Z i0) hk (Wk.sz hw ⟨rfl, rfl, rfl, rfl⟩)) (k_RX8_415 S.2.2.2.2 ⟨Nat.le_of_ble_eq_true rfl, Nat.le_of_ble_eq_true rfl⟩) (ov_r (t := .ho) (hk.e (.ho) rfl)) rfl rfl rfl rfl (Nat.le_of_ble_eq_true rfl) dX8_doRow_206 ⟨(by (try dsimp only [rD]); omega), (by (try dsimp only [rD]); omega)⟩) (fun u H locs hp hnz w => ?_)
  obtain ⟨z42, T39, e40, hu9, hk41, bx43, sq44⟩ := hp
  obtain ⟨u46, n45⟩ := u
  dsimp only at hu9 w hnz
  subst hu9
  have hz47 := hnz
  refine lv_aload_n hx hb dX8_doRow_209 rfl (lv_at hl 3 rfl) ?_
  refine lv_dup hx hb dX8_doRow_210 rfl ?_
  refine gf_RX8_324_7 (v := .int ((T39.fr i0).w)) S hE w (ov_r (t := .fr i0) (hk41.e (.fr i0) rfl)) rfl dX8_doRow_211 ?_
  refine lv_iconst (v := 1) hx hb dX8_doRow_214 (by decide) ?_
  refine lv_iadd hx hb dX8_doRow_215 ?_
  refine pf_RX8_324_7 (fs1 := [.ref (x.f (.fa i0)), .ref (x.f (.ft i0)), .ref (x.f (.fp i0)), va_rf (((T39.fr i0).o).map (fun k9 => x.f (.to k9))), .long ((T39.fr i0).v), .int (((T39.fr i0).w) + 1), .int ((T39.fr i0).d)]) S hE w (ov_r (t := .fr i0) (hk41.e (.fr i0) rfl)) rfl rfl (Nat.le_of_ble_eq_true rfl) rfl dX8_doRow_216 (fun H locs w => ?_)
  have w := g_eqw w (congrArg (fun Z9 => g_up (ov κ ar (x.pgs z42) Z9 G) (x.f (.fr i0)) (.inr (7, [.ref (x.f (.fa i0)), .ref (x.f (.ft i0)), .ref (x.f (.fp i0)), va_rf (((T39.fr i0).o).map (fun k9 => x.f (.to k9))), .long ((T39.fr i0).v), .int (((T39.fr i0).w) + 1), .int ((T39.fr i0).d)]))) (frS_id (S := T39) (i := i0)).symm)
  have w : g_S D vwCl (g_A (ov κ ar x Z G) sz) s.heap (ov κ ar (x.pgs z42) (T39.frS i0 ((T39.fr i0).sw (((T39.fr i0).w) + 1))) G) H _ n45 := g_eqw w (ov_wfr (S := T39) (v := (T39.fr i0)) (v' := ((T39.fr i0).sw (((T39.fr i0).w) + 1))) hk41.v (hk41.e (.fr i0) rfl) rfl Fr_a_sw Fr_t_sw Fr_p_sw)
  exact g_vret hx hb hr hlk w (by (try dsimp only [rD]); omega) (by (try dsimp only [rD]); omega) dX8_doRow_219 ⟨z42, _, ((sX8_doRow_u Z i0).trans ((if_neg c_11_0).trans ((if_neg c_11_1).trans ((if_neg c_11_2).trans ((if_neg c_11_3).trans ((if_neg c_11_4).trans ((if_neg c_11_5).trans ((if_neg c_11_6).trans ((if_neg c_11_7).trans (vc_e e40)))))))))), rfl, (OK.frS (S := T39) hk41 (fun k9 q9 => hk41.o (i := i0) q9)), bx43, (SZW.t sq44 ⟨rfl, rfl, Nat.le_refl _⟩)⟩
