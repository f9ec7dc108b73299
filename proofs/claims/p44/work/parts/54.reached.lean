theorem dL_reached_0 : decode cL_reached 0 = .ok (.sipush 4000, 3) := by decide +kernel
theorem dL_reached_3 : decode cL_reached 3 = .ok (.newarray .boolean, 2) := by decide +kernel
theorem dL_reached_5 : decode cL_reached 5 = .ok (.astore_n 1, 1) := by decide +kernel
theorem dL_reached_6 : decode cL_reached 6 = .ok (.iconst 0, 1) := by decide +kernel
theorem dL_reached_7 : decode cL_reached 7 = .ok (.istore_n 2, 1) := by decide +kernel
theorem dL_reached_8 : decode cL_reached 8 = .ok (.iload_n 2, 1) := by decide +kernel
theorem dL_reached_9 : decode cL_reached 9 = .ok (.bipush 8, 2) := by decide +kernel
theorem dL_reached_11 : decode cL_reached 11 = .ok (.if_icmp .ge 30, 3) := by decide +kernel
theorem dL_reached_14 : decode cL_reached 14 = .ok (.aload_n 0, 1) := by decide +kernel
theorem dL_reached_15 : decode cL_reached 15 = .ok (.iload_n 2, 1) := by decide +kernel
theorem dL_reached_16 : decode cL_reached 16 = .ok (.invokestatic 268, 3) := by decide +kernel
theorem dL_reached_19 : decode cL_reached 19 = .ok (.ldc2_w 270, 3) := by decide +kernel
theorem dL_reached_22 : decode cL_reached 22 = .ok (.lcmp, 1) := by decide +kernel
theorem dL_reached_23 : decode cL_reached 23 = .ok (.ifCond .ne 12, 3) := by decide +kernel
theorem dL_reached_26 : decode cL_reached 26 = .ok (.aload_n 1, 1) := by decide +kernel
theorem dL_reached_27 : decode cL_reached 27 = .ok (.aload_n 0, 1) := by decide +kernel
theorem dL_reached_28 : decode cL_reached 28 = .ok (.iload_n 2, 1) := by decide +kernel
theorem dL_reached_29 : decode cL_reached 29 = .ok (.invokestatic 272, 3) := by decide +kernel
theorem dL_reached_32 : decode cL_reached 32 = .ok (.l2i, 1) := by decide +kernel
theorem dL_reached_33 : decode cL_reached 33 = .ok (.iconst 1, 1) := by decide +kernel
theorem dL_reached_34 : decode cL_reached 34 = .ok (.bastore, 1) := by decide +kernel
theorem dL_reached_35 : decode cL_reached 35 = .ok (.iinc 2 1, 3) := by decide +kernel
theorem dL_reached_38 : decode cL_reached 38 = .ok (.goto (-30), 3) := by decide +kernel
theorem dL_reached_41 : decode cL_reached 41 = .ok (.aload_n 0, 1) := by decide +kernel
theorem dL_reached_42 : decode cL_reached 42 = .ok (.invokestatic 274, 3) := by decide +kernel
theorem dL_reached_45 : decode cL_reached 45 = .ok (.ldc2_w 270, 3) := by decide +kernel
theorem dL_reached_48 : decode cL_reached 48 = .ok (.lcmp, 1) := by decide +kernel
theorem dL_reached_49 : decode cL_reached 49 = .ok (.ifCond .ne 11, 3) := by decide +kernel
theorem dL_reached_52 : decode cL_reached 52 = .ok (.aload_n 1, 1) := by decide +kernel
theorem dL_reached_53 : decode cL_reached 53 = .ok (.aload_n 0, 1) := by decide +kernel
theorem dL_reached_54 : decode cL_reached 54 = .ok (.invokestatic 276, 3) := by decide +kernel
theorem dL_reached_57 : decode cL_reached 57 = .ok (.l2i, 1) := by decide +kernel
theorem dL_reached_58 : decode cL_reached 58 = .ok (.iconst 1, 1) := by decide +kernel
theorem dL_reached_59 : decode cL_reached 59 = .ok (.bastore, 1) := by decide +kernel
theorem dL_reached_60 : decode cL_reached 60 = .ok (.iconst 0, 1) := by decide +kernel
theorem dL_reached_61 : decode cL_reached 61 = .ok (.istore_n 2, 1) := by decide +kernel
theorem dL_reached_62 : decode cL_reached 62 = .ok (.iload_n 2, 1) := by decide +kernel
theorem dL_reached_63 : decode cL_reached 63 = .ok (.i2l, 1) := by decide +kernel
theorem dL_reached_64 : decode cL_reached 64 = .ok (.aload_n 0, 1) := by decide +kernel
theorem dL_reached_65 : decode cL_reached 65 = .ok (.invokestatic 278, 3) := by decide +kernel
theorem dL_reached_68 : decode cL_reached 68 = .ok (.lcmp, 1) := by decide +kernel
theorem dL_reached_69 : decode cL_reached 69 = .ok (.ifCond .ge 131, 3) := by decide +kernel
theorem dL_reached_72 : decode cL_reached 72 = .ok (.aload_n 0, 1) := by decide +kernel
theorem dL_reached_73 : decode cL_reached 73 = .ok (.iload_n 2, 1) := by decide +kernel
theorem dL_reached_74 : decode cL_reached 74 = .ok (.bipush 115, 2) := by decide +kernel
theorem dL_reached_76 : decode cL_reached 76 = .ok (.iconst 0, 1) := by decide +kernel
theorem dL_reached_77 : decode cL_reached 77 = .ok (.invokestatic 280, 3) := by decide +kernel
theorem dL_reached_80 : decode cL_reached 80 = .ok (.ldc2_w 270, 3) := by decide +kernel
theorem dL_reached_83 : decode cL_reached 83 = .ok (.lcmp, 1) := by decide +kernel
theorem dL_reached_84 : decode cL_reached 84 = .ok (.ifCond .ne 15, 3) := by decide +kernel
theorem dL_reached_87 : decode cL_reached 87 = .ok (.aload_n 1, 1) := by decide +kernel
theorem dL_reached_88 : decode cL_reached 88 = .ok (.aload_n 0, 1) := by decide +kernel
theorem dL_reached_89 : decode cL_reached 89 = .ok (.iload_n 2, 1) := by decide +kernel
theorem dL_reached_90 : decode cL_reached 90 = .ok (.bipush 115, 2) := by decide +kernel
theorem dL_reached_92 : decode cL_reached 92 = .ok (.iconst 0, 1) := by decide +kernel
theorem dL_reached_93 : decode cL_reached 93 = .ok (.invokestatic 283, 3) := by decide +kernel
theorem dL_reached_96 : decode cL_reached 96 = .ok (.l2i, 1) := by decide +kernel
theorem dL_reached_97 : decode cL_reached 97 = .ok (.iconst 1, 1) := by decide +kernel
theorem dL_reached_98 : decode cL_reached 98 = .ok (.bastore, 1) := by decide +kernel
theorem dL_reached_99 : decode cL_reached 99 = .ok (.iconst 0, 1) := by decide +kernel
theorem dL_reached_100 : decode cL_reached 100 = .ok (.istore_n 3, 1) := by decide +kernel
theorem dL_reached_101 : decode cL_reached 101 = .ok (.iload_n 3, 1) := by decide +kernel
theorem dL_reached_102 : decode cL_reached 102 = .ok (.bipush 8, 2) := by decide +kernel
theorem dL_reached_104 : decode cL_reached 104 = .ok (.if_icmp .ge 90, 3) := by decide +kernel
theorem dL_reached_107 : decode cL_reached 107 = .ok (.aload_n 0, 1) := by decide +kernel
theorem dL_reached_108 : decode cL_reached 108 = .ok (.iload_n 2, 1) := by decide +kernel
theorem dL_reached_109 : decode cL_reached 109 = .ok (.bipush 97, 2) := by decide +kernel
theorem dL_reached_111 : decode cL_reached 111 = .ok (.iload_n 3, 1) := by decide +kernel
theorem dL_reached_112 : decode cL_reached 112 = .ok (.invokestatic 280, 3) := by decide +kernel
theorem dL_reached_115 : decode cL_reached 115 = .ok (.ldc2_w 270, 3) := by decide +kernel
theorem dL_reached_118 : decode cL_reached 118 = .ok (.lcmp, 1) := by decide +kernel
theorem dL_reached_119 : decode cL_reached 119 = .ok (.ifCond .ne 15, 3) := by decide +kernel
theorem dL_reached_122 : decode cL_reached 122 = .ok (.aload_n 1, 1) := by decide +kernel
theorem dL_reached_123 : decode cL_reached 123 = .ok (.aload_n 0, 1) := by decide +kernel
theorem dL_reached_124 : decode cL_reached 124 = .ok (.iload_n 2, 1) := by decide +kernel
theorem dL_reached_125 : decode cL_reached 125 = .ok (.bipush 97, 2) := by decide +kernel
theorem dL_reached_127 : decode cL_reached 127 = .ok (.iload_n 3, 1) := by decide +kernel
theorem dL_reached_128 : decode cL_reached 128 = .ok (.invokestatic 283, 3) := by decide +kernel
theorem dL_reached_131 : decode cL_reached 131 = .ok (.l2i, 1) := by decide +kernel
theorem dL_reached_132 : decode cL_reached 132 = .ok (.iconst 1, 1) := by decide +kernel
theorem dL_reached_133 : decode cL_reached 133 = .ok (.bastore, 1) := by decide +kernel
theorem dL_reached_134 : decode cL_reached 134 = .ok (.aload_n 0, 1) := by decide +kernel
theorem dL_reached_135 : decode cL_reached 135 = .ok (.iload_n 2, 1) := by decide +kernel
theorem dL_reached_136 : decode cL_reached 136 = .ok (.bipush 116, 2) := by decide +kernel
theorem dL_reached_138 : decode cL_reached 138 = .ok (.iload_n 3, 1) := by decide +kernel
theorem dL_reached_139 : decode cL_reached 139 = .ok (.invokestatic 280, 3) := by decide +kernel
theorem dL_reached_142 : decode cL_reached 142 = .ok (.ldc2_w 270, 3) := by decide +kernel
theorem dL_reached_145 : decode cL_reached 145 = .ok (.lcmp, 1) := by decide +kernel
theorem dL_reached_146 : decode cL_reached 146 = .ok (.ifCond .ne 15, 3) := by decide +kernel
theorem dL_reached_149 : decode cL_reached 149 = .ok (.aload_n 1, 1) := by decide +kernel
theorem dL_reached_150 : decode cL_reached 150 = .ok (.aload_n 0, 1) := by decide +kernel
theorem dL_reached_151 : decode cL_reached 151 = .ok (.iload_n 2, 1) := by decide +kernel
theorem dL_reached_152 : decode cL_reached 152 = .ok (.bipush 116, 2) := by decide +kernel
theorem dL_reached_154 : decode cL_reached 154 = .ok (.iload_n 3, 1) := by decide +kernel
theorem dL_reached_155 : decode cL_reached 155 = .ok (.invokestatic 283, 3) := by decide +kernel
theorem dL_reached_158 : decode cL_reached 158 = .ok (.l2i, 1) := by decide +kernel
theorem dL_reached_159 : decode cL_reached 159 = .ok (.iconst 1, 1) := by decide +kernel
theorem dL_reached_160 : decode cL_reached 160 = .ok (.bastore, 1) := by decide +kernel
theorem dL_reached_161 : decode cL_reached 161 = .ok (.aload_n 0, 1) := by decide +kernel
theorem dL_reached_162 : decode cL_reached 162 = .ok (.iload_n 2, 1) := by decide +kernel
theorem dL_reached_163 : decode cL_reached 163 = .ok (.bipush 112, 2) := by decide +kernel
theorem dL_reached_165 : decode cL_reached 165 = .ok (.iload_n 3, 1) := by decide +kernel
theorem dL_reached_166 : decode cL_reached 166 = .ok (.invokestatic 280, 3) := by decide +kernel
theorem dL_reached_169 : decode cL_reached 169 = .ok (.ldc2_w 270, 3) := by decide +kernel
theorem dL_reached_172 : decode cL_reached 172 = .ok (.lcmp, 1) := by decide +kernel
theorem dL_reached_173 : decode cL_reached 173 = .ok (.ifCond .ne 15, 3) := by decide +kernel
theorem dL_reached_176 : decode cL_reached 176 = .ok (.aload_n 1, 1) := by decide +kernel
theorem dL_reached_177 : decode cL_reached 177 = .ok (.aload_n 0, 1) := by decide +kernel
theorem dL_reached_178 : decode cL_reached 178 = .ok (.iload_n 2, 1) := by decide +kernel
theorem dL_reached_179 : decode cL_reached 179 = .ok (.bipush 112, 2) := by decide +kernel
theorem dL_reached_181 : decode cL_reached 181 = .ok (.iload_n 3, 1) := by decide +kernel
theorem dL_reached_182 : decode cL_reached 182 = .ok (.invokestatic 283, 3) := by decide +kernel
theorem dL_reached_185 : decode cL_reached 185 = .ok (.l2i, 1) := by decide +kernel
theorem dL_reached_186 : decode cL_reached 186 = .ok (.iconst 1, 1) := by decide +kernel
theorem dL_reached_187 : decode cL_reached 187 = .ok (.bastore, 1) := by decide +kernel
theorem dL_reached_188 : decode cL_reached 188 = .ok (.iinc 3 1, 3) := by decide +kernel
theorem dL_reached_191 : decode cL_reached 191 = .ok (.goto (-90), 3) := by decide +kernel
theorem dL_reached_194 : decode cL_reached 194 = .ok (.iinc 2 1, 3) := by decide +kernel
theorem dL_reached_197 : decode cL_reached 197 = .ok (.goto (-135), 3) := by decide +kernel
theorem dL_reached_200 : decode cL_reached 200 = .ok (.iconst 1, 1) := by decide +kernel
theorem dL_reached_201 : decode cL_reached 201 = .ok (.istore_n 2, 1) := by decide +kernel
theorem dL_reached_202 : decode cL_reached 202 = .ok (.iload_n 2, 1) := by decide +kernel
theorem dL_reached_203 : decode cL_reached 203 = .ok (.ifCond .eq 85, 3) := by decide +kernel
theorem dL_reached_206 : decode cL_reached 206 = .ok (.iconst 0, 1) := by decide +kernel
theorem dL_reached_207 : decode cL_reached 207 = .ok (.istore_n 2, 1) := by decide +kernel
theorem dL_reached_208 : decode cL_reached 208 = .ok (.iconst 0, 1) := by decide +kernel
theorem dL_reached_209 : decode cL_reached 209 = .ok (.istore_n 3, 1) := by decide +kernel
theorem dL_reached_210 : decode cL_reached 210 = .ok (.iload_n 3, 1) := by decide +kernel
theorem dL_reached_211 : decode cL_reached 211 = .ok (.sipush 4000, 3) := by decide +kernel
theorem dL_reached_214 : decode cL_reached 214 = .ok (.if_icmp .ge 71, 3) := by decide +kernel
theorem dL_reached_217 : decode cL_reached 217 = .ok (.iconst 0, 1) := by decide +kernel
theorem dL_reached_218 : decode cL_reached 218 = .ok (.istore 4, 2) := by decide +kernel
theorem dL_reached_220 : decode cL_reached 220 = .ok (.aload_n 1, 1) := by decide +kernel
theorem dL_reached_221 : decode cL_reached 221 = .ok (.iload_n 3, 1) := by decide +kernel
theorem dL_reached_222 : decode cL_reached 222 = .ok (.baload, 1) := by decide +kernel
theorem dL_reached_223 : decode cL_reached 223 = .ok (.ifCond .eq 56, 3) := by decide +kernel
theorem dL_reached_226 : decode cL_reached 226 = .ok (.iload 4, 2) := by decide +kernel
theorem dL_reached_228 : decode cL_reached 228 = .ok (.bipush 8, 2) := by decide +kernel
theorem dL_reached_230 : decode cL_reached 230 = .ok (.if_icmp .ge 49, 3) := by decide +kernel
theorem dL_reached_233 : decode cL_reached 233 = .ok (.aload_n 0, 1) := by decide +kernel
theorem dL_reached_234 : decode cL_reached 234 = .ok (.iload_n 3, 1) := by decide +kernel
theorem dL_reached_235 : decode cL_reached 235 = .ok (.iload 4, 2) := by decide +kernel
theorem dL_reached_237 : decode cL_reached 237 = .ok (.invokestatic 285, 3) := by decide +kernel
theorem dL_reached_240 : decode cL_reached 240 = .ok (.ldc2_w 270, 3) := by decide +kernel
theorem dL_reached_243 : decode cL_reached 243 = .ok (.lcmp, 1) := by decide +kernel
theorem dL_reached_244 : decode cL_reached 244 = .ok (.ifCond .ne 29, 3) := by decide +kernel
theorem dL_reached_247 : decode cL_reached 247 = .ok (.aload_n 1, 1) := by decide +kernel
theorem dL_reached_248 : decode cL_reached 248 = .ok (.aload_n 0, 1) := by decide +kernel
theorem dL_reached_249 : decode cL_reached 249 = .ok (.iload_n 3, 1) := by decide +kernel
theorem dL_reached_250 : decode cL_reached 250 = .ok (.iload 4, 2) := by decide +kernel
theorem dL_reached_252 : decode cL_reached 252 = .ok (.invokestatic 287, 3) := by decide +kernel
theorem dL_reached_255 : decode cL_reached 255 = .ok (.l2i, 1) := by decide +kernel
theorem dL_reached_256 : decode cL_reached 256 = .ok (.baload, 1) := by decide +kernel
theorem dL_reached_257 : decode cL_reached 257 = .ok (.ifCond .ne 16, 3) := by decide +kernel
theorem dL_reached_260 : decode cL_reached 260 = .ok (.aload_n 1, 1) := by decide +kernel
theorem dL_reached_261 : decode cL_reached 261 = .ok (.aload_n 0, 1) := by decide +kernel
theorem dL_reached_262 : decode cL_reached 262 = .ok (.iload_n 3, 1) := by decide +kernel
theorem dL_reached_263 : decode cL_reached 263 = .ok (.iload 4, 2) := by decide +kernel
theorem dL_reached_265 : decode cL_reached 265 = .ok (.invokestatic 287, 3) := by decide +kernel
theorem dL_reached_268 : decode cL_reached 268 = .ok (.l2i, 1) := by decide +kernel
theorem dL_reached_269 : decode cL_reached 269 = .ok (.iconst 1, 1) := by decide +kernel
theorem dL_reached_270 : decode cL_reached 270 = .ok (.bastore, 1) := by decide +kernel
theorem dL_reached_271 : decode cL_reached 271 = .ok (.iconst 1, 1) := by decide +kernel
theorem dL_reached_272 : decode cL_reached 272 = .ok (.istore_n 2, 1) := by decide +kernel
theorem dL_reached_273 : decode cL_reached 273 = .ok (.iinc 4 1, 3) := by decide +kernel
theorem dL_reached_276 : decode cL_reached 276 = .ok (.goto (-56), 3) := by decide +kernel
theorem dL_reached_279 : decode cL_reached 279 = .ok (.iinc 3 1, 3) := by decide +kernel
theorem dL_reached_282 : decode cL_reached 282 = .ok (.goto (-72), 3) := by decide +kernel
theorem dL_reached_285 : decode cL_reached 285 = .ok (.goto (-83), 3) := by decide +kernel
theorem dL_reached_288 : decode cL_reached 288 = .ok (.lconst 0, 1) := by decide +kernel
theorem dL_reached_289 : decode cL_reached 289 = .ok (.lstore_n 3, 1) := by decide +kernel
theorem dL_reached_290 : decode cL_reached 290 = .ok (.aload_n 1, 1) := by decide +kernel
theorem dL_reached_291 : decode cL_reached 291 = .ok (.astore 5, 2) := by decide +kernel
theorem dL_reached_293 : decode cL_reached 293 = .ok (.aload 5, 2) := by decide +kernel
theorem dL_reached_295 : decode cL_reached 295 = .ok (.arraylength, 1) := by decide +kernel
theorem dL_reached_296 : decode cL_reached 296 = .ok (.istore 6, 2) := by decide +kernel
theorem dL_reached_298 : decode cL_reached 298 = .ok (.iconst 0, 1) := by decide +kernel
theorem dL_reached_299 : decode cL_reached 299 = .ok (.istore 7, 2) := by decide +kernel
theorem dL_reached_301 : decode cL_reached 301 = .ok (.iload 7, 2) := by decide +kernel
theorem dL_reached_303 : decode cL_reached 303 = .ok (.iload 6, 2) := by decide +kernel
theorem dL_reached_305 : decode cL_reached 305 = .ok (.if_icmp .ge 29, 3) := by decide +kernel
theorem dL_reached_308 : decode cL_reached 308 = .ok (.aload 5, 2) := by decide +kernel
theorem dL_reached_310 : decode cL_reached 310 = .ok (.iload 7, 2) := by decide +kernel
theorem dL_reached_312 : decode cL_reached 312 = .ok (.baload, 1) := by decide +kernel
theorem dL_reached_313 : decode cL_reached 313 = .ok (.istore 8, 2) := by decide +kernel
theorem dL_reached_315 : decode cL_reached 315 = .ok (.lload_n 3, 1) := by decide +kernel
theorem dL_reached_316 : decode cL_reached 316 = .ok (.iload 8, 2) := by decide +kernel
theorem dL_reached_318 : decode cL_reached 318 = .ok (.ifCond .eq 7, 3) := by decide +kernel
theorem dL_reached_321 : decode cL_reached 321 = .ok (.lconst 1, 1) := by decide +kernel
theorem dL_reached_322 : decode cL_reached 322 = .ok (.goto 4, 3) := by decide +kernel
theorem dL_reached_325 : decode cL_reached 325 = .ok (.lconst 0, 1) := by decide +kernel
theorem dL_reached_326 : decode cL_reached 326 = .ok (.ladd, 1) := by decide +kernel
theorem dL_reached_327 : decode cL_reached 327 = .ok (.lstore_n 3, 1) := by decide +kernel
theorem dL_reached_328 : decode cL_reached 328 = .ok (.iinc 7 1, 3) := by decide +kernel
theorem dL_reached_331 : decode cL_reached 331 = .ok (.goto (-30), 3) := by decide +kernel
theorem dL_reached_334 : decode cL_reached 334 = .ok (.lload_n 3, 1) := by decide +kernel
theorem dL_reached_335 : decode cL_reached 335 = .ok (.lreturn, 1) := by decide +kernel
section SITES
variable {p : Program} {l : Launch} {e : Env} {R : Room} {s : State} {m : MethodId} {args : Array Value} {below : List Frame} {meth : Method} {c : Code} {H : Heap} {locs : List Loc} {cells slots : Nat} {Q : State → Prop}
variable {pc : Nat} {ls : Array Slot} {rest : List Value} {D : va_G} {ar : Nat → ClassId} {κ : Nat → Nat} {A : Nat → Prop} {a : Nat} {H0 : Heap} {G : gW} {nz nL : Nat} {cc : ByteArray}
theorem m_7_221 : (Cond.codeWith yL_fieldKind cL_fieldKind 4 (some .long) [(0, 7, 8, 17)]) ∈ lwA := lwA_mk (ck_7 _ (List.mem_of_getElem? (i := 221) rfl)) rfl
theorem m_7_219 : (Cond.methodLink RL 285 yL_fieldKind) ∈ lwA := lwA_mk (ck_7 _ (List.mem_of_getElem? (i := 219) rfl)) rfl
theorem m_7_220 : (Cond.static yL_fieldKind) ∈ lwA := lwA_mk (ck_7 _ (List.mem_of_getElem? (i := 220) rfl)) rfl
theorem kW_285 {args : Array Value} {s : State} {R rm : Room} (hts : ∀ w ∈ lwA, w.before args s = true) (hR : rm.frames + 1 ≤ R.frames ∧ 8 + (4 + 11) + rm.locals ≤ R.locals) : vx_CSW R s args RL 285 yL_fieldKind cL_fieldKind 4 (some .long) [(0, 7, 8, 17)] (lwCW yL_fieldKind cL_fieldKind 4 (some .long) [(0, 7, 8, 17)]) rm rm.cells rm.slots 3 := vx_cwSW 3 hts (gdT m_7_219 m_7_220 m_1_0 m_7_221) rfl rfl rfl (by decide +kernel) hR
theorem m_7_159 : (Cond.constantLong RL 270 (111)) ∈ lwA := lwA_mk (ck_7 _ (List.mem_of_getElem? (i := 159) rfl)) rfl
theorem m_7_234 : (Cond.codeWith yL_fieldValue cL_fieldValue 4 (some .long) [(0, 7, 8, 17)]) ∈ lwA := lwA_mk (ck_7 _ (List.mem_of_getElem? (i := 234) rfl)) rfl
theorem m_7_232 : (Cond.methodLink RL 287 yL_fieldValue) ∈ lwA := lwA_mk (ck_7 _ (List.mem_of_getElem? (i := 232) rfl)) rfl
theorem m_7_233 : (Cond.static yL_fieldValue) ∈ lwA := lwA_mk (ck_7 _ (List.mem_of_getElem? (i := 233) rfl)) rfl
theorem kW_287 {args : Array Value} {s : State} {R rm : Room} (hts : ∀ w ∈ lwA, w.before args s = true) (hR : rm.frames + 1 ≤ R.frames ∧ 8 + (4 + 11) + rm.locals ≤ R.locals) : vx_CSW R s args RL 287 yL_fieldValue cL_fieldValue 4 (some .long) [(0, 7, 8, 17)] (lwCW yL_fieldValue cL_fieldValue 4 (some .long) [(0, 7, 8, 17)]) rm rm.cells rm.slots 3 := vx_cwSW 3 hts (gdT m_7_232 m_7_233 m_1_0 m_7_234) rfl rfl rfl (by decide +kernel) hR
theorem m_7_188 : (Cond.code yL_frames cL_frames 1 (some .long)) ∈ lwA := lwA_mk (ck_7 _ (List.mem_of_getElem? (i := 188) rfl)) rfl
theorem m_7_186 : (Cond.methodLink RL 278 yL_frames) ∈ lwA := lwA_mk (ck_7 _ (List.mem_of_getElem? (i := 186) rfl)) rfl
theorem m_7_187 : (Cond.static yL_frames) ∈ lwA := lwA_mk (ck_7 _ (List.mem_of_getElem? (i := 187) rfl)) rfl
theorem k_RL_278 {args : Array Value} {s : State} {R rm : Room} (hts : ∀ w ∈ lwA, w.before args s = true) (hR : rm.frames + 1 ≤ R.frames ∧ 8 + (1 + 11) + rm.locals ≤ R.locals) : CallB R s args RL 278 yL_frames cL_frames 1 (some .long) (lwC yL_frames cL_frames 1 (some .long)) rm rm.cells rm.slots 1 ∧ (Cond.static yL_frames).before args s = true := cwS 1 hts (gdS m_7_186 m_7_187 m_1_0 m_7_188) rfl rfl rfl (by decide +kernel) hR
theorem m_7_195 : (Cond.codeWith yL_slotKind cL_slotKind 5 (some .long) [(0, 8, 9, 17), (0, 8, 15, 23), (0, 8, 21, 52)]) ∈ lwA := lwA_mk (ck_7 _ (List.mem_of_getElem? (i := 195) rfl)) rfl
theorem m_7_193 : (Cond.methodLink RL 280 yL_slotKind) ∈ lwA := lwA_mk (ck_7 _ (List.mem_of_getElem? (i := 193) rfl)) rfl
theorem m_7_194 : (Cond.static yL_slotKind) ∈ lwA := lwA_mk (ck_7 _ (List.mem_of_getElem? (i := 194) rfl)) rfl
theorem kW_280 {args : Array Value} {s : State} {R rm : Room} (hts : ∀ w ∈ lwA, w.before args s = true) (hR : rm.frames + 1 ≤ R.frames ∧ 8 + (5 + 11) + rm.locals ≤ R.locals) : vx_CSW R s args RL 280 yL_slotKind cL_slotKind 5 (some .long) [(0, 8, 9, 17), (0, 8, 15, 23), (0, 8, 21, 52)] (lwCW yL_slotKind cL_slotKind 5 (some .long) [(0, 8, 9, 17), (0, 8, 15, 23), (0, 8, 21, 52)]) rm rm.cells rm.slots 4 := vx_cwSW 4 hts (gdT m_7_193 m_7_194 m_1_0 m_7_195) rfl rfl rfl (by decide +kernel) hR
theorem m_7_214 : (Cond.codeWith yL_slot cL_slot 5 (some .long) [(0, 8, 9, 17), (0, 8, 15, 23), (0, 8, 21, 52)]) ∈ lwA := lwA_mk (ck_7 _ (List.mem_of_getElem? (i := 214) rfl)) rfl
theorem m_7_212 : (Cond.methodLink RL 283 yL_slot) ∈ lwA := lwA_mk (ck_7 _ (List.mem_of_getElem? (i := 212) rfl)) rfl
theorem m_7_213 : (Cond.static yL_slot) ∈ lwA := lwA_mk (ck_7 _ (List.mem_of_getElem? (i := 213) rfl)) rfl
theorem kW_283 {args : Array Value} {s : State} {R rm : Room} (hts : ∀ w ∈ lwA, w.before args s = true) (hR : rm.frames + 1 ≤ R.frames ∧ 8 + (5 + 11) + rm.locals ≤ R.locals) : vx_CSW R s args RL 283 yL_slot cL_slot 5 (some .long) [(0, 8, 9, 17), (0, 8, 15, 23), (0, 8, 21, 52)] (lwCW yL_slot cL_slot 5 (some .long) [(0, 8, 9, 17), (0, 8, 15, 23), (0, 8, 21, 52)]) rm rm.cells rm.slots 4 := vx_cwSW 4 hts (gdT m_7_212 m_7_213 m_1_0 m_7_214) rfl rfl rfl (by decide +kernel) hR
theorem m_7_169 : (Cond.codeWith yL_answerKind cL_answerKind 2 (some .long) [(0, 5, 6, 52)]) ∈ lwA := lwA_mk (ck_7 _ (List.mem_of_getElem? (i := 169) rfl)) rfl
theorem m_7_167 : (Cond.methodLink RL 274 yL_answerKind) ∈ lwA := lwA_mk (ck_7 _ (List.mem_of_getElem? (i := 167) rfl)) rfl
theorem m_7_168 : (Cond.static yL_answerKind) ∈ lwA := lwA_mk (ck_7 _ (List.mem_of_getElem? (i := 168) rfl)) rfl
theorem kW_274 {args : Array Value} {s : State} {R rm : Room} (hts : ∀ w ∈ lwA, w.before args s = true) (hR : rm.frames + 1 ≤ R.frames ∧ 8 + (2 + 11) + rm.locals ≤ R.locals) : vx_CSW R s args RL 274 yL_answerKind cL_answerKind 2 (some .long) [(0, 5, 6, 52)] (lwCW yL_answerKind cL_answerKind 2 (some .long) [(0, 5, 6, 52)]) rm rm.cells rm.slots 1 := vx_cwSW 1 hts (gdT m_7_167 m_7_168 m_1_0 m_7_169) rfl rfl rfl (by decide +kernel) hR
theorem m_7_181 : (Cond.codeWith yL_answer cL_answer 2 (some .long) [(0, 5, 6, 52)]) ∈ lwA := lwA_mk (ck_7 _ (List.mem_of_getElem? (i := 181) rfl)) rfl
theorem m_7_179 : (Cond.methodLink RL 276 yL_answer) ∈ lwA := lwA_mk (ck_7 _ (List.mem_of_getElem? (i := 179) rfl)) rfl
theorem m_7_180 : (Cond.static yL_answer) ∈ lwA := lwA_mk (ck_7 _ (List.mem_of_getElem? (i := 180) rfl)) rfl
theorem kW_276 {args : Array Value} {s : State} {R rm : Room} (hts : ∀ w ∈ lwA, w.before args s = true) (hR : rm.frames + 1 ≤ R.frames ∧ 8 + (2 + 11) + rm.locals ≤ R.locals) : vx_CSW R s args RL 276 yL_answer cL_answer 2 (some .long) [(0, 5, 6, 52)] (lwCW yL_answer cL_answer 2 (some .long) [(0, 5, 6, 52)]) rm rm.cells rm.slots 1 := vx_cwSW 1 hts (gdT m_7_179 m_7_180 m_1_0 m_7_181) rfl rfl rfl (by decide +kernel) hR
theorem m_7_154 : (Cond.codeWith yL_kind cL_kind 3 (some .long) [(0, 6, 7, 17)]) ∈ lwA := lwA_mk (ck_7 _ (List.mem_of_getElem? (i := 154) rfl)) rfl
theorem m_7_152 : (Cond.methodLink RL 268 yL_kind) ∈ lwA := lwA_mk (ck_7 _ (List.mem_of_getElem? (i := 152) rfl)) rfl
theorem m_7_153 : (Cond.static yL_kind) ∈ lwA := lwA_mk (ck_7 _ (List.mem_of_getElem? (i := 153) rfl)) rfl
theorem kW_268 {args : Array Value} {s : State} {R rm : Room} (hts : ∀ w ∈ lwA, w.before args s = true) (hR : rm.frames + 1 ≤ R.frames ∧ 8 + (3 + 11) + rm.locals ≤ R.locals) : vx_CSW R s args RL 268 yL_kind cL_kind 3 (some .long) [(0, 6, 7, 17)] (lwCW yL_kind cL_kind 3 (some .long) [(0, 6, 7, 17)]) rm rm.cells rm.slots 2 := vx_cwSW 2 hts (gdT m_7_152 m_7_153 m_1_0 m_7_154) rfl rfl rfl (by decide +kernel) hR
theorem m_7_162 : (Cond.codeWith yL_value cL_value 3 (some .long) [(0, 6, 7, 17)]) ∈ lwA := lwA_mk (ck_7 _ (List.mem_of_getElem? (i := 162) rfl)) rfl
theorem m_7_160 : (Cond.methodLink RL 272 yL_value) ∈ lwA := lwA_mk (ck_7 _ (List.mem_of_getElem? (i := 160) rfl)) rfl
theorem m_7_161 : (Cond.static yL_value) ∈ lwA := lwA_mk (ck_7 _ (List.mem_of_getElem? (i := 161) rfl)) rfl
theorem kW_272 {args : Array Value} {s : State} {R rm : Room} (hts : ∀ w ∈ lwA, w.before args s = true) (hR : rm.frames + 1 ≤ R.frames ∧ 8 + (3 + 11) + rm.locals ≤ R.locals) : vx_CSW R s args RL 272 yL_value cL_value 3 (some .long) [(0, 6, 7, 17)] (lwCW yL_value cL_value 3 (some .long) [(0, 6, 7, 17)]) rm rm.cells rm.slots 2 := vx_cwSW 2 hts (gdT m_7_160 m_7_161 m_1_0 m_7_162) rfl rfl rfl (by decide +kernel) hR
theorem m_7_239 : (Cond.arrayClass .boolean) ∈ lwA := lwA_mk (ck_7 _ (List.mem_of_getElem? (i := 239) rfl)) rfl
end SITES
section RZ
variable {p : Program} {l : Launch} {e : Env} {R : Room} {s : State} {m : MethodId} {args : Array Value} {below : List Frame} {meth : Method} {c : Code} {H : Heap} {locs : List Loc} {cells slots : Nat} {Q : State → Prop}
variable {pc : Nat} {ls : Array Slot} {rest : List Value} {D : va_G} {ar : Nat → ClassId} {κ : Nat → Nat} {A : Nat → Prop} {a : Nat} {G : gW} {nz : Nat} {cc : ByteArray} {x : Xo} {Z : Ho} {h : Nat → Int32} {i : Int32}
theorem rz_ald (hx : p.tables.exec = Jvm.exec) (hb : c.code = cc) (hK : va_K D vwCl (gT ar) s) (w : g_S D vwCl A s.heap (ov κ ar x Z (g_up G a (.inl (ar 3, 4000, .inl h)))) H locs nz) (hn : x.b a = none) (hin : vp_in i 4000) (hdg : decode cc pc = .ok (.baload, 1))
    (kk : W p l e R s m args below meth c H locs cells slots Q (F0 m (pc + 1) ls (.int (h i.toNatClampNeg) :: rest))) : W p l e R s m args below meth c H locs cells slots Q (F0 m pc ls (.int i :: .ref a :: rest)) :=
  va_zald hx hb hK (g_1 w.1 (ov_o hn g_up_s)) 0 3 rfl rfl hin hdg kk
theorem rz_ast (hx : p.tables.exec = Jvm.exec) (hb : c.code = cc) (hK : va_K D vwCl (gT ar) s) (w : g_S D vwCl A s.heap (ov κ ar x Z (g_up G a (.inl (ar 3, 4000, .inl h)))) H locs nz) (hn : x.b a = none) (hin : vp_in i 4000) (hdg : decode cc pc = .ok (.bastore, 1))
    (kk : ∀ (H1 : Heap) (locs1 : List Loc), g_S D vwCl A s.heap (ov κ ar x Z (g_up G a (.inl (ar 3, 4000, .inl (upd h i.toNatClampNeg 1))))) H1 locs1 nz → W p l e R s m args below meth c H1 locs1 cells slots Q (F0 m (pc + 1) ls rest)) : W p l e R s m args below meth c H locs cells slots Q (F0 m pc ls (.int 1 :: .int i :: .ref a :: rest)) :=
  g_zast hx hb hK w 3 (ov_o hn g_up_s) rfl hin hdg (fun H1 l1 w1 => kk H1 l1 (g_eqw w1 ((ov_new hn).trans (congrArg (ov κ ar x Z) g_over))))
end RZ
/-- one field of the thing of the number m -/
def FdD (Z : Ho) (t : Nat) (h : Nat → Int32) (m k : Nat) : Prop := ∀ i z v, i < t → nT Z.al Z.th i = nI m → (Z.th (pT Z.al i)).z = nI z → z ≤ 8 → k < z → v = (Z.th (pT Z.al i)).p k → RtD h v
theorem cl_8 {Z : Ho} {t m : Nat} {h : Nat → Int32} (q : ∀ k, k < 8 → FdD Z t h m k) : ClD Z t h m := fun v ⟨i, z, k, h1, h2, h3, h4, h5, h6⟩ => q k (by omega) i z v h1 h2 h3 h4 h5 h6
theorem sl3_up {Z : Ho} {h : Nat → Int32} {i : Fin 12} {k j : Nat} (q : ∀ k1, k1 < k → SlD Z h i 97 k1 ∧ SlD Z h i 116 k1 ∧ SlD Z h i 112 k1) : ∀ k1, k1 < k → SlD Z (upd h j 1) i 97 k1 ∧ SlD Z (upd h j 1) i 116 k1 ∧ SlD Z (upd h j 1) i 112 k1 := fun k1 q9 => ⟨(q k1 q9).1.up, (q k1 q9).2.1.up, (q k1 q9).2.2.up⟩
theorem fd_1 {Z : Ho} {t md f n m k i z j : Nat} {h : Nat → Int32} (hI : Inv Z t md f n) (hi : i < t) (en : nT Z.al Z.th i = nI m) (ez : (Z.th (pT Z.al i)).z = nI z) (hz : z ≤ 8) (enf : nf ((Z.th (pT Z.al i)).p k) = nI j) (hj : j < 4000) (hh : ¬ h j = 0) : FdD Z t h m k := fun i' z' v h1 h2 _ _ _ h6 _ => by
  have : i' = i := hI.tb.n h1 hi (h2.trans en.symm)
  subst this
  exact ⟨j, hj, by rw [h6]; exact enf, hh⟩
theorem fr_cmp {Z : Ho} {t md f n i : Nat} (hI : Inv Z t md f n) (hi : i ≤ f) : lg_cmp ((nI i).toInt64) (sL_frames Z) = if i = f then 0 else -1 := by
  have hf := hI.f12
  have e1 : sL_frames Z = lN f := by
    show Z.fn.toInt64 = _
    rw [hI.fn, nI_l (by omega)]
  rw [e1, nI_l (by omega)]
  unfold lg_cmp
  have h1 : ¬ lN i > lN f := fun q => by have := (lN_lt (by omega) (by omega)).mp q; omega
  rw [if_neg h1]
  by_cases c : i = f
  · rw [if_pos c, if_pos (by rw [c])]
  · rw [if_neg c, if_neg (fun q => c ((lN_eq (by omega) (by omega)).mp q))]
theorem fr_ge {Z : Ho} {t md f n i : Nat} (hI : Inv Z t md f n) (hi : i ≤ f) (c : (0 : Int32) ≤ lg_cmp ((nI i).toInt64) (sL_frames Z)) : i = f := by
  rw [fr_cmp hI hi] at c
  by_cases q : i = f
  · exact q
  · rw [if_neg q] at c; exact absurd c (by decide)
theorem fr_lt {Z : Ho} {t md f n i : Nat} (hI : Inv Z t md f n) (hi : i ≤ f) (c : ¬ (0 : Int32) ≤ lg_cmp ((nI i).toInt64) (sL_frames Z)) : i < f := by
  rw [fr_cmp hI hi] at c
  rcases Nat.lt_or_ge i f with q | q
  · exact q
  · obtain rfl : i = f := by omega
    rw [if_pos rfl] at c; exact absurd (by decide) c
set_option maxHeartbeats 4000000 in
set_option maxRecDepth 100000 in
theorem hL_reached (l : Launch) (D : va_G) (ar : Nat → ClassId) (κ : Nat → Nat) (G : gW) (x : Xo) (Z : Ho) (sz : Nat) {t md f n : Nat} (hI : Inv Z t md f n) (hmd : md ≤ 4000) (hk : OK x Z) (hlt : l.stackTraces = false) : Met l yL_reached (lwC yL_reached cL_reached 9 (some .long)) (rD 16 16400 104000) (g_Pc D vwCl (gT ar) (EX1 κ) (ov κ ar x Z G) sz [.ref (x.f .ho)]) (g_Ql D vwCl (g_A (ov κ ar x Z G) sz) (fun r u => (∃ h : Nat → Int32, (∀ m, m < 4000 → (¬ h m = 0 ↔ RN Z t f (nI m))) ∧ r = lN (cnt h 4000)) ∧ u.1 = ov κ ar x Z G)) 16400 104000 (g_A (ov κ ar x Z G) sz) := by
  refine g_ofW (by decide +kernel) (Nat.le_of_ble_eq_true rfl) ?_
  intro p e s m below meth c ls S hr hlk hin hE w hl
  have hx := S.1
  have hb := S.2.1
  have hl : lv_has ls 9 [(0, .ref (x.f .ho))] := hl
  have hn60 : t ≤ 60 := hI.tb.l
  have hf12 : f ≤ 12 := hI.f12
  have hG9 : ov κ ar x Z G sz = none := g_none w
  have hn9 := ov_b0 hG9
  have hG0 : G sz = none := ov_G0 hG9
  have R3 : ∀ (h : Nat → Int32) (nz : Nat), (∀ m, m < 4000 → (¬ h m = 0 ↔ RN Z t f (nI m))) → ∀ (H : Heap) (locs : List Loc) (ls : Array Slot), g_S D vwCl (g_A (ov κ ar x Z G) sz) s.heap (ov κ ar x Z (g_up G sz (.inl (ar 3, 4000, .inl h)))) H locs nz → lv_has ls 9 [(1, .ref sz), (0, .ref (x.f .ho))] → W p l e (rD 16 16400 104000) s m (([.ref (x.f .ho)] : List Value).toArray) below meth c H locs (16339) (4000 + 6 * (16339)) (MQ below (g_Ql D vwCl (g_A (ov κ ar x Z G) sz) (fun r u => (∃ h : Nat → Int32, (∀ m, m < 4000 → (¬ h m = 0 ↔ RN Z t f (nI m))) ∧ r = lN (cnt h 4000)) ∧ u.1 = ov κ ar x Z G)) (([.ref (x.f .ho)] : List Value).toArray) s 16400 104000 (g_A (ov κ ar x Z G) sz)) (F0 m 288 ls []) := by
    intro h nz hm H locs ls w hl
    have key : ∀ (n9 i : Nat), i ≤ 4000 → 4001 ≤ i + n9 → ∀ (x9 : Int32), x9 = nI i → ∀ (v : Int64), v = lN (cnt h i) → ∀ (ls : Array Slot), lv_has ls 9 [(7, .int x9), (3, .long v), (5, .ref sz), (6, .int 4000)] → W p l e (rD 16 16400 104000) s m (([.ref (x.f .ho)] : List Value).toArray) below meth c H locs (16339) (4000 + 6 * (16339)) (MQ below (g_Ql D vwCl (g_A (ov κ ar x Z G) sz) (fun r u => (∃ h : Nat → Int32, (∀ m, m < 4000 → (¬ h m = 0 ↔ RN Z t f (nI m))) ∧ r = lN (cnt h 4000)) ∧ u.1 = ov κ ar x Z G)) (([.ref (x.f .ho)] : List Value).toArray) s 16400 104000 (g_A (ov κ ar x Z G) sz)) (F0 m 301 ls []) := by
      intro n9
      induction n9 with
      | zero => intro i h1 h2; omega
      | succ n9 ih =>
        intro i hi1 hi2 x9 ex9 v ev ls hl
        refine lv_iload hx hb dL_reached_301 (lv_at hl 0 rfl) ?_
        refine lv_iload hx hb dL_reached_303 (lv_at hl 3 rfl) ?_
        refine lv_icmp_ge (tgt := 334) hx hb dL_reached_305 (by decide) (fun c_305 => ?_) (fun c_305 => ?_)
        · have hi8 := lp_eq (n := 4000) rfl ex9 hi1 (by decide) c_305
          subst hi8
          refine lv_lload_n hx hb dL_reached_334 rfl (lv_at hl 1 rfl) ?_
          have w := g_sub w (ov_sub (up_sub hG0))
          exact g_lret hx hb hr hlk w (Nat.le_of_ble_eq_true rfl) (Nat.le_of_ble_eq_true rfl) dL_reached_335 ⟨⟨h, hm, ev⟩, rfl⟩
        · have hlt9 := lp_lt (n := 4000) rfl ex9 hi1 (by decide) c_305
          refine lv_aload hx hb dL_reached_308 (lv_at hl 2 rfl) ?_
          refine lv_iload hx hb dL_reached_310 (lv_at hl 0 rfl) ?_
          refine rz_ald hx hb hE.1 w hn9 (by rw [ex9]; exact vp_in_nI (by omega) (by decide)) dL_reached_312 ?_
          rw [ex9, nI_clamp (show i < 2 ^ 31 by omega)]
          refine lv_istore (lv' := [(8, .int (h i)), (7, .int x9), (3, .long v), (5, .ref sz), (6, .int 4000)]) hx hb dL_reached_313 hl (by decide) rfl (fun ls hl => ?_)
          refine lv_lload_n hx hb dL_reached_315 rfl (lv_at hl 2 rfl) ?_
          refine lv_iload hx hb dL_reached_316 (lv_at hl 0 rfl) ?_
          refine lv_if_eq (tgt := 325) hx hb dL_reached_318 (by decide) (fun c_318 => ?_) (fun c_318 => ?_)
          · refine lv_lconst (v := 0) hx hb dL_reached_325 (by decide) ?_
            refine lv_ladd hx hb dL_reached_326 ?_
            refine lv_lstore_n (lv' := [(3, .long (v + 0)), (8, .int (h i)), (7, .int x9), (5, .ref sz), (6, .int 4000)]) hx hb dL_reached_327 rfl hl (by decide) rfl (fun ls hl => ?_)
            refine lv_iinc (v := x9 + 1) (lv' := [(7, .int (x9 + 1)), (3, .long (v + 0)), (8, .int (h i)), (5, .ref sz), (6, .int 4000)]) hx hb dL_reached_328 hl (k := 2) rfl rfl (by decide) rfl (fun ls hl => ?_)
            refine lv_goto (tgt := 301) hx hb dL_reached_331 (by decide) ?_
            refine ih (i + 1) (by omega) (by omega) _ (by rw [ex9]; exact nI_1 i) _ ?_ ls (lv_sub hl [0, 1, 3, 4] rfl)
            rw [cnt_0 c_318, ev]; exact Int64.add_zero _
          · refine lv_lconst (v := 1) hx hb dL_reached_321 (by decide) ?_
            refine lv_goto (tgt := 326) hx hb dL_reached_322 (by decide) ?_
            refine lv_ladd hx hb dL_reached_326 ?_
            refine lv_lstore_n (lv' := [(3, .long (v + 1)), (8, .int (h i)), (7, .int x9), (5, .ref sz), (6, .int 4000)]) hx hb dL_reached_327 rfl hl (by decide) rfl (fun ls hl => ?_)
            refine lv_iinc (v := x9 + 1) (lv' := [(7, .int (x9 + 1)), (3, .long (v + 1)), (8, .int (h i)), (5, .ref sz), (6, .int 4000)]) hx hb dL_reached_328 hl (k := 2) rfl rfl (by decide) rfl (fun ls hl => ?_)
            refine lv_goto (tgt := 301) hx hb dL_reached_331 (by decide) ?_
            refine ih (i + 1) (by omega) (by omega) _ (by rw [ex9]; exact nI_1 i) _ ?_ ls (lv_sub hl [0, 1, 3, 4] rfl)
            rw [cnt_1 c_318, ev]; exact lN_1 _
    refine lv_lconst (v := 0) hx hb dL_reached_288 (by decide) ?_
    refine lv_lstore_n (lv' := [(3, .long 0), (1, .ref sz), (0, .ref (x.f .ho))]) hx hb dL_reached_289 rfl hl (by decide) rfl (fun ls hl => ?_)
    refine lv_aload_n hx hb dL_reached_290 rfl (lv_at hl 1 rfl) ?_
    refine lv_astore (lv' := [(5, .ref sz), (3, .long 0), (1, .ref sz), (0, .ref (x.f .ho))]) hx hb dL_reached_291 hl (by decide) rfl (fun ls hl => ?_)
    refine lv_aload hx hb dL_reached_293 (lv_at hl 0 rfl) ?_
    refine va_alen (v := 4000) hx hb hE.1 (g_1 w.1 (ov_o hn9 g_up_s)) 0 3 rfl rfl rfl dL_reached_295 ?_
    refine lv_istore (lv' := [(6, .int 4000), (5, .ref sz), (3, .long 0), (1, .ref sz), (0, .ref (x.f .ho))]) hx hb dL_reached_296 hl (by decide) rfl (fun ls hl => ?_)
    refine lv_iconst (v := 0) hx hb dL_reached_298 (by decide) ?_
    refine lv_istore (lv' := [(7, .int 0), (6, .int 4000), (5, .ref sz), (3, .long 0), (1, .ref sz), (0, .ref (x.f .ho))]) hx hb dL_reached_299 hl (by decide) rfl (fun ls hl => ?_)
    exact key 4001 0 (by omega) (by omega) 0 rfl 0 rfl _ (lv_sub hl [0, 3, 2, 1] rfl)
  have R2 : ∀ (n9 : Nat) (h : Nat → Int32) (nz : Nat), 61 ≤ n9 + cnt h 4000 → Sub Z t f h → (∀ v, RtV Z f v → RtD h v) → ∀ (H : Heap) (locs : List Loc) (ls : Array Slot), g_S D vwCl (g_A (ov κ ar x Z G) sz) s.heap (ov κ ar x Z (g_up G sz (.inl (ar 3, 4000, .inl h)))) H locs nz → lv_has ls 9 [(2, .int 1), (1, .ref sz), (0, .ref (x.f .ho))] → W p l e (rD 16 16400 104000) s m (([.ref (x.f .ho)] : List Value).toArray) below meth c H locs (1219 + tr (cnt h 4000)) (4000 + 6 * (1219 + tr (cnt h 4000))) (MQ below (g_Ql D vwCl (g_A (ov κ ar x Z G) sz) (fun r u => (∃ h : Nat → Int32, (∀ m, m < 4000 → (¬ h m = 0 ↔ RN Z t f (nI m))) ∧ r = lN (cnt h 4000)) ∧ u.1 = ov κ ar x Z G)) (([.ref (x.f .ho)] : List Value).toArray) s 16400 104000 (g_A (ov κ ar x Z G) sz)) (F0 m 202 ls []) := by
    intro n9
    induction n9 with
    | zero => intro h nz h1 hS; have := sub_le hI hS; omega
    | succ n9 ihW =>
      intro h0 nz0 hfu hS0 hr0 H locs ls w hl
      obtain ⟨c0, ec0⟩ : ∃ c0, cnt h0 4000 = c0 := ⟨_, rfl⟩
      have hc0 : c0 ≤ 60 := by have := sub_le hI hS0; omega
      rw [ec0]
      have keyT : ∀ (q9 T : Nat), T ≤ 4000 → 4001 ≤ T + q9 → ∀ (x9 : Int32), x9 = nI T → ∀ (fl : Int32) (h : Nat → Int32) (nz : Nat), Sub Z t f h → (∀ v, RtV Z f v → RtD h v) → (fl = 0 ∨ fl = 1) → (fl = 1 → c0 + 1 ≤ cnt h 4000) → c0 ≤ cnt h 4000 → (fl = 0 → ∀ m, m < T → ¬ h m = 0 → ClD Z t h m) → ∀ (H : Heap) (locs : List Loc) (ls : Array Slot), g_S D vwCl (g_A (ov κ ar x Z G) sz) s.heap (ov κ ar x Z (g_up G sz (.inl (ar 3, 4000, .inl h)))) H locs nz → lv_has ls 9 [(3, .int x9), (2, .int fl), (1, .ref sz), (0, .ref (x.f .ho))] → W p l e (rD 16 16400 104000) s m (([.ref (x.f .ho)] : List Value).toArray) below meth c H locs (1219 + tr c0 + 8 * cnt h T) (4000 + 6 * (1219 + tr c0 + 8 * cnt h T)) (MQ below (g_Ql D vwCl (g_A (ov κ ar x Z G) sz) (fun r u => (∃ h : Nat → Int32, (∀ m, m < 4000 → (¬ h m = 0 ↔ RN Z t f (nI m))) ∧ r = lN (cnt h 4000)) ∧ u.1 = ov κ ar x Z G)) (([.ref (x.f .ho)] : List Value).toArray) s 16400 104000 (g_A (ov κ ar x Z G) sz)) (F0 m 210 ls []) := by
        intro q9
        induction q9 with
        | zero => intro T h1 h2; omega
        | succ q9 ihT =>
          intro T hT1 hT2 x9 ex9 fl h nz hS hr hfl hf1 hcc hcl H locs ls w hl
          have ht1 := tr_m hc0
          have ht2 := tr_60
          have hcn := sub_le hI hS
          have hcs := cnt_s (h := h) (a := T) (4000 - T)
          rw [show T + (4000 - T) = 4000 by omega] at hcs
          refine lv_iload_n hx hb dL_reached_210 rfl (lv_at hl 0 rfl) ?_
          refine lv_sipush (v := 4000) hx hb dL_reached_211 (by decide) ?_
          refine lv_icmp_ge (tgt := 285) hx hb dL_reached_214 (by decide) (fun c_214 => ?_) (fun c_214 => ?_)
          · have hi8 := lp_eq (n := 4000) rfl ex9 hT1 (by decide) c_214
            subst hi8
            rcases hfl with hfl | hfl
            · subst hfl
              refine lv_goto (tgt := 202) hx hb dL_reached_285 (by decide) ?_
              refine lv_iload_n hx hb dL_reached_202 rfl (lv_at hl 1 rfl) ?_
              refine lv_if_eq (tgt := 288) hx hb dL_reached_203 (by decide) (fun _ => ?_) (fun c => absurd (by decide) c)
              have ht1 := tr_m hc0
              have ht2 := tr_60
              refine W.widen (k := 16339) (n := 4000 + 6 * (16339)) (by omega) (by omega) ?_
              exact R3 h nz (fun m hm => ⟨hS m hm, mark_all hS hr (hcl rfl) m hm⟩) _ _ _ w (lv_sub hl [2, 3] rfl)
            · subst hfl
              refine lv_goto (tgt := 202) hx hb dL_reached_285 (by decide) ?_
              have ht1 := tr_s (hf1 rfl)
              refine W.widen (k := 1219 + tr (cnt h 4000)) (n := 4000 + 6 * (1219 + tr (cnt h 4000))) (by omega) (by omega) ?_
              exact ihW h nz (by have := hf1 rfl; omega) hS hr _ _ _ w (lv_sub hl [1, 2, 3] rfl)
          · have hlt9 := lp_lt (n := 4000) rfl ex9 hT1 (by decide) c_214
            have keyK : ∀ (r9 k : Nat), k ≤ 8 → 9 ≤ k + r9 → ∀ (y9 : Int32), y9 = nI k → ∀ (fl : Int32) (h : Nat → Int32) (nz : Nat), Sub Z t f h → (∀ v, RtV Z f v → RtD h v) → (fl = 0 ∨ fl = 1) → (fl = 1 → c0 + 1 ≤ cnt h 4000) → c0 ≤ cnt h 4000 → (fl = 0 → ∀ m, m < T → ¬ h m = 0 → ClD Z t h m) → (k = 0 ∨ ¬ h T = 0) → (fl = 0 → ∀ k1, k1 < k → FdD Z t h T k1) → ∀ (H : Heap) (locs : List Loc) (ls : Array Slot), g_S D vwCl (g_A (ov κ ar x Z G) sz) s.heap (ov κ ar x Z (g_up G sz (.inl (ar 3, 4000, .inl h)))) H locs nz → lv_has ls 9 [(4, .int y9), (3, .int x9), (2, .int fl), (1, .ref sz), (0, .ref (x.f .ho))] → W p l e (rD 16 16400 104000) s m (([.ref (x.f .ho)] : List Value).toArray) below meth c H locs (1219 + tr c0 + 8 * cnt h T + k) (4000 + 6 * (1219 + tr c0 + 8 * cnt h T + k)) (MQ below (g_Ql D vwCl (g_A (ov κ ar x Z G) sz) (fun r u => (∃ h : Nat → Int32, (∀ m, m < 4000 → (¬ h m = 0 ↔ RN Z t f (nI m))) ∧ r = lN (cnt h 4000)) ∧ u.1 = ov κ ar x Z G)) (([.ref (x.f .ho)] : List Value).toArray) s 16400 104000 (g_A (ov κ ar x Z G) sz)) (F0 m 220 ls []) := by
              intro r9
              induction r9 with
              | zero => intro k h1 h2; omega
              | succ r9 ihK =>
                intro k hk1 hk2 y9 ey9 fl h nz hS hr hfl hf1 hcc hcl hkT hfd H locs ls w hl
                have ht1 := tr_m hc0
                have ht2 := tr_60
                have hcn := sub_le hI hS
                have hcs := cnt_s (h := h) (a := T) (4000 - T)
                rw [show T + (4000 - T) = 4000 by omega] at hcs
                refine lv_aload_n hx hb dL_reached_220 rfl (lv_at hl 3 rfl) ?_
                refine lv_iload_n hx hb dL_reached_221 rfl (lv_at hl 1 rfl) ?_
                refine rz_ald hx hb hE.1 w hn9 (by rw [ex9]; exact vp_in_nI (by omega) (by decide)) dL_reached_222 ?_
                rw [ex9, nI_clamp (show T < 2 ^ 31 by omega)]
                refine lv_if_eq (tgt := 279) hx hb dL_reached_223 (by decide) (fun c_223 => ?_) (fun c_223 => ?_)
                · have hk0 : k = 0 := hkT.resolve_right (fun q => q c_223)
                  subst hk0
                  refine lv_iinc (v := x9 + 1) (lv' := [(3, .int (x9 + 1)), (4, .int y9), (2, .int fl), (1, .ref sz), (0, .ref (x.f .ho))]) hx hb dL_reached_279 hl (k := 1) rfl rfl (by decide) rfl (fun ls hl => ?_)
                  refine lv_goto (tgt := 210) hx hb dL_reached_282 (by decide) ?_
                  refine W.widen (k := 1219 + tr c0 + 8 * cnt h (T + 1)) (n := 4000 + 6 * (1219 + tr c0 + 8 * cnt h (T + 1))) (by rw [cnt_0 c_223]; omega) (by rw [cnt_0 c_223]; omega) ?_
                  exact ihT (T + 1) (by omega) (by omega) _ (by rw [ex9]; exact nI_1 T) fl h nz hS hr hfl hf1 hcc (fun hz m hm hw => (by rcases Nat.lt_or_ge m T with q | q; exact hcl hz m q hw; obtain rfl : m = T := (by omega); exact absurd c_223 hw)) _ _ _ w (lv_sub hl [0, 2, 3, 4] rfl)
                · refine lv_iload hx hb dL_reached_226 (lv_at hl 0 rfl) ?_
                  refine lv_bipush (v := 8) hx hb dL_reached_228 (by decide) ?_
                  refine lv_icmp_ge (tgt := 279) hx hb dL_reached_230 (by decide) (fun c_230 => ?_) (fun c_230 => ?_)
                  · have hk8 := lp_eq (n := 8) rfl ey9 hk1 (by decide) c_230
                    subst hk8
                    refine lv_iinc (v := x9 + 1) (lv' := [(3, .int (x9 + 1)), (4, .int y9), (2, .int fl), (1, .ref sz), (0, .ref (x.f .ho))]) hx hb dL_reached_279 hl (k := 1) rfl rfl (by decide) rfl (fun ls hl => ?_)
                    refine lv_goto (tgt := 210) hx hb dL_reached_282 (by decide) ?_
                    refine W.widen (k := 1219 + tr c0 + 8 * cnt h (T + 1)) (n := 4000 + 6 * (1219 + tr c0 + 8 * cnt h (T + 1))) (by rw [cnt_1 c_223]; omega) (by rw [cnt_1 c_223]; omega) ?_
                    exact ihT (T + 1) (by omega) (by omega) _ (by rw [ex9]; exact nI_1 T) fl h nz hS hr hfl hf1 hcc (fun hz m hm hw => (by rcases Nat.lt_or_ge m T with q | q; exact hcl hz m q hw; obtain rfl : m = T := (by omega); exact cl_8 (fun k1 hk1 => hfd hz k1 (by omega)))) _ _ _ w (lv_sub hl [0, 2, 3, 4] rfl)
                  · have hlk9 := lp_lt (n := 8) rfl ey9 hk1 (by decide) c_230
                    subst ex9 ey9
                    have hRT := hS T (by omega) c_223
                    rcases kd_f hI hmd (show T < 4000 by omega) hlk9 hRT with ⟨hkd, hno⟩ | ⟨j, i, z, hj, hi, en, ez, hz8, hkz, enf, hRj, hkd, hwn, hhf, hvl⟩
                    · refine lv_aload_n hx hb dL_reached_233 rfl (lv_at hl 4 rfl) ?_
                      refine lv_iload_n hx hb dL_reached_234 rfl (lv_at hl 1 rfl) ?_
                      refine lv_iload hx hb dL_reached_235 (lv_at hl 0 rfl) ?_
                      refine g_calll w (g_runSW (As := [.ref (x.f .ho), .int (nI T), .int (nI k)]) (rest := []) S hE w hl (hL_fieldKind l D ar κ (g_up G sz (.inl (ar 3, 4000, .inl h))) x Z nz (nI T) (nI k) hk  hlt) (kW_285 S.2.2.2.2 ⟨Nat.le_of_ble_eq_true rfl, Nat.le_of_ble_eq_true rfl⟩) rfl rfl (Nat.le_of_ble_eq_true rfl) dL_reached_237 ⟨by (try dsimp only [rD]); omega, by (try dsimp only [rD]); omega⟩) (fun r u H locs hp hnz w => ?_)
                      obtain ⟨rfl, hu9⟩ := hp
                      obtain ⟨v1, m1⟩ := u
                      dsimp only at hu9 w hnz
                      subst hu9
                      refine lv_ldc2 hx hb S.2.2.2.1 (S.2.2.2.2 _ m_7_159) dL_reached_240 ?_
                      refine W.lcmp hx hb dL_reached_243 ?_
                      refine lv_if_ne (tgt := 273) hx hb dL_reached_244 (by decide) (fun _ => ?_) (fun c_244 => absurd c_244 hkd)
                      refine lv_iinc (v := (nI k) + 1) (lv' := [(4, .int ((nI k) + 1)), (3, .int (nI T)), (2, .int fl), (1, .ref sz), (0, .ref (x.f .ho))]) hx hb dL_reached_273 hl (k := 0) rfl rfl (by decide) rfl (fun ls hl => ?_)
                      refine lv_goto (tgt := 220) hx hb dL_reached_276 (by decide) ?_
                      refine W.widen (k := 1219 + tr c0 + 8 * cnt h T + (k + 1)) (n := 4000 + 6 * (1219 + tr c0 + 8 * cnt h T + (k + 1))) (by omega) (by omega) ?_
                      exact ihK (k + 1) (by omega) (by omega) _ (nI_1 k) fl h m1 hS hr hfl hf1 hcc hcl (Or.inr c_223) (fun hz k1 hk1 => by rcases Nat.lt_or_ge k1 k with q | q; exact hfd hz k1 q; obtain rfl : k1 = k := (by omega); exact fun i z v h1 h2 h3 h4 h5 h6 hT => absurd (hno i z v h1 h2 h3 h4 h5 h6) hT) _ _ _ w (lv_sub hl [0, 1, 2, 3, 4] rfl)
                    · refine lv_aload_n hx hb dL_reached_233 rfl (lv_at hl 4 rfl) ?_
                      refine lv_iload_n hx hb dL_reached_234 rfl (lv_at hl 1 rfl) ?_
                      refine lv_iload hx hb dL_reached_235 (lv_at hl 0 rfl) ?_
                      refine g_calll w (g_runSW (As := [.ref (x.f .ho), .int (nI T), .int (nI k)]) (rest := []) S hE w hl (hL_fieldKind l D ar κ (g_up G sz (.inl (ar 3, 4000, .inl h))) x Z nz (nI T) (nI k) hk  hlt) (kW_285 S.2.2.2.2 ⟨Nat.le_of_ble_eq_true rfl, Nat.le_of_ble_eq_true rfl⟩) rfl rfl (Nat.le_of_ble_eq_true rfl) dL_reached_237 ⟨by (try dsimp only [rD]); omega, by (try dsimp only [rD]); omega⟩) (fun r u H locs hp hnz w => ?_)
                      obtain ⟨rfl, hu9⟩ := hp
                      obtain ⟨v2, m2⟩ := u
                      dsimp only at hu9 w hnz
                      subst hu9
                      refine lv_ldc2 hx hb S.2.2.2.1 (S.2.2.2.2 _ m_7_159) dL_reached_240 ?_
                      refine W.lcmp hx hb dL_reached_243 ?_
                      refine lv_if_ne (tgt := 273) hx hb dL_reached_244 (by decide) (fun c_244_1 => absurd hkd c_244_1) (fun _ => ?_)
                      refine lv_aload_n hx hb dL_reached_247 rfl (lv_at hl 3 rfl) ?_
                      refine lv_aload_n hx hb dL_reached_248 rfl (lv_at hl 4 rfl) ?_
                      refine lv_iload_n hx hb dL_reached_249 rfl (lv_at hl 1 rfl) ?_
                      refine lv_iload hx hb dL_reached_250 (lv_at hl 0 rfl) ?_
                      refine g_calll w (g_runSW (As := [.ref (x.f .ho), .int (nI T), .int (nI k)]) (rest := [.ref sz]) S hE w hl (hF_LfieldValue l D ar κ (g_up G sz (.inl (ar 3, 4000, .inl h))) x Z m2 (nI T) (nI k) (pT Z.al i) hk hwn hhf) (kW_287 S.2.2.2.2 ⟨Nat.le_of_ble_eq_true rfl, Nat.le_of_ble_eq_true rfl⟩) rfl rfl (Nat.le_of_ble_eq_true rfl) dL_reached_252 ⟨by (try dsimp only [rD]); omega, by (try dsimp only [rD]); omega⟩) (fun r u H locs hp hnz w => ?_)
                      obtain ⟨rfl, rfl⟩ := hp
                      dsimp only at w
                      refine lv_l2i hx hb dL_reached_255 rfl ?_
                      rw [hvl]
                      refine rz_ald hx hb hE.1 w hn9 (vp_in_nI (n := j) (by omega) (by decide)) dL_reached_256 ?_
                      rw [nI_clamp (show j < 2 ^ 31 by omega)]
                      refine lv_if_ne (tgt := 273) hx hb dL_reached_257 (by decide) (fun c_257 => ?_) (fun c_257 => ?_)
                      · refine lv_iinc (v := (nI k) + 1) (lv' := [(4, .int ((nI k) + 1)), (3, .int (nI T)), (2, .int fl), (1, .ref sz), (0, .ref (x.f .ho))]) hx hb dL_reached_273 hl (k := 0) rfl rfl (by decide) rfl (fun ls hl => ?_)
                        refine lv_goto (tgt := 220) hx hb dL_reached_276 (by decide) ?_
                        refine W.widen (k := 1219 + tr c0 + 8 * cnt h T + (k + 1)) (n := 4000 + 6 * (1219 + tr c0 + 8 * cnt h T + (k + 1))) (by omega) (by omega) ?_
                        exact ihK (k + 1) (by omega) (by omega) _ (nI_1 k) fl h m2 hS hr hfl hf1 hcc hcl (Or.inr c_223) (fun hz k1 hk1 => by rcases Nat.lt_or_ge k1 k with q | q; exact hfd hz k1 q; obtain rfl : k1 = k := (by omega); exact fd_1 hI hi en ez hz8 enf hj c_257) _ _ _ w (lv_sub hl [0, 1, 2, 3, 4] rfl)
                      · have c9 : h j = 0 := c_257
                        refine lv_aload_n hx hb dL_reached_260 rfl (lv_at hl 3 rfl) ?_
                        refine lv_aload_n hx hb dL_reached_261 rfl (lv_at hl 4 rfl) ?_
                        refine lv_iload_n hx hb dL_reached_262 rfl (lv_at hl 1 rfl) ?_
                        refine lv_iload hx hb dL_reached_263 (lv_at hl 0 rfl) ?_
                        refine g_calll w (g_runSW (As := [.ref (x.f .ho), .int (nI T), .int (nI k)]) (rest := [.ref sz]) S hE w hl (hF_LfieldValue l D ar κ (g_up G sz (.inl (ar 3, 4000, .inl h))) x Z m2 (nI T) (nI k) (pT Z.al i) hk hwn hhf) (kW_287 S.2.2.2.2 ⟨Nat.le_of_ble_eq_true rfl, Nat.le_of_ble_eq_true rfl⟩) rfl rfl (Nat.le_of_ble_eq_true rfl) dL_reached_265 ⟨by (try dsimp only [rD]); omega, by (try dsimp only [rD]); omega⟩) (fun r u H locs hp hnz w => ?_)
                        obtain ⟨rfl, rfl⟩ := hp
                        dsimp only at w
                        refine lv_l2i hx hb dL_reached_268 rfl ?_
                        rw [hvl]
                        refine lv_iconst (v := 1) hx hb dL_reached_269 (by decide) ?_
                        refine rz_ast hx hb hE.1 w hn9 (vp_in_nI (n := j) (by omega) (by decide)) dL_reached_270 (fun H locs w => ?_)
                        rw [nI_clamp (show j < 2 ^ 31 by omega)] at w
                        refine lv_iconst (v := 1) hx hb dL_reached_271 (by decide) ?_
                        refine lv_istore_n (lv' := [(2, .int 1), (4, .int (nI k)), (3, .int (nI T)), (1, .ref sz), (0, .ref (x.f .ho))]) hx hb dL_reached_272 rfl hl (by decide) rfl (fun ls hl => ?_)
                        have hup := cnt_up c9 (show j < 4000 from hj)
                        have hmo := cnt_m (up_m (h := h) (i := j)) T
                        refine lv_iinc (v := (nI k) + 1) (lv' := [(4, .int ((nI k) + 1)), (2, .int 1), (3, .int (nI T)), (1, .ref sz), (0, .ref (x.f .ho))]) hx hb dL_reached_273 hl (k := 1) rfl rfl (by decide) rfl (fun ls hl => ?_)
                        refine lv_goto (tgt := 220) hx hb dL_reached_276 (by decide) ?_
                        refine W.widen (k := 1219 + tr c0 + 8 * cnt (upd h j 1) T + (k + 1)) (n := 4000 + 6 * (1219 + tr c0 + 8 * cnt (upd h j 1) T + (k + 1))) (by omega) (by omega) ?_
                        exact ihK (k + 1) (by omega) (by omega) _ (nI_1 k) 1 (upd h j 1) m2 (hS.up hRj) (fun v hv => (hr v hv).up) (Or.inr rfl) (fun _ => by omega) (by omega) (fun hz => absurd hz (by decide)) (Or.inr (up_m T c_223)) (fun hz => absurd hz (by decide)) _ _ _ w (lv_sub hl [0, 2, 1, 3, 4] rfl)
            refine lv_iconst (v := 0) hx hb dL_reached_217 (by decide) ?_
            refine lv_istore (lv' := [(4, .int 0), (3, .int x9), (2, .int fl), (1, .ref sz), (0, .ref (x.f .ho))]) hx hb dL_reached_218 hl (by decide) rfl (fun ls hl => ?_)
            exact keyK 9 0 (by omega) (by omega) 0 rfl fl h nz hS hr hfl hf1 hcc hcl (Or.inl rfl) (fun _ k1 hk1 => absurd hk1 (Nat.not_lt_zero k1)) _ _ _ w (lv_sub hl [0, 1, 2, 3, 4] rfl)
      refine lv_iload_n hx hb dL_reached_202 rfl (lv_at hl 0 rfl) ?_
      refine lv_if_eq (tgt := 288) hx hb dL_reached_203 (by decide) (fun c => absurd c (by decide)) (fun _ => ?_)
      refine lv_iconst (v := 0) hx hb dL_reached_206 (by decide) ?_
      refine lv_istore_n (lv' := [(2, .int 0), (1, .ref sz), (0, .ref (x.f .ho))]) hx hb dL_reached_207 rfl hl (by decide) rfl (fun ls hl => ?_)
      refine lv_iconst (v := 0) hx hb dL_reached_208 (by decide) ?_
      refine lv_istore_n (lv' := [(3, .int 0), (2, .int 0), (1, .ref sz), (0, .ref (x.f .ho))]) hx hb dL_reached_209 rfl hl (by decide) rfl (fun ls hl => ?_)
      exact keyT 4001 0 (by omega) (by omega) 0 rfl 0 h0 nz0 hS0 hr0 (Or.inl rfl) (fun hz => absurd hz (by decide)) (by omega) (fun _ m hm => absurd hm (Nat.not_lt_zero m)) _ _ _ w (lv_sub hl [0, 1, 2, 3] rfl)
  have R1 : ∀ (h : Nat → Int32) (nz : Nat), Sub Z t f h → (∀ g, g < 8 → RtD h (Z.gl g)) → ∀ (H : Heap) (locs : List Loc) (ls : Array Slot), g_S D vwCl (g_A (ov κ ar x Z G) sz) s.heap (ov κ ar x Z (g_up G sz (.inl (ar 3, 4000, .inl h)))) H locs nz → lv_has ls 9 [(1, .ref sz), (0, .ref (x.f .ho))] → W p l e (rD 16 16400 104000) s m (([.ref (x.f .ho)] : List Value).toArray) below meth c H locs (17) (4000 + 6 * (17)) (MQ below (g_Ql D vwCl (g_A (ov κ ar x Z G) sz) (fun r u => (∃ h : Nat → Int32, (∀ m, m < 4000 → (¬ h m = 0 ↔ RN Z t f (nI m))) ∧ r = lN (cnt h 4000)) ∧ u.1 = ov κ ar x Z G)) (([.ref (x.f .ho)] : List Value).toArray) s 16400 104000 (g_A (ov κ ar x Z G) sz)) (F0 m 41 ls []) := by
    intro h nz hS hg H locs ls w hl
    have keyB : ∀ (n9 i : Nat), i ≤ f → f + 1 ≤ i + n9 → ∀ (x9 : Int32), x9 = nI i → ∀ (h : Nat → Int32) (nz : Nat), Sub Z t f h → (∀ g, g < 8 → RtD h (Z.gl g)) → (Z.st = 114 → RtD h Z.an) → (∀ j (hj : j < 12), j < i → FrD Z h ⟨j, hj⟩) → ∀ (H : Heap) (locs : List Loc) (ls : Array Slot), g_S D vwCl (g_A (ov κ ar x Z G) sz) s.heap (ov κ ar x Z (g_up G sz (.inl (ar 3, 4000, .inl h)))) H locs nz → lv_has ls 9 [(2, .int x9), (1, .ref sz), (0, .ref (x.f .ho))] → W p l e (rD 16 16400 104000) s m (([.ref (x.f .ho)] : List Value).toArray) below meth c H locs (19 + 100 * i) (4000 + 6 * (19 + 100 * i)) (MQ below (g_Ql D vwCl (g_A (ov κ ar x Z G) sz) (fun r u => (∃ h : Nat → Int32, (∀ m, m < 4000 → (¬ h m = 0 ↔ RN Z t f (nI m))) ∧ r = lN (cnt h 4000)) ∧ u.1 = ov κ ar x Z G)) (([.ref (x.f .ho)] : List Value).toArray) s 16400 104000 (g_A (ov κ ar x Z G) sz)) (F0 m 62 ls []) := by
      intro n9
      induction n9 with
      | zero => intro i h1 h2; omega
      | succ n9 ih =>
        intro i hi1 hi2 x9 ex9 h nz hS hg ha hfr H locs ls w hl
        subst ex9
        refine lv_iload_n hx hb dL_reached_62 rfl (lv_at hl 0 rfl) ?_
        refine lv_i2l hx hb dL_reached_63 rfl ?_
        refine lv_aload_n hx hb dL_reached_64 rfl (lv_at hl 2 rfl) ?_
        refine g_calll w (g_runS (As := [.ref (x.f .ho)]) (rest := [.long ((nI i).toInt64)]) S hE w hl (hL_frames l D ar κ (g_up G sz (.inl (ar 3, 4000, .inl h))) x Z nz  hk ) (k_RL_278 S.2.2.2.2 ⟨Nat.le_of_ble_eq_true rfl, Nat.le_of_ble_eq_true rfl⟩) rfl rfl (Nat.le_of_ble_eq_true rfl) dL_reached_65 ⟨by (try dsimp only [rD]); omega, by (try dsimp only [rD]); omega⟩) (fun r u H locs hp hnz w => ?_)
        obtain ⟨rfl, rfl⟩ := hp
        dsimp only at w
        refine W.lcmp hx hb dL_reached_68 ?_
        refine lv_if_ge (tgt := 200) hx hb dL_reached_69 (by decide) (fun c_69 => ?_) (fun c_69 => ?_)
        · have hif : i = f := fr_ge hI hi1 c_69
          subst hif
          refine lv_iconst (v := 1) hx hb dL_reached_200 (by decide) ?_
          refine lv_istore_n (lv' := [(2, .int 1), (1, .ref sz), (0, .ref (x.f .ho))]) hx hb dL_reached_201 rfl hl (by decide) rfl (fun ls hl => ?_)
          refine W.widen (k := 1219 + tr (cnt h 4000)) (n := 4000 + 6 * (1219 + tr (cnt h 4000))) (by omega) (by omega) ?_
          exact R2 61 h nz (by omega) hS (rt_all hI hg ha hfr) _ _ _ w (lv_sub hl [0, 1, 2] rfl)
        · have hlt9 : i < f := fr_lt hI hi1 c_69
          have hi12 : i < 12 := by omega
          have keyC : ∀ (r9 k : Nat), k ≤ 8 → 9 ≤ k + r9 → ∀ (y9 : Int32), y9 = nI k → ∀ (h : Nat → Int32) (nz : Nat), Sub Z t f h → (∀ g, g < 8 → RtD h (Z.gl g)) → (Z.st = 114 → RtD h Z.an) → (∀ j (hj : j < 12), j < i → FrD Z h ⟨j, hj⟩) → RtD h (Z.fr ⟨i, hi12⟩).v → (∀ k1, k1 < k → SlD Z h ⟨i, hi12⟩ 97 k1 ∧ SlD Z h ⟨i, hi12⟩ 116 k1 ∧ SlD Z h ⟨i, hi12⟩ 112 k1) → ∀ (H : Heap) (locs : List Loc) (ls : Array Slot), g_S D vwCl (g_A (ov κ ar x Z G) sz) s.heap (ov κ ar x Z (g_up G sz (.inl (ar 3, 4000, .inl h)))) H locs nz → lv_has ls 9 [(3, .int y9), (2, .int (nI i)), (1, .ref sz), (0, .ref (x.f .ho))] → W p l e (rD 16 16400 104000) s m (([.ref (x.f .ho)] : List Value).toArray) below meth c H locs (23 + 100 * i + 12 * k) (4000 + 6 * (23 + 100 * i + 12 * k)) (MQ below (g_Ql D vwCl (g_A (ov κ ar x Z G) sz) (fun r u => (∃ h : Nat → Int32, (∀ m, m < 4000 → (¬ h m = 0 ↔ RN Z t f (nI m))) ∧ r = lN (cnt h 4000)) ∧ u.1 = ov κ ar x Z G)) (([.ref (x.f .ho)] : List Value).toArray) s 16400 104000 (g_A (ov κ ar x Z G) sz)) (F0 m 101 ls []) := by
            intro r9
            induction r9 with
            | zero => intro k h1 h2; omega
            | succ r9 ihC =>
              intro k hk1 hk2 y9 ey9 h nz hS hg ha hfr hv hsl H locs ls w hl
              refine lv_iload_n hx hb dL_reached_101 rfl (lv_at hl 0 rfl) ?_
              refine lv_bipush (v := 8) hx hb dL_reached_102 (by decide) ?_
              refine lv_icmp_ge (tgt := 194) hx hb dL_reached_104 (by decide) (fun c_104 => ?_) (fun c_104 => ?_)
              · have hk8 := lp_eq (n := 8) rfl ey9 hk1 (by decide) c_104
                subst hk8
                refine lv_iinc (v := (nI i) + 1) (lv' := [(2, .int ((nI i) + 1)), (3, .int y9), (1, .ref sz), (0, .ref (x.f .ho))]) hx hb dL_reached_194 hl (k := 1) rfl rfl (by decide) rfl (fun ls hl => ?_)
                refine lv_goto (tgt := 62) hx hb dL_reached_197 (by decide) ?_
                refine W.widen (k := 19 + 100 * (i + 1)) (n := 4000 + 6 * (19 + 100 * (i + 1))) (by omega) (by omega) ?_
                exact ih (i + 1) (by omega) (by omega) _ (nI_1 i) h nz hS hg ha (fun j hj q => (by rcases Nat.lt_or_ge j i with y | y; exact hfr j hj y; obtain rfl : j = i := (by omega); exact ⟨hv, hsl⟩)) _ _ _ w (lv_sub hl [0, 2, 3] rfl)
              · have hlk9 := lp_lt (n := 8) rfl ey9 hk1 (by decide) c_104
                subst ey9
                rcases kd_s (c := 97) hI hmd hlt9 hi12 (by decide) hlk9 with ⟨hkd0, hno0⟩ | ⟨j0, hj0, hkd0, hvl0, enf0, hRj0⟩
                · refine lv_aload_n hx hb dL_reached_107 rfl (lv_at hl 3 rfl) ?_
                  refine lv_iload_n hx hb dL_reached_108 rfl (lv_at hl 1 rfl) ?_
                  refine lv_bipush (v := 97) hx hb dL_reached_109 (by decide) ?_
                  refine lv_iload_n hx hb dL_reached_111 rfl (lv_at hl 0 rfl) ?_
                  refine g_calll w (g_runSW (As := [.ref (x.f .ho), .int (nI i), .int 97, .int (nI k)]) (rest := []) S hE w hl (hL_slotKind l D ar κ (g_up G sz (.inl (ar 3, 4000, .inl h))) x Z nz (nI i) 97 (nI k) hk  hlt) (kW_280 S.2.2.2.2 ⟨Nat.le_of_ble_eq_true rfl, Nat.le_of_ble_eq_true rfl⟩) rfl rfl (Nat.le_of_ble_eq_true rfl) dL_reached_112 ⟨by (try dsimp only [rD]); omega, by (try dsimp only [rD]); omega⟩) (fun r u H locs hp hnz w => ?_)
                  obtain ⟨rfl, hu9⟩ := hp
                  obtain ⟨v3, m3⟩ := u
                  dsimp only at hu9 w hnz
                  subst hu9
                  refine lv_ldc2 hx hb S.2.2.2.1 (S.2.2.2.2 _ m_7_159) dL_reached_115 ?_
                  refine W.lcmp hx hb dL_reached_118 ?_
                  refine lv_if_ne (tgt := 134) hx hb dL_reached_119 (by decide) (fun _ => ?_) (fun c_119 => absurd c_119 hkd0)
                  rcases kd_s (c := 116) hI hmd hlt9 hi12 (by decide) hlk9 with ⟨hkd1, hno1⟩ | ⟨j1, hj1, hkd1, hvl1, enf1, hRj1⟩
                  · refine lv_aload_n hx hb dL_reached_134 rfl (lv_at hl 3 rfl) ?_
                    refine lv_iload_n hx hb dL_reached_135 rfl (lv_at hl 1 rfl) ?_
                    refine lv_bipush (v := 116) hx hb dL_reached_136 (by decide) ?_
                    refine lv_iload_n hx hb dL_reached_138 rfl (lv_at hl 0 rfl) ?_
                    refine g_calll w (g_runSW (As := [.ref (x.f .ho), .int (nI i), .int 116, .int (nI k)]) (rest := []) S hE w hl (hL_slotKind l D ar κ (g_up G sz (.inl (ar 3, 4000, .inl h))) x Z m3 (nI i) 116 (nI k) hk  hlt) (kW_280 S.2.2.2.2 ⟨Nat.le_of_ble_eq_true rfl, Nat.le_of_ble_eq_true rfl⟩) rfl rfl (Nat.le_of_ble_eq_true rfl) dL_reached_139 ⟨by (try dsimp only [rD]); omega, by (try dsimp only [rD]); omega⟩) (fun r u H locs hp hnz w => ?_)
                    obtain ⟨rfl, hu9⟩ := hp
                    obtain ⟨v4, m4⟩ := u
                    dsimp only at hu9 w hnz
                    subst hu9
                    refine lv_ldc2 hx hb S.2.2.2.1 (S.2.2.2.2 _ m_7_159) dL_reached_142 ?_
                    refine W.lcmp hx hb dL_reached_145 ?_
                    refine lv_if_ne (tgt := 161) hx hb dL_reached_146 (by decide) (fun _ => ?_) (fun c_146 => absurd c_146 hkd1)
                    rcases kd_s (c := 112) hI hmd hlt9 hi12 (by decide) hlk9 with ⟨hkd2, hno2⟩ | ⟨j2, hj2, hkd2, hvl2, enf2, hRj2⟩
                    · refine lv_aload_n hx hb dL_reached_161 rfl (lv_at hl 3 rfl) ?_
                      refine lv_iload_n hx hb dL_reached_162 rfl (lv_at hl 1 rfl) ?_
                      refine lv_bipush (v := 112) hx hb dL_reached_163 (by decide) ?_
                      refine lv_iload_n hx hb dL_reached_165 rfl (lv_at hl 0 rfl) ?_
                      refine g_calll w (g_runSW (As := [.ref (x.f .ho), .int (nI i), .int 112, .int (nI k)]) (rest := []) S hE w hl (hL_slotKind l D ar κ (g_up G sz (.inl (ar 3, 4000, .inl h))) x Z m4 (nI i) 112 (nI k) hk  hlt) (kW_280 S.2.2.2.2 ⟨Nat.le_of_ble_eq_true rfl, Nat.le_of_ble_eq_true rfl⟩) rfl rfl (Nat.le_of_ble_eq_true rfl) dL_reached_166 ⟨by (try dsimp only [rD]); omega, by (try dsimp only [rD]); omega⟩) (fun r u H locs hp hnz w => ?_)
                      obtain ⟨rfl, hu9⟩ := hp
                      obtain ⟨v5, m5⟩ := u
                      dsimp only at hu9 w hnz
                      subst hu9
                      refine lv_ldc2 hx hb S.2.2.2.1 (S.2.2.2.2 _ m_7_159) dL_reached_169 ?_
                      refine W.lcmp hx hb dL_reached_172 ?_
                      refine lv_if_ne (tgt := 188) hx hb dL_reached_173 (by decide) (fun _ => ?_) (fun c_173 => absurd c_173 hkd2)
                      refine lv_iinc (v := (nI k) + 1) (lv' := [(3, .int ((nI k) + 1)), (2, .int (nI i)), (1, .ref sz), (0, .ref (x.f .ho))]) hx hb dL_reached_188 hl (k := 0) rfl rfl (by decide) rfl (fun ls hl => ?_)
                      refine lv_goto (tgt := 101) hx hb dL_reached_191 (by decide) ?_
                      refine W.widen (k := 23 + 100 * i + 12 * (k + 1)) (n := 4000 + 6 * (23 + 100 * i + 12 * (k + 1))) (by omega) (by omega) ?_
                      exact ihC (k + 1) (by omega) (by omega) _ (nI_1 k) h m5 hS hg ha hfr hv (fun k1 hk => (by rcases Nat.lt_or_ge k1 k with y | y; exact hsl k1 y; obtain rfl : k1 = k := (by omega); exact ⟨(fun b => RtD.z (hno0 b)), (fun b => RtD.z (hno1 b)), (fun b => RtD.z (hno2 b))⟩)) _ _ _ w (lv_sub hl [0, 1, 2, 3] rfl)
                    · refine lv_aload_n hx hb dL_reached_161 rfl (lv_at hl 3 rfl) ?_
                      refine lv_iload_n hx hb dL_reached_162 rfl (lv_at hl 1 rfl) ?_
                      refine lv_bipush (v := 112) hx hb dL_reached_163 (by decide) ?_
                      refine lv_iload_n hx hb dL_reached_165 rfl (lv_at hl 0 rfl) ?_
                      refine g_calll w (g_runSW (As := [.ref (x.f .ho), .int (nI i), .int 112, .int (nI k)]) (rest := []) S hE w hl (hL_slotKind l D ar κ (g_up G sz (.inl (ar 3, 4000, .inl h))) x Z m4 (nI i) 112 (nI k) hk  hlt) (kW_280 S.2.2.2.2 ⟨Nat.le_of_ble_eq_true rfl, Nat.le_of_ble_eq_true rfl⟩) rfl rfl (Nat.le_of_ble_eq_true rfl) dL_reached_166 ⟨by (try dsimp only [rD]); omega, by (try dsimp only [rD]); omega⟩) (fun r u H locs hp hnz w => ?_)
                      obtain ⟨rfl, hu9⟩ := hp
                      obtain ⟨v6, m6⟩ := u
                      dsimp only at hu9 w hnz
                      subst hu9
                      refine lv_ldc2 hx hb S.2.2.2.1 (S.2.2.2.2 _ m_7_159) dL_reached_169 ?_
                      refine W.lcmp hx hb dL_reached_172 ?_
                      refine lv_if_ne (tgt := 188) hx hb dL_reached_173 (by decide) (fun c_173_1 => absurd hkd2 c_173_1) (fun _ => ?_)
                      refine lv_aload_n hx hb dL_reached_176 rfl (lv_at hl 2 rfl) ?_
                      refine lv_aload_n hx hb dL_reached_177 rfl (lv_at hl 3 rfl) ?_
                      refine lv_iload_n hx hb dL_reached_178 rfl (lv_at hl 1 rfl) ?_
                      refine lv_bipush (v := 112) hx hb dL_reached_179 (by decide) ?_
                      refine lv_iload_n hx hb dL_reached_181 rfl (lv_at hl 0 rfl) ?_
                      refine g_calll w (g_runSW (As := [.ref (x.f .ho), .int (nI i), .int 112, .int (nI k)]) (rest := [.ref sz]) S hE w hl (hL_slot l D ar κ (g_up G sz (.inl (ar 3, 4000, .inl h))) x Z m6 (nI i) 112 (nI k) hk  hlt) (kW_283 S.2.2.2.2 ⟨Nat.le_of_ble_eq_true rfl, Nat.le_of_ble_eq_true rfl⟩) rfl rfl (Nat.le_of_ble_eq_true rfl) dL_reached_182 ⟨by (try dsimp only [rD]); omega, by (try dsimp only [rD]); omega⟩) (fun r u H locs hp hnz w => ?_)
                      obtain ⟨rfl, hu9⟩ := hp
                      obtain ⟨v7, m7⟩ := u
                      dsimp only at hu9 w hnz
                      subst hu9
                      refine lv_l2i hx hb dL_reached_185 rfl ?_
                      rw [hvl2]
                      refine lv_iconst (v := 1) hx hb dL_reached_186 (by decide) ?_
                      refine rz_ast hx hb hE.1 w hn9 (vp_in_nI (n := j2) (by omega) (by decide)) dL_reached_187 (fun H locs w => ?_)
                      rw [nI_clamp (show j2 < 2 ^ 31 by omega)] at w
                      refine lv_iinc (v := (nI k) + 1) (lv' := [(3, .int ((nI k) + 1)), (2, .int (nI i)), (1, .ref sz), (0, .ref (x.f .ho))]) hx hb dL_reached_188 hl (k := 0) rfl rfl (by decide) rfl (fun ls hl => ?_)
                      refine lv_goto (tgt := 101) hx hb dL_reached_191 (by decide) ?_
                      refine W.widen (k := 23 + 100 * i + 12 * (k + 1)) (n := 4000 + 6 * (23 + 100 * i + 12 * (k + 1))) (by omega) (by omega) ?_
                      exact ihC (k + 1) (by omega) (by omega) _ (nI_1 k) (upd h j2 1) m7 (hS.up hRj2) (fun g q9 => (hg g q9).up) (fun q9 => (ha q9).up) (fun j hj q9 => (hfr j hj q9).up) (hv.up) (fun k1 hk => (by rcases Nat.lt_or_ge k1 k with y | y; exact (sl3_up hsl) k1 y; obtain rfl : k1 = k := (by omega); exact ⟨(SlD.up (fun b => RtD.z (hno0 b))), (SlD.up (fun b => RtD.z (hno1 b))), (fun _ => RtD.nw hj2 enf2)⟩)) _ _ _ w (lv_sub hl [0, 1, 2, 3] rfl)
                  · refine lv_aload_n hx hb dL_reached_134 rfl (lv_at hl 3 rfl) ?_
                    refine lv_iload_n hx hb dL_reached_135 rfl (lv_at hl 1 rfl) ?_
                    refine lv_bipush (v := 116) hx hb dL_reached_136 (by decide) ?_
                    refine lv_iload_n hx hb dL_reached_138 rfl (lv_at hl 0 rfl) ?_
                    refine g_calll w (g_runSW (As := [.ref (x.f .ho), .int (nI i), .int 116, .int (nI k)]) (rest := []) S hE w hl (hL_slotKind l D ar κ (g_up G sz (.inl (ar 3, 4000, .inl h))) x Z m3 (nI i) 116 (nI k) hk  hlt) (kW_280 S.2.2.2.2 ⟨Nat.le_of_ble_eq_true rfl, Nat.le_of_ble_eq_true rfl⟩) rfl rfl (Nat.le_of_ble_eq_true rfl) dL_reached_139 ⟨by (try dsimp only [rD]); omega, by (try dsimp only [rD]); omega⟩) (fun r u H locs hp hnz w => ?_)
                    obtain ⟨rfl, hu9⟩ := hp
                    obtain ⟨v8, m8⟩ := u
                    dsimp only at hu9 w hnz
                    subst hu9
                    refine lv_ldc2 hx hb S.2.2.2.1 (S.2.2.2.2 _ m_7_159) dL_reached_142 ?_
                    refine W.lcmp hx hb dL_reached_145 ?_
                    refine lv_if_ne (tgt := 161) hx hb dL_reached_146 (by decide) (fun c_146_1 => absurd hkd1 c_146_1) (fun _ => ?_)
                    refine lv_aload_n hx hb dL_reached_149 rfl (lv_at hl 2 rfl) ?_
                    refine lv_aload_n hx hb dL_reached_150 rfl (lv_at hl 3 rfl) ?_
                    refine lv_iload_n hx hb dL_reached_151 rfl (lv_at hl 1 rfl) ?_
                    refine lv_bipush (v := 116) hx hb dL_reached_152 (by decide) ?_
                    refine lv_iload_n hx hb dL_reached_154 rfl (lv_at hl 0 rfl) ?_
                    refine g_calll w (g_runSW (As := [.ref (x.f .ho), .int (nI i), .int 116, .int (nI k)]) (rest := [.ref sz]) S hE w hl (hL_slot l D ar κ (g_up G sz (.inl (ar 3, 4000, .inl h))) x Z m8 (nI i) 116 (nI k) hk  hlt) (kW_283 S.2.2.2.2 ⟨Nat.le_of_ble_eq_true rfl, Nat.le_of_ble_eq_true rfl⟩) rfl rfl (Nat.le_of_ble_eq_true rfl) dL_reached_155 ⟨by (try dsimp only [rD]); omega, by (try dsimp only [rD]); omega⟩) (fun r u H locs hp hnz w => ?_)
                    obtain ⟨rfl, hu9⟩ := hp
                    obtain ⟨v9, m9⟩ := u
                    dsimp only at hu9 w hnz
                    subst hu9
                    refine lv_l2i hx hb dL_reached_158 rfl ?_
                    rw [hvl1]
                    refine lv_iconst (v := 1) hx hb dL_reached_159 (by decide) ?_
                    refine rz_ast hx hb hE.1 w hn9 (vp_in_nI (n := j1) (by omega) (by decide)) dL_reached_160 (fun H locs w => ?_)
                    rw [nI_clamp (show j1 < 2 ^ 31 by omega)] at w
                    rcases kd_s (c := 112) hI hmd hlt9 hi12 (by decide) hlk9 with ⟨hkd2, hno2⟩ | ⟨j2, hj2, hkd2, hvl2, enf2, hRj2⟩
                    · refine lv_aload_n hx hb dL_reached_161 rfl (lv_at hl 3 rfl) ?_
                      refine lv_iload_n hx hb dL_reached_162 rfl (lv_at hl 1 rfl) ?_
                      refine lv_bipush (v := 112) hx hb dL_reached_163 (by decide) ?_
                      refine lv_iload_n hx hb dL_reached_165 rfl (lv_at hl 0 rfl) ?_
                      refine g_calll w (g_runSW (As := [.ref (x.f .ho), .int (nI i), .int 112, .int (nI k)]) (rest := []) S hE w hl (hL_slotKind l D ar κ (g_up G sz (.inl (ar 3, 4000, .inl (upd h j1 1)))) x Z m9 (nI i) 112 (nI k) hk  hlt) (kW_280 S.2.2.2.2 ⟨Nat.le_of_ble_eq_true rfl, Nat.le_of_ble_eq_true rfl⟩) rfl rfl (Nat.le_of_ble_eq_true rfl) dL_reached_166 ⟨by (try dsimp only [rD]); omega, by (try dsimp only [rD]); omega⟩) (fun r u H locs hp hnz w => ?_)
                      obtain ⟨rfl, hu9⟩ := hp
                      obtain ⟨v10, m10⟩ := u
                      dsimp only at hu9 w hnz
                      subst hu9
                      refine lv_ldc2 hx hb S.2.2.2.1 (S.2.2.2.2 _ m_7_159) dL_reached_169 ?_
                      refine W.lcmp hx hb dL_reached_172 ?_
                      refine lv_if_ne (tgt := 188) hx hb dL_reached_173 (by decide) (fun _ => ?_) (fun c_173_2 => absurd c_173_2 hkd2)
                      refine lv_iinc (v := (nI k) + 1) (lv' := [(3, .int ((nI k) + 1)), (2, .int (nI i)), (1, .ref sz), (0, .ref (x.f .ho))]) hx hb dL_reached_188 hl (k := 0) rfl rfl (by decide) rfl (fun ls hl => ?_)
                      refine lv_goto (tgt := 101) hx hb dL_reached_191 (by decide) ?_
                      refine W.widen (k := 23 + 100 * i + 12 * (k + 1)) (n := 4000 + 6 * (23 + 100 * i + 12 * (k + 1))) (by omega) (by omega) ?_
                      exact ihC (k + 1) (by omega) (by omega) _ (nI_1 k) (upd h j1 1) m10 (hS.up hRj1) (fun g q9 => (hg g q9).up) (fun q9 => (ha q9).up) (fun j hj q9 => (hfr j hj q9).up) (hv.up) (fun k1 hk => (by rcases Nat.lt_or_ge k1 k with y | y; exact (sl3_up hsl) k1 y; obtain rfl : k1 = k := (by omega); exact ⟨(SlD.up (fun b => RtD.z (hno0 b))), (fun _ => RtD.nw hj1 enf1), (fun b => RtD.z (hno2 b))⟩)) _ _ _ w (lv_sub hl [0, 1, 2, 3] rfl)
                    · refine lv_aload_n hx hb dL_reached_161 rfl (lv_at hl 3 rfl) ?_
                      refine lv_iload_n hx hb dL_reached_162 rfl (lv_at hl 1 rfl) ?_
                      refine lv_bipush (v := 112) hx hb dL_reached_163 (by decide) ?_
                      refine lv_iload_n hx hb dL_reached_165 rfl (lv_at hl 0 rfl) ?_
                      refine g_calll w (g_runSW (As := [.ref (x.f .ho), .int (nI i), .int 112, .int (nI k)]) (rest := []) S hE w hl (hL_slotKind l D ar κ (g_up G sz (.inl (ar 3, 4000, .inl (upd h j1 1)))) x Z m9 (nI i) 112 (nI k) hk  hlt) (kW_280 S.2.2.2.2 ⟨Nat.le_of_ble_eq_true rfl, Nat.le_of_ble_eq_true rfl⟩) rfl rfl (Nat.le_of_ble_eq_true rfl) dL_reached_166 ⟨by (try dsimp only [rD]); omega, by (try dsimp only [rD]); omega⟩) (fun r u H locs hp hnz w => ?_)
                      obtain ⟨rfl, hu9⟩ := hp
                      obtain ⟨v11, m11⟩ := u
                      dsimp only at hu9 w hnz
                      subst hu9
                      refine lv_ldc2 hx hb S.2.2.2.1 (S.2.2.2.2 _ m_7_159) dL_reached_169 ?_
                      refine W.lcmp hx hb dL_reached_172 ?_
                      refine lv_if_ne (tgt := 188) hx hb dL_reached_173 (by decide) (fun c_173_3 => absurd hkd2 c_173_3) (fun _ => ?_)
                      refine lv_aload_n hx hb dL_reached_176 rfl (lv_at hl 2 rfl) ?_
                      refine lv_aload_n hx hb dL_reached_177 rfl (lv_at hl 3 rfl) ?_
                      refine lv_iload_n hx hb dL_reached_178 rfl (lv_at hl 1 rfl) ?_
                      refine lv_bipush (v := 112) hx hb dL_reached_179 (by decide) ?_
                      refine lv_iload_n hx hb dL_reached_181 rfl (lv_at hl 0 rfl) ?_
                      refine g_calll w (g_runSW (As := [.ref (x.f .ho), .int (nI i), .int 112, .int (nI k)]) (rest := [.ref sz]) S hE w hl (hL_slot l D ar κ (g_up G sz (.inl (ar 3, 4000, .inl (upd h j1 1)))) x Z m11 (nI i) 112 (nI k) hk  hlt) (kW_283 S.2.2.2.2 ⟨Nat.le_of_ble_eq_true rfl, Nat.le_of_ble_eq_true rfl⟩) rfl rfl (Nat.le_of_ble_eq_true rfl) dL_reached_182 ⟨by (try dsimp only [rD]); omega, by (try dsimp only [rD]); omega⟩) (fun r u H locs hp hnz w => ?_)
                      obtain ⟨rfl, hu9⟩ := hp
                      obtain ⟨v12, m12⟩ := u
                      dsimp only at hu9 w hnz
                      subst hu9
                      refine lv_l2i hx hb dL_reached_185 rfl ?_
                      rw [hvl2]
                      refine lv_iconst (v := 1) hx hb dL_reached_186 (by decide) ?_
                      refine rz_ast hx hb hE.1 w hn9 (vp_in_nI (n := j2) (by omega) (by decide)) dL_reached_187 (fun H locs w => ?_)
                      rw [nI_clamp (show j2 < 2 ^ 31 by omega)] at w
                      refine lv_iinc (v := (nI k) + 1) (lv' := [(3, .int ((nI k) + 1)), (2, .int (nI i)), (1, .ref sz), (0, .ref (x.f .ho))]) hx hb dL_reached_188 hl (k := 0) rfl rfl (by decide) rfl (fun ls hl => ?_)
                      refine lv_goto (tgt := 101) hx hb dL_reached_191 (by decide) ?_
                      refine W.widen (k := 23 + 100 * i + 12 * (k + 1)) (n := 4000 + 6 * (23 + 100 * i + 12 * (k + 1))) (by omega) (by omega) ?_
                      exact ihC (k + 1) (by omega) (by omega) _ (nI_1 k) (upd (upd h j1 1) j2 1) m12 ((hS.up hRj1).up hRj2) (fun g q9 => ((fun g q9 => (hg g q9).up) g q9).up) (fun q9 => ((fun q9 => (ha q9).up) q9).up) (fun j hj q9 => ((fun j hj q9 => (hfr j hj q9).up) j hj q9).up) ((hv.up).up) (fun k1 hk => (by rcases Nat.lt_or_ge k1 k with y | y; exact (sl3_up (sl3_up hsl)) k1 y; obtain rfl : k1 = k := (by omega); exact ⟨(SlD.up (SlD.up (fun b => RtD.z (hno0 b)))), (SlD.up (fun _ => RtD.nw hj1 enf1)), (fun _ => RtD.nw hj2 enf2)⟩)) _ _ _ w (lv_sub hl [0, 1, 2, 3] rfl)
                · refine lv_aload_n hx hb dL_reached_107 rfl (lv_at hl 3 rfl) ?_
                  refine lv_iload_n hx hb dL_reached_108 rfl (lv_at hl 1 rfl) ?_
                  refine lv_bipush (v := 97) hx hb dL_reached_109 (by decide) ?_
                  refine lv_iload_n hx hb dL_reached_111 rfl (lv_at hl 0 rfl) ?_
                  refine g_calll w (g_runSW (As := [.ref (x.f .ho), .int (nI i), .int 97, .int (nI k)]) (rest := []) S hE w hl (hL_slotKind l D ar κ (g_up G sz (.inl (ar 3, 4000, .inl h))) x Z nz (nI i) 97 (nI k) hk  hlt) (kW_280 S.2.2.2.2 ⟨Nat.le_of_ble_eq_true rfl, Nat.le_of_ble_eq_true rfl⟩) rfl rfl (Nat.le_of_ble_eq_true rfl) dL_reached_112 ⟨by (try dsimp only [rD]); omega, by (try dsimp only [rD]); omega⟩) (fun r u H locs hp hnz w => ?_)
                  obtain ⟨rfl, hu9⟩ := hp
                  obtain ⟨v13, m13⟩ := u
                  dsimp only at hu9 w hnz
                  subst hu9
                  refine lv_ldc2 hx hb S.2.2.2.1 (S.2.2.2.2 _ m_7_159) dL_reached_115 ?_
                  refine W.lcmp hx hb dL_reached_118 ?_
                  refine lv_if_ne (tgt := 134) hx hb dL_reached_119 (by decide) (fun c_119_1 => absurd hkd0 c_119_1) (fun _ => ?_)
                  refine lv_aload_n hx hb dL_reached_122 rfl (lv_at hl 2 rfl) ?_
                  refine lv_aload_n hx hb dL_reached_123 rfl (lv_at hl 3 rfl) ?_
                  refine lv_iload_n hx hb dL_reached_124 rfl (lv_at hl 1 rfl) ?_
                  refine lv_bipush (v := 97) hx hb dL_reached_125 (by decide) ?_
                  refine lv_iload_n hx hb dL_reached_127 rfl (lv_at hl 0 rfl) ?_
                  refine g_calll w (g_runSW (As := [.ref (x.f .ho), .int (nI i), .int 97, .int (nI k)]) (rest := [.ref sz]) S hE w hl (hL_slot l D ar κ (g_up G sz (.inl (ar 3, 4000, .inl h))) x Z m13 (nI i) 97 (nI k) hk  hlt) (kW_283 S.2.2.2.2 ⟨Nat.le_of_ble_eq_true rfl, Nat.le_of_ble_eq_true rfl⟩) rfl rfl (Nat.le_of_ble_eq_true rfl) dL_reached_128 ⟨by (try dsimp only [rD]); omega, by (try dsimp only [rD]); omega⟩) (fun r u H locs hp hnz w => ?_)
                  obtain ⟨rfl, hu9⟩ := hp
                  obtain ⟨v14, m14⟩ := u
                  dsimp only at hu9 w hnz
                  subst hu9
                  refine lv_l2i hx hb dL_reached_131 rfl ?_
                  rw [hvl0]
                  refine lv_iconst (v := 1) hx hb dL_reached_132 (by decide) ?_
                  refine rz_ast hx hb hE.1 w hn9 (vp_in_nI (n := j0) (by omega) (by decide)) dL_reached_133 (fun H locs w => ?_)
                  rw [nI_clamp (show j0 < 2 ^ 31 by omega)] at w
                  rcases kd_s (c := 116) hI hmd hlt9 hi12 (by decide) hlk9 with ⟨hkd1, hno1⟩ | ⟨j1, hj1, hkd1, hvl1, enf1, hRj1⟩
                  · refine lv_aload_n hx hb dL_reached_134 rfl (lv_at hl 3 rfl) ?_
                    refine lv_iload_n hx hb dL_reached_135 rfl (lv_at hl 1 rfl) ?_
                    refine lv_bipush (v := 116) hx hb dL_reached_136 (by decide) ?_
                    refine lv_iload_n hx hb dL_reached_138 rfl (lv_at hl 0 rfl) ?_
                    refine g_calll w (g_runSW (As := [.ref (x.f .ho), .int (nI i), .int 116, .int (nI k)]) (rest := []) S hE w hl (hL_slotKind l D ar κ (g_up G sz (.inl (ar 3, 4000, .inl (upd h j0 1)))) x Z m14 (nI i) 116 (nI k) hk  hlt) (kW_280 S.2.2.2.2 ⟨Nat.le_of_ble_eq_true rfl, Nat.le_of_ble_eq_true rfl⟩) rfl rfl (Nat.le_of_ble_eq_true rfl) dL_reached_139 ⟨by (try dsimp only [rD]); omega, by (try dsimp only [rD]); omega⟩) (fun r u H locs hp hnz w => ?_)
                    obtain ⟨rfl, hu9⟩ := hp
                    obtain ⟨v15, m15⟩ := u
                    dsimp only at hu9 w hnz
                    subst hu9
                    refine lv_ldc2 hx hb S.2.2.2.1 (S.2.2.2.2 _ m_7_159) dL_reached_142 ?_
                    refine W.lcmp hx hb dL_reached_145 ?_
                    refine lv_if_ne (tgt := 161) hx hb dL_reached_146 (by decide) (fun _ => ?_) (fun c_146_2 => absurd c_146_2 hkd1)
                    rcases kd_s (c := 112) hI hmd hlt9 hi12 (by decide) hlk9 with ⟨hkd2, hno2⟩ | ⟨j2, hj2, hkd2, hvl2, enf2, hRj2⟩
                    · refine lv_aload_n hx hb dL_reached_161 rfl (lv_at hl 3 rfl) ?_
                      refine lv_iload_n hx hb dL_reached_162 rfl (lv_at hl 1 rfl) ?_
                      refine lv_bipush (v := 112) hx hb dL_reached_163 (by decide) ?_
                      refine lv_iload_n hx hb dL_reached_165 rfl (lv_at hl 0 rfl) ?_
                      refine g_calll w (g_runSW (As := [.ref (x.f .ho), .int (nI i), .int 112, .int (nI k)]) (rest := []) S hE w hl (hL_slotKind l D ar κ (g_up G sz (.inl (ar 3, 4000, .inl (upd h j0 1)))) x Z m15 (nI i) 112 (nI k) hk  hlt) (kW_280 S.2.2.2.2 ⟨Nat.le_of_ble_eq_true rfl, Nat.le_of_ble_eq_true rfl⟩) rfl rfl (Nat.le_of_ble_eq_true rfl) dL_reached_166 ⟨by (try dsimp only [rD]); omega, by (try dsimp only [rD]); omega⟩) (fun r u H locs hp hnz w => ?_)
                      obtain ⟨rfl, hu9⟩ := hp
                      obtain ⟨v16, m16⟩ := u
                      dsimp only at hu9 w hnz
                      subst hu9
                      refine lv_ldc2 hx hb S.2.2.2.1 (S.2.2.2.2 _ m_7_159) dL_reached_169 ?_
                      refine W.lcmp hx hb dL_reached_172 ?_
                      refine lv_if_ne (tgt := 188) hx hb dL_reached_173 (by decide) (fun _ => ?_) (fun c_173_4 => absurd c_173_4 hkd2)
                      refine lv_iinc (v := (nI k) + 1) (lv' := [(3, .int ((nI k) + 1)), (2, .int (nI i)), (1, .ref sz), (0, .ref (x.f .ho))]) hx hb dL_reached_188 hl (k := 0) rfl rfl (by decide) rfl (fun ls hl => ?_)
                      refine lv_goto (tgt := 101) hx hb dL_reached_191 (by decide) ?_
                      refine W.widen (k := 23 + 100 * i + 12 * (k + 1)) (n := 4000 + 6 * (23 + 100 * i + 12 * (k + 1))) (by omega) (by omega) ?_
                      exact ihC (k + 1) (by omega) (by omega) _ (nI_1 k) (upd h j0 1) m16 (hS.up hRj0) (fun g q9 => (hg g q9).up) (fun q9 => (ha q9).up) (fun j hj q9 => (hfr j hj q9).up) (hv.up) (fun k1 hk => (by rcases Nat.lt_or_ge k1 k with y | y; exact (sl3_up hsl) k1 y; obtain rfl : k1 = k := (by omega); exact ⟨(fun _ => RtD.nw hj0 enf0), (fun b => RtD.z (hno1 b)), (fun b => RtD.z (hno2 b))⟩)) _ _ _ w (lv_sub hl [0, 1, 2, 3] rfl)
                    · refine lv_aload_n hx hb dL_reached_161 rfl (lv_at hl 3 rfl) ?_
                      refine lv_iload_n hx hb dL_reached_162 rfl (lv_at hl 1 rfl) ?_
                      refine lv_bipush (v := 112) hx hb dL_reached_163 (by decide) ?_
                      refine lv_iload_n hx hb dL_reached_165 rfl (lv_at hl 0 rfl) ?_
                      refine g_calll w (g_runSW (As := [.ref (x.f .ho), .int (nI i), .int 112, .int (nI k)]) (rest := []) S hE w hl (hL_slotKind l D ar κ (g_up G sz (.inl (ar 3, 4000, .inl (upd h j0 1)))) x Z m15 (nI i) 112 (nI k) hk  hlt) (kW_280 S.2.2.2.2 ⟨Nat.le_of_ble_eq_true rfl, Nat.le_of_ble_eq_true rfl⟩) rfl rfl (Nat.le_of_ble_eq_true rfl) dL_reached_166 ⟨by (try dsimp only [rD]); omega, by (try dsimp only [rD]); omega⟩) (fun r u H locs hp hnz w => ?_)
                      obtain ⟨rfl, hu9⟩ := hp
                      obtain ⟨v17, m17⟩ := u
                      dsimp only at hu9 w hnz
                      subst hu9
                      refine lv_ldc2 hx hb S.2.2.2.1 (S.2.2.2.2 _ m_7_159) dL_reached_169 ?_
                      refine W.lcmp hx hb dL_reached_172 ?_
                      refine lv_if_ne (tgt := 188) hx hb dL_reached_173 (by decide) (fun c_173_5 => absurd hkd2 c_173_5) (fun _ => ?_)
                      refine lv_aload_n hx hb dL_reached_176 rfl (lv_at hl 2 rfl) ?_
                      refine lv_aload_n hx hb dL_reached_177 rfl (lv_at hl 3 rfl) ?_
                      refine lv_iload_n hx hb dL_reached_178 rfl (lv_at hl 1 rfl) ?_
                      refine lv_bipush (v := 112) hx hb dL_reached_179 (by decide) ?_
                      refine lv_iload_n hx hb dL_reached_181 rfl (lv_at hl 0 rfl) ?_
                      refine g_calll w (g_runSW (As := [.ref (x.f .ho), .int (nI i), .int 112, .int (nI k)]) (rest := [.ref sz]) S hE w hl (hL_slot l D ar κ (g_up G sz (.inl (ar 3, 4000, .inl (upd h j0 1)))) x Z m17 (nI i) 112 (nI k) hk  hlt) (kW_283 S.2.2.2.2 ⟨Nat.le_of_ble_eq_true rfl, Nat.le_of_ble_eq_true rfl⟩) rfl rfl (Nat.le_of_ble_eq_true rfl) dL_reached_182 ⟨by (try dsimp only [rD]); omega, by (try dsimp only [rD]); omega⟩) (fun r u H locs hp hnz w => ?_)
                      obtain ⟨rfl, hu9⟩ := hp
                      obtain ⟨v18, m18⟩ := u
                      dsimp only at hu9 w hnz
                      subst hu9
                      refine lv_l2i hx hb dL_reached_185 rfl ?_
                      rw [hvl2]
                      refine lv_iconst (v := 1) hx hb dL_reached_186 (by decide) ?_
                      refine rz_ast hx hb hE.1 w hn9 (vp_in_nI (n := j2) (by omega) (by decide)) dL_reached_187 (fun H locs w => ?_)
                      rw [nI_clamp (show j2 < 2 ^ 31 by omega)] at w
                      refine lv_iinc (v := (nI k) + 1) (lv' := [(3, .int ((nI k) + 1)), (2, .int (nI i)), (1, .ref sz), (0, .ref (x.f .ho))]) hx hb dL_reached_188 hl (k := 0) rfl rfl (by decide) rfl (fun ls hl => ?_)
                      refine lv_goto (tgt := 101) hx hb dL_reached_191 (by decide) ?_
                      refine W.widen (k := 23 + 100 * i + 12 * (k + 1)) (n := 4000 + 6 * (23 + 100 * i + 12 * (k + 1))) (by omega) (by omega) ?_
                      exact ihC (k + 1) (by omega) (by omega) _ (nI_1 k) (upd (upd h j0 1) j2 1) m18 ((hS.up hRj0).up hRj2) (fun g q9 => ((fun g q9 => (hg g q9).up) g q9).up) (fun q9 => ((fun q9 => (ha q9).up) q9).up) (fun j hj q9 => ((fun j hj q9 => (hfr j hj q9).up) j hj q9).up) ((hv.up).up) (fun k1 hk => (by rcases Nat.lt_or_ge k1 k with y | y; exact (sl3_up (sl3_up hsl)) k1 y; obtain rfl : k1 = k := (by omega); exact ⟨(SlD.up (fun _ => RtD.nw hj0 enf0)), (SlD.up (fun b => RtD.z (hno1 b))), (fun _ => RtD.nw hj2 enf2)⟩)) _ _ _ w (lv_sub hl [0, 1, 2, 3] rfl)
                  · refine lv_aload_n hx hb dL_reached_134 rfl (lv_at hl 3 rfl) ?_
                    refine lv_iload_n hx hb dL_reached_135 rfl (lv_at hl 1 rfl) ?_
                    refine lv_bipush (v := 116) hx hb dL_reached_136 (by decide) ?_
                    refine lv_iload_n hx hb dL_reached_138 rfl (lv_at hl 0 rfl) ?_
                    refine g_calll w (g_runSW (As := [.ref (x.f .ho), .int (nI i), .int 116, .int (nI k)]) (rest := []) S hE w hl (hL_slotKind l D ar κ (g_up G sz (.inl (ar 3, 4000, .inl (upd h j0 1)))) x Z m14 (nI i) 116 (nI k) hk  hlt) (kW_280 S.2.2.2.2 ⟨Nat.le_of_ble_eq_true rfl, Nat.le_of_ble_eq_true rfl⟩) rfl rfl (Nat.le_of_ble_eq_true rfl) dL_reached_139 ⟨by (try dsimp only [rD]); omega, by (try dsimp only [rD]); omega⟩) (fun r u H locs hp hnz w => ?_)
                    obtain ⟨rfl, hu9⟩ := hp
                    obtain ⟨v19, m19⟩ := u
                    dsimp only at hu9 w hnz
                    subst hu9
                    refine lv_ldc2 hx hb S.2.2.2.1 (S.2.2.2.2 _ m_7_159) dL_reached_142 ?_
                    refine W.lcmp hx hb dL_reached_145 ?_
                    refine lv_if_ne (tgt := 161) hx hb dL_reached_146 (by decide) (fun c_146_3 => absurd hkd1 c_146_3) (fun _ => ?_)
                    refine lv_aload_n hx hb dL_reached_149 rfl (lv_at hl 2 rfl) ?_
                    refine lv_aload_n hx hb dL_reached_150 rfl (lv_at hl 3 rfl) ?_
                    refine lv_iload_n hx hb dL_reached_151 rfl (lv_at hl 1 rfl) ?_
                    refine lv_bipush (v := 116) hx hb dL_reached_152 (by decide) ?_
                    refine lv_iload_n hx hb dL_reached_154 rfl (lv_at hl 0 rfl) ?_
                    refine g_calll w (g_runSW (As := [.ref (x.f .ho), .int (nI i), .int 116, .int (nI k)]) (rest := [.ref sz]) S hE w hl (hL_slot l D ar κ (g_up G sz (.inl (ar 3, 4000, .inl (upd h j0 1)))) x Z m19 (nI i) 116 (nI k) hk  hlt) (kW_283 S.2.2.2.2 ⟨Nat.le_of_ble_eq_true rfl, Nat.le_of_ble_eq_true rfl⟩) rfl rfl (Nat.le_of_ble_eq_true rfl) dL_reached_155 ⟨by (try dsimp only [rD]); omega, by (try dsimp only [rD]); omega⟩) (fun r u H locs hp hnz w => ?_)
                    obtain ⟨rfl, hu9⟩ := hp
                    obtain ⟨v20, m20⟩ := u
                    dsimp only at hu9 w hnz
                    subst hu9
                    refine lv_l2i hx hb dL_reached_158 rfl ?_
                    rw [hvl1]
                    refine lv_iconst (v := 1) hx hb dL_reached_159 (by decide) ?_
                    refine rz_ast hx hb hE.1 w hn9 (vp_in_nI (n := j1) (by omega) (by decide)) dL_reached_160 (fun H locs w => ?_)
                    rw [nI_clamp (show j1 < 2 ^ 31 by omega)] at w
                    rcases kd_s (c := 112) hI hmd hlt9 hi12 (by decide) hlk9 with ⟨hkd2, hno2⟩ | ⟨j2, hj2, hkd2, hvl2, enf2, hRj2⟩
                    · refine lv_aload_n hx hb dL_reached_161 rfl (lv_at hl 3 rfl) ?_
                      refine lv_iload_n hx hb dL_reached_162 rfl (lv_at hl 1 rfl) ?_
                      refine lv_bipush (v := 112) hx hb dL_reached_163 (by decide) ?_
                      refine lv_iload_n hx hb dL_reached_165 rfl (lv_at hl 0 rfl) ?_
                      refine g_calll w (g_runSW (As := [.ref (x.f .ho), .int (nI i), .int 112, .int (nI k)]) (rest := []) S hE w hl (hL_slotKind l D ar κ (g_up G sz (.inl (ar 3, 4000, .inl (upd (upd h j0 1) j1 1)))) x Z m20 (nI i) 112 (nI k) hk  hlt) (kW_280 S.2.2.2.2 ⟨Nat.le_of_ble_eq_true rfl, Nat.le_of_ble_eq_true rfl⟩) rfl rfl (Nat.le_of_ble_eq_true rfl) dL_reached_166 ⟨by (try dsimp only [rD]); omega, by (try dsimp only [rD]); omega⟩) (fun r u H locs hp hnz w => ?_)
                      obtain ⟨rfl, hu9⟩ := hp
                      obtain ⟨v21, m21⟩ := u
                      dsimp only at hu9 w hnz
                      subst hu9
                      refine lv_ldc2 hx hb S.2.2.2.1 (S.2.2.2.2 _ m_7_159) dL_reached_169 ?_
                      refine W.lcmp hx hb dL_reached_172 ?_
                      refine lv_if_ne (tgt := 188) hx hb dL_reached_173 (by decide) (fun _ => ?_) (fun c_173_6 => absurd c_173_6 hkd2)
                      refine lv_iinc (v := (nI k) + 1) (lv' := [(3, .int ((nI k) + 1)), (2, .int (nI i)), (1, .ref sz), (0, .ref (x.f .ho))]) hx hb dL_reached_188 hl (k := 0) rfl rfl (by decide) rfl (fun ls hl => ?_)
                      refine lv_goto (tgt := 101) hx hb dL_reached_191 (by decide) ?_
                      refine W.widen (k := 23 + 100 * i + 12 * (k + 1)) (n := 4000 + 6 * (23 + 100 * i + 12 * (k + 1))) (by omega) (by omega) ?_
                      exact ihC (k + 1) (by omega) (by omega) _ (nI_1 k) (upd (upd h j0 1) j1 1) m21 ((hS.up hRj0).up hRj1) (fun g q9 => ((fun g q9 => (hg g q9).up) g q9).up) (fun q9 => ((fun q9 => (ha q9).up) q9).up) (fun j hj q9 => ((fun j hj q9 => (hfr j hj q9).up) j hj q9).up) ((hv.up).up) (fun k1 hk => (by rcases Nat.lt_or_ge k1 k with y | y; exact (sl3_up (sl3_up hsl)) k1 y; obtain rfl : k1 = k := (by omega); exact ⟨(SlD.up (fun _ => RtD.nw hj0 enf0)), (fun _ => RtD.nw hj1 enf1), (fun b => RtD.z (hno2 b))⟩)) _ _ _ w (lv_sub hl [0, 1, 2, 3] rfl)
                    · refine lv_aload_n hx hb dL_reached_161 rfl (lv_at hl 3 rfl) ?_
                      refine lv_iload_n hx hb dL_reached_162 rfl (lv_at hl 1 rfl) ?_
                      refine lv_bipush (v := 112) hx hb dL_reached_163 (by decide) ?_
                      refine lv_iload_n hx hb dL_reached_165 rfl (lv_at hl 0 rfl) ?_
                      refine g_calll w (g_runSW (As := [.ref (x.f .ho), .int (nI i), .int 112, .int (nI k)]) (rest := []) S hE w hl (hL_slotKind l D ar κ (g_up G sz (.inl (ar 3, 4000, .inl (upd (upd h j0 1) j1 1)))) x Z m20 (nI i) 112 (nI k) hk  hlt) (kW_280 S.2.2.2.2 ⟨Nat.le_of_ble_eq_true rfl, Nat.le_of_ble_eq_true rfl⟩) rfl rfl (Nat.le_of_ble_eq_true rfl) dL_reached_166 ⟨by (try dsimp only [rD]); omega, by (try dsimp only [rD]); omega⟩) (fun r u H locs hp hnz w => ?_)
                      obtain ⟨rfl, hu9⟩ := hp
                      obtain ⟨v22, m22⟩ := u
                      dsimp only at hu9 w hnz
                      subst hu9
                      refine lv_ldc2 hx hb S.2.2.2.1 (S.2.2.2.2 _ m_7_159) dL_reached_169 ?_
                      refine W.lcmp hx hb dL_reached_172 ?_
                      refine lv_if_ne (tgt := 188) hx hb dL_reached_173 (by decide) (fun c_173_7 => absurd hkd2 c_173_7) (fun _ => ?_)
                      refine lv_aload_n hx hb dL_reached_176 rfl (lv_at hl 2 rfl) ?_
                      refine lv_aload_n hx hb dL_reached_177 rfl (lv_at hl 3 rfl) ?_
                      refine lv_iload_n hx hb dL_reached_178 rfl (lv_at hl 1 rfl) ?_
                      refine lv_bipush (v := 112) hx hb dL_reached_179 (by decide) ?_
                      refine lv_iload_n hx hb dL_reached_181 rfl (lv_at hl 0 rfl) ?_
                      refine g_calll w (g_runSW (As := [.ref (x.f .ho), .int (nI i), .int 112, .int (nI k)]) (rest := [.ref sz]) S hE w hl (hL_slot l D ar κ (g_up G sz (.inl (ar 3, 4000, .inl (upd (upd h j0 1) j1 1)))) x Z m22 (nI i) 112 (nI k) hk  hlt) (kW_283 S.2.2.2.2 ⟨Nat.le_of_ble_eq_true rfl, Nat.le_of_ble_eq_true rfl⟩) rfl rfl (Nat.le_of_ble_eq_true rfl) dL_reached_182 ⟨by (try dsimp only [rD]); omega, by (try dsimp only [rD]); omega⟩) (fun r u H locs hp hnz w => ?_)
                      obtain ⟨rfl, hu9⟩ := hp
                      obtain ⟨v23, m23⟩ := u
                      dsimp only at hu9 w hnz
                      subst hu9
                      refine lv_l2i hx hb dL_reached_185 rfl ?_
                      rw [hvl2]
                      refine lv_iconst (v := 1) hx hb dL_reached_186 (by decide) ?_
                      refine rz_ast hx hb hE.1 w hn9 (vp_in_nI (n := j2) (by omega) (by decide)) dL_reached_187 (fun H locs w => ?_)
                      rw [nI_clamp (show j2 < 2 ^ 31 by omega)] at w
                      refine lv_iinc (v := (nI k) + 1) (lv' := [(3, .int ((nI k) + 1)), (2, .int (nI i)), (1, .ref sz), (0, .ref (x.f .ho))]) hx hb dL_reached_188 hl (k := 0) rfl rfl (by decide) rfl (fun ls hl => ?_)
                      refine lv_goto (tgt := 101) hx hb dL_reached_191 (by decide) ?_
                      refine W.widen (k := 23 + 100 * i + 12 * (k + 1)) (n := 4000 + 6 * (23 + 100 * i + 12 * (k + 1))) (by omega) (by omega) ?_
                      exact ihC (k + 1) (by omega) (by omega) _ (nI_1 k) (upd (upd (upd h j0 1) j1 1) j2 1) m23 (((hS.up hRj0).up hRj1).up hRj2) (fun g q9 => ((fun g q9 => ((fun g q9 => (hg g q9).up) g q9).up) g q9).up) (fun q9 => ((fun q9 => ((fun q9 => (ha q9).up) q9).up) q9).up) (fun j hj q9 => ((fun j hj q9 => ((fun j hj q9 => (hfr j hj q9).up) j hj q9).up) j hj q9).up) (((hv.up).up).up) (fun k1 hk => (by rcases Nat.lt_or_ge k1 k with y | y; exact (sl3_up (sl3_up (sl3_up hsl))) k1 y; obtain rfl : k1 = k := (by omega); exact ⟨(SlD.up (SlD.up (fun _ => RtD.nw hj0 enf0))), (SlD.up (fun _ => RtD.nw hj1 enf1)), (fun _ => RtD.nw hj2 enf2)⟩)) _ _ _ w (lv_sub hl [0, 1, 2, 3] rfl)
          rcases kd_v hI hmd hlt9 hi12 with ⟨hkd, hno⟩ | ⟨j, hj, hkd, hvl, enf, hRj⟩
          · refine lv_aload_n hx hb dL_reached_72 rfl (lv_at hl 2 rfl) ?_
            refine lv_iload_n hx hb dL_reached_73 rfl (lv_at hl 0 rfl) ?_
            refine lv_bipush (v := 115) hx hb dL_reached_74 (by decide) ?_
            refine lv_iconst (v := 0) hx hb dL_reached_76 (by decide) ?_
            refine g_calll w (g_runSW (As := [.ref (x.f .ho), .int (nI i), .int 115, .int 0]) (rest := []) S hE w hl (hL_slotKind l D ar κ (g_up G sz (.inl (ar 3, 4000, .inl h))) x Z nz (nI i) 115 0 hk  hlt) (kW_280 S.2.2.2.2 ⟨Nat.le_of_ble_eq_true rfl, Nat.le_of_ble_eq_true rfl⟩) rfl rfl (Nat.le_of_ble_eq_true rfl) dL_reached_77 ⟨by (try dsimp only [rD]); omega, by (try dsimp only [rD]); omega⟩) (fun r u H locs hp hnz w => ?_)
            obtain ⟨rfl, hu9⟩ := hp
            obtain ⟨v24, m24⟩ := u
            dsimp only at hu9 w hnz
            subst hu9
            refine lv_ldc2 hx hb S.2.2.2.1 (S.2.2.2.2 _ m_7_159) dL_reached_80 ?_
            refine W.lcmp hx hb dL_reached_83 ?_
            refine lv_if_ne (tgt := 99) hx hb dL_reached_84 (by decide) (fun _ => ?_) (fun c_84 => absurd c_84 hkd)
            refine lv_iconst (v := 0) hx hb dL_reached_99 (by decide) ?_
            refine lv_istore_n (lv' := [(3, .int 0), (2, .int (nI i)), (1, .ref sz), (0, .ref (x.f .ho))]) hx hb dL_reached_100 rfl hl (by decide) rfl (fun ls hl => ?_)
            refine W.widen (k := 23 + 100 * i + 12 * 0) (n := 4000 + 6 * (23 + 100 * i + 12 * 0)) (by omega) (by omega) ?_
            exact keyC 9 0 (by omega) (by omega) 0 rfl h m24 hS hg ha hfr (RtD.z hno) (fun k1 hk => absurd hk (Nat.not_lt_zero k1)) _ _ _ w (lv_sub hl [0, 1, 2, 3] rfl)
          · refine lv_aload_n hx hb dL_reached_72 rfl (lv_at hl 2 rfl) ?_
            refine lv_iload_n hx hb dL_reached_73 rfl (lv_at hl 0 rfl) ?_
            refine lv_bipush (v := 115) hx hb dL_reached_74 (by decide) ?_
            refine lv_iconst (v := 0) hx hb dL_reached_76 (by decide) ?_
            refine g_calll w (g_runSW (As := [.ref (x.f .ho), .int (nI i), .int 115, .int 0]) (rest := []) S hE w hl (hL_slotKind l D ar κ (g_up G sz (.inl (ar 3, 4000, .inl h))) x Z nz (nI i) 115 0 hk  hlt) (kW_280 S.2.2.2.2 ⟨Nat.le_of_ble_eq_true rfl, Nat.le_of_ble_eq_true rfl⟩) rfl rfl (Nat.le_of_ble_eq_true rfl) dL_reached_77 ⟨by (try dsimp only [rD]); omega, by (try dsimp only [rD]); omega⟩) (fun r u H locs hp hnz w => ?_)
            obtain ⟨rfl, hu9⟩ := hp
            obtain ⟨v25, m25⟩ := u
            dsimp only at hu9 w hnz
            subst hu9
            refine lv_ldc2 hx hb S.2.2.2.1 (S.2.2.2.2 _ m_7_159) dL_reached_80 ?_
            refine W.lcmp hx hb dL_reached_83 ?_
            refine lv_if_ne (tgt := 99) hx hb dL_reached_84 (by decide) (fun c_84_1 => absurd hkd c_84_1) (fun _ => ?_)
            refine lv_aload_n hx hb dL_reached_87 rfl (lv_at hl 1 rfl) ?_
            refine lv_aload_n hx hb dL_reached_88 rfl (lv_at hl 2 rfl) ?_
            refine lv_iload_n hx hb dL_reached_89 rfl (lv_at hl 0 rfl) ?_
            refine lv_bipush (v := 115) hx hb dL_reached_90 (by decide) ?_
            refine lv_iconst (v := 0) hx hb dL_reached_92 (by decide) ?_
            refine g_calll w (g_runSW (As := [.ref (x.f .ho), .int (nI i), .int 115, .int 0]) (rest := [.ref sz]) S hE w hl (hL_slot l D ar κ (g_up G sz (.inl (ar 3, 4000, .inl h))) x Z m25 (nI i) 115 0 hk  hlt) (kW_283 S.2.2.2.2 ⟨Nat.le_of_ble_eq_true rfl, Nat.le_of_ble_eq_true rfl⟩) rfl rfl (Nat.le_of_ble_eq_true rfl) dL_reached_93 ⟨by (try dsimp only [rD]); omega, by (try dsimp only [rD]); omega⟩) (fun r u H locs hp hnz w => ?_)
            obtain ⟨rfl, hu9⟩ := hp
            obtain ⟨v26, m26⟩ := u
            dsimp only at hu9 w hnz
            subst hu9
            refine lv_l2i hx hb dL_reached_96 rfl ?_
            rw [hvl]
            refine lv_iconst (v := 1) hx hb dL_reached_97 (by decide) ?_
            refine rz_ast hx hb hE.1 w hn9 (vp_in_nI (n := j) (by omega) (by decide)) dL_reached_98 (fun H locs w => ?_)
            rw [nI_clamp (show j < 2 ^ 31 by omega)] at w
            refine lv_iconst (v := 0) hx hb dL_reached_99 (by decide) ?_
            refine lv_istore_n (lv' := [(3, .int 0), (2, .int (nI i)), (1, .ref sz), (0, .ref (x.f .ho))]) hx hb dL_reached_100 rfl hl (by decide) rfl (fun ls hl => ?_)
            refine W.widen (k := 23 + 100 * i + 12 * 0) (n := 4000 + 6 * (23 + 100 * i + 12 * 0)) (by omega) (by omega) ?_
            exact keyC 9 0 (by omega) (by omega) 0 rfl (upd h j 1) m26 (hS.up hRj) (fun g q9 => (hg g q9).up) (fun q9 => (ha q9).up) (fun j hj q9 => (hfr j hj q9).up) (RtD.nw hj enf) (fun k1 hk => absurd hk (Nat.not_lt_zero k1)) _ _ _ w (lv_sub hl [0, 1, 2, 3] rfl)
    rcases kd_a hI hmd with ⟨hkd, hno⟩ | ⟨j, hj, hkd, hvl, enf, hRj⟩
    · refine lv_aload_n hx hb dL_reached_41 rfl (lv_at hl 1 rfl) ?_
      refine g_calll w (g_runSW (As := [.ref (x.f .ho)]) (rest := []) S hE w hl (hL_answerKind l D ar κ (g_up G sz (.inl (ar 3, 4000, .inl h))) x Z nz  hk  hlt) (kW_274 S.2.2.2.2 ⟨Nat.le_of_ble_eq_true rfl, Nat.le_of_ble_eq_true rfl⟩) rfl rfl (Nat.le_of_ble_eq_true rfl) dL_reached_42 ⟨by (try dsimp only [rD]); omega, by (try dsimp only [rD]); omega⟩) (fun r u H locs hp hnz w => ?_)
      obtain ⟨rfl, hu9⟩ := hp
      obtain ⟨v27, m27⟩ := u
      dsimp only at hu9 w hnz
      subst hu9
      refine lv_ldc2 hx hb S.2.2.2.1 (S.2.2.2.2 _ m_7_159) dL_reached_45 ?_
      refine W.lcmp hx hb dL_reached_48 ?_
      refine lv_if_ne (tgt := 60) hx hb dL_reached_49 (by decide) (fun _ => ?_) (fun c_49 => absurd c_49 hkd)
      refine lv_iconst (v := 0) hx hb dL_reached_60 (by decide) ?_
      refine lv_istore_n (lv' := [(2, .int 0), (1, .ref sz), (0, .ref (x.f .ho))]) hx hb dL_reached_61 rfl hl (by decide) rfl (fun ls hl => ?_)
      refine W.widen (k := 19 + 100 * 0) (n := 4000 + 6 * (19 + 100 * 0)) (by omega) (by omega) ?_
      exact keyB (f + 1) 0 (by omega) (by omega) 0 rfl h m27 hS hg (fun q9 => RtD.z (hno q9)) (fun j hj q => absurd q (Nat.not_lt_zero j)) _ _ _ w (lv_sub hl [0, 1, 2] rfl)
    · refine lv_aload_n hx hb dL_reached_41 rfl (lv_at hl 1 rfl) ?_
      refine g_calll w (g_runSW (As := [.ref (x.f .ho)]) (rest := []) S hE w hl (hL_answerKind l D ar κ (g_up G sz (.inl (ar 3, 4000, .inl h))) x Z nz  hk  hlt) (kW_274 S.2.2.2.2 ⟨Nat.le_of_ble_eq_true rfl, Nat.le_of_ble_eq_true rfl⟩) rfl rfl (Nat.le_of_ble_eq_true rfl) dL_reached_42 ⟨by (try dsimp only [rD]); omega, by (try dsimp only [rD]); omega⟩) (fun r u H locs hp hnz w => ?_)
      obtain ⟨rfl, hu9⟩ := hp
      obtain ⟨v28, m28⟩ := u
      dsimp only at hu9 w hnz
      subst hu9
      refine lv_ldc2 hx hb S.2.2.2.1 (S.2.2.2.2 _ m_7_159) dL_reached_45 ?_
      refine W.lcmp hx hb dL_reached_48 ?_
      refine lv_if_ne (tgt := 60) hx hb dL_reached_49 (by decide) (fun c_49_1 => absurd hkd c_49_1) (fun _ => ?_)
      refine lv_aload_n hx hb dL_reached_52 rfl (lv_at hl 0 rfl) ?_
      refine lv_aload_n hx hb dL_reached_53 rfl (lv_at hl 1 rfl) ?_
      refine g_calll w (g_runSW (As := [.ref (x.f .ho)]) (rest := [.ref sz]) S hE w hl (hL_answer l D ar κ (g_up G sz (.inl (ar 3, 4000, .inl h))) x Z m28  hk  hlt) (kW_276 S.2.2.2.2 ⟨Nat.le_of_ble_eq_true rfl, Nat.le_of_ble_eq_true rfl⟩) rfl rfl (Nat.le_of_ble_eq_true rfl) dL_reached_54 ⟨by (try dsimp only [rD]); omega, by (try dsimp only [rD]); omega⟩) (fun r u H locs hp hnz w => ?_)
      obtain ⟨rfl, hu9⟩ := hp
      obtain ⟨v29, m29⟩ := u
      dsimp only at hu9 w hnz
      subst hu9
      refine lv_l2i hx hb dL_reached_57 rfl ?_
      rw [hvl]
      refine lv_iconst (v := 1) hx hb dL_reached_58 (by decide) ?_
      refine rz_ast hx hb hE.1 w hn9 (vp_in_nI (n := j) (by omega) (by decide)) dL_reached_59 (fun H locs w => ?_)
      rw [nI_clamp (show j < 2 ^ 31 by omega)] at w
      refine lv_iconst (v := 0) hx hb dL_reached_60 (by decide) ?_
      refine lv_istore_n (lv' := [(2, .int 0), (1, .ref sz), (0, .ref (x.f .ho))]) hx hb dL_reached_61 rfl hl (by decide) rfl (fun ls hl => ?_)
      refine W.widen (k := 19 + 100 * 0) (n := 4000 + 6 * (19 + 100 * 0)) (by omega) (by omega) ?_
      exact keyB (f + 1) 0 (by omega) (by omega) 0 rfl (upd h j 1) m29 (hS.up hRj) (fun g q9 => (hg g q9).up) (fun _ => RtD.nw hj enf) (fun j hj q => absurd q (Nat.not_lt_zero j)) _ _ _ w (lv_sub hl [0, 1, 2] rfl)
  have keyA : ∀ (n9 i : Nat), i ≤ 8 → 9 ≤ i + n9 → ∀ (x9 : Int32), x9 = nI i → ∀ (h : Nat → Int32) (nz : Nat), Sub Z t f h → (∀ g, g < i → RtD h (Z.gl g)) → ∀ (H : Heap) (locs : List Loc) (ls : Array Slot), g_S D vwCl (g_A (ov κ ar x Z G) sz) s.heap (ov κ ar x Z (g_up G sz (.inl (ar 3, 4000, .inl h)))) H locs nz → lv_has ls 9 [(2, .int x9), (1, .ref sz), (0, .ref (x.f .ho))] → W p l e (rD 16 16400 104000) s m (([.ref (x.f .ho)] : List Value).toArray) below meth c H locs (1 + 2 * i) (4000 + 6 * (1 + 2 * i)) (MQ below (g_Ql D vwCl (g_A (ov κ ar x Z G) sz) (fun r u => (∃ h : Nat → Int32, (∀ m, m < 4000 → (¬ h m = 0 ↔ RN Z t f (nI m))) ∧ r = lN (cnt h 4000)) ∧ u.1 = ov κ ar x Z G)) (([.ref (x.f .ho)] : List Value).toArray) s 16400 104000 (g_A (ov κ ar x Z G) sz)) (F0 m 8 ls []) := by
    intro n9
    induction n9 with
    | zero => intro i h1 h2; omega
    | succ n9 ih =>
      intro i hi1 hi2 x9 ex9 h nz hS hg H locs ls w hl
      refine lv_iload_n hx hb dL_reached_8 rfl (lv_at hl 0 rfl) ?_
      refine lv_bipush (v := 8) hx hb dL_reached_9 (by decide) ?_
      refine lv_icmp_ge (tgt := 41) hx hb dL_reached_11 (by decide) (fun c_11 => ?_) (fun c_11 => ?_)
      · have hi8 := lp_eq (n := 8) rfl ex9 hi1 (by decide) c_11
        subst hi8
        exact R1 h nz hS hg _ _ _ w (lv_sub hl [1, 2] rfl)
      · have hlt9 := lp_lt (n := 8) rfl ex9 hi1 (by decide) c_11
        subst ex9
        rcases kd_g hI hmd hlt9 with ⟨hkd, hno⟩ | ⟨j, hj, hkd, hvl, enf, hRj⟩
        · refine lv_aload_n hx hb dL_reached_14 rfl (lv_at hl 2 rfl) ?_
          refine lv_iload_n hx hb dL_reached_15 rfl (lv_at hl 0 rfl) ?_
          refine g_calll w (g_runSW (As := [.ref (x.f .ho), .int (nI i)]) (rest := []) S hE w hl (hL_kind l D ar κ (g_up G sz (.inl (ar 3, 4000, .inl h))) x Z nz (nI i) hk  hlt) (kW_268 S.2.2.2.2 ⟨Nat.le_of_ble_eq_true rfl, Nat.le_of_ble_eq_true rfl⟩) rfl rfl (Nat.le_of_ble_eq_true rfl) dL_reached_16 ⟨by (try dsimp only [rD]); omega, by (try dsimp only [rD]); omega⟩) (fun r u H locs hp hnz w => ?_)
          obtain ⟨rfl, hu9⟩ := hp
          obtain ⟨v30, m30⟩ := u
          dsimp only at hu9 w hnz
          subst hu9
          refine lv_ldc2 hx hb S.2.2.2.1 (S.2.2.2.2 _ m_7_159) dL_reached_19 ?_
          refine W.lcmp hx hb dL_reached_22 ?_
          refine lv_if_ne (tgt := 35) hx hb dL_reached_23 (by decide) (fun _ => ?_) (fun c_23 => absurd c_23 hkd)
          refine lv_iinc (v := (nI i) + 1) (lv' := [(2, .int ((nI i) + 1)), (1, .ref sz), (0, .ref (x.f .ho))]) hx hb dL_reached_35 hl (k := 0) rfl rfl (by decide) rfl (fun ls hl => ?_)
          refine lv_goto (tgt := 8) hx hb dL_reached_38 (by decide) ?_
          refine W.widen (k := 1 + 2 * (i + 1)) (n := 4000 + 6 * (1 + 2 * (i + 1))) (by omega) (by omega) ?_
          exact ih (i + 1) (by omega) (by omega) _ (nI_1 i) h m30 hS (fun g q9 => (by rcases Nat.lt_or_ge g i with y | y; exact hg g y; obtain rfl : g = i := (by omega); exact RtD.z hno)) _ _ _ w (lv_sub hl [0, 1, 2] rfl)
        · refine lv_aload_n hx hb dL_reached_14 rfl (lv_at hl 2 rfl) ?_
          refine lv_iload_n hx hb dL_reached_15 rfl (lv_at hl 0 rfl) ?_
          refine g_calll w (g_runSW (As := [.ref (x.f .ho), .int (nI i)]) (rest := []) S hE w hl (hL_kind l D ar κ (g_up G sz (.inl (ar 3, 4000, .inl h))) x Z nz (nI i) hk  hlt) (kW_268 S.2.2.2.2 ⟨Nat.le_of_ble_eq_true rfl, Nat.le_of_ble_eq_true rfl⟩) rfl rfl (Nat.le_of_ble_eq_true rfl) dL_reached_16 ⟨by (try dsimp only [rD]); omega, by (try dsimp only [rD]); omega⟩) (fun r u H locs hp hnz w => ?_)
          obtain ⟨rfl, hu9⟩ := hp
          obtain ⟨v31, m31⟩ := u
          dsimp only at hu9 w hnz
          subst hu9
          refine lv_ldc2 hx hb S.2.2.2.1 (S.2.2.2.2 _ m_7_159) dL_reached_19 ?_
          refine W.lcmp hx hb dL_reached_22 ?_
          refine lv_if_ne (tgt := 35) hx hb dL_reached_23 (by decide) (fun c_23_1 => absurd hkd c_23_1) (fun _ => ?_)
          refine lv_aload_n hx hb dL_reached_26 rfl (lv_at hl 1 rfl) ?_
          refine lv_aload_n hx hb dL_reached_27 rfl (lv_at hl 2 rfl) ?_
          refine lv_iload_n hx hb dL_reached_28 rfl (lv_at hl 0 rfl) ?_
          refine g_calll w (g_runSW (As := [.ref (x.f .ho), .int (nI i)]) (rest := [.ref sz]) S hE w hl (hL_value l D ar κ (g_up G sz (.inl (ar 3, 4000, .inl h))) x Z m31 (nI i) hk  hlt) (kW_272 S.2.2.2.2 ⟨Nat.le_of_ble_eq_true rfl, Nat.le_of_ble_eq_true rfl⟩) rfl rfl (Nat.le_of_ble_eq_true rfl) dL_reached_29 ⟨by (try dsimp only [rD]); omega, by (try dsimp only [rD]); omega⟩) (fun r u H locs hp hnz w => ?_)
          obtain ⟨rfl, hu9⟩ := hp
          obtain ⟨v32, m32⟩ := u
          dsimp only at hu9 w hnz
          subst hu9
          refine lv_l2i hx hb dL_reached_32 rfl ?_
          rw [hvl]
          refine lv_iconst (v := 1) hx hb dL_reached_33 (by decide) ?_
          refine rz_ast hx hb hE.1 w hn9 (vp_in_nI (n := j) (by omega) (by decide)) dL_reached_34 (fun H locs w => ?_)
          rw [nI_clamp (show j < 2 ^ 31 by omega)] at w
          refine lv_iinc (v := (nI i) + 1) (lv' := [(2, .int ((nI i) + 1)), (1, .ref sz), (0, .ref (x.f .ho))]) hx hb dL_reached_35 hl (k := 0) rfl rfl (by decide) rfl (fun ls hl => ?_)
          refine lv_goto (tgt := 8) hx hb dL_reached_38 (by decide) ?_
          refine W.widen (k := 1 + 2 * (i + 1)) (n := 4000 + 6 * (1 + 2 * (i + 1))) (by omega) (by omega) ?_
          exact ih (i + 1) (by omega) (by omega) _ (nI_1 i) (upd h j 1) m32 (hS.up hRj) (fun g q9 => (by rcases Nat.lt_or_ge g i with y | y; exact (hg g y).up; obtain rfl : g = i := (by omega); exact RtD.nw hj enf)) _ _ _ w (lv_sub hl [0, 1, 2] rfl)
  refine lv_sipush (v := 4000) hx hb dL_reached_0 (by decide) ?_
  refine g_newa (atype := .boolean) (a0 := (4000, .inl (fun _ => 0))) hx hb (S.2.2.2.2 _ m_7_239) rfl hE.1 w 3 rfl rfl (by decide) rfl (Nat.le_of_ble_eq_true rfl) (Nat.le_of_ble_eq_true rfl) (Nat.le_of_ble_eq_true rfl) dL_reached_3 (fun H w => ?_)
  have w := g_eqw w (ov_new hn9)
  refine lv_astore_n (lv' := [(1, .ref sz), (0, .ref (x.f .ho))]) hx hb dL_reached_5 rfl hl (by decide) rfl (fun ls hl => ?_)
  refine lv_iconst (v := 0) hx hb dL_reached_6 (by decide) ?_
  refine lv_istore_n (lv' := [(2, .int 0), (1, .ref sz), (0, .ref (x.f .ho))]) hx hb dL_reached_7 rfl hl (by decide) rfl (fun ls hl => ?_)
  refine W.widen (k := 1 + 2 * 0) (n := 4000 + 6 * (1 + 2 * 0)) (Nat.le_of_ble_eq_true rfl) (Nat.le_of_ble_eq_true rfl) ?_
  exact keyA 9 0 (by omega) (by omega) 0 rfl (fun _ => 0) (sz + 1) (fun m _ q => absurd rfl q) (fun g q => absurd q (Nat.not_lt_zero g)) _ _ _ w (lv_sub hl [0, 1, 2] rfl)
