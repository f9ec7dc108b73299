theorem dJ5_getValue_6d5f1_0 : decode cJ5_getValue_6d5f1 0 = .ok (.aload_n 0, 1) := by decide +kernel
theorem dJ5_getValue_6d5f1_1 : decode cJ5_getValue_6d5f1 1 = .ok (.getfield 15, 3) := by decide +kernel
theorem dJ5_getValue_6d5f1_4 : decode cJ5_getValue_6d5f1 4 = .ok (.areturn, 1) := by decide +kernel
theorem dJ5_length_8abf5_0 : decode cJ5_length_8abf5 0 = .ok (.aload_n 0, 1) := by decide +kernel
theorem dJ5_length_8abf5_1 : decode cJ5_length_8abf5 1 = .ok (.getfield 79, 3) := by decide +kernel
theorem dJ5_length_8abf5_4 : decode cJ5_length_8abf5 4 = .ok (.ireturn, 1) := by decide +kernel
theorem dJ4_length_8abf5_0 : decode cJ4_length_8abf5 0 = .ok (.aload_n 0, 1) := by decide +kernel
theorem dJ4_length_8abf5_1 : decode cJ4_length_8abf5 1 = .ok (.invokespecial 343, 3) := by decide +kernel
theorem dJ4_length_8abf5_4 : decode cJ4_length_8abf5 4 = .ok (.ireturn, 1) := by decide +kernel
theorem dJ0_init_db425_0 : decode cJ0_init_db425 0 = .ok (.aload_n 0, 1) := by decide +kernel
theorem dJ0_init_db425_1 : decode cJ0_init_db425 1 = .ok (.invokespecial 1, 3) := by decide +kernel
theorem dJ0_init_db425_4 : decode cJ0_init_db425 4 = .ok (.aload_n 1, 1) := by decide +kernel
theorem dJ0_init_db425_5 : decode cJ0_init_db425 5 = .ok (.invokevirtual 552, 3) := by decide +kernel
theorem dJ0_init_db425_8 : decode cJ0_init_db425 8 = .ok (.astore_n 3, 1) := by decide +kernel
theorem dJ0_init_db425_9 : decode cJ0_init_db425 9 = .ok (.aload_n 1, 1) := by decide +kernel
theorem dJ0_init_db425_10 : decode cJ0_init_db425 10 = .ok (.invokevirtual 549, 3) := by decide +kernel
theorem dJ0_init_db425_13 : decode cJ0_init_db425 13 = .ok (.istore 4, 2) := by decide +kernel
theorem dJ0_init_db425_15 : decode cJ0_init_db425 15 = .ok (.aload_n 1, 1) := by decide +kernel
theorem dJ0_init_db425_16 : decode cJ0_init_db425 16 = .ok (.invokevirtual 1047, 3) := by decide +kernel
theorem dJ0_init_db425_19 : decode cJ0_init_db425 19 = .ok (.ifCond .eq 22, 3) := by decide +kernel
theorem dJ0_init_db425_22 : decode cJ0_init_db425 22 = .ok (.aload_n 0, 1) := by decide +kernel
theorem dJ0_init_db425_23 : decode cJ0_init_db425 23 = .ok (.iconst 0, 1) := by decide +kernel
theorem dJ0_init_db425_24 : decode cJ0_init_db425 24 = .ok (.putfield 15, 3) := by decide +kernel
theorem dJ0_init_db425_27 : decode cJ0_init_db425 27 = .ok (.aload_n 0, 1) := by decide +kernel
theorem dJ0_init_db425_28 : decode cJ0_init_db425 28 = .ok (.aload_n 3, 1) := by decide +kernel
theorem dJ0_init_db425_29 : decode cJ0_init_db425 29 = .ok (.iconst 0, 1) := by decide +kernel
theorem dJ0_init_db425_30 : decode cJ0_init_db425 30 = .ok (.iload 4, 2) := by decide +kernel
theorem dJ0_init_db425_32 : decode cJ0_init_db425 32 = .ok (.invokestatic 54, 3) := by decide +kernel
theorem dJ0_init_db425_35 : decode cJ0_init_db425 35 = .ok (.putfield 9, 3) := by decide +kernel
theorem dJ0_init_db425_38 : decode cJ0_init_db425 38 = .ok (.goto 59, 3) := by decide +kernel
theorem dJ0_init_db425_41 : decode cJ0_init_db425 41 = .ok (.getstatic 38, 3) := by decide +kernel
theorem dJ0_init_db425_44 : decode cJ0_init_db425 44 = .ok (.ifCond .eq 35, 3) := by decide +kernel
theorem dJ0_init_db425_47 : decode cJ0_init_db425 47 = .ok (.aload_n 1, 1) := by decide +kernel
theorem dJ0_init_db425_48 : decode cJ0_init_db425 48 = .ok (.getfield 1048, 3) := by decide +kernel
theorem dJ0_init_db425_51 : decode cJ0_init_db425 51 = .ok (.ifCond .eq 28, 3) := by decide +kernel
theorem dJ0_init_db425_54 : decode cJ0_init_db425 54 = .ok (.aload_n 0, 1) := by decide +kernel
theorem dJ0_init_db425_55 : decode cJ0_init_db425 55 = .ok (.aload_n 3, 1) := by decide +kernel
theorem dJ0_init_db425_56 : decode cJ0_init_db425 56 = .ok (.iconst 0, 1) := by decide +kernel
theorem dJ0_init_db425_57 : decode cJ0_init_db425 57 = .ok (.iload 4, 2) := by decide +kernel
theorem dJ0_init_db425_59 : decode cJ0_init_db425 59 = .ok (.invokestatic 1051, 3) := by decide +kernel
theorem dJ0_init_db425_62 : decode cJ0_init_db425 62 = .ok (.putfield 9, 3) := by decide +kernel
theorem dJ0_init_db425_65 : decode cJ0_init_db425 65 = .ok (.aload_n 0, 1) := by decide +kernel
theorem dJ0_init_db425_66 : decode cJ0_init_db425 66 = .ok (.aload_n 0, 1) := by decide +kernel
theorem dJ0_init_db425_67 : decode cJ0_init_db425 67 = .ok (.getfield 9, 3) := by decide +kernel
theorem dJ0_init_db425_70 : decode cJ0_init_db425 70 = .ok (.iload 4, 2) := by decide +kernel
theorem dJ0_init_db425_72 : decode cJ0_init_db425 72 = .ok (.invokestatic 47, 3) := by decide +kernel
theorem dJ0_init_db425_75 : decode cJ0_init_db425 75 = .ok (.putfield 15, 3) := by decide +kernel
theorem dJ0_init_db425_78 : decode cJ0_init_db425 78 = .ok (.return_, 1) := by decide +kernel
theorem dJ0_init_db425_79 : decode cJ0_init_db425 79 = .ok (.aload_n 0, 1) := by decide +kernel
theorem dJ0_init_db425_80 : decode cJ0_init_db425 80 = .ok (.iconst 1, 1) := by decide +kernel
theorem dJ0_init_db425_81 : decode cJ0_init_db425 81 = .ok (.putfield 15, 3) := by decide +kernel
theorem dJ0_init_db425_84 : decode cJ0_init_db425 84 = .ok (.aload_n 0, 1) := by decide +kernel
theorem dJ0_init_db425_85 : decode cJ0_init_db425 85 = .ok (.aload_n 3, 1) := by decide +kernel
theorem dJ0_init_db425_86 : decode cJ0_init_db425 86 = .ok (.iconst 0, 1) := by decide +kernel
theorem dJ0_init_db425_87 : decode cJ0_init_db425 87 = .ok (.iload 4, 2) := by decide +kernel
theorem dJ0_init_db425_89 : decode cJ0_init_db425 89 = .ok (.iconst 1, 1) := by decide +kernel
theorem dJ0_init_db425_90 : decode cJ0_init_db425 90 = .ok (.ishl, 1) := by decide +kernel
theorem dJ0_init_db425_91 : decode cJ0_init_db425 91 = .ok (.invokestatic 54, 3) := by decide +kernel
theorem dJ0_init_db425_94 : decode cJ0_init_db425 94 = .ok (.putfield 9, 3) := by decide +kernel
theorem dJ0_init_db425_97 : decode cJ0_init_db425 97 = .ok (.return_, 1) := by decide +kernel
theorem dJ0_init_81219_0 : decode cJ0_init_81219 0 = .ok (.aload_n 0, 1) := by decide +kernel
theorem dJ0_init_81219_1 : decode cJ0_init_81219 1 = .ok (.aload_n 1, 1) := by decide +kernel
theorem dJ0_init_81219_2 : decode cJ0_init_81219 2 = .ok (.aconst_null, 1) := by decide +kernel
theorem dJ0_init_81219_3 : decode cJ0_init_81219 3 = .ok (.invokespecial 489, 3) := by decide +kernel
theorem dJ0_init_81219_6 : decode cJ0_init_81219 6 = .ok (.return_, 1) := by decide +kernel
theorem dJ4_toString_0e30d_0 : decode cJ4_toString_0e30d 0 = .ok (.new 18, 3) := by decide +kernel
theorem dJ4_toString_0e30d_3 : decode cJ4_toString_0e30d 3 = .ok (.dup, 1) := by decide +kernel
theorem dJ4_toString_0e30d_4 : decode cJ4_toString_0e30d 4 = .ok (.aload_n 0, 1) := by decide +kernel
theorem dJ4_toString_0e30d_5 : decode cJ4_toString_0e30d 5 = .ok (.invokespecial 137, 3) := by decide +kernel
theorem dJ4_toString_0e30d_8 : decode cJ4_toString_0e30d 8 = .ok (.areturn, 1) := by decide +kernel
section SITES
variable {p : Program} {l : Launch} {e : Env} {R : Room} {s : State} {m : MethodId} {args : Array Value} {below : List Frame} {meth : Method} {c : Code} {H : Heap} {locs : List Loc} {cells slots : Nat} {Q : State → Prop}
variable {pc : Nat} {ls : Array Slot} {rest : List Value} {D : va_G} {ar : Nat → ClassId} {κ : Nat → Nat} {A : Nat → Prop} {a : Nat} {H0 : Heap} {G : gW} {nz nL : Nat} {cc : ByteArray}
theorem m_5_97 : (Cond.code yJ5_length_8abf5 cJ5_length_8abf5 1 (some .int)) ∈ lwA := lwA_mk (ck_5 _ (List.mem_of_getElem? (i := 97) rfl)) rfl
theorem m_5_96 : (Cond.methodLink RJ4 343 yJ5_length_8abf5) ∈ lwA := lwA_mk (ck_5 _ (List.mem_of_getElem? (i := 96) rfl)) rfl
theorem m_5_91 : (Cond.instanceMethod yJ5_length_8abf5) ∈ lwA := lwA_mk (ck_5 _ (List.mem_of_getElem? (i := 91) rfl)) rfl
theorem m_5_92 : (Cond.sameMethod "java/lang/AbstractStringBuilder" "java/lang/AbstractStringBuilder" "length" "()I") ∈ lwA := lwA_mk (ck_5 _ (List.mem_of_getElem? (i := 92) rfl)) rfl
theorem kS_RJ4_343 {args : Array Value} {s : State} {R rm : Room} (hts : ∀ w ∈ lwA, w.before args s = true) (hR : rm.frames + 1 ≤ R.frames ∧ 8 + (1 + 11) + rm.locals ≤ R.locals) : va_CS R s args RJ4 343 yJ5_length_8abf5 cJ5_length_8abf5 1 (some .int) (lwC yJ5_length_8abf5 cJ5_length_8abf5 1 (some .int)) rm rm.cells rm.slots 0 := va_cwSU 0 hts (gdSU m_5_96 m_5_92 m_4_180 m_5_91 m_1_20 m_5_97) rfl rfl rfl (by decide +kernel) hR
theorem m_5_89 : (Cond.code yJ5_getValue_6d5f1 cJ5_getValue_6d5f1 1 (some (.array .byte))) ∈ lwA := lwA_mk (ck_5 _ (List.mem_of_getElem? (i := 89) rfl)) rfl
theorem m_5_85 : (Cond.methodLink RJ0 552 ⟨"java/lang/AbstractStringBuilder", "getValue", "()[B"⟩) ∈ lwA := lwA_mk (ck_5 _ (List.mem_of_getElem? (i := 85) rfl)) rfl
theorem m_5_86 : (Cond.instanceMethod yJ5_getValue_6d5f1) ∈ lwA := lwA_mk (ck_5 _ (List.mem_of_getElem? (i := 86) rfl)) rfl
theorem m_5_87 : (Cond.sameMethod "java/lang/AbstractStringBuilder" "java/lang/AbstractStringBuilder" "getValue" "()[B") ∈ lwA := lwA_mk (ck_5 _ (List.mem_of_getElem? (i := 87) rfl)) rfl
theorem m_5_88 : (Cond.selects RJ4 ⟨"java/lang/AbstractStringBuilder", "getValue", "()[B"⟩ yJ5_getValue_6d5f1) ∈ lwA := lwA_mk (ck_5 _ (List.mem_of_getElem? (i := 88) rfl)) rfl
theorem kU_RJ0_552 {args : Array Value} {s : State} {R rm : Room} (hts : ∀ w ∈ lwA, w.before args s = true) (hR : rm.frames + 1 ≤ R.frames ∧ 8 + (1 + 11) + rm.locals ≤ R.locals) : va_CU R s args RJ0 RJ4 "java/lang/AbstractStringBuilder" 552 ⟨"java/lang/AbstractStringBuilder", "getValue", "()[B"⟩ yJ5_getValue_6d5f1 cJ5_getValue_6d5f1 1 (some (.array .byte)) (lwC yJ5_getValue_6d5f1 cJ5_getValue_6d5f1 1 (some (.array .byte))) rm rm.cells rm.slots 0 := va_cwU 0 hts (gdU m_5_85 m_5_87 m_5_88 m_5_86 m_1_20 m_5_89) rfl rfl rfl rfl (by decide +kernel) hR
theorem m_5_95 : (Cond.code yJ4_length_8abf5 cJ4_length_8abf5 1 (some .int)) ∈ lwA := lwA_mk (ck_5 _ (List.mem_of_getElem? (i := 95) rfl)) rfl
theorem m_1_21 : (Cond.initialized RJ4) ∈ lwA := lwA_mk (ck_1 _ (List.mem_of_getElem? (i := 21) rfl)) rfl
theorem m_5_90 : (Cond.methodLink RJ0 549 ⟨"java/lang/AbstractStringBuilder", "length", "()I"⟩) ∈ lwA := lwA_mk (ck_5 _ (List.mem_of_getElem? (i := 90) rfl)) rfl
theorem m_5_94 : (Cond.instanceMethod yJ4_length_8abf5) ∈ lwA := lwA_mk (ck_5 _ (List.mem_of_getElem? (i := 94) rfl)) rfl
theorem m_5_93 : (Cond.selects RJ4 ⟨"java/lang/AbstractStringBuilder", "length", "()I"⟩ yJ4_length_8abf5) ∈ lwA := lwA_mk (ck_5 _ (List.mem_of_getElem? (i := 93) rfl)) rfl
theorem kU_RJ0_549 {args : Array Value} {s : State} {R rm : Room} (hts : ∀ w ∈ lwA, w.before args s = true) (hR : rm.frames + 1 ≤ R.frames ∧ 8 + (1 + 11) + rm.locals ≤ R.locals) : va_CU R s args RJ0 RJ4 "java/lang/AbstractStringBuilder" 549 ⟨"java/lang/AbstractStringBuilder", "length", "()I"⟩ yJ4_length_8abf5 cJ4_length_8abf5 1 (some .int) (lwC yJ4_length_8abf5 cJ4_length_8abf5 1 (some .int)) rm rm.cells rm.slots 0 := va_cuX 0 hts m_5_95 m_1_21 m_5_90 m_5_92 m_5_94 m_5_93 (va_Decl.of (hts _ m_5_91) (hts _ m_5_97)) (by decide +kernel) hR
theorem m_5_98 : (Cond.methodLink RJ0 1047 ⟨"java/lang/AbstractStringBuilder", "isLatin1", "()Z"⟩) ∈ lwA := lwA_mk (ck_5 _ (List.mem_of_getElem? (i := 98) rfl)) rfl
theorem kU_RJ0_1047 {args : Array Value} {s : State} {R rm : Room} (hts : ∀ w ∈ lwA, w.before args s = true) (hR : rm.frames + 1 ≤ R.frames ∧ 8 + (1 + 11) + rm.locals ≤ R.locals) : va_CU R s args RJ0 RJ4 "java/lang/AbstractStringBuilder" 1047 ⟨"java/lang/AbstractStringBuilder", "isLatin1", "()Z"⟩ yJ5_isLatin1_aae02 cJ5_isLatin1_aae02 1 (some .boolean) (lwC yJ5_isLatin1_aae02 cJ5_isLatin1_aae02 1 (some .boolean)) rm rm.cells rm.slots 0 := va_cwU 0 hts (gdU m_5_98 m_4_215 m_4_216 m_4_214 m_1_20 m_4_217) rfl rfl rfl rfl (by decide +kernel) hR
theorem m_5_99 : (Cond.methodLink RJ0 54 yJ7_copyOfRange_39247) ∈ lwA := lwA_mk (ck_5 _ (List.mem_of_getElem? (i := 99) rfl)) rfl
theorem k_RJ0_54 {args : Array Value} {s : State} {R rm : Room} (hts : ∀ w ∈ lwA, w.before args s = true) (hR : rm.frames + 1 ≤ R.frames ∧ 8 + (3 + 11) + rm.locals ≤ R.locals) : CallB R s args RJ0 54 yJ7_copyOfRange_39247 cJ7_copyOfRange_39247 3 (some (.array .byte)) (lwC yJ7_copyOfRange_39247 cJ7_copyOfRange_39247 3 (some (.array .byte))) rm rm.cells rm.slots 3 ∧ (Cond.static yJ7_copyOfRange_39247).before args s = true := va_cwS 3 hts (gdT m_5_99 m_5_100 m_1_10 m_5_101) rfl rfl rfl (by decide +kernel) hR
theorem m_5_83 : (Cond.code yJ0_init_db425 cJ0_init_db425 5 none) ∈ lwA := lwA_mk (ck_5 _ (List.mem_of_getElem? (i := 83) rfl)) rfl
theorem m_5_81 : (Cond.methodLink RJ0 489 yJ0_init_db425) ∈ lwA := lwA_mk (ck_5 _ (List.mem_of_getElem? (i := 81) rfl)) rfl
theorem m_5_82 : (Cond.instanceMethod yJ0_init_db425) ∈ lwA := lwA_mk (ck_5 _ (List.mem_of_getElem? (i := 82) rfl)) rfl
theorem k_RJ0_489 {args : Array Value} {s : State} {R rm : Room} (hts : ∀ w ∈ lwA, w.before args s = true) (hR : rm.frames + 1 ≤ R.frames ∧ 8 + (5 + 11) + rm.locals ≤ R.locals) : CallB R s args RJ0 489 yJ0_init_db425 cJ0_init_db425 5 none (lwC yJ0_init_db425 cJ0_init_db425 5 none) rm rm.cells rm.slots 2 ∧ yJ0_init_db425.name = "<init>" ∧ (Cond.instanceMethod yJ0_init_db425).before args s = true := cwI 2 hts (gd m_5_83) rfl rfl rfl (hts _ m_1_17) (hts _ m_5_81) (hts _ m_5_82) rfl (by decide +kernel) hR
theorem m_5_77 : (Cond.classLink RJ4 18 RJ0) ∈ lwA := lwA_mk (ck_5 _ (List.mem_of_getElem? (i := 77) rfl)) rfl
theorem nw_RJ4_18 {A9 : Nat → Prop} {H9 : Heap} (S : CallFix p m c cc nL s args lwA RJ4) (hE : g_E D vwCl (gT ar) (EX1 κ) A9 s H9) (w : g_S D vwCl A H0 G H locs nz) (hcells : cells + 1 ≤ R.cells) (hslots : slots + 4 ≤ R.slots) (hdg : decode cc pc = .ok (.new 18, 3)) (kk : ∀ (H1 : Heap), g_S D vwCl A H0 (g_up G nz (.inr (0, [.null, .int 0, .int 0, .int 0]))) H1 locs (nz + 1) → W p l e R s m args below meth c H1 locs (cells + 1) (slots + 4) Q (F0 m (pc + 3) ls (.ref nz :: rest))) : W p l e R s m args below meth c H locs cells slots Q (F0 m pc ls rest) :=
  g_new (ci := 0) (fs := [.null, .int 0, .int 0, .int 0]) (C := RJ0) (T := TJ0) (N := 4) S.1 S.2.1 S.2.2.2.2 inA_RJ0 tyJ0 tyJ0_ok S.2.2.2.1 (S.2.2.2.2 _ m_5_77) (S.2.2.2.2 _ m_2_132) (S.2.2.2.2 _ m_1_17) hE.1 w rfl (fun j hj => by rcases (show j = 0 ∨ j = 1 ∨ j = 2 ∨ j = 3 by omega) with rfl | rfl | rfl | rfl <;> rfl) hcells hslots hdg kk
theorem m_5_80 : (Cond.code yJ0_init_81219 cJ0_init_81219 2 none) ∈ lwA := lwA_mk (ck_5 _ (List.mem_of_getElem? (i := 80) rfl)) rfl
theorem m_5_78 : (Cond.methodLink RJ4 137 yJ0_init_81219) ∈ lwA := lwA_mk (ck_5 _ (List.mem_of_getElem? (i := 78) rfl)) rfl
theorem m_5_79 : (Cond.instanceMethod yJ0_init_81219) ∈ lwA := lwA_mk (ck_5 _ (List.mem_of_getElem? (i := 79) rfl)) rfl
theorem k_RJ4_137 {args : Array Value} {s : State} {R rm : Room} (hts : ∀ w ∈ lwA, w.before args s = true) (hR : rm.frames + 1 ≤ R.frames ∧ 8 + (2 + 11) + rm.locals ≤ R.locals) : CallB R s args RJ4 137 yJ0_init_81219 cJ0_init_81219 2 none (lwC yJ0_init_81219 cJ0_init_81219 2 none) rm rm.cells rm.slots 1 ∧ yJ0_init_81219.name = "<init>" ∧ (Cond.instanceMethod yJ0_init_81219).before args s = true := cwI 1 hts (gd m_5_80) rfl rfl rfl (hts _ m_1_17) (hts _ m_5_78) (hts _ m_5_79) rfl (by decide +kernel) hR
end SITES
set_option maxHeartbeats 4000000 in
set_option maxRecDepth 100000 in
theorem j_getValue (l : Launch) (D : va_G) (ar : Nat → ClassId) (κ : Nat → Nat) (G : gW) (sz : Nat) (q : Nat) (v : Nat) (ml : Int32) (k0 : Int32) (hq : G q = some (.inr (1, [.ref v, .int 0, .int ml, .int k0]))) : Met l yJ5_getValue_6d5f1 (lwC yJ5_getValue_6d5f1 cJ5_getValue_6d5f1 1 (some (.array .byte))) (rD 1 0 0) (g_Pc D vwCl (gT ar) (EX1 κ) G sz [.ref q]) (g_Qq D vwCl (g_A G sz) (fun r u => r = some v ∧ u = (G, sz))) 0 0 (g_A G sz) := by
  refine g_ofW (by decide +kernel) (Nat.le_of_ble_eq_true rfl) ?_
  intro p e s m below meth c ls S hr hlk hin hE w hl
  have hx := S.1
  have hb := S.2.1
  have hl : lv_has ls 1 [(0, .ref q)] := hl
  have lt_hq : q < sz := g_ltn w hq
  refine lv_aload_n hx hb dJ5_getValue_6d5f1_0 rfl (lv_at hl 0 rfl) ?_
  refine gf_RJ5_15_1 S hE w hq rfl dJ5_getValue_6d5f1_1 ?_
  exact g_qret (r := (some v)) hx hb hr (Or.inr ⟨_, rfl⟩) hlk w (Nat.le_of_ble_eq_true rfl) (Nat.le_of_ble_eq_true rfl) dJ5_getValue_6d5f1_4 ⟨rfl, rfl⟩
set_option maxHeartbeats 4000000 in
set_option maxRecDepth 100000 in
theorem j_ASBlen (l : Launch) (D : va_G) (ar : Nat → ClassId) (κ : Nat → Nat) (G : gW) (sz : Nat) (q : Nat) (v : Nat) (ml : Int32) (k0 : Int32) (hq : G q = some (.inr (1, [.ref v, .int 0, .int ml, .int k0]))) : Met l yJ5_length_8abf5 (lwC yJ5_length_8abf5 cJ5_length_8abf5 1 (some .int)) (rD 1 0 0) (g_Pc D vwCl (gT ar) (EX1 κ) G sz [.ref q]) (g_Qi D vwCl (g_A G sz) (fun r u => r = k0 ∧ u = (G, sz))) 0 0 (g_A G sz) := by
  refine g_ofW (by decide +kernel) (Nat.le_of_ble_eq_true rfl) ?_
  intro p e s m below meth c ls S hr hlk hin hE w hl
  have hx := S.1
  have hb := S.2.1
  have hl : lv_has ls 1 [(0, .ref q)] := hl
  have lt_hq : q < sz := g_ltn w hq
  refine lv_aload_n hx hb dJ5_length_8abf5_0 rfl (lv_at hl 0 rfl) ?_
  refine gf_RJ5_79_1 S hE w hq rfl dJ5_length_8abf5_1 ?_
  exact g_iret hx hb hr hlk w (Nat.le_of_ble_eq_true rfl) (Nat.le_of_ble_eq_true rfl) dJ5_length_8abf5_4 ⟨rfl, rfl⟩
set_option maxHeartbeats 4000000 in
set_option maxRecDepth 100000 in
theorem j_SBlen (l : Launch) (D : va_G) (ar : Nat → ClassId) (κ : Nat → Nat) (G : gW) (sz : Nat) (q : Nat) (v : Nat) (ml : Int32) (k0 : Int32) (hq : G q = some (.inr (1, [.ref v, .int 0, .int ml, .int k0]))) : Met l yJ4_length_8abf5 (lwC yJ4_length_8abf5 cJ4_length_8abf5 1 (some .int)) (rD 2 0 0) (g_Pc D vwCl (gT ar) (EX1 κ) G sz [.ref q]) (g_Qi D vwCl (g_A G sz) (fun r u => r = k0 ∧ u = (G, sz))) 0 0 (g_A G sz) := by
  refine g_ofW (by decide +kernel) (Nat.le_of_ble_eq_true rfl) ?_
  intro p e s m below meth c ls S hr hlk hin hE w hl
  have hx := S.1
  have hb := S.2.1
  have hl : lv_has ls 1 [(0, .ref q)] := hl
  refine lv_aload_n hx hb dJ4_length_8abf5_0 rfl (lv_at hl 0 rfl) ?_
  refine g_calli w (g_runSU (As := []) (rest := []) S hE w hl (j_ASBlen l D ar κ G sz q v ml k0 hq) (kS_RJ4_343 S.2.2.2.2 ⟨Nat.le_of_ble_eq_true rfl, Nat.le_of_ble_eq_true rfl⟩) hq rfl rfl (Nat.le_of_ble_eq_true rfl) dJ4_length_8abf5_1 ⟨Nat.le_of_ble_eq_true rfl, Nat.le_of_ble_eq_true rfl⟩) (fun r u H locs hp hnz w => ?_)
  obtain ⟨hr9, rfl⟩ := hp
  have hr9 := hr9.symm
  subst hr9
  try dsimp only at w
  exact g_iret hx hb hr hlk w (Nat.le_of_ble_eq_true rfl) (Nat.le_of_ble_eq_true rfl) dJ4_length_8abf5_4 ⟨rfl, rfl⟩
set_option maxHeartbeats 4000000 in
set_option maxRecDepth 100000 in
theorem j_Sinit3 (l : Launch) (D : va_G) (ar : Nat → ClassId) (κ : Nat → Nat) (G : gW) (sz : Nat) (o : Nat) (q : Nat) (v : Nat) (cs : List Int32) (ml : Int32) (k9 : Nat) (ho : G o = some (.inr (0, [.null, .int 0, .int 0, .int 0]))) (hq : G q = some (.inr (1, [.ref v, .int 0, .int ml, .int (nI k9)]))) (hv : G v = some (.inl (ar 4, cs.length, .inl (tyF cs)))) (hA : Asc cs) (hk : k9 ≤ cs.length) (hcl : cs.length ≤ 100) : Met l yJ0_init_db425 (lwC yJ0_init_db425 cJ0_init_db425 5 none) (rD 4 1 100) (g_Pc D vwCl (gT ar) (EX1 κ) G sz [.ref o, .ref q, .null]) (g_Qv D vwCl (g_A G sz) (fun u => u = (g_up (g_up G o (.inr (0, [.ref sz, .int 0, .int 0, .int 0]))) sz (.inl (ar 4, (slc cs 0 k9).length, .inl (tyF (slc cs 0 k9)))), sz + 1))) 1 100 (g_A G sz) := by
  refine g_ofW (by decide +kernel) (Nat.le_of_ble_eq_true rfl) ?_
  intro p e s m below meth c ls S hr hlk hin hE w hl
  have hx := S.1
  have hb := S.2.1
  have hl : lv_has ls 5 [(0, .ref o), (1, .ref q), (2, .null)] := hl
  have hfr : ∀ q, sz ≤ q → G q = none := fun q z => g_free w z
  have lt_ho : o < sz := g_ltn w ho
  have lt_hq : q < sz := g_ltn w hq
  have lt_hv : v < sz := g_ltn w hv
  have hoq : o ≠ q := g_nx ho hq (by simp)
  have hov : o ≠ v := g_nx ho hv (by simp)
  refine lv_aload_n hx hb dJ0_init_db425_0 rfl (lv_at hl 0 rfl) ?_
  refine W.objInit hx hb S.2.2.2.1 (S.2.2.2.2 _ m_5_84) (S.2.2.2.2 _ m_1_46) (S.2.2.2.2 _ m_obj) rfl (by rw [S.2.2.1]; exact hl.1) rfl dJ0_init_db425_1 (Nat.le_of_ble_eq_true rfl) (Nat.le_of_ble_eq_true rfl) ?_
  refine W.eq (g2 := F0 m 4 ls []) rfl ?_
  refine lv_aload_n hx hb dJ0_init_db425_4 rfl (lv_at hl 1 rfl) ?_
  refine g_callq w (g_runU (As := []) (rest := []) S hE w hl (j_getValue l D ar κ G sz q v ml (nI k9) hq) (kU_RJ0_552 S.2.2.2.2  ⟨Nat.le_of_ble_eq_true rfl, Nat.le_of_ble_eq_true rfl⟩) (va_recv (ci := 1) hE.1 (g_1 w.1 hq) rfl (q0 := 0) rfl) rfl rfl (Nat.le_of_ble_eq_true rfl) dJ0_init_db425_5 ⟨Nat.le_of_ble_eq_true rfl, Nat.le_of_ble_eq_true rfl⟩) (fun r u H locs hp hnz w => ?_)
  obtain ⟨rfl, rfl⟩ := hp
  try dsimp only at w
  refine lv_astore_n (lv' := [(3, .ref v), (0, .ref o), (1, .ref q), (2, .null)]) hx hb dJ0_init_db425_8 rfl hl (by decide) rfl (fun ls hl => ?_)
  refine lv_aload_n hx hb dJ0_init_db425_9 rfl (lv_at hl 2 rfl) ?_
  refine g_calli w (g_runU (As := []) (rest := []) S hE w hl (j_SBlen l D ar κ G sz q v ml (nI k9) hq) (kU_RJ0_549 S.2.2.2.2  ⟨Nat.le_of_ble_eq_true rfl, Nat.le_of_ble_eq_true rfl⟩) (va_recv (ci := 1) hE.1 (g_1 w.1 hq) rfl (q0 := 0) rfl) rfl rfl (Nat.le_of_ble_eq_true rfl) dJ0_init_db425_10 ⟨Nat.le_of_ble_eq_true rfl, Nat.le_of_ble_eq_true rfl⟩) (fun r u H locs hp hnz w => ?_)
  obtain ⟨hr9, rfl⟩ := hp
  rw [hr9]
  clear hr9
  try dsimp only at w
  refine lv_istore (lv' := [(4, .int (nI k9)), (3, .ref v), (0, .ref o), (1, .ref q), (2, .null)]) hx hb dJ0_init_db425_13 hl (by decide) rfl (fun ls hl => ?_)
  refine lv_aload_n hx hb dJ0_init_db425_15 rfl (lv_at hl 3 rfl) ?_
  refine g_calli w (g_runU (As := []) (rest := []) S hE w hl (j_SBlat l D ar κ G sz q v ml (nI k9) hq) (kU_RJ0_1047 S.2.2.2.2  ⟨Nat.le_of_ble_eq_true rfl, Nat.le_of_ble_eq_true rfl⟩) (va_recv (ci := 1) hE.1 (g_1 w.1 hq) rfl (q0 := 0) rfl) rfl rfl (Nat.le_of_ble_eq_true rfl) dJ0_init_db425_16 ⟨Nat.le_of_ble_eq_true rfl, Nat.le_of_ble_eq_true rfl⟩) (fun r u H locs hp hnz w => ?_)
  obtain ⟨rfl, rfl⟩ := hp
  try dsimp only at w
  refine lv_if_eq (tgt := 41) hx hb dJ0_init_db425_19 (by decide) (fun c => absurd c (by decide)) (fun _ => ?_)
  refine lv_aload_n hx hb dJ0_init_db425_22 rfl (lv_at hl 2 rfl) ?_
  refine lv_iconst (v := 0) hx hb dJ0_init_db425_23 (by decide) ?_
  refine pf_RJ0_15_0 (fs1 := [.null, .int 0, .int 0, .int 0]) S hE hin w ho rfl rfl (Nat.le_of_ble_eq_true rfl) rfl dJ0_init_db425_24 (fun H locs w => ?_)
  refine lv_aload_n hx hb dJ0_init_db425_27 rfl (lv_at hl 2 rfl) ?_
  refine lv_aload_n hx hb dJ0_init_db425_28 rfl (lv_at hl 1 rfl) ?_
  refine lv_iconst (v := 0) hx hb dJ0_init_db425_29 (by decide) ?_
  refine lv_iload hx hb dJ0_init_db425_30 (lv_at hl 0 rfl) ?_
  refine g_callq w (g_runS (As := [.ref v, .int 0, .int (nI k9)]) (rest := [.ref o]) S hE w hl (j_copyOfRange l D ar κ (g_up G o (.inr (0, [.null, .int 0, .int 0, .int 0]))) sz v cs 0 k9 (Or.inl (g_up_o (g_nx hv ho (by simp)) hv)) hA (by omega) (by omega) (by omega) (fun _ _ => (g_up_o (g_nx hv ho (by simp)) hv))) (k_RJ0_54 S.2.2.2.2 ⟨Nat.le_of_ble_eq_true rfl, Nat.le_of_ble_eq_true rfl⟩) rfl rfl (Nat.le_of_ble_eq_true rfl) dJ0_init_db425_32 ⟨Nat.le_of_ble_eq_true rfl, Nat.le_of_ble_eq_true rfl⟩) (fun r u H locs hp hnz w => ?_)
  obtain ⟨rfl, rfl⟩ := hp
  try dsimp only at w
  refine pf_RJ0_9_0 (fs1 := [.ref sz, .int 0, .int 0, .int 0]) S hE hin w (g_up_o (by omega) g_up_s) rfl rfl (Nat.le_of_ble_eq_true rfl) rfl dJ0_init_db425_35 (fun H locs w => ?_)
  have w := g_eqw w (g_inn g_over (by omega))
  refine lv_goto (tgt := 97) hx hb dJ0_init_db425_38 (by decide) ?_
  exact g_vret hx hb hr hlk w (Nat.le_of_ble_eq_true rfl) (Nat.le_of_ble_eq_true rfl) dJ0_init_db425_97 rfl
set_option maxHeartbeats 4000000 in
set_option maxRecDepth 100000 in
theorem j_Sinit2 (l : Launch) (D : va_G) (ar : Nat → ClassId) (κ : Nat → Nat) (G : gW) (sz : Nat) (o : Nat) (q : Nat) (v : Nat) (cs : List Int32) (ml : Int32) (k9 : Nat) (ho : G o = some (.inr (0, [.null, .int 0, .int 0, .int 0]))) (hq : G q = some (.inr (1, [.ref v, .int 0, .int ml, .int (nI k9)]))) (hv : G v = some (.inl (ar 4, cs.length, .inl (tyF cs)))) (hA : Asc cs) (hk : k9 ≤ cs.length) (hcl : cs.length ≤ 100) : Met l yJ0_init_81219 (lwC yJ0_init_81219 cJ0_init_81219 2 none) (rD 5 1 100) (g_Pc D vwCl (gT ar) (EX1 κ) G sz [.ref o, .ref q]) (g_Qv D vwCl (g_A G sz) (fun u => u = (g_up (g_up G o (.inr (0, [.ref sz, .int 0, .int 0, .int 0]))) sz (.inl (ar 4, (slc cs 0 k9).length, .inl (tyF (slc cs 0 k9)))), sz + 1))) 1 100 (g_A G sz) := by
  refine g_ofW (by decide +kernel) (Nat.le_of_ble_eq_true rfl) ?_
  intro p e s m below meth c ls S hr hlk hin hE w hl
  have hx := S.1
  have hb := S.2.1
  have hl : lv_has ls 2 [(0, .ref o), (1, .ref q)] := hl
  have hfr : ∀ q, sz ≤ q → G q = none := fun q z => g_free w z
  have lt_ho : o < sz := g_ltn w ho
  have lt_hq : q < sz := g_ltn w hq
  have lt_hv : v < sz := g_ltn w hv
  have hoq : o ≠ q := g_nx ho hq (by simp)
  have hov : o ≠ v := g_nx ho hv (by simp)
  refine lv_aload_n hx hb dJ0_init_81219_0 rfl (lv_at hl 0 rfl) ?_
  refine lv_aload_n hx hb dJ0_init_81219_1 rfl (lv_at hl 1 rfl) ?_
  refine lv_null hx hb dJ0_init_81219_2 ?_
  refine g_callv w (g_runI (As := [.ref q, .null]) (rest := []) S hE w hl (j_Sinit3 l D ar κ G sz o q v cs ml k9 ho hq hv hA (by omega) (by omega)) (k_RJ0_489 S.2.2.2.2 ⟨Nat.le_of_ble_eq_true rfl, Nat.le_of_ble_eq_true rfl⟩) rfl rfl (Nat.le_of_ble_eq_true rfl) dJ0_init_81219_3 ⟨Nat.le_of_ble_eq_true rfl, Nat.le_of_ble_eq_true rfl⟩) (fun u H locs hp hnz w => ?_)
  obtain rfl := hp
  try dsimp only at w
  exact g_vret hx hb hr hlk w (Nat.le_of_ble_eq_true rfl) (Nat.le_of_ble_eq_true rfl) dJ0_init_81219_6 rfl
set_option maxHeartbeats 4000000 in
set_option maxRecDepth 100000 in
theorem j_toString (l : Launch) (D : va_G) (ar : Nat → ClassId) (κ : Nat → Nat) (G : gW) (sz : Nat) (q : Nat) (v : Nat) (cs : List Int32) (ml : Int32) (k9 : Nat) (hq : G q = some (.inr (1, [.ref v, .int 0, .int ml, .int (nI k9)]))) (hv : G v = some (.inl (ar 4, cs.length, .inl (tyF cs)))) (hA : Asc cs) (hk : k9 ≤ cs.length) (hcl : cs.length ≤ 100) : Met l yJ4_toString_0e30d (lwC yJ4_toString_0e30d cJ4_toString_0e30d 1 (some (.object "java/lang/String"))) (rD 6 2 104) (g_Pc D vwCl (gT ar) (EX1 κ) G sz [.ref q]) (g_Qq D vwCl (g_A G sz) (fun r u => (r = some sz ∧ TX ar κ u.1 sz (sz + 1) (cs.take k9) ∧ gLe G u.1))) 2 104 (g_A G sz) := by
  refine g_ofW (by decide +kernel) (Nat.le_of_ble_eq_true rfl) ?_
  intro p e s m below meth c ls S hr hlk hin hE w hl
  have hx := S.1
  have hb := S.2.1
  have hl : lv_has ls 1 [(0, .ref q)] := hl
  have hfr : ∀ q, sz ≤ q → G q = none := fun q z => g_free w z
  have lt_hq : q < sz := g_ltn w hq
  have lt_hv : v < sz := g_ltn w hv
  refine nw_RJ4_18 S hE w (Nat.le_of_ble_eq_true rfl) (Nat.le_of_ble_eq_true rfl) dJ4_toString_0e30d_0 (fun H w => ?_)
  refine lv_dup hx hb dJ4_toString_0e30d_3 rfl ?_
  refine lv_aload_n hx hb dJ4_toString_0e30d_4 rfl (lv_at hl 0 rfl) ?_
  refine g_callv w (g_runI (As := [.ref q]) (rest := [.ref sz]) S hE w hl (j_Sinit2 l D ar κ (g_up G sz (.inr (0, [.null, .int 0, .int 0, .int 0]))) (sz + 1) sz q v cs ml k9 g_up_s (g_up_o (by omega) hq) (g_up_o (by omega) hv) hA (by omega) (by omega)) (k_RJ4_137 S.2.2.2.2 ⟨Nat.le_of_ble_eq_true rfl, Nat.le_of_ble_eq_true rfl⟩) rfl rfl (Nat.le_of_ble_eq_true rfl) dJ4_toString_0e30d_5 ⟨Nat.le_of_ble_eq_true rfl, Nat.le_of_ble_eq_true rfl⟩) (fun u H locs hp hnz w => ?_)
  obtain rfl := hp
  try dsimp only at w
  have w := g_eqw w (g_cng g_over)
  exact g_qret (r := (some sz)) hx hb hr (Or.inl ⟨_, rfl⟩) hlk w (Nat.le_of_ble_eq_true rfl) (Nat.le_of_ble_eq_true rfl) dJ4_toString_0e30d_8 ⟨rfl, (by rw [← slc_take]; exact Or.inl ⟨⟨0, 0, (g_up_o (by omega) g_up_s)⟩, g_up_s⟩), (gLe.up (gLe.up gLe.r (hfr _ (by omega))) (hfr _ (by omega)))⟩
