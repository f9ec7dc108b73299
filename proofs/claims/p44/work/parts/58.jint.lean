theorem dJxdca23_of_064ba_0 : decode cJxdca23_of_064ba 0 = .ok (.iload_n 0, 1) := by decide +kernel
theorem dJxdca23_of_064ba_1 : decode cJxdca23_of_064ba 1 = .ok (.bipush 8, 2) := by decide +kernel
theorem dJxdca23_of_064ba_3 : decode cJxdca23_of_064ba 3 = .ok (.iushr, 1) := by decide +kernel
theorem dJxdca23_of_064ba_4 : decode cJxdca23_of_064ba 4 = .ok (.ifCond .ne 7, 3) := by decide +kernel
theorem dJxdca23_of_064ba_7 : decode cJxdca23_of_064ba 7 = .ok (.getstatic 13, 3) := by decide +kernel
theorem dJxdca23_of_064ba_10 : decode cJxdca23_of_064ba 10 = .ok (.areturn, 1) := by decide +kernel
theorem dJxdca23_of_064ba_11 : decode cJxdca23_of_064ba 11 = .ok (.iload_n 0, 1) := by decide +kernel
theorem dJxdca23_of_064ba_12 : decode cJxdca23_of_064ba 12 = .ok (.bipush 16, 2) := by decide +kernel
theorem dJxdca23_of_064ba_14 : decode cJxdca23_of_064ba 14 = .ok (.iushr, 1) := by decide +kernel
theorem dJxdca23_of_064ba_15 : decode cJxdca23_of_064ba 15 = .ok (.tableswitch 117 0 16 #[81, 87, 93, 99, 117, 117, 117, 117, 117, 117, 117, 117, 117, 117, 105, 111, 111], 81) := by decide +kernel
theorem dJxdca23_of_064ba_96 : decode cJxdca23_of_064ba 96 = .ok (.getstatic 19, 3) := by decide +kernel
theorem dJxdca23_of_064ba_99 : decode cJxdca23_of_064ba 99 = .ok (.goto 36, 3) := by decide +kernel
theorem dJxdca23_of_064ba_102 : decode cJxdca23_of_064ba 102 = .ok (.getstatic 24, 3) := by decide +kernel
theorem dJxdca23_of_064ba_105 : decode cJxdca23_of_064ba 105 = .ok (.goto 30, 3) := by decide +kernel
theorem dJxdca23_of_064ba_108 : decode cJxdca23_of_064ba 108 = .ok (.getstatic 29, 3) := by decide +kernel
theorem dJxdca23_of_064ba_111 : decode cJxdca23_of_064ba 111 = .ok (.goto 24, 3) := by decide +kernel
theorem dJxdca23_of_064ba_114 : decode cJxdca23_of_064ba 114 = .ok (.getstatic 32, 3) := by decide +kernel
theorem dJxdca23_of_064ba_117 : decode cJxdca23_of_064ba 117 = .ok (.goto 18, 3) := by decide +kernel
theorem dJxdca23_of_064ba_120 : decode cJxdca23_of_064ba 120 = .ok (.getstatic 35, 3) := by decide +kernel
theorem dJxdca23_of_064ba_123 : decode cJxdca23_of_064ba 123 = .ok (.goto 12, 3) := by decide +kernel
theorem dJxdca23_of_064ba_126 : decode cJxdca23_of_064ba 126 = .ok (.getstatic 38, 3) := by decide +kernel
theorem dJxdca23_of_064ba_129 : decode cJxdca23_of_064ba 129 = .ok (.goto 6, 3) := by decide +kernel
theorem dJxdca23_of_064ba_132 : decode cJxdca23_of_064ba 132 = .ok (.getstatic 41, 3) := by decide +kernel
theorem dJxdca23_of_064ba_135 : decode cJxdca23_of_064ba 135 = .ok (.areturn, 1) := by decide +kernel
theorem dJ12_digit_7cf53_0 : decode cJ12_digit_7cf53 0 = .ok (.getstatic 25, 3) := by decide +kernel
theorem dJ12_digit_7cf53_3 : decode cJ12_digit_7cf53 3 = .ok (.iload_n 1, 1) := by decide +kernel
theorem dJ12_digit_7cf53_4 : decode cJ12_digit_7cf53 4 = .ok (.baload, 1) := by decide +kernel
theorem dJ12_digit_7cf53_5 : decode cJ12_digit_7cf53 5 = .ok (.istore_n 3, 1) := by decide +kernel
theorem dJ12_digit_7cf53_6 : decode cJ12_digit_7cf53 6 = .ok (.iload_n 3, 1) := by decide +kernel
theorem dJ12_digit_7cf53_7 : decode cJ12_digit_7cf53 7 = .ok (.ifCond .lt 23, 3) := by decide +kernel
theorem dJ12_digit_7cf53_10 : decode cJ12_digit_7cf53 10 = .ok (.iload_n 3, 1) := by decide +kernel
theorem dJ12_digit_7cf53_11 : decode cJ12_digit_7cf53 11 = .ok (.iload_n 2, 1) := by decide +kernel
theorem dJ12_digit_7cf53_12 : decode cJ12_digit_7cf53 12 = .ok (.if_icmp .ge 18, 3) := by decide +kernel
theorem dJ12_digit_7cf53_15 : decode cJ12_digit_7cf53 15 = .ok (.iload_n 2, 1) := by decide +kernel
theorem dJ12_digit_7cf53_16 : decode cJ12_digit_7cf53 16 = .ok (.iconst 2, 1) := by decide +kernel
theorem dJ12_digit_7cf53_17 : decode cJ12_digit_7cf53 17 = .ok (.if_icmp .lt 13, 3) := by decide +kernel
theorem dJ12_digit_7cf53_20 : decode cJ12_digit_7cf53 20 = .ok (.iload_n 2, 1) := by decide +kernel
theorem dJ12_digit_7cf53_21 : decode cJ12_digit_7cf53 21 = .ok (.bipush 36, 2) := by decide +kernel
theorem dJ12_digit_7cf53_23 : decode cJ12_digit_7cf53 23 = .ok (.if_icmp .gt 7, 3) := by decide +kernel
theorem dJ12_digit_7cf53_26 : decode cJ12_digit_7cf53 26 = .ok (.iload_n 3, 1) := by decide +kernel
theorem dJ12_digit_7cf53_27 : decode cJ12_digit_7cf53 27 = .ok (.goto 4, 3) := by decide +kernel
theorem dJ12_digit_7cf53_30 : decode cJ12_digit_7cf53 30 = .ok (.iconst (-1), 1) := by decide +kernel
theorem dJ12_digit_7cf53_31 : decode cJ12_digit_7cf53 31 = .ok (.ireturn, 1) := by decide +kernel
theorem dJ11_digit_7cf53_0 : decode cJ11_digit_7cf53 0 = .ok (.iload_n 0, 1) := by decide +kernel
theorem dJ11_digit_7cf53_1 : decode cJ11_digit_7cf53 1 = .ok (.invokestatic 158, 3) := by decide +kernel
theorem dJ11_digit_7cf53_4 : decode cJ11_digit_7cf53 4 = .ok (.iload_n 0, 1) := by decide +kernel
theorem dJ11_digit_7cf53_5 : decode cJ11_digit_7cf53 5 = .ok (.iload_n 1, 1) := by decide +kernel
theorem dJ11_digit_7cf53_6 : decode cJ11_digit_7cf53 6 = .ok (.invokevirtual 252, 3) := by decide +kernel
theorem dJ11_digit_7cf53_9 : decode cJ11_digit_7cf53 9 = .ok (.ireturn, 1) := by decide +kernel
theorem dJ11_digit_89a06_0 : decode cJ11_digit_89a06 0 = .ok (.iload_n 0, 1) := by decide +kernel
theorem dJ11_digit_89a06_1 : decode cJ11_digit_89a06 1 = .ok (.iload_n 1, 1) := by decide +kernel
theorem dJ11_digit_89a06_2 : decode cJ11_digit_89a06 2 = .ok (.invokestatic 248, 3) := by decide +kernel
theorem dJ11_digit_89a06_5 : decode cJ11_digit_89a06 5 = .ok (.ireturn, 1) := by decide +kernel
section SITES
variable {p : Program} {l : Launch} {e : Env} {R : Room} {s : State} {m : MethodId} {args : Array Value} {below : List Frame} {meth : Method} {c : Code} {H : Heap} {locs : List Loc} {cells slots : Nat} {Q : State → Prop}
variable {pc : Nat} {ls : Array Slot} {rest : List Value} {D : va_G} {ar : Nat → ClassId} {κ : Nat → Nat} {A : Nat → Prop} {a : Nat} {H0 : Heap} {G : gW} {nz nL : Nat} {cc : ByteArray}
theorem m_6_174 : (Cond.fieldLink RJxdca23 13 "java/lang/CharacterDataLatin1" "instance" "Ljava/lang/CharacterDataLatin1;") ∈ lwA := lwA_mk (ck_6 _ (List.mem_of_getElem? (i := 174) rfl)) rfl
theorem m_6_182 : (Cond.fieldLink RJ12 25 "java/lang/CharacterDataLatin1" "DIGITS" "[B") ∈ lwA := lwA_mk (ck_6 _ (List.mem_of_getElem? (i := 182) rfl)) rfl
theorem m_6_173 : (Cond.code yJxdca23_of_064ba cJxdca23_of_064ba 1 (some (.object "java/lang/CharacterData"))) ∈ lwA := lwA_mk (ck_6 _ (List.mem_of_getElem? (i := 173) rfl)) rfl
theorem m_1_34 : (Cond.initialized RJxdca23) ∈ lwA := lwA_mk (ck_1 _ (List.mem_of_getElem? (i := 34) rfl)) rfl
theorem m_6_171 : (Cond.methodLink RJ11 158 yJxdca23_of_064ba) ∈ lwA := lwA_mk (ck_6 _ (List.mem_of_getElem? (i := 171) rfl)) rfl
theorem m_6_172 : (Cond.static yJxdca23_of_064ba) ∈ lwA := lwA_mk (ck_6 _ (List.mem_of_getElem? (i := 172) rfl)) rfl
theorem k_RJ11_158 {args : Array Value} {s : State} {R rm : Room} (hts : ∀ w ∈ lwA, w.before args s = true) (hR : rm.frames + 1 ≤ R.frames ∧ 8 + (1 + 11) + rm.locals ≤ R.locals) : CallB R s args RJ11 158 yJxdca23_of_064ba cJxdca23_of_064ba 1 (some (.object "java/lang/CharacterData")) (lwC yJxdca23_of_064ba cJxdca23_of_064ba 1 (some (.object "java/lang/CharacterData"))) rm rm.cells rm.slots 1 ∧ (Cond.static yJxdca23_of_064ba).before args s = true := va_cwS 1 hts (gdT m_6_171 m_6_172 m_1_34 m_6_173) rfl rfl rfl (by decide +kernel) hR
theorem m_6_181 : (Cond.code yJ12_digit_7cf53 cJ12_digit_7cf53 4 (some .int)) ∈ lwA := lwA_mk (ck_6 _ (List.mem_of_getElem? (i := 181) rfl)) rfl
theorem m_1_35 : (Cond.initialized RJ12) ∈ lwA := lwA_mk (ck_1 _ (List.mem_of_getElem? (i := 35) rfl)) rfl
theorem m_6_176 : (Cond.methodLink RJ11 252 ⟨"java/lang/CharacterData", "digit", "(II)I"⟩) ∈ lwA := lwA_mk (ck_6 _ (List.mem_of_getElem? (i := 176) rfl)) rfl
theorem m_6_180 : (Cond.instanceMethod yJ12_digit_7cf53) ∈ lwA := lwA_mk (ck_6 _ (List.mem_of_getElem? (i := 180) rfl)) rfl
theorem m_6_179 : (Cond.selects RJ12 ⟨"java/lang/CharacterData", "digit", "(II)I"⟩ yJ12_digit_7cf53) ∈ lwA := lwA_mk (ck_6 _ (List.mem_of_getElem? (i := 179) rfl)) rfl
theorem m_6_178 : (Cond.sameMethod "java/lang/CharacterData" "java/lang/CharacterData" "digit" "(II)I") ∈ lwA := lwA_mk (ck_6 _ (List.mem_of_getElem? (i := 178) rfl)) rfl
theorem kU_RJ11_252 {args : Array Value} {s : State} {R rm : Room} (hts : ∀ w ∈ lwA, w.before args s = true) (hz : va_Nw (.declares ⟨"java/lang/CharacterData", "digit", "(II)I"⟩) s) (hR : rm.frames + 1 ≤ R.frames ∧ 8 + (4 + 11) + rm.locals ≤ R.locals) : va_CU R s args RJ11 RJ12 "java/lang/CharacterData" 252 ⟨"java/lang/CharacterData", "digit", "(II)I"⟩ yJ12_digit_7cf53 cJ12_digit_7cf53 4 (some .int) (lwC yJ12_digit_7cf53 cJ12_digit_7cf53 4 (some .int)) rm rm.cells rm.slots 2 := va_cwA 2 hts (gdU m_6_176 m_6_178 m_6_179 m_6_180 m_1_35 m_6_181) rfl rfl rfl hz (by decide +kernel) hR
theorem m_6_170 : (Cond.code yJ11_digit_7cf53 cJ11_digit_7cf53 2 (some .int)) ∈ lwA := lwA_mk (ck_6 _ (List.mem_of_getElem? (i := 170) rfl)) rfl
theorem m_1_30 : (Cond.initialized RJ11) ∈ lwA := lwA_mk (ck_1 _ (List.mem_of_getElem? (i := 30) rfl)) rfl
theorem m_6_168 : (Cond.methodLink RJ11 248 yJ11_digit_7cf53) ∈ lwA := lwA_mk (ck_6 _ (List.mem_of_getElem? (i := 168) rfl)) rfl
theorem m_6_169 : (Cond.static yJ11_digit_7cf53) ∈ lwA := lwA_mk (ck_6 _ (List.mem_of_getElem? (i := 169) rfl)) rfl
theorem k_RJ11_248 {args : Array Value} {s : State} {R rm : Room} (hts : ∀ w ∈ lwA, w.before args s = true) (hR : rm.frames + 1 ≤ R.frames ∧ 8 + (2 + 11) + rm.locals ≤ R.locals) : CallB R s args RJ11 248 yJ11_digit_7cf53 cJ11_digit_7cf53 2 (some .int) (lwC yJ11_digit_7cf53 cJ11_digit_7cf53 2 (some .int)) rm rm.cells rm.slots 2 ∧ (Cond.static yJ11_digit_7cf53).before args s = true := cwS 2 hts (gdS m_6_168 m_6_169 m_1_30 m_6_170) rfl rfl rfl (by decide +kernel) hR
end SITES
theorem g_runU {p : Program} {l : Launch} {e : Env} {R : Room} {s : State} {m : MethodId} {args : Array Value} {below : List Frame} {meth : Method} {c : Code} {H : Heap} {locs : List Loc} {cells slots mc ms : Nat} {pc : Nat} {ls : Array Slot} {rest st0 : List Value} {D : va_G} {A : Nat → Prop} {nz : Nat} {G : gW} {ar : Nat → ClassId} {κ : Nat → Nat} {cc : ByteArray}
    {x y : MethodName} {bytes : ByteArray} {maxL nL n index b : Nat} {ret : Option FieldType} {rm : Room} {Qc : Array Value → State → Outcome → State → Prop} {free : Addr → Prop} {own C owner : String} {As : List Value} {lv : List (Nat × Value)} (S : CallFix p m c cc nL s args lwA own) (hE : g_E D vwCl (gT ar) (EX1 κ) A s s.heap) (w : g_S D vwCl A s.heap G H locs nz) (hl : lv_has ls nL lv) (hM : Met l y (lwC y bytes maxL ret) rm (g_Pc D vwCl (gT ar) (EX1 κ) G nz (.ref b :: As)) Qc mc ms free) (cw : va_CU R s args own C owner index x y bytes maxL ret (lwC y bytes maxL ret) rm mc ms n)
    (hr : ∃ cell : Cell, H[b]? = some cell ∧ cell.vm.isStatics = false ∧ s.vm.findClass C = some cell.cls) (hn : As.length = n) (hst : st0 = As.reverse ++ .ref b :: rest) (hW : (rest.map fun v => v.category).sum ≤ 8) (hdg : decode cc pc = .ok (.invokevirtual index, 3)) (hf : cells + mc ≤ R.cells ∧ slots + ms ≤ R.slots) :
    va_Run p l e R s m args below meth c H locs cells slots mc ms (F0 m pc ls st0) rest (Qc (Value.ref b :: As).toArray) free :=
  va_runU S hM cw ⟨g_blind (EX1_cl κ), hr, (g_preS (EX1_cl κ) w hE).2⟩ rfl hn hl.1 hst (lv_room hW) hdg hf
set_option maxHeartbeats 4000000 in
set_option maxRecDepth 100000 in
theorem j_of (l : Launch) (D : va_G) (ar : Nat → ClassId) (κ : Nat → Nat) (G : gW) (sz : Nat) (k0 : Nat) (h1 : 48 ≤ k0) (h2 : k0 < 58) : Met l yJxdca23_of_064ba (lwC yJxdca23_of_064ba cJxdca23_of_064ba 1 (some (.object "java/lang/CharacterData"))) (rD 1 0 0) (g_Pc D vwCl (gT ar) (EX1 κ) G sz [.int (nI k0)]) (g_Qq D vwCl (g_A G sz) (fun r u => r = some (κ 5) ∧ u = (G, sz))) 0 0 (g_A G sz) := by
  refine g_ofW (by decide +kernel) (Nat.le_of_ble_eq_true rfl) ?_
  intro p e s m below meth c ls S hr hlk hin hE w hl
  have hx := S.1
  have hb := S.2.1
  have hl : lv_has ls 1 [(0, .int (nI k0))] := hl
  refine lv_iload_n hx hb dJxdca23_of_064ba_0 rfl (lv_at hl 0 rfl) ?_
  refine lv_bipush (v := 8) hx hb dJxdca23_of_064ba_1 (by decide) ?_
  refine lv_iushr (v := 0) hx hb dJxdca23_of_064ba_3 (by rw [pk_ushrN (by omega) 8 8 (by decide), show k0 / 2 ^ 8 = 0 by omega]; rfl) ?_
  refine lv_if_ne (tgt := 11) hx hb dJxdca23_of_064ba_4 (by decide) (fun c => absurd (by decide) c) (fun _ => ?_)
  refine va_gets hx hb hE.2.2.2.2.2.2.2.2.1.1 w.2.2.1 S.2.2.2.1 (S.2.2.2.2 _ m_6_174) (fun _ h => h) dJxdca23_of_064ba_7 ?_
  exact g_qret (r := (some (κ 5))) hx hb hr (Or.inl ⟨_, rfl⟩) hlk w (Nat.le_of_ble_eq_true rfl) (Nat.le_of_ble_eq_true rfl) dJxdca23_of_064ba_10 ⟨rfl, rfl⟩
set_option maxHeartbeats 4000000 in
set_option maxRecDepth 100000 in
theorem j_digitL1 (l : Launch) (D : va_G) (ar : Nat → ClassId) (κ : Nat → Nat) (G : gW) (sz : Nat) (k0 : Nat) (h1 : 48 ≤ k0) (h2 : k0 < 58) : Met l yJ12_digit_7cf53 (lwC yJ12_digit_7cf53 cJ12_digit_7cf53 4 (some .int)) (rD 1 0 0) (g_Pc D vwCl (gT ar) (EX1 κ) G sz [.ref (κ 5), .int (nI k0), .int 10]) (g_Qi D vwCl (g_A G sz) (fun r u => r = nI (k0 - 48) ∧ u = (G, sz))) 0 0 (g_A G sz) := by
  refine g_ofW (by decide +kernel) (Nat.le_of_ble_eq_true rfl) ?_
  intro p e s m below meth c ls S hr hlk hin hE w hl
  have hx := S.1
  have hb := S.2.1
  have hl : lv_has ls 4 [(0, .ref (κ 5)), (1, .int (nI k0)), (2, .int 10)] := hl
  refine va_gets hx hb hE.2.2.2.2.2.2.2.2.2.1.1 w.2.2.1 S.2.2.2.1 (S.2.2.2.2 _ m_6_182) (fun _ h => h) dJ12_digit_7cf53_0 ?_
  refine lv_iload_n hx hb dJ12_digit_7cf53_3 rfl (lv_at hl 1 rfl) ?_
  refine va_tb (v := .int (dgN.getD k0 0)) hx hb hE.2.2.2.2.2.2.2.2.2.1.2 w.2.2.1 (vp_in_nI (n := k0) (by omega) (by decide)) (by rw [nI_clamp (by omega)]) dJ12_digit_7cf53_4 ?_
  rw [dg_e k0 h1 h2]
  refine lv_istore_n (lv' := [(3, .int (nI (k0 - 48))), (0, .ref (κ 5)), (1, .int (nI k0)), (2, .int 10)]) hx hb dJ12_digit_7cf53_5 rfl hl (by decide) rfl (fun ls hl => ?_)
  refine lv_iload_n hx hb dJ12_digit_7cf53_6 rfl (lv_at hl 0 rfl) ?_
  refine lv_if_lt (tgt := 30) hx hb dJ12_digit_7cf53_7 (by decide) (fun c_7 => absurd c_7 (nI_pos (by omega))) (fun c_7 => ?_)
  refine lv_iload_n hx hb dJ12_digit_7cf53_10 rfl (lv_at hl 0 rfl) ?_
  refine lv_iload_n hx hb dJ12_digit_7cf53_11 rfl (lv_at hl 3 rfl) ?_
  refine lv_icmp_ge (tgt := 30) hx hb dJ12_digit_7cf53_12 (by decide) (fun c_12 => absurd c_12 (nI_ge (a := k0 - 48) (b := 10) (by omega) (by decide))) (fun c_12 => ?_)
  refine lv_iload_n hx hb dJ12_digit_7cf53_15 rfl (lv_at hl 3 rfl) ?_
  refine lv_iconst (v := 2) hx hb dJ12_digit_7cf53_16 (by decide) ?_
  refine lv_icmp_lt (tgt := 30) hx hb dJ12_digit_7cf53_17 (by decide) (fun c => absurd c (by decide)) (fun _ => ?_)
  refine lv_iload_n hx hb dJ12_digit_7cf53_20 rfl (lv_at hl 3 rfl) ?_
  refine lv_bipush (v := 36) hx hb dJ12_digit_7cf53_21 (by decide) ?_
  refine lv_icmp_gt (tgt := 30) hx hb dJ12_digit_7cf53_23 (by decide) (fun c => absurd c (by decide)) (fun _ => ?_)
  refine lv_iload_n hx hb dJ12_digit_7cf53_26 rfl (lv_at hl 0 rfl) ?_
  refine lv_goto (tgt := 31) hx hb dJ12_digit_7cf53_27 (by decide) ?_
  exact g_iret hx hb hr hlk w (Nat.le_of_ble_eq_true rfl) (Nat.le_of_ble_eq_true rfl) dJ12_digit_7cf53_31 ⟨rfl, rfl⟩
set_option maxHeartbeats 4000000 in
set_option maxRecDepth 100000 in
theorem j_digit2 (l : Launch) (D : va_G) (ar : Nat → ClassId) (κ : Nat → Nat) (G : gW) (sz : Nat) (k0 : Nat) (h1 : 48 ≤ k0) (h2 : k0 < 58) : Met l yJ11_digit_7cf53 (lwC yJ11_digit_7cf53 cJ11_digit_7cf53 2 (some .int)) (rD 2 0 0) (g_Pc D vwCl (gT ar) (EX1 κ) G sz [.int (nI k0), .int 10]) (g_Qi D vwCl (g_A G sz) (fun r u => r = nI (k0 - 48) ∧ u = (G, sz))) 0 0 (g_A G sz) := by
  refine g_ofW (by decide +kernel) (Nat.le_of_ble_eq_true rfl) ?_
  intro p e s m below meth c ls S hr hlk hin hE w hl
  have hx := S.1
  have hb := S.2.1
  have hl : lv_has ls 2 [(0, .int (nI k0)), (1, .int 10)] := hl
  refine lv_iload_n hx hb dJ11_digit_7cf53_0 rfl (lv_at hl 0 rfl) ?_
  refine g_callq w (g_runS (As := [.int (nI k0)]) (rest := []) S hE w hl (j_of l D ar κ G sz k0 (by omega) (by omega)) (k_RJ11_158 S.2.2.2.2 ⟨Nat.le_of_ble_eq_true rfl, Nat.le_of_ble_eq_true rfl⟩) rfl rfl (Nat.le_of_ble_eq_true rfl) dJ11_digit_7cf53_1 ⟨Nat.le_of_ble_eq_true rfl, Nat.le_of_ble_eq_true rfl⟩) (fun r u H locs hp hnz w => ?_)
  obtain ⟨rfl, rfl⟩ := hp
  try dsimp only at w
  refine lv_iload_n hx hb dJ11_digit_7cf53_4 rfl (lv_at hl 0 rfl) ?_
  refine lv_iload_n hx hb dJ11_digit_7cf53_5 rfl (lv_at hl 1 rfl) ?_
  refine g_calli w (g_runU (As := [.int (nI k0), .int 10]) (rest := []) S hE w hl (j_digitL1 l D ar κ G sz k0 (by omega) (by omega)) (kU_RJ11_252 S.2.2.2.2 (hE.2.1.1 _ (ckN_1 _ (List.mem_of_getElem? (i := 26) rfl))) ⟨Nat.le_of_ble_eq_true rfl, Nat.le_of_ble_eq_true rfl⟩) (g_out hE.2.2.2.2.2.2.2.2.1.2 w) rfl rfl (Nat.le_of_ble_eq_true rfl) dJ11_digit_7cf53_6 ⟨Nat.le_of_ble_eq_true rfl, Nat.le_of_ble_eq_true rfl⟩) (fun r u H locs hp hnz w => ?_)
  obtain ⟨rfl, rfl⟩ := hp
  try dsimp only at w
  exact g_iret hx hb hr hlk w (Nat.le_of_ble_eq_true rfl) (Nat.le_of_ble_eq_true rfl) dJ11_digit_7cf53_9 ⟨rfl, rfl⟩
set_option maxHeartbeats 4000000 in
set_option maxRecDepth 100000 in
theorem j_digit1 (l : Launch) (D : va_G) (ar : Nat → ClassId) (κ : Nat → Nat) (G : gW) (sz : Nat) (k0 : Nat) (h1 : 48 ≤ k0) (h2 : k0 < 58) : Met l yJ11_digit_89a06 (lwC yJ11_digit_89a06 cJ11_digit_89a06 2 (some .int)) (rD 3 0 0) (g_Pc D vwCl (gT ar) (EX1 κ) G sz [.int (nI k0), .int 10]) (g_Qi D vwCl (g_A G sz) (fun r u => r = nI (k0 - 48) ∧ u = (G, sz))) 0 0 (g_A G sz) := by
  refine g_ofW (by decide +kernel) (Nat.le_of_ble_eq_true rfl) ?_
  intro p e s m below meth c ls S hr hlk hin hE w hl
  have hx := S.1
  have hb := S.2.1
  have hl : lv_has ls 2 [(0, .int (nI k0)), (1, .int 10)] := hl
  refine lv_iload_n hx hb dJ11_digit_89a06_0 rfl (lv_at hl 0 rfl) ?_
  refine lv_iload_n hx hb dJ11_digit_89a06_1 rfl (lv_at hl 1 rfl) ?_
  refine g_calli w (g_runS (As := [.int (nI k0), .int 10]) (rest := []) S hE w hl (j_digit2 l D ar κ G sz k0 (by omega) (by omega)) (k_RJ11_248 S.2.2.2.2 ⟨Nat.le_of_ble_eq_true rfl, Nat.le_of_ble_eq_true rfl⟩) rfl rfl (Nat.le_of_ble_eq_true rfl) dJ11_digit_89a06_2 ⟨Nat.le_of_ble_eq_true rfl, Nat.le_of_ble_eq_true rfl⟩) (fun r u H locs hp hnz w => ?_)
  obtain ⟨rfl, rfl⟩ := hp
  try dsimp only at w
  exact g_iret hx hb hr hlk w (Nat.le_of_ble_eq_true rfl) (Nat.le_of_ble_eq_true rfl) dJ11_digit_89a06_5 ⟨rfl, rfl⟩
