theorem dL_cell_0 : decode cL_cell 0 = .ok (.sipush 12345, 3) := by decide +kernel
theorem dL_cell_3 : decode cL_cell 3 = .ok (.bipush 31, 2) := by decide +kernel
theorem dL_cell_5 : decode cL_cell 5 = .ok (.aload_n 0, 1) := by decide +kernel
theorem dL_cell_6 : decode cL_cell 6 = .ok (.arraylength, 1) := by decide +kernel
theorem dL_cell_7 : decode cL_cell 7 = .ok (.imul, 1) := by decide +kernel
theorem dL_cell_8 : decode cL_cell 8 = .ok (.iadd, 1) := by decide +kernel
theorem dL_cell_9 : decode cL_cell 9 = .ok (.istore_n 2, 1) := by decide +kernel
theorem dL_cell_10 : decode cL_cell 10 = .ok (.aload_n 0, 1) := by decide +kernel
theorem dL_cell_11 : decode cL_cell 11 = .ok (.astore_n 3, 1) := by decide +kernel
theorem dL_cell_12 : decode cL_cell 12 = .ok (.aload_n 3, 1) := by decide +kernel
theorem dL_cell_13 : decode cL_cell 13 = .ok (.arraylength, 1) := by decide +kernel
theorem dL_cell_14 : decode cL_cell 14 = .ok (.istore 4, 2) := by decide +kernel
theorem dL_cell_16 : decode cL_cell 16 = .ok (.iconst 0, 1) := by decide +kernel
theorem dL_cell_17 : decode cL_cell 17 = .ok (.istore 5, 2) := by decide +kernel
theorem dL_cell_19 : decode cL_cell 19 = .ok (.iload 5, 2) := by decide +kernel
theorem dL_cell_21 : decode cL_cell 21 = .ok (.iload 4, 2) := by decide +kernel
theorem dL_cell_23 : decode cL_cell 23 = .ok (.if_icmp .ge 26, 3) := by decide +kernel
theorem dL_cell_26 : decode cL_cell 26 = .ok (.aload_n 3, 1) := by decide +kernel
theorem dL_cell_27 : decode cL_cell 27 = .ok (.iload 5, 2) := by decide +kernel
theorem dL_cell_29 : decode cL_cell 29 = .ok (.iaload, 1) := by decide +kernel
theorem dL_cell_30 : decode cL_cell 30 = .ok (.istore 6, 2) := by decide +kernel
theorem dL_cell_32 : decode cL_cell 32 = .ok (.iload_n 2, 1) := by decide +kernel
theorem dL_cell_33 : decode cL_cell 33 = .ok (.iload 6, 2) := by decide +kernel
theorem dL_cell_35 : decode cL_cell 35 = .ok (.ixor, 1) := by decide +kernel
theorem dL_cell_36 : decode cL_cell 36 = .ok (.ldc 7, 2) := by decide +kernel
theorem dL_cell_38 : decode cL_cell 38 = .ok (.imul, 1) := by decide +kernel
theorem dL_cell_39 : decode cL_cell 39 = .ok (.bipush 7, 2) := by decide +kernel
theorem dL_cell_41 : decode cL_cell 41 = .ok (.iadd, 1) := by decide +kernel
theorem dL_cell_42 : decode cL_cell 42 = .ok (.istore_n 2, 1) := by decide +kernel
theorem dL_cell_43 : decode cL_cell 43 = .ok (.iinc 5 1, 3) := by decide +kernel
theorem dL_cell_46 : decode cL_cell 46 = .ok (.goto (-27), 3) := by decide +kernel
theorem dL_cell_49 : decode cL_cell 49 = .ok (.iload_n 2, 1) := by decide +kernel
theorem dL_cell_50 : decode cL_cell 50 = .ok (.bipush 7, 2) := by decide +kernel
theorem dL_cell_52 : decode cL_cell 52 = .ok (.iushr, 1) := by decide +kernel
theorem dL_cell_53 : decode cL_cell 53 = .ok (.iconst 3, 1) := by decide +kernel
theorem dL_cell_54 : decode cL_cell 54 = .ok (.iand, 1) := by decide +kernel
theorem dL_cell_55 : decode cL_cell 55 = .ok (.ifCond .ne 24, 3) := by decide +kernel
theorem dL_cell_58 : decode cL_cell 58 = .ok (.iload_n 1, 1) := by decide +kernel
theorem dL_cell_59 : decode cL_cell 59 = .ok (.aload_n 0, 1) := by decide +kernel
theorem dL_cell_60 : decode cL_cell 60 = .ok (.arraylength, 1) := by decide +kernel
theorem dL_cell_61 : decode cL_cell 61 = .ok (.if_icmp .ge 9, 3) := by decide +kernel
theorem dL_cell_64 : decode cL_cell 64 = .ok (.aload_n 0, 1) := by decide +kernel
theorem dL_cell_65 : decode cL_cell 65 = .ok (.iload_n 1, 1) := by decide +kernel
theorem dL_cell_66 : decode cL_cell 66 = .ok (.iaload, 1) := by decide +kernel
theorem dL_cell_67 : decode cL_cell 67 = .ok (.goto 11, 3) := by decide +kernel
theorem dL_cell_70 : decode cL_cell 70 = .ok (.sipush 7919, 3) := by decide +kernel
theorem dL_cell_73 : decode cL_cell 73 = .ok (.iload_n 1, 1) := by decide +kernel
theorem dL_cell_74 : decode cL_cell 74 = .ok (.imul, 1) := by decide +kernel
theorem dL_cell_75 : decode cL_cell 75 = .ok (.bipush 12, 2) := by decide +kernel
theorem dL_cell_77 : decode cL_cell 77 = .ok (.iadd, 1) := by decide +kernel
theorem dL_cell_78 : decode cL_cell 78 = .ok (.ireturn, 1) := by decide +kernel
theorem dL_cell_79 : decode cL_cell 79 = .ok (.iload_n 2, 1) := by decide +kernel
theorem dL_cell_80 : decode cL_cell 80 = .ok (.ldc 8, 2) := by decide +kernel
theorem dL_cell_82 : decode cL_cell 82 = .ok (.iload_n 1, 1) := by decide +kernel
theorem dL_cell_83 : decode cL_cell 83 = .ok (.sipush 1009, 3) := by decide +kernel
theorem dL_cell_86 : decode cL_cell 86 = .ok (.iadd, 1) := by decide +kernel
theorem dL_cell_87 : decode cL_cell 87 = .ok (.imul, 1) := by decide +kernel
theorem dL_cell_88 : decode cL_cell 88 = .ok (.ixor, 1) := by decide +kernel
theorem dL_cell_89 : decode cL_cell 89 = .ok (.istore_n 3, 1) := by decide +kernel
theorem dL_cell_90 : decode cL_cell 90 = .ok (.iload_n 3, 1) := by decide +kernel
theorem dL_cell_91 : decode cL_cell 91 = .ok (.iload_n 3, 1) := by decide +kernel
theorem dL_cell_92 : decode cL_cell 92 = .ok (.bipush 13, 2) := by decide +kernel
theorem dL_cell_94 : decode cL_cell 94 = .ok (.iushr, 1) := by decide +kernel
theorem dL_cell_95 : decode cL_cell 95 = .ok (.ixor, 1) := by decide +kernel
theorem dL_cell_96 : decode cL_cell 96 = .ok (.ldc 9, 2) := by decide +kernel
theorem dL_cell_98 : decode cL_cell 98 = .ok (.imul, 1) := by decide +kernel
theorem dL_cell_99 : decode cL_cell 99 = .ok (.istore_n 3, 1) := by decide +kernel
theorem dL_cell_100 : decode cL_cell 100 = .ok (.iload_n 3, 1) := by decide +kernel
theorem dL_cell_101 : decode cL_cell 101 = .ok (.iload_n 3, 1) := by decide +kernel
theorem dL_cell_102 : decode cL_cell 102 = .ok (.bipush 16, 2) := by decide +kernel
theorem dL_cell_104 : decode cL_cell 104 = .ok (.iushr, 1) := by decide +kernel
theorem dL_cell_105 : decode cL_cell 105 = .ok (.ixor, 1) := by decide +kernel
theorem dL_cell_106 : decode cL_cell 106 = .ok (.ireturn, 1) := by decide +kernel
theorem dL_chosen_0 : decode cL_chosen 0 = .ok (.iload_n 0, 1) := by decide +kernel
theorem dL_chosen_1 : decode cL_chosen 1 = .ok (.ldc 10, 2) := by decide +kernel
theorem dL_chosen_3 : decode cL_chosen 3 = .ok (.iand, 1) := by decide +kernel
theorem dL_chosen_4 : decode cL_chosen 4 = .ok (.iload_n 1, 1) := by decide +kernel
theorem dL_chosen_5 : decode cL_chosen 5 = .ok (.irem, 1) := by decide +kernel
theorem dL_chosen_6 : decode cL_chosen 6 = .ok (.ireturn, 1) := by decide +kernel
theorem dL_compiles_0 : decode cL_compiles 0 = .ok (.iload_n 1, 1) := by decide +kernel
theorem dL_compiles_1 : decode cL_compiles 1 = .ok (.iconst 3, 1) := by decide +kernel
theorem dL_compiles_2 : decode cL_compiles 2 = .ok (.irem, 1) := by decide +kernel
theorem dL_compiles_3 : decode cL_compiles 3 = .ok (.ifCond .ne 16, 3) := by decide +kernel
theorem dL_compiles_6 : decode cL_compiles 6 = .ok (.aload_n 0, 1) := by decide +kernel
theorem dL_compiles_7 : decode cL_compiles 7 = .ok (.iload_n 1, 1) := by decide +kernel
theorem dL_compiles_8 : decode cL_compiles 8 = .ok (.iconst 3, 1) := by decide +kernel
theorem dL_compiles_9 : decode cL_compiles 9 = .ok (.idiv, 1) := by decide +kernel
theorem dL_compiles_10 : decode cL_compiles 10 = .ok (.iconst 4, 1) := by decide +kernel
theorem dL_compiles_11 : decode cL_compiles 11 = .ok (.irem, 1) := by decide +kernel
theorem dL_compiles_12 : decode cL_compiles 12 = .ok (.invokestatic 264, 3) := by decide +kernel
theorem dL_compiles_15 : decode cL_compiles 15 = .ok (.pop2, 1) := by decide +kernel
theorem dL_compiles_16 : decode cL_compiles 16 = .ok (.goto 20, 3) := by decide +kernel
theorem dL_compiles_19 : decode cL_compiles 19 = .ok (.aload_n 0, 1) := by decide +kernel
theorem dL_compiles_20 : decode cL_compiles 20 = .ok (.iload_n 1, 1) := by decide +kernel
theorem dL_compiles_21 : decode cL_compiles 21 = .ok (.iconst 3, 1) := by decide +kernel
theorem dL_compiles_22 : decode cL_compiles 22 = .ok (.idiv, 1) := by decide +kernel
theorem dL_compiles_23 : decode cL_compiles 23 = .ok (.bipush 6, 2) := by decide +kernel
theorem dL_compiles_25 : decode cL_compiles 25 = .ok (.irem, 1) := by decide +kernel
theorem dL_compiles_26 : decode cL_compiles 26 = .ok (.iload_n 1, 1) := by decide +kernel
theorem dL_compiles_27 : decode cL_compiles 27 = .ok (.bipush 18, 2) := by decide +kernel
theorem dL_compiles_29 : decode cL_compiles 29 = .ok (.idiv, 1) := by decide +kernel
theorem dL_compiles_30 : decode cL_compiles 30 = .ok (.iconst 4, 1) := by decide +kernel
theorem dL_compiles_31 : decode cL_compiles 31 = .ok (.irem, 1) := by decide +kernel
theorem dL_compiles_32 : decode cL_compiles 32 = .ok (.invokestatic 266, 3) := by decide +kernel
theorem dL_compiles_35 : decode cL_compiles 35 = .ok (.pop2, 1) := by decide +kernel
theorem dL_compiles_36 : decode cL_compiles 36 = .ok (.return_, 1) := by decide +kernel
section SITES
variable {p : Program} {l : Launch} {e : Env} {R : Room} {s : State} {m : MethodId} {args : Array Value} {below : List Frame} {meth : Method} {c : Code} {H : Heap} {locs : List Loc} {cells slots : Nat} {Q : State → Prop}
variable {pc : Nat} {ls : Array Slot} {rest : List Value} {D : va_G} {ar : Nat → ClassId} {κ : Nat → Nat} {A : Nat → Prop} {a : Nat} {H0 : Heap} {G : gW} {nz nL : Nat} {cc : ByteArray}
theorem m_2_49 : (Cond.constant RL 8 (69069)) ∈ lwA := lwA_mk (ck_2 _ (List.mem_of_getElem? (i := 49) rfl)) rfl
theorem m_2_50 : (Cond.constant RL 9 (1103515245)) ∈ lwA := lwA_mk (ck_2 _ (List.mem_of_getElem? (i := 50) rfl)) rfl
theorem m_2_48 : (Cond.constant RL 7 (16777619)) ∈ lwA := lwA_mk (ck_2 _ (List.mem_of_getElem? (i := 48) rfl)) rfl
theorem m_2_54 : (Cond.constant RL 10 (2147483647)) ∈ lwA := lwA_mk (ck_2 _ (List.mem_of_getElem? (i := 54) rfl)) rfl
theorem m_7_140 : (Cond.codeWith yL_compile cL_compile 4 (some .long) [(0, 7, 8, 17), (0, 7, 13, 52)]) ∈ lwA := lwA_mk (ck_7 _ (List.mem_of_getElem? (i := 140) rfl)) rfl
theorem m_7_138 : (Cond.methodLink RL 266 yL_compile) ∈ lwA := lwA_mk (ck_7 _ (List.mem_of_getElem? (i := 138) rfl)) rfl
theorem m_7_139 : (Cond.static yL_compile) ∈ lwA := lwA_mk (ck_7 _ (List.mem_of_getElem? (i := 139) rfl)) rfl
theorem kW_266 {args : Array Value} {s : State} {R rm : Room} (hts : ∀ w ∈ lwA, w.before args s = true) (hR : rm.frames + 1 ≤ R.frames ∧ 8 + (4 + 11) + rm.locals ≤ R.locals) : vx_CSW R s args RL 266 yL_compile cL_compile 4 (some .long) [(0, 7, 8, 17), (0, 7, 13, 52)] (lwCW yL_compile cL_compile 4 (some .long) [(0, 7, 8, 17), (0, 7, 13, 52)]) rm rm.cells rm.slots 3 := vx_cwSW 3 hts (gdT m_7_138 m_7_139 m_1_0 m_7_140) rfl rfl rfl (by decide +kernel) hR
theorem m_7_133 : (Cond.codeWith yL_hot cL_hot 3 (some .long) [(0, 6, 7, 23)]) ∈ lwA := lwA_mk (ck_7 _ (List.mem_of_getElem? (i := 133) rfl)) rfl
theorem m_7_131 : (Cond.methodLink RL 264 yL_hot) ∈ lwA := lwA_mk (ck_7 _ (List.mem_of_getElem? (i := 131) rfl)) rfl
theorem m_7_132 : (Cond.static yL_hot) ∈ lwA := lwA_mk (ck_7 _ (List.mem_of_getElem? (i := 132) rfl)) rfl
theorem kW_264 {args : Array Value} {s : State} {R rm : Room} (hts : ∀ w ∈ lwA, w.before args s = true) (hR : rm.frames + 1 ≤ R.frames ∧ 8 + (3 + 11) + rm.locals ≤ R.locals) : vx_CSW R s args RL 264 yL_hot cL_hot 3 (some .long) [(0, 6, 7, 23)] (lwCW yL_hot cL_hot 3 (some .long) [(0, 6, 7, 23)]) rm rm.cells rm.slots 2 := vx_cwSW 2 hts (gdT m_7_131 m_7_132 m_1_0 m_7_133) rfl rfl rfl (by decide +kernel) hR
end SITES
theorem nI_nle9 {a b : Nat} (h : ¬ nI a ≤ nI b) (hb : b < 2 ^ 31) : b < a := by
  rcases Nat.lt_or_ge b a with q | q
  · exact q
  · exact absurd (nI_le q hb) h
def EXs (κ : Nat → Nat) (b L : Nat) (xs : Nat → Int32) (A : Nat → Prop) (U : State) (H : Heap) : Prop := EX1 κ A U H ∧ va_T .int b L (fun j => .int (xs j)) A U H
theorem EXs_cl (κ : Nat → Nat) (b L : Nat) (xs : Nat → Int32) : g_cl (EXs κ b L xs) :=
  ⟨fun A s U H hW h => ⟨(EX1_cl κ).1 A s U H hW h.1, h.2.moved hW.alike⟩, fun A U H H1 h hk => ⟨(EX1_cl κ).2.1 A U H H1 h.1 hk, h.2.kept hk⟩, fun A B U H h hAB => ⟨(EX1_cl κ).2.2 A B U H h.1 hAB, h.2.narrow hAB⟩⟩
section SE
variable {p : Program} {l : Launch} {e : Env} {R : Room} {s : State} {m : MethodId} {args : Array Value} {below : List Frame} {meth : Method} {c : Code} {H : Heap} {locs : List Loc} {cells slots mc ms : Nat} {pc : Nat} {ls : Array Slot} {rest st0 : List Value} {D : va_G} {A : Nat → Prop} {nz : Nat} {G : gW} {ar : Nat → ClassId} {cc : ByteArray}
theorem g_runSE {EX : (Nat → Prop) → State → Heap → Prop} {y : MethodName} {bytes : ByteArray} {maxL nL n index : Nat} {ret : Option FieldType} {rm : Room} {Qc : Array Value → State → Outcome → State → Prop} {free : Addr → Prop} {own : String} {As : List Value} {lv : List (Nat × Value)} (hcl : g_cl EX) (S : CallFix p m c cc nL s args lwA own) (hE : g_E D vwCl (gT ar) EX A s s.heap) (w : g_S D vwCl A s.heap G H locs nz) (hl : lv_has ls nL lv) (hM : Met l y (lwC y bytes maxL ret) rm (g_Pc D vwCl (gT ar) EX G nz As) Qc mc ms free) (cw : CallB R s args own index y bytes maxL ret (lwC y bytes maxL ret) rm mc ms n ∧ (Cond.static y).before args s = true)
    (hn : As.length = n) (hst : st0 = As.reverse ++ rest) (hW : (rest.map fun v => v.category).sum ≤ 8) (hdg : decode cc pc = .ok (.invokestatic index, 3)) (hf : cells + mc ≤ R.cells ∧ slots + ms ≤ R.slots) :
    va_Run p l e R s m args below meth c H locs cells slots mc ms (F0 m pc ls st0) rest (Qc As.toArray) free :=
  va_runS S hM cw (g_preS hcl w hE) rfl hn hl.1 hst (lv_room hW) hdg hf
end SE
set_option maxHeartbeats 4000000 in
set_option maxRecDepth 100000 in
theorem hL_cell (l : Launch) (D : va_G) (ar : Nat → ClassId) (κ : Nat → Nat) (G : gW) (sz b L : Nat) (xs : Nat → Int32) (k9 : Nat) (hL : L ≤ 260) (hk9 : k9 < 100) : Met l yL_cell (lwC yL_cell cL_cell 7 (some .int)) (rD 2 0 0) (g_Pc D vwCl (gT ar) (EXs κ b L xs) G sz [.ref b, .int (nI k9)]) (g_Qi D vwCl (g_A G sz) (fun r u => u = (G, sz))) 0 0 (g_A G sz) := by
  refine g_ofW (by decide +kernel) (Nat.le_of_ble_eq_true rfl) ?_
  intro p e s m below meth c ls S hr hlk hin hE w hl
  have hx := S.1
  have hb := S.2.1
  have hl : lv_has ls 7 [(0, .ref b), (1, .int (nI k9))] := hl
  have key : ∀ (n9 i : Nat), i ≤ L → L + 1 ≤ i + n9 → ∀ (u2 : Int32) (ls : Array Slot), lv_has ls 7 [(5, .int (nI i)), (4, .int (nI L)), (3, .ref b), (2, .int u2), (1, .int (nI k9)), (0, .ref b)] → W p l e (rD 2 0 0) s m (([.ref b, .int (nI k9)] : List Value).toArray) below meth c s.heap [] 0 0 (MQ below (g_Qi D vwCl (g_A G sz) (fun r u => u = (G, sz))) (([.ref b, .int (nI k9)] : List Value).toArray) s 0 0 (g_A G sz)) (F0 m 19 ls []) := by
    intro n9
    induction n9 with
    | zero => intro i h1 h2; omega
    | succ n9 ih =>
      intro i h1 h2 u2 ls hl
      refine lv_iload hx hb dL_cell_19 (lv_at hl 0 rfl) ?_
      refine lv_iload hx hb dL_cell_21 (lv_at hl 1 rfl) ?_
      refine lv_icmp_ge (tgt := 49) hx hb dL_cell_23 (by decide) (fun c_23 => ?_) (fun c_23 => ?_)
      · refine lv_iload_n hx hb dL_cell_49 rfl (lv_at hl 3 rfl) ?_
        refine lv_bipush (v := 7) hx hb dL_cell_50 (by decide) ?_
        obtain ⟨v1, hv9⟩ : ∃ v : Int32, (u2.toUInt32 >>> ((7 : Int32).toUInt32 &&& Int32.toUInt32 31)).toInt32 = v := ⟨_, rfl⟩
        refine lv_iushr (v := v1) hx hb dL_cell_52 hv9 ?_
        refine lv_iconst (v := 3) hx hb dL_cell_53 (by decide) ?_
        refine lv_iand hx hb dL_cell_54 ?_
        generalize (v1 &&& 3 : Int32) = v2
        refine lv_if_ne (tgt := 79) hx hb dL_cell_55 (by decide) (fun c_55 => ?_) (fun c_55 => ?_)
        · refine lv_iload_n hx hb dL_cell_79 rfl (lv_at hl 3 rfl) ?_
          refine lv_ldc hx hb S.2.2.2.1 (S.2.2.2.2 _ m_2_49) dL_cell_80 ?_
          refine lv_iload_n hx hb dL_cell_82 rfl (lv_at hl 4 rfl) ?_
          refine lv_sipush (v := 1009) hx hb dL_cell_83 (by decide) ?_
          refine lv_iadd hx hb dL_cell_86 ?_
          generalize ((nI k9) + 1009 : Int32) = v3
          refine lv_imul hx hb dL_cell_87 ?_
          generalize (69069 * v3 : Int32) = v4
          refine lv_ixor hx hb dL_cell_88 ?_
          generalize (u2 ^^^ v4 : Int32) = v5
          refine lv_istore_n (lv' := [(3, .int v5), (5, .int (nI i)), (4, .int (nI L)), (2, .int u2), (1, .int (nI k9)), (0, .ref b)]) hx hb dL_cell_89 rfl hl (by decide) rfl (fun ls hl => ?_)
          refine lv_iload_n hx hb dL_cell_90 rfl (lv_at hl 0 rfl) ?_
          refine lv_iload_n hx hb dL_cell_91 rfl (lv_at hl 0 rfl) ?_
          refine lv_bipush (v := 13) hx hb dL_cell_92 (by decide) ?_
          obtain ⟨v6, hv9⟩ : ∃ v : Int32, (v5.toUInt32 >>> ((13 : Int32).toUInt32 &&& Int32.toUInt32 31)).toInt32 = v := ⟨_, rfl⟩
          refine lv_iushr (v := v6) hx hb dL_cell_94 hv9 ?_
          refine lv_ixor hx hb dL_cell_95 ?_
          generalize (v5 ^^^ v6 : Int32) = v7
          refine lv_ldc hx hb S.2.2.2.1 (S.2.2.2.2 _ m_2_50) dL_cell_96 ?_
          refine lv_imul hx hb dL_cell_98 ?_
          generalize (v7 * 1103515245 : Int32) = v8
          refine lv_istore_n (lv' := [(3, .int v8), (5, .int (nI i)), (4, .int (nI L)), (2, .int u2), (1, .int (nI k9)), (0, .ref b)]) hx hb dL_cell_99 rfl hl (by decide) rfl (fun ls hl => ?_)
          refine lv_iload_n hx hb dL_cell_100 rfl (lv_at hl 0 rfl) ?_
          refine lv_iload_n hx hb dL_cell_101 rfl (lv_at hl 0 rfl) ?_
          refine lv_bipush (v := 16) hx hb dL_cell_102 (by decide) ?_
          obtain ⟨v9, hv9⟩ : ∃ v : Int32, (v8.toUInt32 >>> ((16 : Int32).toUInt32 &&& Int32.toUInt32 31)).toInt32 = v := ⟨_, rfl⟩
          refine lv_iushr (v := v9) hx hb dL_cell_104 hv9 ?_
          refine lv_ixor hx hb dL_cell_105 ?_
          generalize (v8 ^^^ v9 : Int32) = v10
          exact g_iret hx hb hr hlk w (Nat.le_of_ble_eq_true rfl) (Nat.le_of_ble_eq_true rfl) dL_cell_106 rfl
        · refine lv_iload_n hx hb dL_cell_58 rfl (lv_at hl 4 rfl) ?_
          refine lv_aload_n hx hb dL_cell_59 rfl (lv_at hl 5 rfl) ?_
          refine va_tlen (v := nI L) hx hb hE.2.2 w.2.2.1 rfl dL_cell_60 ?_
          refine lv_icmp_ge (tgt := 70) hx hb dL_cell_61 (by decide) (fun c_61 => ?_) (fun c_61 => ?_)
          · refine lv_sipush (v := 7919) hx hb dL_cell_70 (by decide) ?_
            refine lv_iload_n hx hb dL_cell_73 rfl (lv_at hl 4 rfl) ?_
            refine lv_imul hx hb dL_cell_74 ?_
            generalize (7919 * (nI k9) : Int32) = v11
            refine lv_bipush (v := 12) hx hb dL_cell_75 (by decide) ?_
            refine lv_iadd hx hb dL_cell_77 ?_
            generalize (v11 + 12 : Int32) = v12
            exact g_iret hx hb hr hlk w (Nat.le_of_ble_eq_true rfl) (Nat.le_of_ble_eq_true rfl) dL_cell_78 rfl
          · have hk5 : k9 < L := nI_nle9 c_61 (by omega)
            refine lv_aload_n hx hb dL_cell_64 rfl (lv_at hl 5 rfl) ?_
            refine lv_iload_n hx hb dL_cell_65 rfl (lv_at hl 4 rfl) ?_
            refine va_ti (v := .int (xs k9)) hx hb hE.2.2 w.2.2.1 (vp_in_nI (n := k9) (by omega) (by omega)) (by rw [nI_clamp (show k9 < 2 ^ 31 by omega)]) dL_cell_66 ?_
            refine lv_goto (tgt := 78) hx hb dL_cell_67 (by decide) ?_
            exact g_iret hx hb hr hlk w (Nat.le_of_ble_eq_true rfl) (Nat.le_of_ble_eq_true rfl) dL_cell_78 rfl
      · have hlt9 : i < L := by
          rcases Nat.lt_or_ge i L with q | q
          · exact q
          · exact absurd (nI_le q (by omega)) c_23
        refine lv_aload_n hx hb dL_cell_26 rfl (lv_at hl 2 rfl) ?_
        refine lv_iload hx hb dL_cell_27 (lv_at hl 0 rfl) ?_
        refine va_ti (v := .int (xs i)) hx hb hE.2.2 w.2.2.1 (vp_in_nI (n := i) (by omega) (by omega)) (by rw [nI_clamp (show i < 2 ^ 31 by omega)]) dL_cell_29 ?_
        refine lv_istore (lv' := [(6, .int (xs i)), (5, .int (nI i)), (4, .int (nI L)), (3, .ref b), (2, .int u2), (1, .int (nI k9)), (0, .ref b)]) hx hb dL_cell_30 hl (by decide) rfl (fun ls hl => ?_)
        refine lv_iload_n hx hb dL_cell_32 rfl (lv_at hl 4 rfl) ?_
        refine lv_iload hx hb dL_cell_33 (lv_at hl 0 rfl) ?_
        refine lv_ixor hx hb dL_cell_35 ?_
        generalize (u2 ^^^ (xs i) : Int32) = v13
        refine lv_ldc hx hb S.2.2.2.1 (S.2.2.2.2 _ m_2_48) dL_cell_36 ?_
        refine lv_imul hx hb dL_cell_38 ?_
        generalize (v13 * 16777619 : Int32) = v14
        refine lv_bipush (v := 7) hx hb dL_cell_39 (by decide) ?_
        refine lv_iadd hx hb dL_cell_41 ?_
        generalize (v14 + 7 : Int32) = v15
        refine lv_istore_n (lv' := [(2, .int v15), (6, .int (xs i)), (5, .int (nI i)), (4, .int (nI L)), (3, .ref b), (1, .int (nI k9)), (0, .ref b)]) hx hb dL_cell_42 rfl hl (by decide) rfl (fun ls hl => ?_)
        refine lv_iinc (v := (nI i) + 1) (lv' := [(5, .int ((nI i) + 1)), (2, .int v15), (6, .int (xs i)), (4, .int (nI L)), (3, .ref b), (1, .int (nI k9)), (0, .ref b)]) hx hb dL_cell_43 hl (k := 2) rfl rfl (by decide) rfl (fun ls hl => ?_)
        rw [nI_1 i] at hl
        refine lv_goto (tgt := 19) hx hb dL_cell_46 (by decide) ?_
        exact ih (i + 1) (by omega) (by omega) _ _ (lv_sub hl [0, 3, 4, 1, 5, 6] rfl)
  refine lv_sipush (v := 12345) hx hb dL_cell_0 (by decide) ?_
  refine lv_bipush (v := 31) hx hb dL_cell_3 (by decide) ?_
  refine lv_aload_n hx hb dL_cell_5 rfl (lv_at hl 0 rfl) ?_
  refine va_tlen (v := nI L) hx hb hE.2.2 w.2.2.1 rfl dL_cell_6 ?_
  refine lv_imul hx hb dL_cell_7 ?_
  generalize (31 * (nI L) : Int32) = v16
  refine lv_iadd hx hb dL_cell_8 ?_
  generalize (12345 + v16 : Int32) = v17
  refine lv_istore_n (lv' := [(2, .int v17), (0, .ref b), (1, .int (nI k9))]) hx hb dL_cell_9 rfl hl (by decide) rfl (fun ls hl => ?_)
  refine lv_aload_n hx hb dL_cell_10 rfl (lv_at hl 1 rfl) ?_
  refine lv_astore_n (lv' := [(3, .ref b), (2, .int v17), (0, .ref b), (1, .int (nI k9))]) hx hb dL_cell_11 rfl hl (by decide) rfl (fun ls hl => ?_)
  refine lv_aload_n hx hb dL_cell_12 rfl (lv_at hl 0 rfl) ?_
  refine va_tlen (v := nI L) hx hb hE.2.2 w.2.2.1 rfl dL_cell_13 ?_
  refine lv_istore (lv' := [(4, .int (nI L)), (3, .ref b), (2, .int v17), (0, .ref b), (1, .int (nI k9))]) hx hb dL_cell_14 hl (by decide) rfl (fun ls hl => ?_)
  refine lv_iconst (v := 0) hx hb dL_cell_16 (by decide) ?_
  refine lv_istore (lv' := [(5, .int 0), (4, .int (nI L)), (3, .ref b), (2, .int v17), (0, .ref b), (1, .int (nI k9))]) hx hb dL_cell_17 hl (by decide) rfl (fun ls hl => ?_)
  exact key (L + 1) 0 (by omega) (by omega) _ _ (lv_sub hl [0, 1, 2, 3, 5, 4] rfl)
set_option maxHeartbeats 4000000 in
set_option maxRecDepth 100000 in
theorem hL_chosen (l : Launch) (D : va_G) (ar : Nat → ClassId) (κ : Nat → Nat) (G : gW) (sz : Nat) (v : Int32)  : Met l yL_chosen (lwC yL_chosen cL_chosen 2 (some .int)) (rD 1 0 0) (g_Pc D vwCl (gT ar) (EX1 κ) G sz [.int v, .int 10000000]) (g_Qi D vwCl (g_A G sz) (fun r u => (∃ j : Nat, j < 10000000 ∧ r = nI j) ∧ u = (G, sz))) 0 0 (g_A G sz) := by
  refine g_ofW (by decide +kernel) (Nat.le_of_ble_eq_true rfl) ?_
  intro p e s m below meth c ls S hr hlk hin hE w hl
  have hx := S.1
  have hb := S.2.1
  have hl : lv_has ls 2 [(0, .int v), (1, .int 10000000)] := hl
  refine lv_iload_n hx hb dL_chosen_0 rfl (lv_at hl 0 rfl) ?_
  refine lv_ldc hx hb S.2.2.2.1 (S.2.2.2.2 _ m_2_54) dL_chosen_1 ?_
  refine lv_iand hx hb dL_chosen_3 ?_
  obtain ⟨j9, hj9, ej9⟩ := and31 v
  rw [ej9]
  refine lv_iload_n hx hb dL_chosen_4 rfl (lv_at hl 1 rfl) ?_
  refine lv_irem hx hb dL_chosen_5 (by decide) ?_
  rw [show ((nI j9) - (nI j9) / 10000000 * 10000000 : Int32) = nI (j9 % 10000000) from nI_rem (m := 10000000) (by omega) (by decide) (by decide)]
  exact g_iret hx hb hr hlk w (Nat.le_of_ble_eq_true rfl) (Nat.le_of_ble_eq_true rfl) dL_chosen_6 ⟨⟨j9 % 10000000, Nat.mod_lt _ (by decide), rfl⟩, rfl⟩
set_option maxHeartbeats 4000000 in
set_option maxRecDepth 100000 in
theorem hL_compiles (l : Launch) (D : va_G) (ar : Nat → ClassId) (κ : Nat → Nat) (G : gW) (x : Xo) (Z : Ho) (sz j : Nat) (hk : OK x Z) (hlt : l.stackTraces = false) (hj : j < 10000000) : Met l yL_compiles (lwC yL_compiles cL_compiles 2 none) (rD 13 2 12) (g_Pc D vwCl (gT ar) (EX1 κ) (ov κ ar x Z G) sz [.ref (x.f .ho), .int (nI j)]) (g_Qv D vwCl (g_A (ov κ ar x Z G) sz) (fun u => ∃ (y9 : Xo), u.1 = ov κ ar y9 Z G ∧ OK y9 Z ∧ BY x y9 sz)) 2 12 (g_A (ov κ ar x Z G) sz) := by
  refine g_ofW (by decide +kernel) (Nat.le_of_ble_eq_true rfl) ?_
  intro p e s m below meth c ls S hr hlk hin hE w hl
  have hx := S.1
  have hb := S.2.1
  have hl : lv_has ls 2 [(0, .ref (x.f .ho)), (1, .int (nI j))] := hl
  refine lv_iload_n hx hb dL_compiles_0 rfl (lv_at hl 1 rfl) ?_
  refine lv_iconst (v := 3) hx hb dL_compiles_1 (by decide) ?_
  refine lv_irem hx hb dL_compiles_2 (by decide) ?_
  rw [show ((nI j) - (nI j) / 3 * 3 : Int32) = nI (j % 3) from nI_rem (m := 3) (by omega) (by decide) (by decide)]
  refine lv_if_ne (tgt := 19) hx hb dL_compiles_3 (by decide) (fun c_3 => ?_) (fun c_3 => ?_)
  · refine lv_aload_n hx hb dL_compiles_19 rfl (lv_at hl 0 rfl) ?_
    refine lv_iload_n hx hb dL_compiles_20 rfl (lv_at hl 1 rfl) ?_
    refine lv_iconst (v := 3) hx hb dL_compiles_21 (by decide) ?_
    refine lv_idiv hx hb dL_compiles_22 (by decide) ?_
    rw [show ((nI j) / 3 : Int32) = nI (j / 3) from nI_div (m := 3) (by omega) (by decide) (by decide)]
    refine lv_bipush (v := 6) hx hb dL_compiles_23 (by decide) ?_
    refine lv_irem hx hb dL_compiles_25 (by decide) ?_
    rw [show ((nI (j / 3)) - (nI (j / 3)) / 6 * 6 : Int32) = nI (j / 3 % 6) from nI_rem (m := 6) (by omega) (by decide) (by decide)]
    refine lv_iload_n hx hb dL_compiles_26 rfl (lv_at hl 1 rfl) ?_
    refine lv_bipush (v := 18) hx hb dL_compiles_27 (by decide) ?_
    refine lv_idiv hx hb dL_compiles_29 (by decide) ?_
    rw [show ((nI j) / 18 : Int32) = nI (j / 18) from nI_div (m := 18) (by omega) (by decide) (by decide)]
    refine lv_iconst (v := 4) hx hb dL_compiles_30 (by decide) ?_
    refine lv_irem hx hb dL_compiles_31 (by decide) ?_
    rw [show ((nI (j / 18)) - (nI (j / 18)) / 4 * 4 : Int32) = nI (j / 18 % 4) from nI_rem (m := 4) (by omega) (by decide) (by decide)]
    refine g_calll w (g_runSW (As := [.ref (x.f .ho), .int (nI (j / 3 % 6)), .int (nI (j / 18 % 4))]) (rest := []) S hE w hl (hL_compile l D ar κ G x Z sz (nI (j / 3 % 6)) (nI (j / 18 % 4)) hk hlt) (kW_266 S.2.2.2.2 ⟨Nat.le_of_ble_eq_true rfl, Nat.le_of_ble_eq_true rfl⟩) rfl rfl (Nat.le_of_ble_eq_true rfl) dL_compiles_32 ⟨Nat.le_of_ble_eq_true rfl, Nat.le_of_ble_eq_true rfl⟩) (fun r u H locs hp hnz w => ?_)
    obtain ⟨y9, hu9, hk9, by9⟩ := hp
    obtain ⟨v9, m9⟩ := u
    dsimp only at hu9 w hnz
    subst hu9
    refine lv_pop2_2 hx hb dL_compiles_35 rfl ?_
    exact g_vret hx hb hr hlk w (Nat.le_of_ble_eq_true rfl) (Nat.le_of_ble_eq_true rfl) dL_compiles_36 ⟨y9, rfl, hk9, by9⟩
  · refine lv_aload_n hx hb dL_compiles_6 rfl (lv_at hl 0 rfl) ?_
    refine lv_iload_n hx hb dL_compiles_7 rfl (lv_at hl 1 rfl) ?_
    refine lv_iconst (v := 3) hx hb dL_compiles_8 (by decide) ?_
    refine lv_idiv hx hb dL_compiles_9 (by decide) ?_
    rw [show ((nI j) / 3 : Int32) = nI (j / 3) from nI_div (m := 3) (by omega) (by decide) (by decide)]
    refine lv_iconst (v := 4) hx hb dL_compiles_10 (by decide) ?_
    refine lv_irem hx hb dL_compiles_11 (by decide) ?_
    rw [show ((nI (j / 3)) - (nI (j / 3)) / 4 * 4 : Int32) = nI (j / 3 % 4) from nI_rem (m := 4) (by omega) (by decide) (by decide)]
    refine g_calll w (g_runSW (As := [.ref (x.f .ho), .int (nI (j / 3 % 4))]) (rest := []) S hE w hl (hL_hot l D ar κ G x Z sz (nI (j / 3 % 4)) hk hlt) (kW_264 S.2.2.2.2 ⟨Nat.le_of_ble_eq_true rfl, Nat.le_of_ble_eq_true rfl⟩) rfl rfl (Nat.le_of_ble_eq_true rfl) dL_compiles_12 ⟨Nat.le_of_ble_eq_true rfl, Nat.le_of_ble_eq_true rfl⟩) (fun r u H locs hp hnz w => ?_)
    obtain ⟨y9, hu9, hk9, by9⟩ := hp
    obtain ⟨v9, m9⟩ := u
    dsimp only at hu9 w hnz
    subst hu9
    refine lv_pop2_2 hx hb dL_compiles_15 rfl ?_
    refine lv_goto (tgt := 36) hx hb dL_compiles_16 (by decide) ?_
    exact g_vret hx hb hr hlk w (Nat.le_of_ble_eq_true rfl) (Nat.le_of_ble_eq_true rfl) dL_compiles_36 ⟨y9, rfl, hk9, by9⟩
