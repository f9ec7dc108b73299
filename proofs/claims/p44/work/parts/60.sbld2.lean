theorem dJ5_init_d00df_0 : decode cJ5_init_d00df 0 = .ok (.aload_n 0, 1) := by decide +kernel
theorem dJ5_init_d00df_1 : decode cJ5_init_d00df 1 = .ok (.invokespecial 3, 3) := by decide +kernel
theorem dJ5_init_d00df_4 : decode cJ5_init_d00df 4 = .ok (.getstatic 18, 3) := by decide +kernel
theorem dJ5_init_d00df_7 : decode cJ5_init_d00df 7 = .ok (.ifCond .eq 18, 3) := by decide +kernel
theorem dJ5_init_d00df_10 : decode cJ5_init_d00df 10 = .ok (.aload_n 0, 1) := by decide +kernel
theorem dJ5_init_d00df_11 : decode cJ5_init_d00df 11 = .ok (.iload_n 1, 1) := by decide +kernel
theorem dJ5_init_d00df_12 : decode cJ5_init_d00df 12 = .ok (.newarray .byte, 2) := by decide +kernel
theorem dJ5_init_d00df_14 : decode cJ5_init_d00df 14 = .ok (.putfield 15, 3) := by decide +kernel
theorem dJ5_init_d00df_17 : decode cJ5_init_d00df 17 = .ok (.aload_n 0, 1) := by decide +kernel
theorem dJ5_init_d00df_18 : decode cJ5_init_d00df 18 = .ok (.iconst 0, 1) := by decide +kernel
theorem dJ5_init_d00df_19 : decode cJ5_init_d00df 19 = .ok (.putfield 22, 3) := by decide +kernel
theorem dJ5_init_d00df_22 : decode cJ5_init_d00df 22 = .ok (.goto 16, 3) := by decide +kernel
theorem dJ5_init_d00df_25 : decode cJ5_init_d00df 25 = .ok (.aload_n 0, 1) := by decide +kernel
theorem dJ5_init_d00df_26 : decode cJ5_init_d00df 26 = .ok (.iload_n 1, 1) := by decide +kernel
theorem dJ5_init_d00df_27 : decode cJ5_init_d00df 27 = .ok (.invokestatic 26, 3) := by decide +kernel
theorem dJ5_init_d00df_30 : decode cJ5_init_d00df 30 = .ok (.putfield 15, 3) := by decide +kernel
theorem dJ5_init_d00df_33 : decode cJ5_init_d00df 33 = .ok (.aload_n 0, 1) := by decide +kernel
theorem dJ5_init_d00df_34 : decode cJ5_init_d00df 34 = .ok (.iconst 1, 1) := by decide +kernel
theorem dJ5_init_d00df_35 : decode cJ5_init_d00df 35 = .ok (.putfield 22, 3) := by decide +kernel
theorem dJ5_init_d00df_38 : decode cJ5_init_d00df 38 = .ok (.return_, 1) := by decide +kernel
theorem dJ4_init_da8c8_0 : decode cJ4_init_da8c8 0 = .ok (.aload_n 0, 1) := by decide +kernel
theorem dJ4_init_da8c8_1 : decode cJ4_init_da8c8 1 = .ok (.bipush 16, 2) := by decide +kernel
theorem dJ4_init_da8c8_3 : decode cJ4_init_da8c8 3 = .ok (.invokespecial 1, 3) := by decide +kernel
theorem dJ4_init_da8c8_6 : decode cJ4_init_da8c8 6 = .ok (.return_, 1) := by decide +kernel
theorem dJ4_append_15ec4_0 : decode cJ4_append_15ec4 0 = .ok (.aload_n 0, 1) := by decide +kernel
theorem dJ4_append_15ec4_1 : decode cJ4_append_15ec4 1 = .ok (.aload_n 1, 1) := by decide +kernel
theorem dJ4_append_15ec4_2 : decode cJ4_append_15ec4 2 = .ok (.invokespecial 29, 3) := by decide +kernel
theorem dJ4_append_15ec4_5 : decode cJ4_append_15ec4 5 = .ok (.pop, 1) := by decide +kernel
theorem dJ4_append_15ec4_6 : decode cJ4_append_15ec4 6 = .ok (.aload_n 0, 1) := by decide +kernel
theorem dJ4_append_15ec4_7 : decode cJ4_append_15ec4 7 = .ok (.areturn, 1) := by decide +kernel
section SITES
variable {p : Program} {l : Launch} {e : Env} {R : Room} {s : State} {m : MethodId} {args : Array Value} {below : List Frame} {meth : Method} {c : Code} {H : Heap} {locs : List Loc} {cells slots : Nat} {Q : State → Prop}
variable {pc : Nat} {ls : Array Slot} {rest : List Value} {D : va_G} {ar : Nat → ClassId} {κ : Nat → Nat} {A : Nat → Prop} {a : Nat} {H0 : Heap} {G : gW} {nz nL : Nat} {cc : ByteArray}
theorem m_4_158 : (Cond.methodLink RJ5 3 objectInit) ∈ lwA := lwA_mk (ck_4 _ (List.mem_of_getElem? (i := 158) rfl)) rfl
theorem pf_RJ5_22_1 {A9 : Nat → Prop} {H9 : Heap} {fs : List Value} {v : Value} (S : CallFix p m c cc nL s args lwA RJ5) (hE : g_E D vwCl (gT ar) (EX1 κ) A9 s H9) (w : g_S D vwCl A H0 G H locs nz) (ha : G a = some (.inr (1, fs))) (hn : narrow .byte v = v) (hfit : fits .byte v = true) (hl : 1 < fs.length) {fs1 : List Value} (hfs : fs.set 1 v = fs1) (hdg : decode cc pc = .ok (.putfield 22, 3)) (kk : ∀ (H1 : Heap) (locs1 : List Loc), g_S D vwCl A H0 (g_up G a (.inr (1, fs1))) H1 locs1 nz → W p l e R s m args below meth c H1 locs1 cells slots Q (F0 m (pc + 3) ls rest)) : W p l e R s m args below meth c H locs cells slots Q (F0 m pc ls (v :: .ref a :: rest)) :=
  g_put (ci := 1) (ty := .byte) (C := RJ4) (T := TJ4) (N := 4) S.1 S.2.1 S.2.2.2.2 inA_RJ4 tyJ4 tyJ4_ok nmJ4 S.2.2.2.1 hE.1 w ha rfl 1 (by decide) (S.2.2.2.2 _ m_4_169) (fun _ h => h) rfl (by decide +kernel) hn hfit hl hdg (fun H1 l1 w1 => kk H1 l1 (by rw [← hfs]; exact w1))
theorem m_4_157 : (Cond.code yJ5_init_d00df cJ5_init_d00df 2 none) ∈ lwA := lwA_mk (ck_4 _ (List.mem_of_getElem? (i := 157) rfl)) rfl
theorem m_4_155 : (Cond.methodLink RJ4 1 yJ5_init_d00df) ∈ lwA := lwA_mk (ck_4 _ (List.mem_of_getElem? (i := 155) rfl)) rfl
theorem m_4_156 : (Cond.instanceMethod yJ5_init_d00df) ∈ lwA := lwA_mk (ck_4 _ (List.mem_of_getElem? (i := 156) rfl)) rfl
theorem k_RJ4_1 {args : Array Value} {s : State} {R rm : Room} (hts : ∀ w ∈ lwA, w.before args s = true) (hR : rm.frames + 1 ≤ R.frames ∧ 8 + (2 + 11) + rm.locals ≤ R.locals) : CallB R s args RJ4 1 yJ5_init_d00df cJ5_init_d00df 2 none (lwC yJ5_init_d00df cJ5_init_d00df 2 none) rm rm.cells rm.slots 1 ∧ yJ5_init_d00df.name = "<init>" ∧ (Cond.instanceMethod yJ5_init_d00df).before args s = true := cwI 1 hts (gd m_4_157) rfl rfl rfl (hts _ m_1_20) (hts _ m_4_155) (hts _ m_4_156) rfl (by decide +kernel) hR
theorem m_4_188 : (Cond.code yJ5_append_cf1ce cJ5_append_cf1ce 3 (some (.object "java/lang/AbstractStringBuilder"))) ∈ lwA := lwA_mk (ck_4 _ (List.mem_of_getElem? (i := 188) rfl)) rfl
theorem m_4_186 : (Cond.methodLink RJ4 29 yJ5_append_cf1ce) ∈ lwA := lwA_mk (ck_4 _ (List.mem_of_getElem? (i := 186) rfl)) rfl
theorem m_4_187 : (Cond.instanceMethod yJ5_append_cf1ce) ∈ lwA := lwA_mk (ck_4 _ (List.mem_of_getElem? (i := 187) rfl)) rfl
theorem m_8_86 : (Cond.sameMethod "java/lang/AbstractStringBuilder" "java/lang/AbstractStringBuilder" "append" "(Ljava/lang/String;)Ljava/lang/AbstractStringBuilder;") ∈ lwA := lwA_mk (ck_8 _ (List.mem_of_getElem? (i := 86) rfl)) rfl
theorem m_4_180 : (Cond.superclass RJ4 RJ5) ∈ lwA := lwA_mk (ck_4 _ (List.mem_of_getElem? (i := 180) rfl)) rfl
theorem kS_RJ4_29 {args : Array Value} {s : State} {R rm : Room} (hts : ∀ w ∈ lwA, w.before args s = true) (hR : rm.frames + 1 ≤ R.frames ∧ 8 + (3 + 11) + rm.locals ≤ R.locals) : va_CS R s args RJ4 29 yJ5_append_cf1ce cJ5_append_cf1ce 3 (some (.object "java/lang/AbstractStringBuilder")) (lwC yJ5_append_cf1ce cJ5_append_cf1ce 3 (some (.object "java/lang/AbstractStringBuilder"))) rm rm.cells rm.slots 1 := va_cwSU 1 hts (gdSU m_4_186 m_8_86 m_4_180 m_4_187 m_1_20 m_4_188) rfl rfl rfl (by decide +kernel) hR
end SITES
set_option maxHeartbeats 4000000 in
set_option maxRecDepth 100000 in
theorem j_ASBinit (l : Launch) (D : va_G) (ar : Nat → ClassId) (κ : Nat → Nat) (G : gW) (sz : Nat) (o : Nat) (ho : G o = some (.inr (1, [.null, .int 0, .int 0, .int 0]))) : Met l yJ5_init_d00df (lwC yJ5_init_d00df cJ5_init_d00df 2 none) (rD 1 1 16) (g_Pc D vwCl (gT ar) (EX1 κ) G sz [.ref o, .int 16]) (g_Qv D vwCl (g_A G sz) (fun u => u = ((g_up (g_up G sz (.inl (ar 4, 16, .inl (fun _ => 0)))) o (.inr (1, [.ref sz, .int 0, .int 0, .int 0]))), sz + 1))) 1 16 (g_A G sz) := by
  refine g_ofW (by decide +kernel) (Nat.le_of_ble_eq_true rfl) ?_
  intro p e s m below meth c ls S hr hlk hin hE w hl
  have hx := S.1
  have hb := S.2.1
  have hl : lv_has ls 2 [(0, .ref o), (1, .int 16)] := hl
  have lt_ho : o < sz := g_ltn w ho
  refine lv_aload_n hx hb dJ5_init_d00df_0 rfl (lv_at hl 0 rfl) ?_
  refine W.objInit hx hb S.2.2.2.1 (S.2.2.2.2 _ m_4_158) (S.2.2.2.2 _ m_1_46) (S.2.2.2.2 _ m_obj) rfl (by rw [S.2.2.1]; exact hl.1) rfl dJ5_init_d00df_1 (Nat.le_of_ble_eq_true rfl) (Nat.le_of_ble_eq_true rfl) ?_
  refine W.eq (g2 := F0 m 4 ls []) rfl ?_
  refine va_gets hx hb hE.2.2.2.2.2.1 w.2.2.1 S.2.2.2.1 (S.2.2.2.2 _ m_4_159) (fun _ h => h) dJ5_init_d00df_4 ?_
  refine lv_if_eq (tgt := 25) hx hb dJ5_init_d00df_7 (by decide) (fun c => absurd c (by decide)) (fun _ => ?_)
  refine lv_aload_n hx hb dJ5_init_d00df_10 rfl (lv_at hl 0 rfl) ?_
  refine lv_iload_n hx hb dJ5_init_d00df_11 rfl (lv_at hl 1 rfl) ?_
  refine g_newa (atype := .byte) (a0 := (16, .inl (fun _ => 0))) hx hb (S.2.2.2.2 _ m_2_133) rfl hE.1 w 4 rfl rfl (by decide) rfl (Nat.le_of_ble_eq_true rfl) (Nat.le_of_ble_eq_true rfl) (Nat.le_of_ble_eq_true rfl) dJ5_init_d00df_12 (fun H w => ?_)
  refine pf_RJ5_15_1 (fs1 := [.ref sz, .int 0, .int 0, .int 0]) S hE w (g_up_o (by omega) ho) rfl rfl (Nat.le_of_ble_eq_true rfl) rfl dJ5_init_d00df_14 (fun H locs w => ?_)
  refine lv_aload_n hx hb dJ5_init_d00df_17 rfl (lv_at hl 0 rfl) ?_
  refine lv_iconst (v := 0) hx hb dJ5_init_d00df_18 (by decide) ?_
  refine pf_RJ5_22_1 (fs1 := [.ref sz, .int 0, .int 0, .int 0]) S hE w g_up_s rfl rfl (Nat.le_of_ble_eq_true rfl) rfl dJ5_init_d00df_19 (fun H locs w => ?_)
  have w := g_eqw w g_over
  refine lv_goto (tgt := 38) hx hb dJ5_init_d00df_22 (by decide) ?_
  exact g_vret hx hb hr hlk w (Nat.le_of_ble_eq_true rfl) (Nat.le_of_ble_eq_true rfl) dJ5_init_d00df_38 rfl
set_option maxHeartbeats 4000000 in
set_option maxRecDepth 100000 in
theorem j_SBinit (l : Launch) (D : va_G) (ar : Nat → ClassId) (κ : Nat → Nat) (G : gW) (sz : Nat) (o : Nat) (ho : G o = some (.inr (1, [.null, .int 0, .int 0, .int 0]))) : Met l yJ4_init_da8c8 (lwC yJ4_init_da8c8 cJ4_init_da8c8 1 none) (rD 2 1 16) (g_Pc D vwCl (gT ar) (EX1 κ) G sz [.ref o]) (g_Qv D vwCl (g_A G sz) (fun u => u = ((g_up (g_up G sz (.inl (ar 4, 16, .inl (fun _ => 0)))) o (.inr (1, [.ref sz, .int 0, .int 0, .int 0]))), sz + 1))) 1 16 (g_A G sz) := by
  refine g_ofW (by decide +kernel) (Nat.le_of_ble_eq_true rfl) ?_
  intro p e s m below meth c ls S hr hlk hin hE w hl
  have hx := S.1
  have hb := S.2.1
  have hl : lv_has ls 1 [(0, .ref o)] := hl
  have lt_ho : o < sz := g_ltn w ho
  refine lv_aload_n hx hb dJ4_init_da8c8_0 rfl (lv_at hl 0 rfl) ?_
  refine lv_bipush (v := 16) hx hb dJ4_init_da8c8_1 (by decide) ?_
  refine g_callv w (g_runI (As := [.int 16]) (rest := []) S hE w hl (j_ASBinit l D ar κ G sz o ho) (k_RJ4_1 S.2.2.2.2 ⟨Nat.le_of_ble_eq_true rfl, Nat.le_of_ble_eq_true rfl⟩) rfl rfl (Nat.le_of_ble_eq_true rfl) dJ4_init_da8c8_3 ⟨Nat.le_of_ble_eq_true rfl, Nat.le_of_ble_eq_true rfl⟩) (fun u H locs hp hnz w => ?_)
  obtain rfl := hp
  dsimp only at w
  exact g_vret hx hb hr hlk w (Nat.le_of_ble_eq_true rfl) (Nat.le_of_ble_eq_true rfl) dJ4_init_da8c8_6 rfl
set_option maxHeartbeats 4000000 in
set_option maxRecDepth 100000 in
theorem j_SBappend (l : Launch) (D : va_G) (ar : Nat → ClassId) (κ : Nat → Nat) (G : gW) (sz : Nat) (q : Nat) (b : Nat) (vb : Nat) (bs : List Int32) (v : Nat) (cs : List Int32) (ml : Int32) (k9 : Nat) (hq : G q = some (.inr (1, [.ref v, .int 0, .int ml, .int (nI k9)]))) (hv : G v = some (.inl (ar 4, cs.length, .inl (tyF cs)))) (ht : ∀ G9, TX ar κ G9 b vb bs) (hA : Asc cs) (hB : Asc bs) (hk : k9 ≤ cs.length) (hc0 : 0 < cs.length) (hcl : cs.length ≤ 100) (hm : k9 + bs.length ≤ 36) : Met l yJ4_append_15ec4 (lwC yJ4_append_15ec4 cJ4_append_15ec4 2 (some (.object "java/lang/StringBuilder"))) (rD 7 1 100) (g_Pc D vwCl (gT ar) (EX1 κ) G sz [.ref q, .ref b]) (g_Qq D vwCl (g_A G sz) (fun r u => (r = some q ∧ ∃ v1 cs1, u.1 = g_up (g_up G v1 (.inl (ar 4, cs1.length, .inl (tyF cs1)))) q (.inr (1, [.ref v1, .int 0, .int ml, .int (nI (k9 + bs.length))])) ∧ (v1 = v ∨ v1 = sz) ∧ cs1.take (k9 + bs.length) = cs.take k9 ++ bs ∧ k9 + bs.length ≤ cs1.length ∧ Asc cs1 ∧ cs1.length ≤ 100 ∧ 0 < cs1.length))) 1 100 (g_A G sz) := by
  refine g_ofW (by decide +kernel) (Nat.le_of_ble_eq_true rfl) ?_
  intro p e s m below meth c ls S hr hlk hin hE w hl
  have hx := S.1
  have hb := S.2.1
  have hl : lv_has ls 2 [(0, .ref q), (1, .ref b)] := hl
  have hfr : ∀ q, sz ≤ q → G q = none := fun q z => g_free w z
  have lt_hq : q < sz := g_ltn w hq
  have lt_hv : v < sz := g_ltn w hv
  refine lv_aload_n hx hb dJ4_append_15ec4_0 rfl (lv_at hl 0 rfl) ?_
  refine lv_aload_n hx hb dJ4_append_15ec4_1 rfl (lv_at hl 1 rfl) ?_
  rcases Nat.lt_or_ge cs.length (k9 + bs.length) with hgr | hfit
  · refine g_callq w (g_runSU (As := [.ref b]) (rest := []) S hE w hl (j_append1 l D ar κ G sz q b vb bs v cs ml k9 hq hv ht hA hB (by omega) (by omega) (by omega) (by omega) (by have h9 := Nat.max_le.mpr (show k9 + bs.length - cs.length ≤ 40 ∧ cs.length + 2 ≤ 40 from ⟨by omega, by omega⟩); omega)) (kS_RJ4_29 S.2.2.2.2 ⟨Nat.le_of_ble_eq_true rfl, Nat.le_of_ble_eq_true rfl⟩) hq rfl rfl (Nat.le_of_ble_eq_true rfl) dJ4_append_15ec4_2 ⟨Nat.le_of_ble_eq_true rfl, Nat.le_of_ble_eq_true rfl⟩) (fun r u H locs hp hnz w => ?_)
    obtain ⟨rfl, rfl⟩ := hp
    try dsimp only at w
    refine lv_pop hx hb dJ4_append_15ec4_5 rfl ?_
    refine lv_aload_n hx hb dJ4_append_15ec4_6 rfl (lv_at hl 0 rfl) ?_
    exact g_qret (r := (some q)) hx hb hr (Or.inl ⟨_, rfl⟩) hlk w (Nat.le_of_ble_eq_true rfl) (Nat.le_of_ble_eq_true rfl) dJ4_append_15ec4_7 (by have hE9 : (ext0 cs (cs.length + max ((k9 + bs.length) - cs.length) (cs.length + 2))).length = cs.length + max ((k9 + bs.length) - cs.length) (cs.length + 2) := ext0_len (by omega); have hf9 : k9 + bs.length ≤ (ext0 cs (cs.length + max ((k9 + bs.length) - cs.length) (cs.length + 2))).length := (by rw [hE9]; omega); have hm9 := Nat.max_le.mpr (show k9 + bs.length - cs.length ≤ 40 ∧ cs.length + 2 ≤ 40 from ⟨by omega, by omega⟩); exact ⟨rfl, sz, ovr (ext0 cs (cs.length + max ((k9 + bs.length) - cs.length) (cs.length + 2))) k9 bs, rfl, Or.inr rfl, (by rw [ovr_take hf9, ext0_take hk]), (by rw [ovr_len hf9]; exact hf9), hA.ext0.ovr hB, (by rw [ovr_len hf9, hE9]; omega), (by rw [ovr_len hf9, hE9]; omega)⟩)
  · refine g_callq w (g_runSU (As := [.ref b]) (rest := []) S hE w hl (j_append0 l D ar κ G sz q b vb bs v cs ml k9 hq hv ht hA hB (by omega) (by omega)) (kS_RJ4_29 S.2.2.2.2 ⟨Nat.le_of_ble_eq_true rfl, Nat.le_of_ble_eq_true rfl⟩) hq rfl rfl (Nat.le_of_ble_eq_true rfl) dJ4_append_15ec4_2 ⟨Nat.le_of_ble_eq_true rfl, Nat.le_of_ble_eq_true rfl⟩) (fun r u H locs hp hnz w => ?_)
    obtain ⟨rfl, rfl⟩ := hp
    try dsimp only at w
    refine lv_pop hx hb dJ4_append_15ec4_5 rfl ?_
    refine lv_aload_n hx hb dJ4_append_15ec4_6 rfl (lv_at hl 0 rfl) ?_
    exact g_qret (r := (some q)) hx hb hr (Or.inl ⟨_, rfl⟩) hlk w (Nat.le_of_ble_eq_true rfl) (Nat.le_of_ble_eq_true rfl) dJ4_append_15ec4_7 ⟨rfl, v, ovr cs k9 bs, rfl, Or.inl rfl, ovr_take hfit, (by rw [ovr_len hfit]; exact hfit), hA.ovr hB, (by rw [ovr_len hfit]; exact hcl), (by rw [ovr_len hfit]; exact hc0)⟩
