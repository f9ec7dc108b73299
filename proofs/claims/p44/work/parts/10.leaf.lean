theorem dX8_isBelow_0 : decode cX8_isBelow 0 = .ok (.iload_n 0, 1) := by decide +kernel
theorem dX8_isBelow_1 : decode cX8_isBelow 1 = .ok (.ifCond .lt 12, 3) := by decide +kernel
theorem dX8_isBelow_4 : decode cX8_isBelow 4 = .ok (.iload_n 0, 1) := by decide +kernel
theorem dX8_isBelow_5 : decode cX8_isBelow 5 = .ok (.iload_n 1, 1) := by decide +kernel
theorem dX8_isBelow_6 : decode cX8_isBelow 6 = .ok (.if_icmp .ge 7, 3) := by decide +kernel
theorem dX8_isBelow_9 : decode cX8_isBelow 9 = .ok (.iconst 1, 1) := by decide +kernel
theorem dX8_isBelow_10 : decode cX8_isBelow 10 = .ok (.goto 4, 3) := by decide +kernel
theorem dX8_isBelow_13 : decode cX8_isBelow 13 = .ok (.iconst 0, 1) := by decide +kernel
theorem dX8_isBelow_14 : decode cX8_isBelow 14 = .ok (.ireturn, 1) := by decide +kernel
theorem dX8_isOfPlainValues_0 : decode cX8_isOfPlainValues 0 = .ok (.iload_n 0, 1) := by decide +kernel
theorem dX8_isOfPlainValues_1 : decode cX8_isOfPlainValues 1 = .ok (.iconst 1, 1) := by decide +kernel
theorem dX8_isOfPlainValues_2 : decode cX8_isOfPlainValues 2 = .ok (.if_icmp .eq 8, 3) := by decide +kernel
theorem dX8_isOfPlainValues_5 : decode cX8_isOfPlainValues 5 = .ok (.iload_n 0, 1) := by decide +kernel
theorem dX8_isOfPlainValues_6 : decode cX8_isOfPlainValues 6 = .ok (.iconst 2, 1) := by decide +kernel
theorem dX8_isOfPlainValues_7 : decode cX8_isOfPlainValues 7 = .ok (.if_icmp .ne 7, 3) := by decide +kernel
theorem dX8_isOfPlainValues_10 : decode cX8_isOfPlainValues 10 = .ok (.iconst 1, 1) := by decide +kernel
theorem dX8_isOfPlainValues_11 : decode cX8_isOfPlainValues 11 = .ok (.goto 4, 3) := by decide +kernel
theorem dX8_isOfPlainValues_14 : decode cX8_isOfPlainValues 14 = .ok (.iconst 0, 1) := by decide +kernel
theorem dX8_isOfPlainValues_15 : decode cX8_isOfPlainValues 15 = .ok (.ireturn, 1) := by decide +kernel
theorem dX8_kindOf_0 : decode cX8_kindOf 0 = .ok (.lload_n 0, 1) := by decide +kernel
theorem dX8_kindOf_1 : decode cX8_kindOf 1 = .ok (.bipush 32, 2) := by decide +kernel
theorem dX8_kindOf_3 : decode cX8_kindOf 3 = .ok (.lushr, 1) := by decide +kernel
theorem dX8_kindOf_4 : decode cX8_kindOf 4 = .ok (.l2i, 1) := by decide +kernel
theorem dX8_kindOf_5 : decode cX8_kindOf 5 = .ok (.i2c, 1) := by decide +kernel
theorem dX8_kindOf_6 : decode cX8_kindOf 6 = .ok (.ireturn, 1) := by decide +kernel
theorem dX8_numberOf_0 : decode cX8_numberOf 0 = .ok (.lload_n 0, 1) := by decide +kernel
theorem dX8_numberOf_1 : decode cX8_numberOf 1 = .ok (.l2i, 1) := by decide +kernel
theorem dX8_numberOf_2 : decode cX8_numberOf 2 = .ok (.ireturn, 1) := by decide +kernel
theorem dX8_isNumber_0 : decode cX8_isNumber 0 = .ok (.lload_n 0, 1) := by decide +kernel
theorem dX8_isNumber_1 : decode cX8_isNumber 1 = .ok (.invokestatic 226, 3) := by decide +kernel
theorem dX8_isNumber_4 : decode cX8_isNumber 4 = .ok (.bipush 110, 2) := by decide +kernel
theorem dX8_isNumber_6 : decode cX8_isNumber 6 = .ok (.if_icmp .ne 7, 3) := by decide +kernel
theorem dX8_isNumber_9 : decode cX8_isNumber 9 = .ok (.iconst 1, 1) := by decide +kernel
theorem dX8_isNumber_10 : decode cX8_isNumber 10 = .ok (.goto 4, 3) := by decide +kernel
theorem dX8_isNumber_13 : decode cX8_isNumber 13 = .ok (.iconst 0, 1) := by decide +kernel
theorem dX8_isNumber_14 : decode cX8_isNumber 14 = .ok (.ireturn, 1) := by decide +kernel
theorem dX8_isThing_0 : decode cX8_isThing 0 = .ok (.lload_n 0, 1) := by decide +kernel
theorem dX8_isThing_1 : decode cX8_isThing 1 = .ok (.invokestatic 226, 3) := by decide +kernel
theorem dX8_isThing_4 : decode cX8_isThing 4 = .ok (.bipush 111, 2) := by decide +kernel
theorem dX8_isThing_6 : decode cX8_isThing 6 = .ok (.if_icmp .ne 7, 3) := by decide +kernel
theorem dX8_isThing_9 : decode cX8_isThing 9 = .ok (.iconst 1, 1) := by decide +kernel
theorem dX8_isThing_10 : decode cX8_isThing 10 = .ok (.goto 4, 3) := by decide +kernel
theorem dX8_isThing_13 : decode cX8_isThing 13 = .ok (.iconst 0, 1) := by decide +kernel
theorem dX8_isThing_14 : decode cX8_isThing 14 = .ok (.ireturn, 1) := by decide +kernel
section SITES
variable {p : Program} {l : Launch} {e : Env} {R : Room} {s : State} {m : MethodId} {args : Array Value} {below : List Frame} {meth : Method} {c : Code} {H : Heap} {locs : List Loc} {cells slots : Nat} {Q : State → Prop}
variable {pc : Nat} {ls : Array Slot} {rest : List Value} {D : va_G} {ar : Nat → ClassId} {κ : Nat → Nat} {A : Nat → Prop} {a : Nat} {H0 : Heap} {G : gW} {nz nL : Nat} {cc : ByteArray}
theorem ck_2 : ∀ w ∈ tables_1_2, w ∈ lw_tbl := fun _ h => List.mem_append_right _ (List.mem_append_right _ (List.mem_append_left _ h))
theorem m_2_225 : (Cond.code yX8_kindOf cX8_kindOf 2 (some .char)) ∈ lwA := lwA_mk (ck_2 _ (List.mem_of_getElem? (i := 225) rfl)) rfl
theorem ck_1 : ∀ w ∈ tables_1_1, w ∈ lw_tbl := fun _ h => List.mem_append_right _ (List.mem_append_left _ h)
theorem m_1_1 : (Cond.initialized RX8) ∈ lwA := lwA_mk (ck_1 _ (List.mem_of_getElem? (i := 1) rfl)) rfl
theorem m_2_223 : (Cond.methodLink RX8 226 yX8_kindOf) ∈ lwA := lwA_mk (ck_2 _ (List.mem_of_getElem? (i := 223) rfl)) rfl
theorem m_2_224 : (Cond.static yX8_kindOf) ∈ lwA := lwA_mk (ck_2 _ (List.mem_of_getElem? (i := 224) rfl)) rfl
theorem k_RX8_226 {args : Array Value} {s : State} {R rm : Room} (hts : ∀ w ∈ lwA, w.before args s = true) (hR : rm.frames + 1 ≤ R.frames ∧ 8 + (2 + 11) + rm.locals ≤ R.locals) : CallB R s args RX8 226 yX8_kindOf cX8_kindOf 2 (some .char) (lwC yX8_kindOf cX8_kindOf 2 (some .char)) rm rm.cells rm.slots 1 ∧ (Cond.static yX8_kindOf).before args s = true := cwS 1 hts (gdS m_2_223 m_2_224 m_1_1 m_2_225) rfl rfl rfl (by decide +kernel) hR
end SITES
def isB (i b : Int32) : Int32 := if i < 0 then 0 else if b ≤ i then 0 else 1
def isPl (c : Int32) : Int32 := if c = 1 then 1 else if c = 2 then 1 else 0
def kf (v : Int64) : Int32 := ((v.toUInt64 >>> ((32 : Int32).toInt64.toUInt64 &&& Int64.toUInt64 63)).toInt64.toInt32.toUInt32 % 65536).toInt32
def nf (v : Int64) : Int32 := v.toInt32
def isN (v : Int64) : Int32 := if kf v = 110 then 1 else 0
def isT (v : Int64) : Int32 := if kf v = 111 then 1 else 0
theorem isB_0 {i b : Int32} : isB i b = 0 ↔ (i < 0 ∨ b ≤ i) := by
  unfold isB
  by_cases h1 : i < 0
  · simp [h1]
  · by_cases h2 : b ≤ i <;> simp [h1, h2]
theorem isB_n {i b : Int32} : ¬ isB i b = 0 ↔ (¬ i < 0 ∧ ¬ b ≤ i) := by rw [isB_0]; exact not_or
theorem isPl_0 {c : Int32} : isPl c = 0 ↔ (¬ c = 1 ∧ ¬ c = 2) := by
  unfold isPl
  by_cases h1 : c = 1
  · simp [h1]
  · by_cases h2 : c = 2 <;> simp [h1, h2]
theorem pk_nchar (x : Int32) : narrow .char (.int (x.toUInt32 % 65536).toInt32) = .int (x.toUInt32 % 65536).toInt32 := pk_nc x
set_option maxHeartbeats 4000000 in
set_option maxRecDepth 100000 in
theorem c_X8_isBelow (l : Launch) (D : va_G) (ar : Nat → ClassId) (κ : Nat → Nat) (G : gW) (sz : Nat) (i : Int32) (b : Int32) : Met l yX8_isBelow (lwC yX8_isBelow cX8_isBelow 2 (some .boolean)) (rD 1 0 0) (g_Pc D vwCl (gT ar) (EX1 κ) G sz [.int i, .int b]) (g_Qi D vwCl (g_A G sz) (fun r u => r = isB i b ∧ u = (G, sz))) 0 0 (g_A G sz) := by
  refine g_ofW (by decide +kernel) (Nat.le_of_ble_eq_true rfl) ?_
  intro p e s m below meth c ls S hr hlk hin hE w hl
  have hx := S.1
  have hb := S.2.1
  have hl : lv_has ls 2 [(0, .int i), (1, .int b)] := hl
  refine lv_iload_n hx hb dX8_isBelow_0 rfl (lv_at hl 0 rfl) ?_
  refine lv_if_lt (tgt := 13) hx hb dX8_isBelow_1 (by decide) (fun c_1 => ?_) (fun c_1 => ?_)
  · refine lv_iconst (v := 0) hx hb dX8_isBelow_13 (by decide) ?_
    exact g_zret hx hb hr hlk w (Nat.le_of_ble_eq_true rfl) (Nat.le_of_ble_eq_true rfl) dX8_isBelow_14 rfl ⟨by simp [isB, c_1], rfl⟩
  · refine lv_iload_n hx hb dX8_isBelow_4 rfl (lv_at hl 0 rfl) ?_
    refine lv_iload_n hx hb dX8_isBelow_5 rfl (lv_at hl 1 rfl) ?_
    refine lv_icmp_ge (tgt := 13) hx hb dX8_isBelow_6 (by decide) (fun c_6 => ?_) (fun c_6 => ?_)
    · refine lv_iconst (v := 0) hx hb dX8_isBelow_13 (by decide) ?_
      exact g_zret hx hb hr hlk w (Nat.le_of_ble_eq_true rfl) (Nat.le_of_ble_eq_true rfl) dX8_isBelow_14 rfl ⟨by simp [isB, c_1, c_6], rfl⟩
    · refine lv_iconst (v := 1) hx hb dX8_isBelow_9 (by decide) ?_
      refine lv_goto (tgt := 14) hx hb dX8_isBelow_10 (by decide) ?_
      exact g_zret hx hb hr hlk w (Nat.le_of_ble_eq_true rfl) (Nat.le_of_ble_eq_true rfl) dX8_isBelow_14 rfl ⟨by simp [isB, c_1, c_6], rfl⟩
set_option maxHeartbeats 4000000 in
set_option maxRecDepth 100000 in
theorem c_X8_isOfPlainValues (l : Launch) (D : va_G) (ar : Nat → ClassId) (κ : Nat → Nat) (G : gW) (sz : Nat) (cc0 : Int32) : Met l yX8_isOfPlainValues (lwC yX8_isOfPlainValues cX8_isOfPlainValues 1 (some .boolean)) (rD 1 0 0) (g_Pc D vwCl (gT ar) (EX1 κ) G sz [.int cc0]) (g_Qi D vwCl (g_A G sz) (fun r u => r = isPl cc0 ∧ u = (G, sz))) 0 0 (g_A G sz) := by
  refine g_ofW (by decide +kernel) (Nat.le_of_ble_eq_true rfl) ?_
  intro p e s m below meth c ls S hr hlk hin hE w hl
  have hx := S.1
  have hb := S.2.1
  have hl : lv_has ls 1 [(0, .int cc0)] := hl
  refine lv_iload_n hx hb dX8_isOfPlainValues_0 rfl (lv_at hl 0 rfl) ?_
  refine lv_iconst (v := 1) hx hb dX8_isOfPlainValues_1 (by decide) ?_
  refine lv_icmp_eq (tgt := 10) hx hb dX8_isOfPlainValues_2 (by decide) (fun c_2 => ?_) (fun c_2 => ?_)
  · refine lv_iconst (v := 1) hx hb dX8_isOfPlainValues_10 (by decide) ?_
    refine lv_goto (tgt := 15) hx hb dX8_isOfPlainValues_11 (by decide) ?_
    exact g_zret hx hb hr hlk w (Nat.le_of_ble_eq_true rfl) (Nat.le_of_ble_eq_true rfl) dX8_isOfPlainValues_15 rfl ⟨by simp [isPl, c_2], rfl⟩
  · refine lv_iload_n hx hb dX8_isOfPlainValues_5 rfl (lv_at hl 0 rfl) ?_
    refine lv_iconst (v := 2) hx hb dX8_isOfPlainValues_6 (by decide) ?_
    refine lv_icmp_ne (tgt := 14) hx hb dX8_isOfPlainValues_7 (by decide) (fun c_7 => ?_) (fun c_7 => ?_)
    · refine lv_iconst (v := 0) hx hb dX8_isOfPlainValues_14 (by decide) ?_
      exact g_zret hx hb hr hlk w (Nat.le_of_ble_eq_true rfl) (Nat.le_of_ble_eq_true rfl) dX8_isOfPlainValues_15 rfl ⟨by simp [isPl, c_2, c_7], rfl⟩
    · refine lv_iconst (v := 1) hx hb dX8_isOfPlainValues_10 (by decide) ?_
      refine lv_goto (tgt := 15) hx hb dX8_isOfPlainValues_11 (by decide) ?_
      exact g_zret hx hb hr hlk w (Nat.le_of_ble_eq_true rfl) (Nat.le_of_ble_eq_true rfl) dX8_isOfPlainValues_15 rfl ⟨by simp [isPl, c_2, c_7], rfl⟩
set_option maxHeartbeats 4000000 in
set_option maxRecDepth 100000 in
theorem c_X8_kindOf (l : Launch) (D : va_G) (ar : Nat → ClassId) (κ : Nat → Nat) (G : gW) (sz : Nat) (v : Int64) : Met l yX8_kindOf (lwC yX8_kindOf cX8_kindOf 2 (some .char)) (rD 1 0 0) (g_Pc D vwCl (gT ar) (EX1 κ) G sz [.long v]) (g_Qi D vwCl (g_A G sz) (fun r u => r = kf v ∧ u = (G, sz))) 0 0 (g_A G sz) := by
  refine g_ofW (by decide +kernel) (Nat.le_of_ble_eq_true rfl) ?_
  intro p e s m below meth c ls S hr hlk hin hE w hl
  have hx := S.1
  have hb := S.2.1
  have hl : lv_has ls 2 [(0, .long v)] := hl
  refine lv_lload_n hx hb dX8_kindOf_0 rfl (lv_at hl 0 rfl) ?_
  refine lv_bipush (v := 32) hx hb dX8_kindOf_1 (by decide) ?_
  refine lv_lushr hx hb dX8_kindOf_3 rfl ?_
  refine lv_l2i hx hb dX8_kindOf_4 rfl ?_
  refine lv_i2c hx hb dX8_kindOf_5 rfl ?_
  exact g_zret hx hb hr hlk w (Nat.le_of_ble_eq_true rfl) (Nat.le_of_ble_eq_true rfl) dX8_kindOf_6 (pk_nchar _) ⟨rfl, rfl⟩
set_option maxHeartbeats 4000000 in
set_option maxRecDepth 100000 in
theorem c_X8_numberOf (l : Launch) (D : va_G) (ar : Nat → ClassId) (κ : Nat → Nat) (G : gW) (sz : Nat) (v : Int64) : Met l yX8_numberOf (lwC yX8_numberOf cX8_numberOf 2 (some .int)) (rD 1 0 0) (g_Pc D vwCl (gT ar) (EX1 κ) G sz [.long v]) (g_Qi D vwCl (g_A G sz) (fun r u => r = nf v ∧ u = (G, sz))) 0 0 (g_A G sz) := by
  refine g_ofW (by decide +kernel) (Nat.le_of_ble_eq_true rfl) ?_
  intro p e s m below meth c ls S hr hlk hin hE w hl
  have hx := S.1
  have hb := S.2.1
  have hl : lv_has ls 2 [(0, .long v)] := hl
  refine lv_lload_n hx hb dX8_numberOf_0 rfl (lv_at hl 0 rfl) ?_
  refine lv_l2i hx hb dX8_numberOf_1 rfl ?_
  exact g_iret hx hb hr hlk w (Nat.le_of_ble_eq_true rfl) (Nat.le_of_ble_eq_true rfl) dX8_numberOf_2 ⟨rfl, rfl⟩
set_option maxHeartbeats 4000000 in
set_option maxRecDepth 100000 in
theorem c_X8_isNumber (l : Launch) (D : va_G) (ar : Nat → ClassId) (κ : Nat → Nat) (G : gW) (sz : Nat) (v : Int64) : Met l yX8_isNumber (lwC yX8_isNumber cX8_isNumber 2 (some .boolean)) (rD 2 0 0) (g_Pc D vwCl (gT ar) (EX1 κ) G sz [.long v]) (g_Qi D vwCl (g_A G sz) (fun r u => r = isN v ∧ u = (G, sz))) 0 0 (g_A G sz) := by
  refine g_ofW (by decide +kernel) (Nat.le_of_ble_eq_true rfl) ?_
  intro p e s m below meth c ls S hr hlk hin hE w hl
  have hx := S.1
  have hb := S.2.1
  have hl : lv_has ls 2 [(0, .long v)] := hl
  refine lv_lload_n hx hb dX8_isNumber_0 rfl (lv_at hl 0 rfl) ?_
  refine g_calli w (g_runS (As := [.long v]) (rest := []) S hE w hl (c_X8_kindOf l D ar κ G sz v) (k_RX8_226 S.2.2.2.2 ⟨Nat.le_of_ble_eq_true rfl, Nat.le_of_ble_eq_true rfl⟩) rfl rfl (Nat.le_of_ble_eq_true rfl) dX8_isNumber_1 ⟨Nat.le_of_ble_eq_true rfl, Nat.le_of_ble_eq_true rfl⟩) (fun r u H locs hp hnz w => ?_)
  obtain ⟨rfl, rfl⟩ := hp
  dsimp only at w
  refine lv_bipush (v := 110) hx hb dX8_isNumber_4 (by decide) ?_
  refine lv_icmp_ne (tgt := 13) hx hb dX8_isNumber_6 (by decide) (fun c_6 => ?_) (fun c_6 => ?_)
  · refine lv_iconst (v := 0) hx hb dX8_isNumber_13 (by decide) ?_
    exact g_zret hx hb hr hlk w (Nat.le_of_ble_eq_true rfl) (Nat.le_of_ble_eq_true rfl) dX8_isNumber_14 rfl ⟨by simp [isN, c_6], rfl⟩
  · refine lv_iconst (v := 1) hx hb dX8_isNumber_9 (by decide) ?_
    refine lv_goto (tgt := 14) hx hb dX8_isNumber_10 (by decide) ?_
    exact g_zret hx hb hr hlk w (Nat.le_of_ble_eq_true rfl) (Nat.le_of_ble_eq_true rfl) dX8_isNumber_14 rfl ⟨by simp [isN, c_6], rfl⟩
set_option maxHeartbeats 4000000 in
set_option maxRecDepth 100000 in
theorem c_X8_isThing (l : Launch) (D : va_G) (ar : Nat → ClassId) (κ : Nat → Nat) (G : gW) (sz : Nat) (v : Int64) : Met l yX8_isThing (lwC yX8_isThing cX8_isThing 2 (some .boolean)) (rD 2 0 0) (g_Pc D vwCl (gT ar) (EX1 κ) G sz [.long v]) (g_Qi D vwCl (g_A G sz) (fun r u => r = isT v ∧ u = (G, sz))) 0 0 (g_A G sz) := by
  refine g_ofW (by decide +kernel) (Nat.le_of_ble_eq_true rfl) ?_
  intro p e s m below meth c ls S hr hlk hin hE w hl
  have hx := S.1
  have hb := S.2.1
  have hl : lv_has ls 2 [(0, .long v)] := hl
  refine lv_lload_n hx hb dX8_isThing_0 rfl (lv_at hl 0 rfl) ?_
  refine g_calli w (g_runS (As := [.long v]) (rest := []) S hE w hl (c_X8_kindOf l D ar κ G sz v) (k_RX8_226 S.2.2.2.2 ⟨Nat.le_of_ble_eq_true rfl, Nat.le_of_ble_eq_true rfl⟩) rfl rfl (Nat.le_of_ble_eq_true rfl) dX8_isThing_1 ⟨Nat.le_of_ble_eq_true rfl, Nat.le_of_ble_eq_true rfl⟩) (fun r u H locs hp hnz w => ?_)
  obtain ⟨rfl, rfl⟩ := hp
  dsimp only at w
  refine lv_bipush (v := 111) hx hb dX8_isThing_4 (by decide) ?_
  refine lv_icmp_ne (tgt := 13) hx hb dX8_isThing_6 (by decide) (fun c_6 => ?_) (fun c_6 => ?_)
  · refine lv_iconst (v := 0) hx hb dX8_isThing_13 (by decide) ?_
    exact g_zret hx hb hr hlk w (Nat.le_of_ble_eq_true rfl) (Nat.le_of_ble_eq_true rfl) dX8_isThing_14 rfl ⟨by simp [isT, c_6], rfl⟩
  · refine lv_iconst (v := 1) hx hb dX8_isThing_9 (by decide) ?_
    refine lv_goto (tgt := 14) hx hb dX8_isThing_10 (by decide) ?_
    exact g_zret hx hb hr hlk w (Nat.le_of_ble_eq_true rfl) (Nat.le_of_ble_eq_true rfl) dX8_isThing_14 rfl ⟨by simp [isT, c_6], rfl⟩
