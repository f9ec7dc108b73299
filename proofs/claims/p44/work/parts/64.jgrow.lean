theorem dJ7_copyOf_6403c_0 : decode cJ7_copyOf_6403c 0 = .ok (.aload_n 2, 1) := by decide +kernel
theorem dJ7_copyOf_6403c_1 : decode cJ7_copyOf_6403c 1 = .ok (.ldc 110, 2) := by decide +kernel
theorem dJ7_copyOf_6403c_3 : decode cJ7_copyOf_6403c 3 = .ok (.if_acmp .ne 10, 3) := by decide +kernel
theorem dJ7_copyOf_6403c_6 : decode cJ7_copyOf_6403c 6 = .ok (.iload_n 1, 1) := by decide +kernel
theorem dJ7_copyOf_6403c_7 : decode cJ7_copyOf_6403c 7 = .ok (.anewarray 2, 3) := by decide +kernel
theorem dJ7_copyOf_6403c_10 : decode cJ7_copyOf_6403c 10 = .ok (.goto 14, 3) := by decide +kernel
theorem dJ7_copyOf_6403c_13 : decode cJ7_copyOf_6403c 13 = .ok (.aload_n 2, 1) := by decide +kernel
theorem dJ7_copyOf_6403c_14 : decode cJ7_copyOf_6403c 14 = .ok (.invokevirtual 90, 3) := by decide +kernel
theorem dJ7_copyOf_6403c_17 : decode cJ7_copyOf_6403c 17 = .ok (.iload_n 1, 1) := by decide +kernel
theorem dJ7_copyOf_6403c_18 : decode cJ7_copyOf_6403c 18 = .ok (.invokestatic 95, 3) := by decide +kernel
theorem dJ7_copyOf_6403c_21 : decode cJ7_copyOf_6403c 21 = .ok (.checkcast 110, 3) := by decide +kernel
theorem dJ7_copyOf_6403c_24 : decode cJ7_copyOf_6403c 24 = .ok (.astore_n 3, 1) := by decide +kernel
theorem dJ7_copyOf_6403c_25 : decode cJ7_copyOf_6403c 25 = .ok (.aload_n 0, 1) := by decide +kernel
theorem dJ7_copyOf_6403c_26 : decode cJ7_copyOf_6403c 26 = .ok (.iconst 0, 1) := by decide +kernel
theorem dJ7_copyOf_6403c_27 : decode cJ7_copyOf_6403c 27 = .ok (.aload_n 3, 1) := by decide +kernel
theorem dJ7_copyOf_6403c_28 : decode cJ7_copyOf_6403c 28 = .ok (.iconst 0, 1) := by decide +kernel
theorem dJ7_copyOf_6403c_29 : decode cJ7_copyOf_6403c 29 = .ok (.aload_n 0, 1) := by decide +kernel
theorem dJ7_copyOf_6403c_30 : decode cJ7_copyOf_6403c 30 = .ok (.arraylength, 1) := by decide +kernel
theorem dJ7_copyOf_6403c_31 : decode cJ7_copyOf_6403c 31 = .ok (.iload_n 1, 1) := by decide +kernel
theorem dJ7_copyOf_6403c_32 : decode cJ7_copyOf_6403c 32 = .ok (.invokestatic 304, 3) := by decide +kernel
theorem dJ7_copyOf_6403c_35 : decode cJ7_copyOf_6403c 35 = .ok (.invokestatic 150, 3) := by decide +kernel
theorem dJ7_copyOf_6403c_38 : decode cJ7_copyOf_6403c 38 = .ok (.aload_n 3, 1) := by decide +kernel
theorem dJ7_copyOf_6403c_39 : decode cJ7_copyOf_6403c 39 = .ok (.areturn, 1) := by decide +kernel
theorem dJ7_copyOf_1904c_0 : decode cJ7_copyOf_1904c 0 = .ok (.aload_n 0, 1) := by decide +kernel
theorem dJ7_copyOf_1904c_1 : decode cJ7_copyOf_1904c 1 = .ok (.iload_n 1, 1) := by decide +kernel
theorem dJ7_copyOf_1904c_2 : decode cJ7_copyOf_1904c 2 = .ok (.aload_n 0, 1) := by decide +kernel
theorem dJ7_copyOf_1904c_3 : decode cJ7_copyOf_1904c 3 = .ok (.invokevirtual 86, 3) := by decide +kernel
theorem dJ7_copyOf_1904c_6 : decode cJ7_copyOf_1904c 6 = .ok (.invokestatic 300, 3) := by decide +kernel
theorem dJ7_copyOf_1904c_9 : decode cJ7_copyOf_1904c 9 = .ok (.areturn, 1) := by decide +kernel
section SITES
variable {p : Program} {l : Launch} {e : Env} {R : Room} {s : State} {m : MethodId} {args : Array Value} {below : List Frame} {meth : Method} {c : Code} {H : Heap} {locs : List Loc} {cells slots : Nat} {Q : State → Prop}
variable {pc : Nat} {ls : Array Slot} {rest : List Value} {D : va_G} {ar : Nat → ClassId} {κ : Nat → Nat} {A : Nat → Prop} {a : Nat} {H0 : Heap} {G : gW} {nz nL : Nat} {cc : ByteArray}
theorem m_4_96 : (Cond.classLink RJ7 110 "[Ljava/lang/Object;") ∈ lwA := lwA_mk (ck_4 _ (List.mem_of_getElem? (i := 96) rfl)) rfl
theorem m_4_98 : (Cond.classLink RJ7 2 "java/lang/Object") ∈ lwA := lwA_mk (ck_4 _ (List.mem_of_getElem? (i := 98) rfl)) rfl
theorem m_4_68 : (Cond.methodLink RJ7 86 ⟨"java/lang/Object", "getClass", "()Ljava/lang/Class;"⟩) ∈ lwA := lwA_mk (ck_4 _ (List.mem_of_getElem? (i := 68) rfl)) rfl
theorem m_8_119 : (Cond.selects "[Ljava/lang/Object;" ⟨"java/lang/Object", "getClass", "()Ljava/lang/Class;"⟩ ⟨"java/lang/Object", "getClass", "()Ljava/lang/Class;"⟩) ∈ lwA := lwA_mk (ck_8 _ (List.mem_of_getElem? (i := 119) rfl)) rfl
theorem m_4_69 : (Cond.instanceMethod ⟨"java/lang/Object", "getClass", "()Ljava/lang/Class;"⟩) ∈ lwA := lwA_mk (ck_4 _ (List.mem_of_getElem? (i := 69) rfl)) rfl
theorem m_4_92 : (Cond.native ⟨"java/lang/Object", "getClass", "()Ljava/lang/Class;"⟩) ∈ lwA := lwA_mk (ck_4 _ (List.mem_of_getElem? (i := 92) rfl)) rfl
theorem m_4_95 : (Cond.code yJ7_copyOf_6403c cJ7_copyOf_6403c 4 (some (.array (.object "java/lang/Object")))) ∈ lwA := lwA_mk (ck_4 _ (List.mem_of_getElem? (i := 95) rfl)) rfl
theorem m_4_93 : (Cond.methodLink RJ7 300 yJ7_copyOf_6403c) ∈ lwA := lwA_mk (ck_4 _ (List.mem_of_getElem? (i := 93) rfl)) rfl
theorem m_4_94 : (Cond.static yJ7_copyOf_6403c) ∈ lwA := lwA_mk (ck_4 _ (List.mem_of_getElem? (i := 94) rfl)) rfl
theorem k_RJ7_300 {args : Array Value} {s : State} {R rm : Room} (hts : ∀ w ∈ lwA, w.before args s = true) (hR : rm.frames + 1 ≤ R.frames ∧ 8 + (4 + 11) + rm.locals ≤ R.locals) : CallB R s args RJ7 300 yJ7_copyOf_6403c cJ7_copyOf_6403c 4 (some (.array (.object "java/lang/Object"))) (lwC yJ7_copyOf_6403c cJ7_copyOf_6403c 4 (some (.array (.object "java/lang/Object")))) rm rm.cells rm.slots 3 ∧ (Cond.static yJ7_copyOf_6403c).before args s = true := cwS 3 hts (gdS m_4_93 m_4_94 m_1_10 m_4_95) rfl rfl rfl (by decide +kernel) hR
theorem m_4_55 : (Cond.methodLink RJx4a65c 73 yJ8_newLength_cabcc) ∈ lwA := lwA_mk (ck_4 _ (List.mem_of_getElem? (i := 55) rfl)) rfl
theorem k_RJx4a65c_73 {args : Array Value} {s : State} {R rm : Room} (hts : ∀ w ∈ lwA, w.before args s = true) (hR : rm.frames + 1 ≤ R.frames ∧ 8 + (4 + 11) + rm.locals ≤ R.locals) : CallB R s args RJx4a65c 73 yJ8_newLength_cabcc cJ8_newLength_cabcc 4 (some .int) (lwC yJ8_newLength_cabcc cJ8_newLength_cabcc 4 (some .int)) rm rm.cells rm.slots 3 ∧ (Cond.static yJ8_newLength_cabcc).before args s = true := va_cwS 3 hts (gdT m_4_55 m_4_56 m_1_23 m_4_57) rfl rfl rfl (by decide +kernel) hR
theorem m_4_67 : (Cond.code yJ7_copyOf_1904c cJ7_copyOf_1904c 2 (some (.array (.object "java/lang/Object")))) ∈ lwA := lwA_mk (ck_4 _ (List.mem_of_getElem? (i := 67) rfl)) rfl
theorem m_4_65 : (Cond.methodLink RJx4a65c 66 yJ7_copyOf_1904c) ∈ lwA := lwA_mk (ck_4 _ (List.mem_of_getElem? (i := 65) rfl)) rfl
theorem m_4_66 : (Cond.static yJ7_copyOf_1904c) ∈ lwA := lwA_mk (ck_4 _ (List.mem_of_getElem? (i := 66) rfl)) rfl
theorem k_RJx4a65c_66 {args : Array Value} {s : State} {R rm : Room} (hts : ∀ w ∈ lwA, w.before args s = true) (hR : rm.frames + 1 ≤ R.frames ∧ 8 + (2 + 11) + rm.locals ≤ R.locals) : CallB R s args RJx4a65c 66 yJ7_copyOf_1904c cJ7_copyOf_1904c 2 (some (.array (.object "java/lang/Object"))) (lwC yJ7_copyOf_1904c cJ7_copyOf_1904c 2 (some (.array (.object "java/lang/Object")))) rm rm.cells rm.slots 2 ∧ (Cond.static yJ7_copyOf_1904c).before args s = true := va_cwS 2 hts (gdT m_4_65 m_4_66 m_1_10 m_4_67) rfl rfl rfl (by decide +kernel) hR
end SITES
set_option maxHeartbeats 4000000 in
set_option maxRecDepth 100000 in
theorem j_copyOfQ3 (l : Launch) (D : va_G) (ar : Nat → ClassId) (κ : Nat → Nat) (G : gW) (sz : Nat) (ed : Nat) (f9 : Nat → Option Nat) (hed : G ed = some (.inl (ar 8, 10, .inr (.inr (.inr (.inr f9)))))) (hel : ∀ j y, j < 10 → f9 j = some y → ∃ yv yb, TX ar κ G y yv yb) : Met l yJ7_copyOf_6403c (lwC yJ7_copyOf_6403c cJ7_copyOf_6403c 4 (some (.array (.object "java/lang/Object")))) (rD 1 1 15) (g_Pc D vwCl (gT ar) (EX1 κ) G sz [.ref ed, .int 15, .ref (κ 3)]) (g_Qq D vwCl (g_A G sz) (fun r u => r = some sz ∧ u = (g_up G sz (.inl (ar 8, 15, .inr (.inr (.inr (.inr (va_cpy f9 (fun _ => none) 0 0 10)))))), sz + 1))) 1 15 (g_A G sz) := by
  refine g_ofW (by decide +kernel) (Nat.le_of_ble_eq_true rfl) ?_
  intro p e s m below meth c ls S hr hlk hin hE w hl
  have hx := S.1
  have hb := S.2.1
  have hl : lv_has ls 4 [(0, .ref ed), (1, .int 15), (2, .ref (κ 3))] := hl
  have hfr : ∀ q, sz ≤ q → G q = none := fun q z => g_free w z
  have lt_hed : ed < sz := g_ltn w hed
  refine lv_aload_n hx hb dJ7_copyOf_6403c_0 rfl (lv_at hl 2 rfl) ?_
  refine va_ldcM hx hb S.2.2.2.1 (S.2.2.2.2 _ m_4_96) hE.2.2.2.2.1.2.2.2 dJ7_copyOf_6403c_1 ?_
  refine lv_acmp_ne (rx := some (κ 3)) (ry := some (κ 3)) (tgt := 13) hx hb dJ7_copyOf_6403c_3 (by decide) (fun c => absurd rfl c) (fun _ => ?_)
  refine lv_iload_n hx hb dJ7_copyOf_6403c_6 rfl (lv_at hl 1 rfl) ?_
  refine g_newq (N' := 15) hx hb S.2.2.2.1 (S.2.2.2.2 _ m_4_98) (va_AO.use (C := "java/lang/Object") (hE.2.1.1 _ (ckN_1 _ (List.mem_of_getElem? (i := 13) rfl)))) hE.1 w 8 rfl (by decide) rfl (Nat.le_of_ble_eq_true rfl) (Nat.le_of_ble_eq_true rfl) (Nat.le_of_ble_eq_true rfl) dJ7_copyOf_6403c_7 (fun H w => ?_)
  refine lv_goto (tgt := 24) hx hb dJ7_copyOf_6403c_10 (by decide) ?_
  refine lv_astore_n (lv' := [(3, .ref sz), (0, .ref ed), (1, .int 15), (2, .ref (κ 3))]) hx hb dJ7_copyOf_6403c_24 rfl hl (by decide) rfl (fun ls hl => ?_)
  refine lv_aload_n hx hb dJ7_copyOf_6403c_25 rfl (lv_at hl 1 rfl) ?_
  refine lv_iconst (v := 0) hx hb dJ7_copyOf_6403c_26 (by decide) ?_
  refine lv_aload_n hx hb dJ7_copyOf_6403c_27 rfl (lv_at hl 0 rfl) ?_
  refine lv_iconst (v := 0) hx hb dJ7_copyOf_6403c_28 (by decide) ?_
  refine lv_aload_n hx hb dJ7_copyOf_6403c_29 rfl (lv_at hl 1 rfl) ?_
  refine va_alen (v := 10) hx hb hE.1 (g_1 w.1 (g_up_o (by omega) hed)) 0 8 rfl rfl rfl dJ7_copyOf_6403c_30 ?_
  refine lv_iload_n hx hb dJ7_copyOf_6403c_31 rfl (lv_at hl 2 rfl) ?_
  refine va_mmin hx hb (hl.1.trans S.2.2.1.symm).symm S.2.2.2.1 (S.2.2.2.2 _ m_4_99) (S.2.2.2.2 _ m_4_100) (S.2.2.2.2 _ m_1_24) (S.2.2.2.2 _ m_4_101) (Nat.le_of_ble_eq_true rfl) (Nat.le_of_ble_eq_true rfl) (Nat.le_of_ble_eq_true rfl) (Nat.le_of_ble_eq_true rfl) dJ7_copyOf_6403c_32 ?_
  rw [show (if (15 : Int32) < 10 then (15 : Int32) else 10) = 10 from by decide]
  refine g_copyq (C := "java/lang/String") (i := 0) (j := 0) (k := 10) (t1 := 8) hx hb (hl.1.trans S.2.2.1.symm).symm S.2.2.2.1 (S.2.2.2.2 _ m_4_102) (S.2.2.2.2 _ m_4_104) (S.2.2.2.2 _ m_4_103) (S.2.2.2.2 _ m_1_25) hE w (g_srcQ (t0 := 8) hE w (g_up_o (by omega) hed) rfl) g_up_s rfl (by rfl) (by rfl) (by rfl) (by omega) (by omega) (by omega) (by omega) (fun q hq y hy => (by rw [Nat.zero_add] at hy; obtain ⟨yv, yb, hz⟩ := hel q y hq hy; exact tx_recv hE w (hz.le (gLe.up gLe.r (hfr _ (by omega)))))) (vb_asgC (hE.2.1.1 _ (ckN_2 _ (List.mem_of_getElem? (i := 4) rfl)))) (Nat.le_of_ble_eq_true rfl) (Nat.le_of_ble_eq_true rfl) dJ7_copyOf_6403c_35 (fun H locs w => ?_)
  have w := g_eqw w g_over
  refine lv_aload_n hx hb dJ7_copyOf_6403c_38 rfl (lv_at hl 0 rfl) ?_
  exact g_qret (r := (some sz)) hx hb hr (Or.inr ⟨_, rfl⟩) hlk w (Nat.le_of_ble_eq_true rfl) (Nat.le_of_ble_eq_true rfl) dJ7_copyOf_6403c_39 ⟨rfl, rfl⟩
set_option maxHeartbeats 4000000 in
set_option maxRecDepth 100000 in
theorem j_copyOfQ2 (l : Launch) (D : va_G) (ar : Nat → ClassId) (κ : Nat → Nat) (G : gW) (sz : Nat) (ed : Nat) (f9 : Nat → Option Nat) (hed : G ed = some (.inl (ar 8, 10, .inr (.inr (.inr (.inr f9)))))) (hel : ∀ j y, j < 10 → f9 j = some y → ∃ yv yb, TX ar κ G y yv yb) : Met l yJ7_copyOf_1904c (lwC yJ7_copyOf_1904c cJ7_copyOf_1904c 2 (some (.array (.object "java/lang/Object")))) (rD 2 1 15) (g_Pc D vwCl (gT ar) (EX1 κ) G sz [.ref ed, .int 15]) (g_Qq D vwCl (g_A G sz) (fun r u => r = some sz ∧ u = (g_up G sz (.inl (ar 8, 15, .inr (.inr (.inr (.inr (va_cpy f9 (fun _ => none) 0 0 10)))))), sz + 1))) 1 15 (g_A G sz) := by
  refine g_ofW (by decide +kernel) (Nat.le_of_ble_eq_true rfl) ?_
  intro p e s m below meth c ls S hr hlk hin hE w hl
  have hx := S.1
  have hb := S.2.1
  have hl : lv_has ls 2 [(0, .ref ed), (1, .int 15)] := hl
  have hfr : ∀ q, sz ≤ q → G q = none := fun q z => g_free w z
  refine lv_aload_n hx hb dJ7_copyOf_1904c_0 rfl (lv_at hl 0 rfl) ?_
  refine lv_iload_n hx hb dJ7_copyOf_1904c_1 rfl (lv_at hl 1 rfl) ?_
  refine lv_aload_n hx hb dJ7_copyOf_1904c_2 rfl (lv_at hl 0 rfl) ?_
  refine va_getC (C := "[Ljava/lang/Object;") (mi := κ 3) hx hb (hl.1.trans S.2.2.1.symm).symm S.2.2.2.1 (S.2.2.2.2 _ m_4_68) (va_Nw.use rfl (hE.2.1.1 _ (ckN_2 _ (List.mem_of_getElem? (i := 23) rfl)))) (S.2.2.2.2 _ m_8_119) (S.2.2.2.2 _ m_4_69) (S.2.2.2.2 _ m_4_92) hE.2.2.2.2.1.2.2.2 (g_arrO hE w hed) (Nat.le_of_ble_eq_true rfl) (Nat.le_of_ble_eq_true rfl) dJ7_copyOf_1904c_3 ?_
  refine g_callq w (g_runS (As := [.ref ed, .int 15, .ref (κ 3)]) (rest := []) S hE w hl (j_copyOfQ3 l D ar κ G sz ed f9 hed hel) (k_RJ7_300 S.2.2.2.2 ⟨Nat.le_of_ble_eq_true rfl, Nat.le_of_ble_eq_true rfl⟩) rfl rfl (Nat.le_of_ble_eq_true rfl) dJ7_copyOf_1904c_6 ⟨Nat.le_of_ble_eq_true rfl, Nat.le_of_ble_eq_true rfl⟩) (fun r u H locs hp hnz w => ?_)
  obtain ⟨rfl, rfl⟩ := hp
  try dsimp only at w
  exact g_qret (r := (some sz)) hx hb hr (Or.inr ⟨_, rfl⟩) hlk w (Nat.le_of_ble_eq_true rfl) (Nat.le_of_ble_eq_true rfl) dJ7_copyOf_1904c_9 ⟨rfl, rfl⟩
set_option maxHeartbeats 4000000 in
set_option maxRecDepth 100000 in
theorem j_growL1 (l : Launch) (D : va_G) (ar : Nat → ClassId) (κ : Nat → Nat) (G : gW) (sz : Nat) (o : Nat) (mc : Int32) (ed : Nat) (f9 : Nat → Option Nat) (ho : G o = some (.inr (5, [.int mc, .ref ed, .int 10]))) (hed : G ed = some (.inl (ar 8, 10, .inr (.inr (.inr (.inr f9)))))) (hel : ∀ j y, j < 10 → f9 j = some y → ∃ yv yb, TX ar κ G y yv yb) : Met l yJx4a65c_grow_92f84 (lwC yJx4a65c_grow_92f84 cJx4a65c_grow_92f84 4 (some (.array (.object "java/lang/Object")))) (rD 3 1 15) (g_Pc D vwCl (gT ar) (EX1 κ) G sz [.ref o, .int 11]) (g_Qq D vwCl (g_A G sz) (fun r u => r = some sz ∧ u = ((g_up (g_up G sz (.inl (ar 8, 15, .inr (.inr (.inr (.inr (va_cpy f9 (fun _ => none) 0 0 10))))))) o (.inr (5, [.int mc, .ref sz, .int 10]))), sz + 1))) 1 15 (g_A G sz) := by
  refine g_ofW (by decide +kernel) (Nat.le_of_ble_eq_true rfl) ?_
  intro p e s m below meth c ls S hr hlk hin hE w hl
  have hx := S.1
  have hb := S.2.1
  have hl : lv_has ls 4 [(0, .ref o), (1, .int 11)] := hl
  have hfr : ∀ q, sz ≤ q → G q = none := fun q z => g_free w z
  have lt_ho : o < sz := g_ltn w ho
  have hoe : o ≠ ed := g_nx ho hed (by simp)
  refine lv_aload_n hx hb dJx4a65c_grow_92f84_0 rfl (lv_at hl 0 rfl) ?_
  refine gf_RJx4a65c_9_5 S hE w ho rfl dJx4a65c_grow_92f84_1 ?_
  refine va_alen (v := 10) hx hb hE.1 (g_1 w.1 hed) 0 8 rfl rfl rfl dJx4a65c_grow_92f84_4 ?_
  refine lv_istore_n (lv' := [(2, .int 10), (0, .ref o), (1, .int 11)]) hx hb dJx4a65c_grow_92f84_5 rfl hl (by decide) rfl (fun ls hl => ?_)
  refine lv_iload_n hx hb dJx4a65c_grow_92f84_6 rfl (lv_at hl 0 rfl) ?_
  refine lv_if_gt (tgt := 20) hx hb dJx4a65c_grow_92f84_7 (by decide) (fun _ => ?_) (fun c => absurd (by decide) c)
  refine lv_iload_n hx hb dJx4a65c_grow_92f84_20 rfl (lv_at hl 0 rfl) ?_
  refine lv_iload_n hx hb dJx4a65c_grow_92f84_21 rfl (lv_at hl 2 rfl) ?_
  refine lv_iload_n hx hb dJx4a65c_grow_92f84_22 rfl (lv_at hl 0 rfl) ?_
  refine lv_isub hx hb dJx4a65c_grow_92f84_23 ?_
  rw [show (11 - 10 : Int32) = 1 by decide +kernel]
  refine lv_iload_n hx hb dJx4a65c_grow_92f84_24 rfl (lv_at hl 0 rfl) ?_
  refine lv_iconst (v := 1) hx hb dJx4a65c_grow_92f84_25 (by decide) ?_
  refine lv_ishr hx hb dJx4a65c_grow_92f84_26 ?_
  rw [show ((10 : Int32) >>> ((1 : Int32) &&& 31)) = 5 from by decide]
  refine g_calli w (g_runS (As := [.int 10, .int 1, .int 5]) (rest := []) S hE w hl (j_newLength l D ar κ G sz 10 1 5 (by omega) (by omega) (by omega) (by omega)) (k_RJx4a65c_73 S.2.2.2.2 ⟨Nat.le_of_ble_eq_true rfl, Nat.le_of_ble_eq_true rfl⟩) rfl rfl (Nat.le_of_ble_eq_true rfl) dJx4a65c_grow_92f84_27 ⟨Nat.le_of_ble_eq_true rfl, Nat.le_of_ble_eq_true rfl⟩) (fun r u H locs hp hnz w => ?_)
  obtain ⟨rfl, rfl⟩ := hp
  try dsimp only at w
  rw [show nI (10 + max 1 5) = 15 from by decide +kernel]
  refine lv_istore_n (lv' := [(3, .int 15), (2, .int 10), (0, .ref o), (1, .int 11)]) hx hb dJx4a65c_grow_92f84_30 rfl hl (by decide) rfl (fun ls hl => ?_)
  refine lv_aload_n hx hb dJx4a65c_grow_92f84_31 rfl (lv_at hl 2 rfl) ?_
  refine lv_aload_n hx hb dJx4a65c_grow_92f84_32 rfl (lv_at hl 2 rfl) ?_
  refine gf_RJx4a65c_9_5 S hE w ho rfl dJx4a65c_grow_92f84_33 ?_
  refine lv_iload_n hx hb dJx4a65c_grow_92f84_36 rfl (lv_at hl 0 rfl) ?_
  refine g_callq w (g_runS (As := [.ref ed, .int 15]) (rest := [.ref o]) S hE w hl (j_copyOfQ2 l D ar κ G sz ed f9 hed hel) (k_RJx4a65c_66 S.2.2.2.2 ⟨Nat.le_of_ble_eq_true rfl, Nat.le_of_ble_eq_true rfl⟩) rfl rfl (Nat.le_of_ble_eq_true rfl) dJx4a65c_grow_92f84_37 ⟨Nat.le_of_ble_eq_true rfl, Nat.le_of_ble_eq_true rfl⟩) (fun r u H locs hp hnz w => ?_)
  obtain ⟨rfl, rfl⟩ := hp
  try dsimp only at w
  refine lv_dup_x1 hx hb dJx4a65c_grow_92f84_40 rfl rfl ?_
  refine pf_RJx4a65c_9_5 (fs1 := [.int mc, .ref sz, .int 10]) S hE w (g_up_o (by omega) ho) rfl rfl (Nat.le_of_ble_eq_true rfl) rfl dJx4a65c_grow_92f84_41 (fun H locs w => ?_)
  exact g_qret (r := (some sz)) hx hb hr (Or.inr ⟨_, rfl⟩) hlk w (Nat.le_of_ble_eq_true rfl) (Nat.le_of_ble_eq_true rfl) dJx4a65c_grow_92f84_44 ⟨rfl, rfl⟩
set_option maxHeartbeats 4000000 in
set_option maxRecDepth 100000 in
theorem j_growL (l : Launch) (D : va_G) (ar : Nat → ClassId) (κ : Nat → Nat) (G : gW) (sz : Nat) (o : Nat) (mc : Int32) (ed : Nat) (f9 : Nat → Option Nat) (ho : G o = some (.inr (5, [.int mc, .ref ed, .int 10]))) (hed : G ed = some (.inl (ar 8, 10, .inr (.inr (.inr (.inr f9)))))) (hel : ∀ j y, j < 10 → f9 j = some y → ∃ yv yb, TX ar κ G y yv yb) : Met l yJx4a65c_grow_d5877 (lwC yJx4a65c_grow_d5877 cJx4a65c_grow_d5877 1 (some (.array (.object "java/lang/Object")))) (rD 4 1 15) (g_Pc D vwCl (gT ar) (EX1 κ) G sz [.ref o]) (g_Qq D vwCl (g_A G sz) (fun r u => r = some sz ∧ u = ((g_up (g_up G sz (.inl (ar 8, 15, .inr (.inr (.inr (.inr (va_cpy f9 (fun _ => none) 0 0 10))))))) o (.inr (5, [.int mc, .ref sz, .int 10]))), sz + 1))) 1 15 (g_A G sz) := by
  refine g_ofW (by decide +kernel) (Nat.le_of_ble_eq_true rfl) ?_
  intro p e s m below meth c ls S hr hlk hin hE w hl
  have hx := S.1
  have hb := S.2.1
  have hl : lv_has ls 1 [(0, .ref o)] := hl
  have hfr : ∀ q, sz ≤ q → G q = none := fun q z => g_free w z
  have lt_ho : o < sz := g_ltn w ho
  refine lv_aload_n hx hb dJx4a65c_grow_d5877_0 rfl (lv_at hl 0 rfl) ?_
  refine lv_aload_n hx hb dJx4a65c_grow_d5877_1 rfl (lv_at hl 0 rfl) ?_
  refine gf_RJx4a65c_48_5 S hE w ho rfl dJx4a65c_grow_d5877_2 ?_
  refine lv_iconst (v := 1) hx hb dJx4a65c_grow_d5877_5 (by decide) ?_
  refine lv_iadd hx hb dJx4a65c_grow_d5877_6 ?_
  rw [show (10 + 1 : Int32) = 11 by decide +kernel]
  refine g_callq w (g_runV (As := [.int 11]) (rest := []) S hE w hl (j_growL1 l D ar κ G sz o mc ed f9 ho hed hel) (k_RJx4a65c_69 S.2.2.2.2 ⟨Nat.le_of_ble_eq_true rfl, Nat.le_of_ble_eq_true rfl⟩) ho rfl rfl rfl rfl (Nat.le_of_ble_eq_true rfl) dJx4a65c_grow_d5877_7 ⟨Nat.le_of_ble_eq_true rfl, Nat.le_of_ble_eq_true rfl⟩) (fun r u H locs hp hnz w => ?_)
  obtain ⟨rfl, rfl⟩ := hp
  try dsimp only at w
  exact g_qret (r := (some sz)) hx hb hr (Or.inr ⟨_, rfl⟩) hlk w (Nat.le_of_ble_eq_true rfl) (Nat.le_of_ble_eq_true rfl) dJx4a65c_grow_d5877_10 ⟨rfl, rfl⟩
set_option maxHeartbeats 4000000 in
set_option maxRecDepth 100000 in
theorem j_add3G (l : Launch) (D : va_G) (ar : Nat → ClassId) (κ : Nat → Nat) (G : gW) (sz : Nat) (o : Nat) (t : Nat) (ed : Nat) (vt : Nat) (bs : List Int32) (mc : Int32) (f9 : Nat → Option Nat) (ho : G o = some (.inr (5, [.int mc, .ref ed, .int 10]))) (hed : G ed = some (.inl (ar 8, 10, .inr (.inr (.inr (.inr f9)))))) (ht : ∀ G9, gLx G o ed G9 → TX ar κ G9 t vt bs) (hel : ∀ j y, j < 10 → f9 j = some y → ∃ yv yb, ∀ G9, gLx G o ed G9 → TX ar κ G9 y yv yb) : Met l yJx4a65c_add_72be8 (lwC yJx4a65c_add_72be8 cJx4a65c_add_72be8 4 none) (rD 5 1 15) (g_Pc D vwCl (gT ar) (EX1 κ) G sz [.ref o, .ref t, .ref ed, .int 10]) (g_Qv D vwCl (g_A G sz) (fun u => u = ((g_up (g_up G sz (.inl (ar 8, 15, .inr (.inr (.inr (.inr (va_up (va_cpy f9 (fun _ => none) 0 0 10) 10 (some t)))))))) o (.inr (5, [.int mc, .ref sz, .int 11]))), sz + 1))) 1 15 (g_A G sz) := by
  refine g_ofW (by decide +kernel) (Nat.le_of_ble_eq_true rfl) ?_
  intro p e s m below meth c ls S hr hlk hin hE w hl
  have hx := S.1
  have hb := S.2.1
  have hl : lv_has ls 4 [(0, .ref o), (1, .ref t), (2, .ref ed), (3, .int 10)] := hl
  have hfr : ∀ q, sz ≤ q → G q = none := fun q z => g_free w z
  have lt_ho : o < sz := g_ltn w ho
  refine lv_iload_n hx hb dJx4a65c_add_72be8_0 rfl (lv_at hl 3 rfl) ?_
  refine lv_aload_n hx hb dJx4a65c_add_72be8_1 rfl (lv_at hl 2 rfl) ?_
  refine va_alen (v := 10) hx hb hE.1 (g_1 w.1 hed) 0 8 rfl rfl rfl dJx4a65c_add_72be8_2 ?_
  refine lv_icmp_ne (tgt := 11) hx hb dJx4a65c_add_72be8_3 (by decide) (fun c => absurd (by decide) c) (fun _ => ?_)
  refine lv_aload_n hx hb dJx4a65c_add_72be8_6 rfl (lv_at hl 0 rfl) ?_
  refine g_callq w (g_runV (As := []) (rest := []) S hE w hl (j_growL l D ar κ G sz o mc ed f9 ho hed (fun j y hj hy => (hel j y hj hy).elim fun yv z => z.elim fun yb z => ⟨yv, yb, z _ gLx.r⟩)) (k_RJx4a65c_129 S.2.2.2.2 ⟨Nat.le_of_ble_eq_true rfl, Nat.le_of_ble_eq_true rfl⟩) ho rfl rfl rfl rfl (Nat.le_of_ble_eq_true rfl) dJx4a65c_add_72be8_7 ⟨Nat.le_of_ble_eq_true rfl, Nat.le_of_ble_eq_true rfl⟩) (fun r u H locs hp hnz w => ?_)
  obtain ⟨rfl, rfl⟩ := hp
  try dsimp only at w
  refine lv_astore_n (lv' := [(2, .ref sz), (0, .ref o), (1, .ref t), (3, .int 10)]) hx hb dJx4a65c_add_72be8_10 rfl hl (by decide) rfl (fun ls hl => ?_)
  refine lv_aload_n hx hb dJx4a65c_add_72be8_11 rfl (lv_at hl 0 rfl) ?_
  refine lv_iload_n hx hb dJx4a65c_add_72be8_12 rfl (lv_at hl 3 rfl) ?_
  refine lv_aload_n hx hb dJx4a65c_add_72be8_13 rfl (lv_at hl 2 rfl) ?_
  refine g_astqR (C := "java/lang/String") hx hb hE.1 w 8 (g_up_o (by omega) g_up_s) rfl (tx_recv hE w (ht _ (gLx.o (gLx.up gLx.r (hfr _ (by omega)))))) (hE.2.1.1 _ (ckN_2 _ (List.mem_of_getElem? (i := 4) rfl))) (k := 10) (by rfl) (by omega) (by omega) dJx4a65c_add_72be8_14 (fun H locs w => ?_)
  have w := g_eqw w (g_inn g_over (by omega))
  refine lv_aload_n hx hb dJx4a65c_add_72be8_15 rfl (lv_at hl 1 rfl) ?_
  refine lv_iload_n hx hb dJx4a65c_add_72be8_16 rfl (lv_at hl 3 rfl) ?_
  refine lv_iconst (v := 1) hx hb dJx4a65c_add_72be8_17 (by decide) ?_
  refine lv_iadd hx hb dJx4a65c_add_72be8_18 ?_
  rw [show (10 + 1 : Int32) = 11 by decide +kernel]
  refine pf_RJx4a65c_48_5 (fs1 := [.int mc, .ref sz, .int 11]) S hE w g_up_s rfl rfl (Nat.le_of_ble_eq_true rfl) rfl dJx4a65c_add_72be8_19 (fun H locs w => ?_)
  have w := g_eqw w g_over
  exact g_vret hx hb hr hlk w (Nat.le_of_ble_eq_true rfl) (Nat.le_of_ble_eq_true rfl) dJx4a65c_add_72be8_22 (by first | rfl | rw [g_swp (by omega)])
set_option maxHeartbeats 4000000 in
set_option maxRecDepth 100000 in
theorem j_addG (l : Launch) (D : va_G) (ar : Nat → ClassId) (κ : Nat → Nat) (G : gW) (sz : Nat) (o : Nat) (t : Nat) (vt : Nat) (bs : List Int32) (mc : Int32) (ed : Nat) (f9 : Nat → Option Nat) (ho : G o = some (.inr (5, [.int mc, .ref ed, .int 10]))) (hed : G ed = some (.inl (ar 8, 10, .inr (.inr (.inr (.inr f9)))))) (ht : ∀ G9, gLx G o ed G9 → TX ar κ G9 t vt bs) (hel : ∀ j y, j < 10 → f9 j = some y → ∃ yv yb, ∀ G9, gLx G o ed G9 → TX ar κ G9 y yv yb) : Met l yJx4a65c_add_9ea2d (lwC yJx4a65c_add_9ea2d cJx4a65c_add_9ea2d 2 (some .boolean)) (rD 6 1 15) (g_Pc D vwCl (gT ar) (EX1 κ) G sz [.ref o, .ref t]) (g_Qi D vwCl (g_A G sz) (fun r u => r = 1 ∧ u = ((g_up (g_up G sz (.inl (ar 8, 15, .inr (.inr (.inr (.inr (va_up (va_cpy f9 (fun _ => none) 0 0 10) 10 (some t)))))))) o (.inr (5, [.int (mc + 1), .ref sz, .int 11]))), sz + 1))) 1 15 (g_A G sz) := by
  refine g_ofW (by decide +kernel) (Nat.le_of_ble_eq_true rfl) ?_
  intro p e s m below meth c ls S hr hlk hin hE w hl
  have hx := S.1
  have hb := S.2.1
  have hl : lv_has ls 2 [(0, .ref o), (1, .ref t)] := hl
  have hfr : ∀ q, sz ≤ q → G q = none := fun q z => g_free w z
  have lt_ho : o < sz := g_ltn w ho
  refine lv_aload_n hx hb dJx4a65c_add_9ea2d_0 rfl (lv_at hl 0 rfl) ?_
  refine lv_dup hx hb dJx4a65c_add_9ea2d_1 rfl ?_
  refine gf_RJx4a65c_63_5 S hE w ho rfl dJx4a65c_add_9ea2d_2 ?_
  refine lv_iconst (v := 1) hx hb dJx4a65c_add_9ea2d_5 (by decide) ?_
  refine lv_iadd hx hb dJx4a65c_add_9ea2d_6 ?_
  refine pf_RJx4a65c_63_5 (fs1 := [.int (mc + 1), .ref ed, .int 10]) S hE w ho rfl rfl (Nat.le_of_ble_eq_true rfl) rfl dJx4a65c_add_9ea2d_7 (fun H locs w => ?_)
  refine lv_aload_n hx hb dJx4a65c_add_9ea2d_10 rfl (lv_at hl 0 rfl) ?_
  refine lv_aload_n hx hb dJx4a65c_add_9ea2d_11 rfl (lv_at hl 1 rfl) ?_
  refine lv_aload_n hx hb dJx4a65c_add_9ea2d_12 rfl (lv_at hl 0 rfl) ?_
  refine gf_RJx4a65c_9_5 S hE w g_up_s rfl dJx4a65c_add_9ea2d_13 ?_
  refine lv_aload_n hx hb dJx4a65c_add_9ea2d_16 rfl (lv_at hl 0 rfl) ?_
  refine gf_RJx4a65c_48_5 S hE w g_up_s rfl dJx4a65c_add_9ea2d_17 ?_
  refine g_callv w (g_runV (As := [.ref t, .ref ed, .int 10]) (rest := []) S hE w hl (j_add3G l D ar κ (g_up G o (.inr (5, [.int (mc + 1), .ref ed, .int 10]))) sz o t ed vt bs (mc + 1) f9 g_up_s (g_up_o (g_nx hed ho (by simp)) hed) (fun G9 h9 => ht G9 (gLx.o2 h9)) (fun j y hj hy => (hel j y hj hy).elim fun yv z => z.elim fun yb z => ⟨yv, yb, fun G9 h9 => z G9 (gLx.o2 h9)⟩)) (k_RJx4a65c_131 S.2.2.2.2 ⟨Nat.le_of_ble_eq_true rfl, Nat.le_of_ble_eq_true rfl⟩) g_up_s rfl rfl rfl rfl (Nat.le_of_ble_eq_true rfl) dJx4a65c_add_9ea2d_20 ⟨Nat.le_of_ble_eq_true rfl, Nat.le_of_ble_eq_true rfl⟩) (fun u H locs hp hnz w => ?_)
  obtain rfl := hp
  try dsimp only at w
  have w := g_eqw w (g_inn g_over (by omega))
  refine lv_iconst (v := 1) hx hb dJx4a65c_add_9ea2d_23 (by decide) ?_
  exact g_zret hx hb hr hlk w (Nat.le_of_ble_eq_true rfl) (Nat.le_of_ble_eq_true rfl) dJx4a65c_add_9ea2d_24 rfl ⟨rfl, by first | rfl | rw [g_swp (by omega)]⟩
