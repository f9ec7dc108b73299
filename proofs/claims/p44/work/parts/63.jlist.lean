set_option maxHeartbeats 4000000 in
set_option maxRecDepth 100000 in
theorem j_add3A (l : Launch) (D : va_G) (ar : Nat → ClassId) (κ : Nat → Nat) (G : gW) (sz : Nat) (o : Nat) (t : Nat) (ed : Nat) (vt : Nat) (bs : List Int32) (mc : Int32) (n9 : Nat) (c9 : Nat) (f9 : Nat → Option Nat) (ho : G o = some (.inr (5, [.int mc, .ref ed, .int (nI n9)]))) (hed : G ed = some (.inl (ar 8, c9, .inr (.inr (.inr (.inr f9)))))) (ht : ∀ G9, gLx G o ed G9 → TX ar κ G9 t vt bs) (hn : n9 < c9) (hc : c9 ≤ 20) : Met l yJx4a65c_add_72be8 (lwC yJx4a65c_add_72be8 cJx4a65c_add_72be8 4 none) (rD 1 0 0) (g_Pc D vwCl (gT ar) (EX1 κ) G sz [.ref o, .ref t, .ref ed, .int (nI n9)]) (g_Qv D vwCl (g_A G sz) (fun u => u = ((g_up (g_up G ed (.inl (ar 8, c9, .inr (.inr (.inr (.inr (va_up f9 n9 (some t)))))))) o (.inr (5, [.int mc, .ref ed, .int (nI (n9 + 1))]))), sz))) 0 0 (g_A G sz) := by
  refine g_ofW (by decide +kernel) (Nat.le_of_ble_eq_true rfl) ?_
  intro p e s m below meth c ls S hr hlk hin hE w hl
  have hx := S.1
  have hb := S.2.1
  have hl : lv_has ls 4 [(0, .ref o), (1, .ref t), (2, .ref ed), (3, .int (nI n9))] := hl
  refine lv_iload_n hx hb dJx4a65c_add_72be8_0 rfl (lv_at hl 3 rfl) ?_
  refine lv_aload_n hx hb dJx4a65c_add_72be8_1 rfl (lv_at hl 2 rfl) ?_
  refine va_alen (v := Int32.ofNat c9) hx hb hE.1 (g_1 w.1 hed) 0 8 rfl rfl rfl dJx4a65c_add_72be8_2 ?_
  refine lv_icmp_ne (tgt := 11) hx hb dJx4a65c_add_72be8_3 (by decide) (fun c_3 => ?_) (fun c_3 => absurd ((nI_eq (a := n9) (b := c9) (by omega) (by omega)).mp c_3) (by omega))
  refine lv_aload_n hx hb dJx4a65c_add_72be8_11 rfl (lv_at hl 2 rfl) ?_
  refine lv_iload_n hx hb dJx4a65c_add_72be8_12 rfl (lv_at hl 3 rfl) ?_
  refine lv_aload_n hx hb dJx4a65c_add_72be8_13 rfl (lv_at hl 1 rfl) ?_
  refine g_astqR (C := "java/lang/String") hx hb hE.1 w 8 hed rfl (tx_recv hE w (ht _ gLx.r)) (hE.2.1.1 _ (ckN_2 _ (List.mem_of_getElem? (i := 4) rfl))) (k := n9) (by rfl) (by omega) (by omega) dJx4a65c_add_72be8_14 (fun H locs w => ?_)
  refine lv_aload_n hx hb dJx4a65c_add_72be8_15 rfl (lv_at hl 0 rfl) ?_
  refine lv_iload_n hx hb dJx4a65c_add_72be8_16 rfl (lv_at hl 3 rfl) ?_
  refine lv_iconst (v := 1) hx hb dJx4a65c_add_72be8_17 (by decide) ?_
  refine lv_iadd hx hb dJx4a65c_add_72be8_18 ?_
  rw [show ((nI n9) + 1 : Int32) = nI (n9 + 1) from nI_1 n9]
  refine pf_RJx4a65c_48_5 (fs1 := [.int mc, .ref ed, .int (nI (n9 + 1))]) S hE w (g_up_o (g_nx ho hed (by simp)) ho) rfl rfl (Nat.le_of_ble_eq_true rfl) rfl dJx4a65c_add_72be8_19 (fun H locs w => ?_)
  exact g_vret hx hb hr hlk w (Nat.le_of_ble_eq_true rfl) (Nat.le_of_ble_eq_true rfl) dJx4a65c_add_72be8_22 rfl
set_option maxHeartbeats 4000000 in
set_option maxRecDepth 100000 in
theorem j_addA (l : Launch) (D : va_G) (ar : Nat → ClassId) (κ : Nat → Nat) (G : gW) (sz : Nat) (o : Nat) (t : Nat) (vt : Nat) (bs : List Int32) (mc : Int32) (ed : Nat) (n9 : Nat) (c9 : Nat) (f9 : Nat → Option Nat) (ho : G o = some (.inr (5, [.int mc, .ref ed, .int (nI n9)]))) (hed : G ed = some (.inl (ar 8, c9, .inr (.inr (.inr (.inr f9)))))) (ht : ∀ G9, gLx G o ed G9 → TX ar κ G9 t vt bs) (hn : n9 < c9) (hc : c9 ≤ 20) : Met l yJx4a65c_add_9ea2d (lwC yJx4a65c_add_9ea2d cJx4a65c_add_9ea2d 2 (some .boolean)) (rD 6 1 15) (g_Pc D vwCl (gT ar) (EX1 κ) G sz [.ref o, .ref t]) (g_Qi D vwCl (g_A G sz) (fun r u => r = 1 ∧ u = ((g_up (g_up G ed (.inl (ar 8, c9, .inr (.inr (.inr (.inr (va_up f9 n9 (some t)))))))) o (.inr (5, [.int (mc + 1), .ref ed, .int (nI (n9 + 1))]))), sz))) 1 15 (g_A G sz) := by
  refine g_ofW (by decide +kernel) (Nat.le_of_ble_eq_true rfl) ?_
  intro p e s m below meth c ls S hr hlk hin hE w hl
  have hx := S.1
  have hb := S.2.1
  have hl : lv_has ls 2 [(0, .ref o), (1, .ref t)] := hl
  have hoe : o ≠ ed := g_nx ho hed (by simp)
  refine lv_aload_n hx hb dJx4a65c_add_9ea2d_0 rfl (lv_at hl 0 rfl) ?_
  refine lv_dup hx hb dJx4a65c_add_9ea2d_1 rfl ?_
  refine gf_RJx4a65c_63_5 S hE w ho rfl dJx4a65c_add_9ea2d_2 ?_
  refine lv_iconst (v := 1) hx hb dJx4a65c_add_9ea2d_5 (by decide) ?_
  refine lv_iadd hx hb dJx4a65c_add_9ea2d_6 ?_
  refine pf_RJx4a65c_63_5 (fs1 := [.int (mc + 1), .ref ed, .int (nI n9)]) S hE w ho rfl rfl (Nat.le_of_ble_eq_true rfl) rfl dJx4a65c_add_9ea2d_7 (fun H locs w => ?_)
  refine lv_aload_n hx hb dJx4a65c_add_9ea2d_10 rfl (lv_at hl 0 rfl) ?_
  refine lv_aload_n hx hb dJx4a65c_add_9ea2d_11 rfl (lv_at hl 1 rfl) ?_
  refine lv_aload_n hx hb dJx4a65c_add_9ea2d_12 rfl (lv_at hl 0 rfl) ?_
  refine gf_RJx4a65c_9_5 S hE w g_up_s rfl dJx4a65c_add_9ea2d_13 ?_
  refine lv_aload_n hx hb dJx4a65c_add_9ea2d_16 rfl (lv_at hl 0 rfl) ?_
  refine gf_RJx4a65c_48_5 S hE w g_up_s rfl dJx4a65c_add_9ea2d_17 ?_
  refine g_callv w (g_runV (As := [.ref t, .ref ed, .int (nI n9)]) (rest := []) S hE w hl (j_add3A l D ar κ (g_up G o (.inr (5, [.int (mc + 1), .ref ed, .int (nI n9)]))) sz o t ed vt bs (mc + 1) n9 c9 f9 g_up_s (g_up_o (g_nx hed ho (by simp)) hed) (fun G9 h9 => ht G9 (gLx.o2 h9)) hn hc) (k_RJx4a65c_131 S.2.2.2.2 ⟨Nat.le_of_ble_eq_true rfl, Nat.le_of_ble_eq_true rfl⟩) g_up_s rfl rfl rfl rfl (Nat.le_of_ble_eq_true rfl) dJx4a65c_add_9ea2d_20 ⟨Nat.le_of_ble_eq_true rfl, Nat.le_of_ble_eq_true rfl⟩) (fun u H locs hp hnz w => ?_)
  obtain rfl := hp
  try dsimp only at w
  have w := g_eqw w (g_inn g_over (g_nx ho hed (by simp)))
  refine lv_iconst (v := 1) hx hb dJx4a65c_add_9ea2d_23 (by decide) ?_
  exact g_zret hx hb hr hlk w (Nat.le_of_ble_eq_true rfl) (Nat.le_of_ble_eq_true rfl) dJx4a65c_add_9ea2d_24 rfl ⟨rfl, by first | rfl | rw [g_swp hoe]⟩
set_option maxHeartbeats 4000000 in
set_option maxRecDepth 100000 in
theorem j_add30 (l : Launch) (D : va_G) (ar : Nat → ClassId) (κ : Nat → Nat) (G : gW) (sz : Nat) (o : Nat) (t : Nat) (vt : Nat) (bs : List Int32) (mc : Int32) (ho : G o = some (.inr (5, [.int mc, .ref (κ 0), .int 0]))) (ht : ∀ G9, gLx G o o G9 → TX ar κ G9 t vt bs) : Met l yJx4a65c_add_72be8 (lwC yJx4a65c_add_72be8 cJx4a65c_add_72be8 4 none) (rD 3 1 10) (g_Pc D vwCl (gT ar) (EX1 κ) G sz [.ref o, .ref t, .ref (κ 0), .int 0]) (g_Qv D vwCl (g_A G sz) (fun u => u = ((g_up (g_up G sz (.inl (ar 8, 10, .inr (.inr (.inr (.inr (va_up (fun _ => none) 0 (some t)))))))) o (.inr (5, [.int mc, .ref sz, .int 1]))), sz + 1))) 1 10 (g_A G sz) := by
  refine g_ofW (by decide +kernel) (Nat.le_of_ble_eq_true rfl) ?_
  intro p e s m below meth c ls S hr hlk hin hE w hl
  have hx := S.1
  have hb := S.2.1
  have hl : lv_has ls 4 [(0, .ref o), (1, .ref t), (2, .ref (κ 0)), (3, .int 0)] := hl
  have hfr : ∀ q, sz ≤ q → G q = none := fun q z => g_free w z
  have lt_ho : o < sz := g_ltn w ho
  refine lv_iload_n hx hb dJx4a65c_add_72be8_0 rfl (lv_at hl 3 rfl) ?_
  refine lv_aload_n hx hb dJx4a65c_add_72be8_1 rfl (lv_at hl 2 rfl) ?_
  refine va_tlen hx hb hE.2.2.2.2.1.2.1 w.2.2.1 rfl dJx4a65c_add_72be8_2 ?_
  show W p l e _ s m _ below meth c _ _ _ _ _ (F0 m _ ls (.int 0 :: _))
  refine lv_icmp_ne (tgt := 11) hx hb dJx4a65c_add_72be8_3 (by decide) (fun c => absurd (by decide) c) (fun _ => ?_)
  refine lv_aload_n hx hb dJx4a65c_add_72be8_6 rfl (lv_at hl 0 rfl) ?_
  refine g_callq w (g_runV (As := []) (rest := []) S hE w hl (c_AL_grow l D ar κ G sz o mc ho) (k_RJx4a65c_129 S.2.2.2.2 ⟨Nat.le_of_ble_eq_true rfl, Nat.le_of_ble_eq_true rfl⟩) ho rfl rfl rfl rfl (Nat.le_of_ble_eq_true rfl) dJx4a65c_add_72be8_7 ⟨Nat.le_of_ble_eq_true rfl, Nat.le_of_ble_eq_true rfl⟩) (fun r u H locs hp hnz w => ?_)
  obtain ⟨rfl, rfl⟩ := hp
  try dsimp only at w
  refine lv_astore_n (lv' := [(2, .ref sz), (0, .ref o), (1, .ref t), (3, .int 0)]) hx hb dJx4a65c_add_72be8_10 rfl hl (by decide) rfl (fun ls hl => ?_)
  refine lv_aload_n hx hb dJx4a65c_add_72be8_11 rfl (lv_at hl 0 rfl) ?_
  refine lv_iload_n hx hb dJx4a65c_add_72be8_12 rfl (lv_at hl 3 rfl) ?_
  refine lv_aload_n hx hb dJx4a65c_add_72be8_13 rfl (lv_at hl 2 rfl) ?_
  refine g_astqR (C := "java/lang/String") hx hb hE.1 w 8 (g_up_o (by omega) g_up_s) rfl (tx_recv hE w (ht _ (gLx.o (gLx.up gLx.r (hfr _ (by omega)))))) (hE.2.1.1 _ (ckN_2 _ (List.mem_of_getElem? (i := 4) rfl))) (k := 0) (by rfl) (by omega) (by omega) dJx4a65c_add_72be8_14 (fun H locs w => ?_)
  have w := g_eqw w (g_inn g_over (by omega))
  refine lv_aload_n hx hb dJx4a65c_add_72be8_15 rfl (lv_at hl 1 rfl) ?_
  refine lv_iload_n hx hb dJx4a65c_add_72be8_16 rfl (lv_at hl 3 rfl) ?_
  refine lv_iconst (v := 1) hx hb dJx4a65c_add_72be8_17 (by decide) ?_
  refine lv_iadd hx hb dJx4a65c_add_72be8_18 ?_
  rw [show (0 + 1 : Int32) = 1 by decide +kernel]
  refine pf_RJx4a65c_48_5 (fs1 := [.int mc, .ref sz, .int 1]) S hE w g_up_s rfl rfl (Nat.le_of_ble_eq_true rfl) rfl dJx4a65c_add_72be8_19 (fun H locs w => ?_)
  have w := g_eqw w g_over
  exact g_vret hx hb hr hlk w (Nat.le_of_ble_eq_true rfl) (Nat.le_of_ble_eq_true rfl) dJx4a65c_add_72be8_22 (by first | rfl | rw [g_swp (by omega)])
set_option maxHeartbeats 4000000 in
set_option maxRecDepth 100000 in
theorem j_add0 (l : Launch) (D : va_G) (ar : Nat → ClassId) (κ : Nat → Nat) (G : gW) (sz : Nat) (o : Nat) (t : Nat) (vt : Nat) (bs : List Int32) (mc : Int32) (ho : G o = some (.inr (5, [.int mc, .ref (κ 0), .int 0]))) (ht : ∀ G9, gLx G o o G9 → TX ar κ G9 t vt bs) : Met l yJx4a65c_add_9ea2d (lwC yJx4a65c_add_9ea2d cJx4a65c_add_9ea2d 2 (some .boolean)) (rD 6 1 15) (g_Pc D vwCl (gT ar) (EX1 κ) G sz [.ref o, .ref t]) (g_Qi D vwCl (g_A G sz) (fun r u => r = 1 ∧ u = ((g_up (g_up G sz (.inl (ar 8, 10, .inr (.inr (.inr (.inr (va_up (fun _ => none) 0 (some t)))))))) o (.inr (5, [.int (mc + 1), .ref sz, .int 1]))), sz + 1))) 1 15 (g_A G sz) := by
  refine g_ofW (by decide +kernel) (Nat.le_of_ble_eq_true rfl) ?_
  intro p e s m below meth c ls S hr hlk hin hE w hl
  have hx := S.1
  have hb := S.2.1
  have hl : lv_has ls 2 [(0, .ref o), (1, .ref t)] := hl
  have hfr : ∀ q, sz ≤ q → G q = none := fun q z => g_free w z
  have lt_ho : o < sz := g_ltn w ho
  refine lv_aload_n hx hb dJx4a65c_add_9ea2d_0 rfl (lv_at hl 0 rfl) ?_
  refine lv_dup hx hb dJx4a65c_add_9ea2d_1 rfl ?_
  refine gf_RJx4a65c_63_5 S hE w ho rfl dJx4a65c_add_9ea2d_2 ?_
  refine lv_iconst (v := 1) hx hb dJx4a65c_add_9ea2d_5 (by decide) ?_
  refine lv_iadd hx hb dJx4a65c_add_9ea2d_6 ?_
  refine pf_RJx4a65c_63_5 (fs1 := [.int (mc + 1), .ref (κ 0), .int 0]) S hE w ho rfl rfl (Nat.le_of_ble_eq_true rfl) rfl dJx4a65c_add_9ea2d_7 (fun H locs w => ?_)
  refine lv_aload_n hx hb dJx4a65c_add_9ea2d_10 rfl (lv_at hl 0 rfl) ?_
  refine lv_aload_n hx hb dJx4a65c_add_9ea2d_11 rfl (lv_at hl 1 rfl) ?_
  refine lv_aload_n hx hb dJx4a65c_add_9ea2d_12 rfl (lv_at hl 0 rfl) ?_
  refine gf_RJx4a65c_9_5 S hE w g_up_s rfl dJx4a65c_add_9ea2d_13 ?_
  refine lv_aload_n hx hb dJx4a65c_add_9ea2d_16 rfl (lv_at hl 0 rfl) ?_
  refine gf_RJx4a65c_48_5 S hE w g_up_s rfl dJx4a65c_add_9ea2d_17 ?_
  refine g_callv w (g_runV (As := [.ref t, .ref (κ 0), .int 0]) (rest := []) S hE w hl (j_add30 l D ar κ (g_up G o (.inr (5, [.int (mc + 1), .ref (κ 0), .int 0]))) sz o t vt bs (mc + 1) g_up_s (fun G9 h9 => ht G9 (gLx.o2 h9))) (k_RJx4a65c_131 S.2.2.2.2 ⟨Nat.le_of_ble_eq_true rfl, Nat.le_of_ble_eq_true rfl⟩) g_up_s rfl rfl rfl rfl (Nat.le_of_ble_eq_true rfl) dJx4a65c_add_9ea2d_20 ⟨Nat.le_of_ble_eq_true rfl, Nat.le_of_ble_eq_true rfl⟩) (fun u H locs hp hnz w => ?_)
  obtain rfl := hp
  try dsimp only at w
  have w := g_eqw w (g_inn g_over (by omega))
  refine lv_iconst (v := 1) hx hb dJx4a65c_add_9ea2d_23 (by decide) ?_
  exact g_zret hx hb hr hlk w (Nat.le_of_ble_eq_true rfl) (Nat.le_of_ble_eq_true rfl) dJx4a65c_add_9ea2d_24 rfl ⟨rfl, by first | rfl | rw [g_swp (by omega)]⟩
