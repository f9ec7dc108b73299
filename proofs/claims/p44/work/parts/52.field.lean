def sF_checkedField (Z : Ho) (t0 : Int32) (j0 : Int32) (q0 : Fin 60) : Int64 := pA ((Z.th q0).p) 8 j0
theorem sF_checkedField_u (Z : Ho) (t0 : Int32) (j0 : Int32) (q0 : Fin 60) : sF_checkedField Z t0 j0 q0 = pA ((Z.th q0).p) 8 j0 := rfl
set_option maxHeartbeats 4000000 in
set_option maxRecDepth 100000 in
theorem hF_checkedField (l : Launch) (D : va_G) (ar : Nat → ClassId) (κ : Nat → Nat) (G : gW) (x : Xo) (Z : Ho) (sz : Nat) (t0 : Int32) (j0 : Int32) (q0 : Fin 60) (hk : OK x Z) (hq : sX5_withNumber Z t0 = some q0) (hf : ¬ sX4_hasField Z q0 j0 = 0) : Met l yX8_checkedField (lwC yX8_checkedField cX8_checkedField 4 (some .long)) (rD 11 0 0) (g_Pc D vwCl (gT ar) (EX1 κ) (ov κ ar x Z G) sz [.ref (x.f .ho), .int t0, .int j0]) (g_Ql D vwCl (g_A (ov κ ar x Z G) sz) (fun r u => r = sF_checkedField Z t0 j0 q0 ∧ u = (ov κ ar x Z G, sz))) 0 0 (g_A (ov κ ar x Z G) sz) := by
  refine g_ofW (by decide +kernel) (Nat.le_of_ble_eq_true rfl) ?_
  intro p e s m below meth c ls S hr hlk hin hE w hl
  have hx := S.1
  have hb := S.2.1
  have hl : lv_has ls 4 [(0, .ref (x.f .ho)), (1, .int t0), (2, .int j0)] := hl
  refine lv_aload_n hx hb dX8_checkedField_0 rfl (lv_at hl 0 rfl) ?_
  refine gf_RX8_40_14 (v := .ref (x.f .ts)) S hE w (ov_r (t := .ho) (hk.e (.ho) rfl)) rfl dX8_checkedField_1 ?_
  refine lv_iload_n hx hb dX8_checkedField_4 rfl (lv_at hl 1 rfl) ?_
  refine g_callq w (g_runV (As := [.int t0]) (rest := []) S hE w hl (hX5_withNumber l D ar κ G x Z sz t0 hk ) (k_RX8_234 S.2.2.2.2 ⟨Nat.le_of_ble_eq_true rfl, Nat.le_of_ble_eq_true rfl⟩) (ov_r (t := .ts) (hk.e (.ts) rfl)) rfl rfl rfl rfl (Nat.le_of_ble_eq_true rfl) dX8_checkedField_5 ⟨Nat.le_of_ble_eq_true rfl, Nat.le_of_ble_eq_true rfl⟩) (fun r u H locs hp hnz w => ?_)
  obtain ⟨rfl, rfl⟩ := hp
  dsimp only at w
  refine lv_astore_nQ (lv' := [(3, va_rf ((sX5_withNumber Z t0).map (fun k9 => x.f (.th k9)))), (0, .ref (x.f .ho)), (1, .int t0), (2, .int j0)]) hx hb dX8_checkedField_8 rfl hl (by decide) rfl (fun ls hl => ?_)
  refine lv_aload_nQ hx hb dX8_checkedField_9 rfl (lv_at hl 0 rfl) ?_
  rw [hq]
  show W p l e _ s m _ below meth c _ _ _ _ _ (F0 m 10 ls [.ref (x.f (.th q0))])
  refine lv_ifnull hx hb dX8_checkedField_10 ?_
  refine lv_aload_nQ hx hb dX8_checkedField_13 rfl (lv_at hl 0 rfl) ?_
  rw [hq]
  show W p l e _ s m _ below meth c _ _ _ _ _ (F0 m 14 ls [.ref (x.f (.th q0))])
  refine lv_iload_n hx hb dX8_checkedField_14 rfl (lv_at hl 3 rfl) ?_
  refine g_calli w (g_runV (As := [.int j0]) (rest := []) S hE w hl (hX4_hasField l D ar κ G x Z sz q0 j0 hk ) (k_RX8_267 S.2.2.2.2 ⟨Nat.le_of_ble_eq_true rfl, Nat.le_of_ble_eq_true rfl⟩) (ov_r (t := .th q0) (hk.e (.th q0) rfl)) rfl rfl rfl rfl (Nat.le_of_ble_eq_true rfl) dX8_checkedField_15 ⟨Nat.le_of_ble_eq_true rfl, Nat.le_of_ble_eq_true rfl⟩) (fun r u H locs hp hnz w => ?_)
  obtain ⟨rfl, rfl⟩ := hp
  dsimp only at w
  refine lv_if_ne (tgt := 32) hx hb dX8_checkedField_18 (by decide) (fun _ => ?_) (fun c_18 => absurd c_18 hf)
  refine lv_aload_nQ hx hb dX8_checkedField_32 rfl (lv_at hl 0 rfl) ?_
  rw [hq]
  show W p l e _ s m _ below meth c _ _ _ _ _ (F0 m 33 ls [.ref (x.f (.th q0))])
  refine gf_RX8_272_10 (v := .ref (x.f (.tp q0))) S hE w (ov_r (t := .th q0) (hk.e (.th q0) rfl)) rfl dX8_checkedField_33 ?_
  refine lv_iload_n hx hb dX8_checkedField_36 rfl (lv_at hl 3 rfl) ?_
  refine g_calll w (g_runS (As := [.ref (x.f (.tp q0)), .int j0]) (rest := []) S hE w hl (c_X8_placeAt l D ar κ (ov κ ar x Z G) sz (x.f (.tp q0)) j0 8 ((Z.th q0).p) (ov_r (t := .tp q0) (hk.e (.tp q0) rfl)) (by decide)) (k_RX8_222 S.2.2.2.2 ⟨Nat.le_of_ble_eq_true rfl, Nat.le_of_ble_eq_true rfl⟩) rfl rfl (Nat.le_of_ble_eq_true rfl) dX8_checkedField_37 ⟨Nat.le_of_ble_eq_true rfl, Nat.le_of_ble_eq_true rfl⟩) (fun r u H locs hp hnz w => ?_)
  obtain ⟨rfl, rfl⟩ := hp
  dsimp only at w
  exact g_lret hx hb hr hlk w (Nat.le_of_ble_eq_true rfl) (Nat.le_of_ble_eq_true rfl) dX8_checkedField_40 ⟨((sF_checkedField_u Z t0 j0 q0)).symm, rfl⟩
def sF_fieldValue (Z : Ho) (t0 : Int32) (j0 : Int32) (q0 : Fin 60) : Int32 := nf (sF_checkedField Z t0 j0 q0)
theorem sF_fieldValue_u (Z : Ho) (t0 : Int32) (j0 : Int32) (q0 : Fin 60) : sF_fieldValue Z t0 j0 q0 = nf (sF_checkedField Z t0 j0 q0) := rfl
set_option maxHeartbeats 4000000 in
set_option maxRecDepth 100000 in
theorem hF_fieldValue (l : Launch) (D : va_G) (ar : Nat → ClassId) (κ : Nat → Nat) (G : gW) (x : Xo) (Z : Ho) (sz : Nat) (t0 : Int32) (j0 : Int32) (q0 : Fin 60) (hk : OK x Z) (hq : sX5_withNumber Z t0 = some q0) (hf : ¬ sX4_hasField Z q0 j0 = 0) : Met l yX8_fieldValue (lwC yX8_fieldValue cX8_fieldValue 3 (some .int)) (rD 12 0 0) (g_Pc D vwCl (gT ar) (EX1 κ) (ov κ ar x Z G) sz [.ref (x.f .ho), .int t0, .int j0]) (g_Qi D vwCl (g_A (ov κ ar x Z G) sz) (fun r u => r = sF_fieldValue Z t0 j0 q0 ∧ u = (ov κ ar x Z G, sz))) 0 0 (g_A (ov κ ar x Z G) sz) := by
  refine g_ofW (by decide +kernel) (Nat.le_of_ble_eq_true rfl) ?_
  intro p e s m below meth c ls S hr hlk hin hE w hl
  have hx := S.1
  have hb := S.2.1
  have hl : lv_has ls 3 [(0, .ref (x.f .ho)), (1, .int t0), (2, .int j0)] := hl
  refine lv_aload_n hx hb dX8_fieldValue_0 rfl (lv_at hl 0 rfl) ?_
  refine lv_iload_n hx hb dX8_fieldValue_1 rfl (lv_at hl 1 rfl) ?_
  refine lv_iload_n hx hb dX8_fieldValue_2 rfl (lv_at hl 2 rfl) ?_
  refine g_calll w (g_runV (As := [.int t0, .int j0]) (rest := []) S hE w hl (hF_checkedField l D ar κ G x Z sz t0 j0 q0 hk hq hf) (k_RX8_243 S.2.2.2.2 ⟨Nat.le_of_ble_eq_true rfl, Nat.le_of_ble_eq_true rfl⟩) (ov_r (t := .ho) (hk.e (.ho) rfl)) rfl rfl rfl rfl (Nat.le_of_ble_eq_true rfl) dX8_fieldValue_3 ⟨Nat.le_of_ble_eq_true rfl, Nat.le_of_ble_eq_true rfl⟩) (fun r u H locs hp hnz w => ?_)
  obtain ⟨rfl, rfl⟩ := hp
  dsimp only at w
  refine g_calli w (g_runS (As := [.long (sF_checkedField Z t0 j0 q0)]) (rest := []) S hE w hl (c_X8_numberOf l D ar κ (ov κ ar x Z G) sz (sF_checkedField Z t0 j0 q0)) (k_RX8_230 S.2.2.2.2 ⟨Nat.le_of_ble_eq_true rfl, Nat.le_of_ble_eq_true rfl⟩) rfl rfl (Nat.le_of_ble_eq_true rfl) dX8_fieldValue_6 ⟨Nat.le_of_ble_eq_true rfl, Nat.le_of_ble_eq_true rfl⟩) (fun r u H locs hp hnz w => ?_)
  obtain ⟨rfl, rfl⟩ := hp
  dsimp only at w
  exact g_iret hx hb hr hlk w (Nat.le_of_ble_eq_true rfl) (Nat.le_of_ble_eq_true rfl) dX8_fieldValue_9 ⟨((sF_fieldValue_u Z t0 j0 q0)).symm, rfl⟩
def sF_LfieldValue (Z : Ho) (t0 : Int32) (j0 : Int32) (q0 : Fin 60) : Int64 := (sF_fieldValue Z t0 j0 q0).toInt64
theorem sF_LfieldValue_u (Z : Ho) (t0 : Int32) (j0 : Int32) (q0 : Fin 60) : sF_LfieldValue Z t0 j0 q0 = (sF_fieldValue Z t0 j0 q0).toInt64 := rfl
set_option maxHeartbeats 4000000 in
set_option maxRecDepth 100000 in
theorem hF_LfieldValue (l : Launch) (D : va_G) (ar : Nat → ClassId) (κ : Nat → Nat) (G : gW) (x : Xo) (Z : Ho) (sz : Nat) (t0 : Int32) (j0 : Int32) (q0 : Fin 60) (hk : OK x Z) (hq : sX5_withNumber Z t0 = some q0) (hf : ¬ sX4_hasField Z q0 j0 = 0) : Met l yL_fieldValue (lwCW yL_fieldValue cL_fieldValue 4 (some .long) [(0, 7, 8, 17)]) (rD 13 0 0) (g_Pc D vwCl (gT ar) (EX1 κ) (ov κ ar x Z G) sz [.ref (x.f .ho), .int t0, .int j0]) (g_Ql D vwCl (g_A (ov κ ar x Z G) sz) (fun r u => r = sF_LfieldValue Z t0 j0 q0 ∧ u = (ov κ ar x Z G, sz))) 0 0 (g_A (ov κ ar x Z G) sz) := by
  refine gH_ofW (by decide +kernel) (Nat.le_of_ble_eq_true rfl) ?_
  intro p e s m below meth c ls S hr hlk ht hE w hl
  have hx := S.1
  have hb := S.2.1
  have hl : lv_has ls 4 [(0, .ref (x.f .ho)), (1, .int t0), (2, .int j0)] := hl
  refine lv_aload_n hx hb dL_fieldValue_0 rfl (lv_at hl 0 rfl) ?_
  refine lv_iload_n hx hb dL_fieldValue_1 rfl (lv_at hl 1 rfl) ?_
  refine lv_iload_n hx hb dL_fieldValue_2 rfl (lv_at hl 2 rfl) ?_
  refine g_calli w (g_runV (As := [.int t0, .int j0]) (rest := []) S hE w hl (hF_fieldValue l D ar κ G x Z sz t0 j0 q0 hk hq hf) (k_RL_83 S.2.2.2.2 ⟨Nat.le_of_ble_eq_true rfl, Nat.le_of_ble_eq_true rfl⟩) (ov_r (t := .ho) (hk.e (.ho) rfl)) rfl rfl rfl rfl (Nat.le_of_ble_eq_true rfl) dL_fieldValue_3 ⟨Nat.le_of_ble_eq_true rfl, Nat.le_of_ble_eq_true rfl⟩) (fun r u H locs hp hnz w => ?_)
  obtain ⟨rfl, rfl⟩ := hp
  dsimp only at w
  refine lv_i2l hx hb dL_fieldValue_6 rfl ?_
  exact g_lret hx hb hr hlk w (Nat.le_of_ble_eq_true rfl) (Nat.le_of_ble_eq_true rfl) dL_fieldValue_7 ⟨((sF_LfieldValue_u Z t0 j0 q0)).symm, rfl⟩
