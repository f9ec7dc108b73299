section LAWC
variable {p : Program} {l : Launch} {e : Env} {s : State} {m : MethodId} {below : List Frame} {meth : Method} {c : Code} {b L : Nat} {xs : Nat → Int32} {D : va_G} {ar : Nat → ClassId} {κ : Nat → Nat} {H : Heap} {locs : List Loc} {G : gW} {nz x q1 y q2 out outD : Nat} {ls : Array Slot}
set_option maxHeartbeats 4000000 in
set_option maxRecDepth 100000 in
theorem lc_14 (hlt : l.stackTraces = false) (S : CallFix p m c cL_law 9 s #[.ref b] lwA RL) (hE : g_E D vwCl (gT ar) (EX1 κ) (fun q => s.heap.size ≤ q) s s.heap) (hX : va_X b 6 xs s s.heap) (hbl : b < s.heap.size) (w : g_S D vwCl (fun q => s.heap.size ≤ q) s.heap G H locs nz) (hw : LWs ar κ G x q1 y q2 out outD) (hl : lv_has ls 9 [(5, .int 0), (4, .ref outD), (3, .ref out), (2, .ref y), (1, .ref x), (0, .ref b)]) (hend : ∀ (H : Heap) (locs : List Loc) (ls : Array Slot) (G : gW) (nz : Nat), g_S D vwCl (fun q => s.heap.size ≤ q) s.heap G H locs nz → lv_has ls 9 [(5, .int 0), (0, .ref b)] → W p l e room_1 s m #[Value.ref b] below meth c H locs 400 9000 (lw_Z below #[Value.ref b] s) (F0 m 2365 ls [])) : W p l e room_1 s m #[Value.ref b] below meth c H locs 203 5000 (lw_Z below #[Value.ref b] s) (F0 m 1075 ls []) := by
  have hx := S.1
  have hb := S.2.1
  have hbA : ¬ s.heap.size ≤ b := Nat.not_le.mpr hbl
  obtain ⟨hwF, hwM, hwo, hwoD, hw1, hw2, hw3⟩ := id hw
  have hwq : x < q1 := hwF.1
  have hwy : y < q2 := hwM.1
  refine lv_aload_n hx hb dL_law_1075 rfl (lv_at hl 4 rfl) ?_
  refine lv_aload_n hx hb dL_law_1076 rfl (lv_at hl 5 rfl) ?_
  refine lv_iload hx hb dL_law_1077 (lv_at hl 0 rfl) ?_
  refine lv_iconst (v := 1) hx hb dL_law_1079 (by decide) ?_
  refine lv_iadd hx hb dL_law_1080 ?_
  rw [show (0 + 1 : Int32) = 1 by decide +kernel]
  refine va_sld hx hb hX hbl hbA w.2.2.1 (vp_in_nI (n := 1) (by decide) (by decide)) dL_law_1081 ?_
  rw [show Int32.toNatClampNeg 1 = 1 from by decide]
  refine lv_aload_n hx hb dL_law_1082 rfl (lv_at hl 5 rfl) ?_
  refine lv_iload hx hb dL_law_1083 (lv_at hl 0 rfl) ?_
  refine lv_iconst (v := 2) hx hb dL_law_1085 (by decide) ?_
  refine lv_iadd hx hb dL_law_1086 ?_
  rw [show (0 + 2 : Int32) = 2 by decide +kernel]
  refine va_sld hx hb hX hbl hbA w.2.2.1 (vp_in_nI (n := 2) (by decide) (by decide)) dL_law_1087 ?_
  rw [show Int32.toNatClampNeg 2 = 2 from by decide]
  refine lv_aload_n hx hb dL_law_1088 rfl (lv_at hl 2 rfl) ?_
  have hF1 : FH ar κ (g_res (fun a9 => a9 < y ∨ a9 = out) G) x q1 := FH_mono hwF (fun a9 c9 h1 h2 => g_res_i (show a9 < y ∨ a9 = out from Or.inl (by omega)) h2)
  refine gs_calli (g_res (fun a9 => ¬ (a9 < y ∨ a9 = out)) G) w (fun _ _ => g_res_s) (fun _ _ => g_res_2) (g_runSW (As := [.ref x, .int (xs 1), .int (xs 2), .ref out]) (rest := []) S hE (g_sub w (fun _ _ => g_res_s)) hl (w_make l D ar κ (g_res (fun a9 => a9 < y ∨ a9 = out) G) nz x (xs 1) (xs 2) out q1 (fun _ => 0) hF1 (g_res_i (show out < y ∨ out = out from Or.inr rfl) hwo) (by omega) hlt) (kW_186 S.2.2.2.2 ⟨Nat.le_of_ble_eq_true rfl, Nat.le_of_ble_eq_true rfl⟩) rfl rfl (Nat.le_of_ble_eq_true rfl) dL_law_1089 ⟨Nat.le_of_ble_eq_true rfl, Nat.le_of_ble_eq_true rfl⟩) (fun r u1 H locs hp1 hnz1 w => ?_)
  obtain ⟨rfl, ho1⟩ := hp1
  refine lv_istore (lv' := [(6, .int (K_make (xs 1) (xs 2))), (5, .int 0), (4, .ref outD), (3, .ref out), (2, .ref y), (1, .ref x), (0, .ref b)]) hx hb dL_law_1092 hl (by decide) rfl (fun ls hl => ?_)
  refine lv_aload_n hx hb dL_law_1094 rfl (lv_at hl 4 rfl) ?_
  refine lv_aload_n hx hb dL_law_1095 rfl (lv_at hl 6 rfl) ?_
  refine lv_iload hx hb dL_law_1096 (lv_at hl 1 rfl) ?_
  refine lv_iconst (v := 1) hx hb dL_law_1098 (by decide) ?_
  refine lv_iadd hx hb dL_law_1099 ?_
  rw [show (0 + 1 : Int32) = 1 by decide +kernel]
  refine va_sld hx hb hX hbl hbA w.2.2.1 (vp_in_nI (n := 1) (by decide) (by decide)) dL_law_1100 ?_
  rw [show Int32.toNatClampNeg 1 = 1 from by decide]
  refine lv_aload_n hx hb dL_law_1101 rfl (lv_at hl 6 rfl) ?_
  refine lv_iload hx hb dL_law_1102 (lv_at hl 1 rfl) ?_
  refine lv_iconst (v := 2) hx hb dL_law_1104 (by decide) ?_
  refine lv_iadd hx hb dL_law_1105 ?_
  rw [show (0 + 2 : Int32) = 2 by decide +kernel]
  refine va_sld hx hb hX hbl hbA w.2.2.1 (vp_in_nI (n := 2) (by decide) (by decide)) dL_law_1106 ?_
  rw [show Int32.toNatClampNeg 2 = 2 from by decide]
  have hM1 : FM ar κ (g_res (fun a9 => y ≤ a9 ∧ a9 < out) (g_ov (g_res (fun a9 => ¬ (a9 < y ∨ a9 = out)) G) u1.1)) y q2 0 := FM_mono hwM (fun a9 c9 h1 h2 h3 => g_res_i (show y ≤ a9 ∧ a9 < out from ⟨h1, by omega⟩) (g_ov_l (g_res_i (show ¬ (a9 < y ∨ a9 = out) by omega) h3)))
  refine gs_calli (g_res (fun a9 => ¬ (y ≤ a9 ∧ a9 < out)) (g_ov (g_res (fun a9 => ¬ (a9 < y ∨ a9 = out)) G) u1.1)) w (fun _ _ => g_res_s) (fun _ _ => g_res_2) (g_runV (As := [.int (xs 1), .int (xs 2)]) (rest := []) S hE (g_sub w (fun _ _ => g_res_s)) hl (m_make l D ar κ (g_res (fun a9 => y ≤ a9 ∧ a9 < out) (g_ov (g_res (fun a9 => ¬ (a9 < y ∨ a9 = out)) G) u1.1)) u1.2 y (xs 1) (xs 2) q2 0 hM1) (k_RL_188 S.2.2.2.2 ⟨Nat.le_of_ble_eq_true rfl, Nat.le_of_ble_eq_true rfl⟩) hM1.2.1 rfl rfl rfl rfl (Nat.le_of_ble_eq_true rfl) dL_law_1107 ⟨Nat.le_of_ble_eq_true rfl, Nat.le_of_ble_eq_true rfl⟩) (fun r2 u2 H locs hp2 hnz2 w => ?_)
  obtain ⟨hv2, fs, hy2, h72⟩ := hp2
  refine lv_istore (lv' := [(7, .int r2), (6, .int (K_make (xs 1) (xs 2))), (5, .int 0), (4, .ref outD), (3, .ref out), (2, .ref y), (1, .ref x), (0, .ref b)]) hx hb dL_law_1110 hl (by decide) rfl (fun ls hl => ?_)
  refine lv_aload_n hx hb dL_law_1112 rfl (lv_at hl 5 rfl) ?_
  refine g_calli w (g_runV (As := []) (rest := []) S hE w hl (m_thrown l D ar κ (g_ov (g_res (fun a9 => ¬ (y ≤ a9 ∧ a9 < out)) (g_ov (g_res (fun a9 => ¬ (a9 < y ∨ a9 = out)) G) u1.1)) u2.1) u2.2 y fs (K_make (xs 1) (xs 2)) (g_ov_r (g_res_n (fun h => h ⟨Nat.le_refl _, by omega⟩)) hy2) h72) (k_RL_139 S.2.2.2.2 ⟨Nat.le_of_ble_eq_true rfl, Nat.le_of_ble_eq_true rfl⟩) (g_ov_r (g_res_n (fun h => h ⟨Nat.le_refl _, by omega⟩)) hy2) rfl rfl rfl rfl (Nat.le_of_ble_eq_true rfl) dL_law_1113 ⟨Nat.le_of_ble_eq_true rfl, Nat.le_of_ble_eq_true rfl⟩) (fun r u H locs hp hnz w => ?_)
  obtain ⟨rfl, rfl⟩ := hp
  refine lv_iload hx hb dL_law_1116 (lv_at hl 1 rfl) ?_
  refine lv_icmp_eq (tgt := 1123) hx hb dL_law_1118 (by decide) (fun _ => ?_) (fun c => absurd rfl c)
  refine lv_iload hx hb dL_law_1123 (lv_at hl 1 rfl) ?_
  refine lv_if_ne (tgt := 1140) hx hb dL_law_1125 (by decide) (fun c_1125 => ?_) (fun c_1125 => ?_)
  · refine lv_goto (tgt := 2365) hx hb dL_law_1140 (by decide) ?_
    exact W.widen (Nat.le_of_ble_eq_true rfl) (Nat.le_of_ble_eq_true rfl) (hend _ _ _ _ _ w (lv_sub hl [2, 7] rfl))
  · refine lv_aload_n hx hb dL_law_1128 rfl (lv_at hl 4 rfl) ?_
    refine lv_iconst (v := 0) hx hb dL_law_1129 (by decide) ?_
    obtain ⟨g1, hg1, hg2⟩ := ho1 c_1125
    obtain rfl := hv2 c_1125
    refine va_lald hx hb hE.1 (g_1 w.1 (g_ov_l (g_res_i (show ¬ (y ≤ out ∧ out < out) by omega) (g_ov_r (g_res_n (show ¬ ¬ (out < y ∨ out = out) by omega)) hg1)))) 0 1 rfl rfl (vp_in_nI (n := 0) (by decide) (by decide)) dL_law_1130 ?_
    rw [show g1 (Int32.toNatClampNeg 0) = 0 from hg2]
    refine lv_iload hx hb dL_law_1131 (lv_at hl 0 rfl) ?_
    refine lv_i2l hx hb dL_law_1133 rfl ?_
    rw [show ((0 : Int32)).toInt64 = 0 by decide +kernel]
    refine W.lcmp hx hb dL_law_1134 ?_
    rw [show lg_cmp (0 : Int64) 0 = 0 from by decide +kernel]
    refine lv_if_eq (tgt := 1140) hx hb dL_law_1135 (by decide) (fun _ => ?_) (fun c => absurd (by decide) c)
    refine lv_goto (tgt := 2365) hx hb dL_law_1140 (by decide) ?_
    exact W.widen (Nat.le_of_ble_eq_true rfl) (Nat.le_of_ble_eq_true rfl) (hend _ _ _ _ _ w (lv_sub hl [2, 7] rfl))
set_option maxHeartbeats 4000000 in
set_option maxRecDepth 100000 in
theorem lc_15 (hlt : l.stackTraces = false) (S : CallFix p m c cL_law 9 s #[.ref b] lwA RL) (hE : g_E D vwCl (gT ar) (EX1 κ) (fun q => s.heap.size ≤ q) s s.heap) (hX : va_X b 6 xs s s.heap) (hbl : b < s.heap.size) (w : g_S D vwCl (fun q => s.heap.size ≤ q) s.heap G H locs nz) (hw : LWs ar κ G x q1 y q2 out outD) (hl : lv_has ls 9 [(5, .int 0), (4, .ref outD), (3, .ref out), (2, .ref y), (1, .ref x), (0, .ref b)]) (hend : ∀ (H : Heap) (locs : List Loc) (ls : Array Slot) (G : gW) (nz : Nat), g_S D vwCl (fun q => s.heap.size ≤ q) s.heap G H locs nz → lv_has ls 9 [(5, .int 0), (0, .ref b)] → W p l e room_1 s m #[Value.ref b] below meth c H locs 400 9000 (lw_Z below #[Value.ref b] s) (F0 m 2365 ls [])) : W p l e room_1 s m #[Value.ref b] below meth c H locs 203 5000 (lw_Z below #[Value.ref b] s) (F0 m 1143 ls []) := by
  have hx := S.1
  have hb := S.2.1
  have hbA : ¬ s.heap.size ≤ b := Nat.not_le.mpr hbl
  obtain ⟨hwF, hwM, hwo, hwoD, hw1, hw2, hw3⟩ := id hw
  have hwq : x < q1 := hwF.1
  have hwy : y < q2 := hwM.1
  refine lv_aload_n hx hb dL_law_1143 rfl (lv_at hl 4 rfl) ?_
  refine lv_aload_n hx hb dL_law_1144 rfl (lv_at hl 5 rfl) ?_
  refine lv_iload hx hb dL_law_1145 (lv_at hl 0 rfl) ?_
  refine lv_iconst (v := 1) hx hb dL_law_1147 (by decide) ?_
  refine lv_iadd hx hb dL_law_1148 ?_
  rw [show (0 + 1 : Int32) = 1 by decide +kernel]
  refine va_sld hx hb hX hbl hbA w.2.2.1 (vp_in_nI (n := 1) (by decide) (by decide)) dL_law_1149 ?_
  rw [show Int32.toNatClampNeg 1 = 1 from by decide]
  refine lv_aload_n hx hb dL_law_1150 rfl (lv_at hl 2 rfl) ?_
  have hF1 : FH ar κ (g_res (fun a9 => a9 < y ∨ a9 = out) G) x q1 := FH_mono hwF (fun a9 c9 h1 h2 => g_res_i (show a9 < y ∨ a9 = out from Or.inl (by omega)) h2)
  refine gs_calli (g_res (fun a9 => ¬ (a9 < y ∨ a9 = out)) G) w (fun _ _ => g_res_s) (fun _ _ => g_res_2) (g_runSW (As := [.ref x, .int (xs 1), .ref out]) (rest := []) S hE (g_sub w (fun _ _ => g_res_s)) hl (w_kind l D ar κ (g_res (fun a9 => a9 < y ∨ a9 = out) G) nz x (xs 1) out q1 (fun _ => 0) hF1 (g_res_i (show out < y ∨ out = out from Or.inr rfl) hwo) (by omega) hlt) (kW_189 S.2.2.2.2 ⟨Nat.le_of_ble_eq_true rfl, Nat.le_of_ble_eq_true rfl⟩) rfl rfl (Nat.le_of_ble_eq_true rfl) dL_law_1151 ⟨Nat.le_of_ble_eq_true rfl, Nat.le_of_ble_eq_true rfl⟩) (fun r u1 H locs hp1 hnz1 w => ?_)
  obtain ⟨rfl, ho1⟩ := hp1
  refine lv_istore (lv' := [(6, .int (K_gl (xs 1))), (5, .int 0), (4, .ref outD), (3, .ref out), (2, .ref y), (1, .ref x), (0, .ref b)]) hx hb dL_law_1154 hl (by decide) rfl (fun ls hl => ?_)
  refine lv_aload_n hx hb dL_law_1156 rfl (lv_at hl 4 rfl) ?_
  refine lv_aload_n hx hb dL_law_1157 rfl (lv_at hl 6 rfl) ?_
  refine lv_iload hx hb dL_law_1158 (lv_at hl 1 rfl) ?_
  refine lv_iconst (v := 1) hx hb dL_law_1160 (by decide) ?_
  refine lv_iadd hx hb dL_law_1161 ?_
  rw [show (0 + 1 : Int32) = 1 by decide +kernel]
  refine va_sld hx hb hX hbl hbA w.2.2.1 (vp_in_nI (n := 1) (by decide) (by decide)) dL_law_1162 ?_
  rw [show Int32.toNatClampNeg 1 = 1 from by decide]
  have hM1 : FM ar κ (g_res (fun a9 => y ≤ a9 ∧ a9 < out) (g_ov (g_res (fun a9 => ¬ (a9 < y ∨ a9 = out)) G) u1.1)) y q2 0 := FM_mono hwM (fun a9 c9 h1 h2 h3 => g_res_i (show y ≤ a9 ∧ a9 < out from ⟨h1, by omega⟩) (g_ov_l (g_res_i (show ¬ (a9 < y ∨ a9 = out) by omega) h3)))
  refine gs_calli (g_res (fun a9 => ¬ (y ≤ a9 ∧ a9 < out)) (g_ov (g_res (fun a9 => ¬ (a9 < y ∨ a9 = out)) G) u1.1)) w (fun _ _ => g_res_s) (fun _ _ => g_res_2) (g_runV (As := [.int (xs 1)]) (rest := []) S hE (g_sub w (fun _ _ => g_res_s)) hl (m_kind l D ar κ (g_res (fun a9 => y ≤ a9 ∧ a9 < out) (g_ov (g_res (fun a9 => ¬ (a9 < y ∨ a9 = out)) G) u1.1)) u1.2 y (xs 1) q2 0 hM1) (k_RL_191 S.2.2.2.2 ⟨Nat.le_of_ble_eq_true rfl, Nat.le_of_ble_eq_true rfl⟩) hM1.2.1 rfl rfl rfl rfl (Nat.le_of_ble_eq_true rfl) dL_law_1163 ⟨Nat.le_of_ble_eq_true rfl, Nat.le_of_ble_eq_true rfl⟩) (fun r2 u2 H locs hp2 hnz2 w => ?_)
  obtain ⟨hv2, fs, hy2, h72⟩ := hp2
  refine lv_istore (lv' := [(7, .int r2), (6, .int (K_gl (xs 1))), (5, .int 0), (4, .ref outD), (3, .ref out), (2, .ref y), (1, .ref x), (0, .ref b)]) hx hb dL_law_1166 hl (by decide) rfl (fun ls hl => ?_)
  refine lv_aload_n hx hb dL_law_1168 rfl (lv_at hl 5 rfl) ?_
  refine g_calli w (g_runV (As := []) (rest := []) S hE w hl (m_thrown l D ar κ (g_ov (g_res (fun a9 => ¬ (y ≤ a9 ∧ a9 < out)) (g_ov (g_res (fun a9 => ¬ (a9 < y ∨ a9 = out)) G) u1.1)) u2.1) u2.2 y fs (K_gl (xs 1)) (g_ov_r (g_res_n (fun h => h ⟨Nat.le_refl _, by omega⟩)) hy2) h72) (k_RL_139 S.2.2.2.2 ⟨Nat.le_of_ble_eq_true rfl, Nat.le_of_ble_eq_true rfl⟩) (g_ov_r (g_res_n (fun h => h ⟨Nat.le_refl _, by omega⟩)) hy2) rfl rfl rfl rfl (Nat.le_of_ble_eq_true rfl) dL_law_1169 ⟨Nat.le_of_ble_eq_true rfl, Nat.le_of_ble_eq_true rfl⟩) (fun r u H locs hp hnz w => ?_)
  obtain ⟨rfl, rfl⟩ := hp
  refine lv_iload hx hb dL_law_1172 (lv_at hl 1 rfl) ?_
  refine lv_icmp_eq (tgt := 1179) hx hb dL_law_1174 (by decide) (fun _ => ?_) (fun c => absurd rfl c)
  refine lv_iload hx hb dL_law_1179 (lv_at hl 1 rfl) ?_
  refine lv_if_ne (tgt := 1196) hx hb dL_law_1181 (by decide) (fun c_1181 => ?_) (fun c_1181 => ?_)
  · refine lv_goto (tgt := 2365) hx hb dL_law_1196 (by decide) ?_
    exact W.widen (Nat.le_of_ble_eq_true rfl) (Nat.le_of_ble_eq_true rfl) (hend _ _ _ _ _ w (lv_sub hl [2, 7] rfl))
  · refine lv_aload_n hx hb dL_law_1184 rfl (lv_at hl 4 rfl) ?_
    refine lv_iconst (v := 0) hx hb dL_law_1185 (by decide) ?_
    obtain ⟨g1, hg1, hg2⟩ := ho1 c_1181
    obtain rfl := hv2 c_1181
    refine va_lald hx hb hE.1 (g_1 w.1 (g_ov_l (g_res_i (show ¬ (y ≤ out ∧ out < out) by omega) (g_ov_r (g_res_n (show ¬ ¬ (out < y ∨ out = out) by omega)) hg1)))) 0 1 rfl rfl (vp_in_nI (n := 0) (by decide) (by decide)) dL_law_1186 ?_
    rw [show g1 (Int32.toNatClampNeg 0) = 117 from hg2]
    refine lv_iload hx hb dL_law_1187 (lv_at hl 0 rfl) ?_
    refine lv_i2l hx hb dL_law_1189 rfl ?_
    rw [show ((117 : Int32)).toInt64 = 117 by decide +kernel]
    refine W.lcmp hx hb dL_law_1190 ?_
    rw [show lg_cmp (117 : Int64) 117 = 0 from by decide +kernel]
    refine lv_if_eq (tgt := 1196) hx hb dL_law_1191 (by decide) (fun _ => ?_) (fun c => absurd (by decide) c)
    refine lv_goto (tgt := 2365) hx hb dL_law_1196 (by decide) ?_
    exact W.widen (Nat.le_of_ble_eq_true rfl) (Nat.le_of_ble_eq_true rfl) (hend _ _ _ _ _ w (lv_sub hl [2, 7] rfl))
set_option maxHeartbeats 4000000 in
set_option maxRecDepth 100000 in
theorem lc_16 (hlt : l.stackTraces = false) (S : CallFix p m c cL_law 9 s #[.ref b] lwA RL) (hE : g_E D vwCl (gT ar) (EX1 κ) (fun q => s.heap.size ≤ q) s s.heap) (hX : va_X b 6 xs s s.heap) (hbl : b < s.heap.size) (w : g_S D vwCl (fun q => s.heap.size ≤ q) s.heap G H locs nz) (hw : LWs ar κ G x q1 y q2 out outD) (hl : lv_has ls 9 [(5, .int 0), (4, .ref outD), (3, .ref out), (2, .ref y), (1, .ref x), (0, .ref b)]) (hend : ∀ (H : Heap) (locs : List Loc) (ls : Array Slot) (G : gW) (nz : Nat), g_S D vwCl (fun q => s.heap.size ≤ q) s.heap G H locs nz → lv_has ls 9 [(5, .int 0), (0, .ref b)] → W p l e room_1 s m #[Value.ref b] below meth c H locs 400 9000 (lw_Z below #[Value.ref b] s) (F0 m 2365 ls [])) : W p l e room_1 s m #[Value.ref b] below meth c H locs 203 5000 (lw_Z below #[Value.ref b] s) (F0 m 1199 ls []) := by
  have hx := S.1
  have hb := S.2.1
  have hbA : ¬ s.heap.size ≤ b := Nat.not_le.mpr hbl
  obtain ⟨hwF, hwM, hwo, hwoD, hw1, hw2, hw3⟩ := id hw
  have hwq : x < q1 := hwF.1
  have hwy : y < q2 := hwM.1
  refine lv_aload_n hx hb dL_law_1199 rfl (lv_at hl 4 rfl) ?_
  refine lv_aload_n hx hb dL_law_1200 rfl (lv_at hl 5 rfl) ?_
  refine lv_iload hx hb dL_law_1201 (lv_at hl 0 rfl) ?_
  refine lv_iconst (v := 1) hx hb dL_law_1203 (by decide) ?_
  refine lv_iadd hx hb dL_law_1204 ?_
  rw [show (0 + 1 : Int32) = 1 by decide +kernel]
  refine va_sld hx hb hX hbl hbA w.2.2.1 (vp_in_nI (n := 1) (by decide) (by decide)) dL_law_1205 ?_
  rw [show Int32.toNatClampNeg 1 = 1 from by decide]
  refine lv_aload_n hx hb dL_law_1206 rfl (lv_at hl 2 rfl) ?_
  have hF1 : FH ar κ (g_res (fun a9 => a9 < y ∨ a9 = out) G) x q1 := FH_mono hwF (fun a9 c9 h1 h2 => g_res_i (show a9 < y ∨ a9 = out from Or.inl (by omega)) h2)
  refine gs_calli (g_res (fun a9 => ¬ (a9 < y ∨ a9 = out)) G) w (fun _ _ => g_res_s) (fun _ _ => g_res_2) (g_runSW (As := [.ref x, .int (xs 1), .ref out]) (rest := []) S hE (g_sub w (fun _ _ => g_res_s)) hl (w_value l D ar κ (g_res (fun a9 => a9 < y ∨ a9 = out) G) nz x (xs 1) out q1 (fun _ => 0) hF1 (g_res_i (show out < y ∨ out = out from Or.inr rfl) hwo) (by omega) hlt) (kW_192 S.2.2.2.2 ⟨Nat.le_of_ble_eq_true rfl, Nat.le_of_ble_eq_true rfl⟩) rfl rfl (Nat.le_of_ble_eq_true rfl) dL_law_1207 ⟨Nat.le_of_ble_eq_true rfl, Nat.le_of_ble_eq_true rfl⟩) (fun r u1 H locs hp1 hnz1 w => ?_)
  obtain ⟨rfl, ho1⟩ := hp1
  refine lv_istore (lv' := [(6, .int (K_gl (xs 1))), (5, .int 0), (4, .ref outD), (3, .ref out), (2, .ref y), (1, .ref x), (0, .ref b)]) hx hb dL_law_1210 hl (by decide) rfl (fun ls hl => ?_)
  refine lv_aload_n hx hb dL_law_1212 rfl (lv_at hl 4 rfl) ?_
  refine lv_aload_n hx hb dL_law_1213 rfl (lv_at hl 6 rfl) ?_
  refine lv_iload hx hb dL_law_1214 (lv_at hl 1 rfl) ?_
  refine lv_iconst (v := 1) hx hb dL_law_1216 (by decide) ?_
  refine lv_iadd hx hb dL_law_1217 ?_
  rw [show (0 + 1 : Int32) = 1 by decide +kernel]
  refine va_sld hx hb hX hbl hbA w.2.2.1 (vp_in_nI (n := 1) (by decide) (by decide)) dL_law_1218 ?_
  rw [show Int32.toNatClampNeg 1 = 1 from by decide]
  have hM1 : FM ar κ (g_res (fun a9 => y ≤ a9 ∧ a9 < out) (g_ov (g_res (fun a9 => ¬ (a9 < y ∨ a9 = out)) G) u1.1)) y q2 0 := FM_mono hwM (fun a9 c9 h1 h2 h3 => g_res_i (show y ≤ a9 ∧ a9 < out from ⟨h1, by omega⟩) (g_ov_l (g_res_i (show ¬ (a9 < y ∨ a9 = out) by omega) h3)))
  refine gs_calli (g_res (fun a9 => ¬ (y ≤ a9 ∧ a9 < out)) (g_ov (g_res (fun a9 => ¬ (a9 < y ∨ a9 = out)) G) u1.1)) w (fun _ _ => g_res_s) (fun _ _ => g_res_2) (g_runV (As := [.int (xs 1)]) (rest := []) S hE (g_sub w (fun _ _ => g_res_s)) hl (m_value l D ar κ (g_res (fun a9 => y ≤ a9 ∧ a9 < out) (g_ov (g_res (fun a9 => ¬ (a9 < y ∨ a9 = out)) G) u1.1)) u1.2 y (xs 1) q2 0 hM1) (k_RL_194 S.2.2.2.2 ⟨Nat.le_of_ble_eq_true rfl, Nat.le_of_ble_eq_true rfl⟩) hM1.2.1 rfl rfl rfl rfl (Nat.le_of_ble_eq_true rfl) dL_law_1219 ⟨Nat.le_of_ble_eq_true rfl, Nat.le_of_ble_eq_true rfl⟩) (fun r2 u2 H locs hp2 hnz2 w => ?_)
  obtain ⟨hv2, fs, hy2, h72⟩ := hp2
  refine lv_istore (lv' := [(7, .int r2), (6, .int (K_gl (xs 1))), (5, .int 0), (4, .ref outD), (3, .ref out), (2, .ref y), (1, .ref x), (0, .ref b)]) hx hb dL_law_1222 hl (by decide) rfl (fun ls hl => ?_)
  refine lv_aload_n hx hb dL_law_1224 rfl (lv_at hl 5 rfl) ?_
  refine g_calli w (g_runV (As := []) (rest := []) S hE w hl (m_thrown l D ar κ (g_ov (g_res (fun a9 => ¬ (y ≤ a9 ∧ a9 < out)) (g_ov (g_res (fun a9 => ¬ (a9 < y ∨ a9 = out)) G) u1.1)) u2.1) u2.2 y fs (K_gl (xs 1)) (g_ov_r (g_res_n (fun h => h ⟨Nat.le_refl _, by omega⟩)) hy2) h72) (k_RL_139 S.2.2.2.2 ⟨Nat.le_of_ble_eq_true rfl, Nat.le_of_ble_eq_true rfl⟩) (g_ov_r (g_res_n (fun h => h ⟨Nat.le_refl _, by omega⟩)) hy2) rfl rfl rfl rfl (Nat.le_of_ble_eq_true rfl) dL_law_1225 ⟨Nat.le_of_ble_eq_true rfl, Nat.le_of_ble_eq_true rfl⟩) (fun r u H locs hp hnz w => ?_)
  obtain ⟨rfl, rfl⟩ := hp
  refine lv_iload hx hb dL_law_1228 (lv_at hl 1 rfl) ?_
  refine lv_icmp_eq (tgt := 1235) hx hb dL_law_1230 (by decide) (fun _ => ?_) (fun c => absurd rfl c)
  refine lv_iload hx hb dL_law_1235 (lv_at hl 1 rfl) ?_
  refine lv_if_ne (tgt := 1252) hx hb dL_law_1237 (by decide) (fun c_1237 => ?_) (fun c_1237 => ?_)
  · refine lv_goto (tgt := 2365) hx hb dL_law_1252 (by decide) ?_
    exact W.widen (Nat.le_of_ble_eq_true rfl) (Nat.le_of_ble_eq_true rfl) (hend _ _ _ _ _ w (lv_sub hl [2, 7] rfl))
  · refine lv_aload_n hx hb dL_law_1240 rfl (lv_at hl 4 rfl) ?_
    refine lv_iconst (v := 0) hx hb dL_law_1241 (by decide) ?_
    obtain ⟨g1, hg1, hg2⟩ := ho1 c_1237
    obtain rfl := hv2 c_1237
    refine va_lald hx hb hE.1 (g_1 w.1 (g_ov_l (g_res_i (show ¬ (y ≤ out ∧ out < out) by omega) (g_ov_r (g_res_n (show ¬ ¬ (out < y ∨ out = out) by omega)) hg1)))) 0 1 rfl rfl (vp_in_nI (n := 0) (by decide) (by decide)) dL_law_1242 ?_
    rw [show g1 (Int32.toNatClampNeg 0) = 0 from hg2]
    refine lv_iload hx hb dL_law_1243 (lv_at hl 0 rfl) ?_
    refine lv_i2l hx hb dL_law_1245 rfl ?_
    rw [show ((0 : Int32)).toInt64 = 0 by decide +kernel]
    refine W.lcmp hx hb dL_law_1246 ?_
    rw [show lg_cmp (0 : Int64) 0 = 0 from by decide +kernel]
    refine lv_if_eq (tgt := 1252) hx hb dL_law_1247 (by decide) (fun _ => ?_) (fun c => absurd (by decide) c)
    refine lv_goto (tgt := 2365) hx hb dL_law_1252 (by decide) ?_
    exact W.widen (Nat.le_of_ble_eq_true rfl) (Nat.le_of_ble_eq_true rfl) (hend _ _ _ _ _ w (lv_sub hl [2, 7] rfl))
set_option maxHeartbeats 4000000 in
set_option maxRecDepth 100000 in
theorem lc_17 (hlt : l.stackTraces = false) (S : CallFix p m c cL_law 9 s #[.ref b] lwA RL) (hE : g_E D vwCl (gT ar) (EX1 κ) (fun q => s.heap.size ≤ q) s s.heap) (hX : va_X b 6 xs s s.heap) (hbl : b < s.heap.size) (w : g_S D vwCl (fun q => s.heap.size ≤ q) s.heap G H locs nz) (hw : LWs ar κ G x q1 y q2 out outD) (hl : lv_has ls 9 [(5, .int 0), (4, .ref outD), (3, .ref out), (2, .ref y), (1, .ref x), (0, .ref b)]) (hend : ∀ (H : Heap) (locs : List Loc) (ls : Array Slot) (G : gW) (nz : Nat), g_S D vwCl (fun q => s.heap.size ≤ q) s.heap G H locs nz → lv_has ls 9 [(5, .int 0), (0, .ref b)] → W p l e room_1 s m #[Value.ref b] below meth c H locs 400 9000 (lw_Z below #[Value.ref b] s) (F0 m 2365 ls [])) : W p l e room_1 s m #[Value.ref b] below meth c H locs 203 5000 (lw_Z below #[Value.ref b] s) (F0 m 1255 ls []) := by
  have hx := S.1
  have hb := S.2.1
  have hbA : ¬ s.heap.size ≤ b := Nat.not_le.mpr hbl
  obtain ⟨hwF, hwM, hwo, hwoD, hw1, hw2, hw3⟩ := id hw
  have hwq : x < q1 := hwF.1
  have hwy : y < q2 := hwM.1
  refine lv_aload_n hx hb dL_law_1255 rfl (lv_at hl 4 rfl) ?_
  refine lv_aload_n hx hb dL_law_1256 rfl (lv_at hl 5 rfl) ?_
  refine lv_iload hx hb dL_law_1257 (lv_at hl 0 rfl) ?_
  refine lv_iconst (v := 1) hx hb dL_law_1259 (by decide) ?_
  refine lv_iadd hx hb dL_law_1260 ?_
  rw [show (0 + 1 : Int32) = 1 by decide +kernel]
  refine va_sld hx hb hX hbl hbA w.2.2.1 (vp_in_nI (n := 1) (by decide) (by decide)) dL_law_1261 ?_
  rw [show Int32.toNatClampNeg 1 = 1 from by decide]
  refine lv_aload_n hx hb dL_law_1262 rfl (lv_at hl 2 rfl) ?_
  have hF1 : FH ar κ (g_res (fun a9 => a9 < y ∨ a9 = out) G) x q1 := FH_mono hwF (fun a9 c9 h1 h2 => g_res_i (show a9 < y ∨ a9 = out from Or.inl (by omega)) h2)
  refine gs_calli (g_res (fun a9 => ¬ (a9 < y ∨ a9 = out)) G) w (fun _ _ => g_res_s) (fun _ _ => g_res_2) (g_runSW (As := [.ref x, .int (xs 1), .ref out]) (rest := []) S hE (g_sub w (fun _ _ => g_res_s)) hl (w_classOf l D ar κ (g_res (fun a9 => a9 < y ∨ a9 = out) G) nz x (xs 1) out q1 (fun _ => 0) hF1 (g_res_i (show out < y ∨ out = out from Or.inr rfl) hwo) (by omega) hlt) (kW_195 S.2.2.2.2 ⟨Nat.le_of_ble_eq_true rfl, Nat.le_of_ble_eq_true rfl⟩) rfl rfl (Nat.le_of_ble_eq_true rfl) dL_law_1263 ⟨Nat.le_of_ble_eq_true rfl, Nat.le_of_ble_eq_true rfl⟩) (fun r u1 H locs hp1 hnz1 w => ?_)
  obtain rfl := hp1
  refine lv_istore (lv' := [(6, .int 1), (5, .int 0), (4, .ref outD), (3, .ref out), (2, .ref y), (1, .ref x), (0, .ref b)]) hx hb dL_law_1266 hl (by decide) rfl (fun ls hl => ?_)
  refine lv_aload_n hx hb dL_law_1268 rfl (lv_at hl 4 rfl) ?_
  refine lv_aload_n hx hb dL_law_1269 rfl (lv_at hl 6 rfl) ?_
  refine lv_iload hx hb dL_law_1270 (lv_at hl 1 rfl) ?_
  refine lv_iconst (v := 1) hx hb dL_law_1272 (by decide) ?_
  refine lv_iadd hx hb dL_law_1273 ?_
  rw [show (0 + 1 : Int32) = 1 by decide +kernel]
  refine va_sld hx hb hX hbl hbA w.2.2.1 (vp_in_nI (n := 1) (by decide) (by decide)) dL_law_1274 ?_
  rw [show Int32.toNatClampNeg 1 = 1 from by decide]
  have hM1 : FM ar κ (g_res (fun a9 => y ≤ a9 ∧ a9 < out) (g_ov (g_res (fun a9 => ¬ (a9 < y ∨ a9 = out)) G) u1.1)) y q2 0 := FM_mono hwM (fun a9 c9 h1 h2 h3 => g_res_i (show y ≤ a9 ∧ a9 < out from ⟨h1, by omega⟩) (g_ov_l (g_res_i (show ¬ (a9 < y ∨ a9 = out) by omega) h3)))
  refine gs_calli (g_res (fun a9 => ¬ (y ≤ a9 ∧ a9 < out)) (g_ov (g_res (fun a9 => ¬ (a9 < y ∨ a9 = out)) G) u1.1)) w (fun _ _ => g_res_s) (fun _ _ => g_res_2) (g_runV (As := [.int (xs 1)]) (rest := []) S hE (g_sub w (fun _ _ => g_res_s)) hl (m_classOf l D ar κ (g_res (fun a9 => y ≤ a9 ∧ a9 < out) (g_ov (g_res (fun a9 => ¬ (a9 < y ∨ a9 = out)) G) u1.1)) u1.2 y (xs 1) q2 0 hM1) (k_RL_197 S.2.2.2.2 ⟨Nat.le_of_ble_eq_true rfl, Nat.le_of_ble_eq_true rfl⟩) hM1.2.1 rfl rfl rfl rfl (Nat.le_of_ble_eq_true rfl) dL_law_1275 ⟨Nat.le_of_ble_eq_true rfl, Nat.le_of_ble_eq_true rfl⟩) (fun r2 u2 H locs hp2 hnz2 w => ?_)
  obtain ⟨hv2, fs, hy2, h72⟩ := hp2
  refine lv_istore (lv' := [(7, .int r2), (6, .int 1), (5, .int 0), (4, .ref outD), (3, .ref out), (2, .ref y), (1, .ref x), (0, .ref b)]) hx hb dL_law_1278 hl (by decide) rfl (fun ls hl => ?_)
  refine lv_aload_n hx hb dL_law_1280 rfl (lv_at hl 5 rfl) ?_
  refine g_calli w (g_runV (As := []) (rest := []) S hE w hl (m_thrown l D ar κ (g_ov (g_res (fun a9 => ¬ (y ≤ a9 ∧ a9 < out)) (g_ov (g_res (fun a9 => ¬ (a9 < y ∨ a9 = out)) G) u1.1)) u2.1) u2.2 y fs (1) (g_ov_r (g_res_n (fun h => h ⟨Nat.le_refl _, by omega⟩)) hy2) h72) (k_RL_139 S.2.2.2.2 ⟨Nat.le_of_ble_eq_true rfl, Nat.le_of_ble_eq_true rfl⟩) (g_ov_r (g_res_n (fun h => h ⟨Nat.le_refl _, by omega⟩)) hy2) rfl rfl rfl rfl (Nat.le_of_ble_eq_true rfl) dL_law_1281 ⟨Nat.le_of_ble_eq_true rfl, Nat.le_of_ble_eq_true rfl⟩) (fun r u H locs hp hnz w => ?_)
  obtain ⟨rfl, rfl⟩ := hp
  refine lv_iload hx hb dL_law_1284 (lv_at hl 1 rfl) ?_
  refine lv_icmp_eq (tgt := 1291) hx hb dL_law_1286 (by decide) (fun _ => ?_) (fun c => absurd (by decide) c)
  refine lv_iload hx hb dL_law_1291 (lv_at hl 1 rfl) ?_
  refine lv_if_ne (tgt := 1308) hx hb dL_law_1293 (by decide) (fun _ => ?_) (fun c => absurd c (by decide))
  refine lv_goto (tgt := 2365) hx hb dL_law_1308 (by decide) ?_
  exact W.widen (Nat.le_of_ble_eq_true rfl) (Nat.le_of_ble_eq_true rfl) (hend _ _ _ _ _ w (lv_sub hl [2, 7] rfl))
set_option maxHeartbeats 4000000 in
set_option maxRecDepth 100000 in
theorem lc_18 (hlt : l.stackTraces = false) (S : CallFix p m c cL_law 9 s #[.ref b] lwA RL) (hE : g_E D vwCl (gT ar) (EX1 κ) (fun q => s.heap.size ≤ q) s s.heap) (hX : va_X b 6 xs s s.heap) (hbl : b < s.heap.size) (w : g_S D vwCl (fun q => s.heap.size ≤ q) s.heap G H locs nz) (hw : LWs ar κ G x q1 y q2 out outD) (hl : lv_has ls 9 [(5, .int 0), (4, .ref outD), (3, .ref out), (2, .ref y), (1, .ref x), (0, .ref b)]) (hend : ∀ (H : Heap) (locs : List Loc) (ls : Array Slot) (G : gW) (nz : Nat), g_S D vwCl (fun q => s.heap.size ≤ q) s.heap G H locs nz → lv_has ls 9 [(5, .int 0), (0, .ref b)] → W p l e room_1 s m #[Value.ref b] below meth c H locs 400 9000 (lw_Z below #[Value.ref b] s) (F0 m 2365 ls [])) : W p l e room_1 s m #[Value.ref b] below meth c H locs 203 5000 (lw_Z below #[Value.ref b] s) (F0 m 1311 ls []) := by
  have hx := S.1
  have hb := S.2.1
  have hbA : ¬ s.heap.size ≤ b := Nat.not_le.mpr hbl
  obtain ⟨hwF, hwM, hwo, hwoD, hw1, hw2, hw3⟩ := id hw
  have hwq : x < q1 := hwF.1
  have hwy : y < q2 := hwM.1
  refine lv_aload_n hx hb dL_law_1311 rfl (lv_at hl 4 rfl) ?_
  refine lv_aload_n hx hb dL_law_1312 rfl (lv_at hl 5 rfl) ?_
  refine lv_iload hx hb dL_law_1313 (lv_at hl 0 rfl) ?_
  refine lv_iconst (v := 1) hx hb dL_law_1315 (by decide) ?_
  refine lv_iadd hx hb dL_law_1316 ?_
  rw [show (0 + 1 : Int32) = 1 by decide +kernel]
  refine va_sld hx hb hX hbl hbA w.2.2.1 (vp_in_nI (n := 1) (by decide) (by decide)) dL_law_1317 ?_
  rw [show Int32.toNatClampNeg 1 = 1 from by decide]
  refine lv_aload_n hx hb dL_law_1318 rfl (lv_at hl 5 rfl) ?_
  refine lv_iload hx hb dL_law_1319 (lv_at hl 0 rfl) ?_
  refine lv_iconst (v := 2) hx hb dL_law_1321 (by decide) ?_
  refine lv_iadd hx hb dL_law_1322 ?_
  rw [show (0 + 2 : Int32) = 2 by decide +kernel]
  refine va_sld hx hb hX hbl hbA w.2.2.1 (vp_in_nI (n := 2) (by decide) (by decide)) dL_law_1323 ?_
  rw [show Int32.toNatClampNeg 2 = 2 from by decide]
  refine lv_aload_n hx hb dL_law_1324 rfl (lv_at hl 2 rfl) ?_
  have hF1 : FH ar κ (g_res (fun a9 => a9 < y ∨ a9 = out) G) x q1 := FH_mono hwF (fun a9 c9 h1 h2 => g_res_i (show a9 < y ∨ a9 = out from Or.inl (by omega)) h2)
  refine gs_calli (g_res (fun a9 => ¬ (a9 < y ∨ a9 = out)) G) w (fun _ _ => g_res_s) (fun _ _ => g_res_2) (g_runSW (As := [.ref x, .int (xs 1), .int (xs 2), .ref out]) (rest := []) S hE (g_sub w (fun _ _ => g_res_s)) hl (w_fieldKind l D ar κ (g_res (fun a9 => a9 < y ∨ a9 = out) G) nz x (xs 1) (xs 2) out q1 (fun _ => 0) hF1 (g_res_i (show out < y ∨ out = out from Or.inr rfl) hwo) (by omega) hlt) (kW_198 S.2.2.2.2 ⟨Nat.le_of_ble_eq_true rfl, Nat.le_of_ble_eq_true rfl⟩) rfl rfl (Nat.le_of_ble_eq_true rfl) dL_law_1325 ⟨Nat.le_of_ble_eq_true rfl, Nat.le_of_ble_eq_true rfl⟩) (fun r u1 H locs hp1 hnz1 w => ?_)
  obtain rfl := hp1
  refine lv_istore (lv' := [(6, .int 1), (5, .int 0), (4, .ref outD), (3, .ref out), (2, .ref y), (1, .ref x), (0, .ref b)]) hx hb dL_law_1328 hl (by decide) rfl (fun ls hl => ?_)
  refine lv_aload_n hx hb dL_law_1330 rfl (lv_at hl 4 rfl) ?_
  refine lv_aload_n hx hb dL_law_1331 rfl (lv_at hl 6 rfl) ?_
  refine lv_iload hx hb dL_law_1332 (lv_at hl 1 rfl) ?_
  refine lv_iconst (v := 1) hx hb dL_law_1334 (by decide) ?_
  refine lv_iadd hx hb dL_law_1335 ?_
  rw [show (0 + 1 : Int32) = 1 by decide +kernel]
  refine va_sld hx hb hX hbl hbA w.2.2.1 (vp_in_nI (n := 1) (by decide) (by decide)) dL_law_1336 ?_
  rw [show Int32.toNatClampNeg 1 = 1 from by decide]
  refine lv_aload_n hx hb dL_law_1337 rfl (lv_at hl 6 rfl) ?_
  refine lv_iload hx hb dL_law_1338 (lv_at hl 1 rfl) ?_
  refine lv_iconst (v := 2) hx hb dL_law_1340 (by decide) ?_
  refine lv_iadd hx hb dL_law_1341 ?_
  rw [show (0 + 2 : Int32) = 2 by decide +kernel]
  refine va_sld hx hb hX hbl hbA w.2.2.1 (vp_in_nI (n := 2) (by decide) (by decide)) dL_law_1342 ?_
  rw [show Int32.toNatClampNeg 2 = 2 from by decide]
  have hM1 : FM ar κ (g_res (fun a9 => y ≤ a9 ∧ a9 < out) (g_ov (g_res (fun a9 => ¬ (a9 < y ∨ a9 = out)) G) u1.1)) y q2 0 := FM_mono hwM (fun a9 c9 h1 h2 h3 => g_res_i (show y ≤ a9 ∧ a9 < out from ⟨h1, by omega⟩) (g_ov_l (g_res_i (show ¬ (a9 < y ∨ a9 = out) by omega) h3)))
  refine gs_calli (g_res (fun a9 => ¬ (y ≤ a9 ∧ a9 < out)) (g_ov (g_res (fun a9 => ¬ (a9 < y ∨ a9 = out)) G) u1.1)) w (fun _ _ => g_res_s) (fun _ _ => g_res_2) (g_runV (As := [.int (xs 1), .int (xs 2)]) (rest := []) S hE (g_sub w (fun _ _ => g_res_s)) hl (m_fieldKind l D ar κ (g_res (fun a9 => y ≤ a9 ∧ a9 < out) (g_ov (g_res (fun a9 => ¬ (a9 < y ∨ a9 = out)) G) u1.1)) u1.2 y (xs 1) (xs 2) q2 0 hM1) (k_RL_200 S.2.2.2.2 ⟨Nat.le_of_ble_eq_true rfl, Nat.le_of_ble_eq_true rfl⟩) hM1.2.1 rfl rfl rfl rfl (Nat.le_of_ble_eq_true rfl) dL_law_1343 ⟨Nat.le_of_ble_eq_true rfl, Nat.le_of_ble_eq_true rfl⟩) (fun r2 u2 H locs hp2 hnz2 w => ?_)
  obtain ⟨hv2, fs, hy2, h72⟩ := hp2
  refine lv_istore (lv' := [(7, .int r2), (6, .int 1), (5, .int 0), (4, .ref outD), (3, .ref out), (2, .ref y), (1, .ref x), (0, .ref b)]) hx hb dL_law_1346 hl (by decide) rfl (fun ls hl => ?_)
  refine lv_aload_n hx hb dL_law_1348 rfl (lv_at hl 5 rfl) ?_
  refine g_calli w (g_runV (As := []) (rest := []) S hE w hl (m_thrown l D ar κ (g_ov (g_res (fun a9 => ¬ (y ≤ a9 ∧ a9 < out)) (g_ov (g_res (fun a9 => ¬ (a9 < y ∨ a9 = out)) G) u1.1)) u2.1) u2.2 y fs (1) (g_ov_r (g_res_n (fun h => h ⟨Nat.le_refl _, by omega⟩)) hy2) h72) (k_RL_139 S.2.2.2.2 ⟨Nat.le_of_ble_eq_true rfl, Nat.le_of_ble_eq_true rfl⟩) (g_ov_r (g_res_n (fun h => h ⟨Nat.le_refl _, by omega⟩)) hy2) rfl rfl rfl rfl (Nat.le_of_ble_eq_true rfl) dL_law_1349 ⟨Nat.le_of_ble_eq_true rfl, Nat.le_of_ble_eq_true rfl⟩) (fun r u H locs hp hnz w => ?_)
  obtain ⟨rfl, rfl⟩ := hp
  refine lv_iload hx hb dL_law_1352 (lv_at hl 1 rfl) ?_
  refine lv_icmp_eq (tgt := 1359) hx hb dL_law_1354 (by decide) (fun _ => ?_) (fun c => absurd (by decide) c)
  refine lv_iload hx hb dL_law_1359 (lv_at hl 1 rfl) ?_
  refine lv_if_ne (tgt := 1376) hx hb dL_law_1361 (by decide) (fun _ => ?_) (fun c => absurd c (by decide))
  refine lv_goto (tgt := 2365) hx hb dL_law_1376 (by decide) ?_
  exact W.widen (Nat.le_of_ble_eq_true rfl) (Nat.le_of_ble_eq_true rfl) (hend _ _ _ _ _ w (lv_sub hl [2, 7] rfl))
set_option maxHeartbeats 4000000 in
set_option maxRecDepth 100000 in
theorem lc_19 (hlt : l.stackTraces = false) (S : CallFix p m c cL_law 9 s #[.ref b] lwA RL) (hE : g_E D vwCl (gT ar) (EX1 κ) (fun q => s.heap.size ≤ q) s s.heap) (hX : va_X b 6 xs s s.heap) (hbl : b < s.heap.size) (w : g_S D vwCl (fun q => s.heap.size ≤ q) s.heap G H locs nz) (hw : LWs ar κ G x q1 y q2 out outD) (hl : lv_has ls 9 [(5, .int 0), (4, .ref outD), (3, .ref out), (2, .ref y), (1, .ref x), (0, .ref b)]) (hend : ∀ (H : Heap) (locs : List Loc) (ls : Array Slot) (G : gW) (nz : Nat), g_S D vwCl (fun q => s.heap.size ≤ q) s.heap G H locs nz → lv_has ls 9 [(5, .int 0), (0, .ref b)] → W p l e room_1 s m #[Value.ref b] below meth c H locs 400 9000 (lw_Z below #[Value.ref b] s) (F0 m 2365 ls [])) : W p l e room_1 s m #[Value.ref b] below meth c H locs 203 5000 (lw_Z below #[Value.ref b] s) (F0 m 1379 ls []) := by
  have hx := S.1
  have hb := S.2.1
  have hbA : ¬ s.heap.size ≤ b := Nat.not_le.mpr hbl
  obtain ⟨hwF, hwM, hwo, hwoD, hw1, hw2, hw3⟩ := id hw
  have hwq : x < q1 := hwF.1
  have hwy : y < q2 := hwM.1
  refine lv_aload_n hx hb dL_law_1379 rfl (lv_at hl 4 rfl) ?_
  refine lv_aload_n hx hb dL_law_1380 rfl (lv_at hl 5 rfl) ?_
  refine lv_iload hx hb dL_law_1381 (lv_at hl 0 rfl) ?_
  refine lv_iconst (v := 1) hx hb dL_law_1383 (by decide) ?_
  refine lv_iadd hx hb dL_law_1384 ?_
  rw [show (0 + 1 : Int32) = 1 by decide +kernel]
  refine va_sld hx hb hX hbl hbA w.2.2.1 (vp_in_nI (n := 1) (by decide) (by decide)) dL_law_1385 ?_
  rw [show Int32.toNatClampNeg 1 = 1 from by decide]
  refine lv_aload_n hx hb dL_law_1386 rfl (lv_at hl 5 rfl) ?_
  refine lv_iload hx hb dL_law_1387 (lv_at hl 0 rfl) ?_
  refine lv_iconst (v := 2) hx hb dL_law_1389 (by decide) ?_
  refine lv_iadd hx hb dL_law_1390 ?_
  rw [show (0 + 2 : Int32) = 2 by decide +kernel]
  refine va_sld hx hb hX hbl hbA w.2.2.1 (vp_in_nI (n := 2) (by decide) (by decide)) dL_law_1391 ?_
  rw [show Int32.toNatClampNeg 2 = 2 from by decide]
  refine lv_aload_n hx hb dL_law_1392 rfl (lv_at hl 2 rfl) ?_
  have hF1 : FH ar κ (g_res (fun a9 => a9 < y ∨ a9 = out) G) x q1 := FH_mono hwF (fun a9 c9 h1 h2 => g_res_i (show a9 < y ∨ a9 = out from Or.inl (by omega)) h2)
  refine gs_calli (g_res (fun a9 => ¬ (a9 < y ∨ a9 = out)) G) w (fun _ _ => g_res_s) (fun _ _ => g_res_2) (g_runSW (As := [.ref x, .int (xs 1), .int (xs 2), .ref out]) (rest := []) S hE (g_sub w (fun _ _ => g_res_s)) hl (w_fieldValue l D ar κ (g_res (fun a9 => a9 < y ∨ a9 = out) G) nz x (xs 1) (xs 2) out q1 (fun _ => 0) hF1 (g_res_i (show out < y ∨ out = out from Or.inr rfl) hwo) (by omega) hlt) (kW_201 S.2.2.2.2 ⟨Nat.le_of_ble_eq_true rfl, Nat.le_of_ble_eq_true rfl⟩) rfl rfl (Nat.le_of_ble_eq_true rfl) dL_law_1393 ⟨Nat.le_of_ble_eq_true rfl, Nat.le_of_ble_eq_true rfl⟩) (fun r u1 H locs hp1 hnz1 w => ?_)
  obtain rfl := hp1
  refine lv_istore (lv' := [(6, .int 1), (5, .int 0), (4, .ref outD), (3, .ref out), (2, .ref y), (1, .ref x), (0, .ref b)]) hx hb dL_law_1396 hl (by decide) rfl (fun ls hl => ?_)
  refine lv_aload_n hx hb dL_law_1398 rfl (lv_at hl 4 rfl) ?_
  refine lv_aload_n hx hb dL_law_1399 rfl (lv_at hl 6 rfl) ?_
  refine lv_iload hx hb dL_law_1400 (lv_at hl 1 rfl) ?_
  refine lv_iconst (v := 1) hx hb dL_law_1402 (by decide) ?_
  refine lv_iadd hx hb dL_law_1403 ?_
  rw [show (0 + 1 : Int32) = 1 by decide +kernel]
  refine va_sld hx hb hX hbl hbA w.2.2.1 (vp_in_nI (n := 1) (by decide) (by decide)) dL_law_1404 ?_
  rw [show Int32.toNatClampNeg 1 = 1 from by decide]
  refine lv_aload_n hx hb dL_law_1405 rfl (lv_at hl 6 rfl) ?_
  refine lv_iload hx hb dL_law_1406 (lv_at hl 1 rfl) ?_
  refine lv_iconst (v := 2) hx hb dL_law_1408 (by decide) ?_
  refine lv_iadd hx hb dL_law_1409 ?_
  rw [show (0 + 2 : Int32) = 2 by decide +kernel]
  refine va_sld hx hb hX hbl hbA w.2.2.1 (vp_in_nI (n := 2) (by decide) (by decide)) dL_law_1410 ?_
  rw [show Int32.toNatClampNeg 2 = 2 from by decide]
  have hM1 : FM ar κ (g_res (fun a9 => y ≤ a9 ∧ a9 < out) (g_ov (g_res (fun a9 => ¬ (a9 < y ∨ a9 = out)) G) u1.1)) y q2 0 := FM_mono hwM (fun a9 c9 h1 h2 h3 => g_res_i (show y ≤ a9 ∧ a9 < out from ⟨h1, by omega⟩) (g_ov_l (g_res_i (show ¬ (a9 < y ∨ a9 = out) by omega) h3)))
  refine gs_calli (g_res (fun a9 => ¬ (y ≤ a9 ∧ a9 < out)) (g_ov (g_res (fun a9 => ¬ (a9 < y ∨ a9 = out)) G) u1.1)) w (fun _ _ => g_res_s) (fun _ _ => g_res_2) (g_runV (As := [.int (xs 1), .int (xs 2)]) (rest := []) S hE (g_sub w (fun _ _ => g_res_s)) hl (m_fieldValue l D ar κ (g_res (fun a9 => y ≤ a9 ∧ a9 < out) (g_ov (g_res (fun a9 => ¬ (a9 < y ∨ a9 = out)) G) u1.1)) u1.2 y (xs 1) (xs 2) q2 0 hM1) (k_RL_203 S.2.2.2.2 ⟨Nat.le_of_ble_eq_true rfl, Nat.le_of_ble_eq_true rfl⟩) hM1.2.1 rfl rfl rfl rfl (Nat.le_of_ble_eq_true rfl) dL_law_1411 ⟨Nat.le_of_ble_eq_true rfl, Nat.le_of_ble_eq_true rfl⟩) (fun r2 u2 H locs hp2 hnz2 w => ?_)
  obtain ⟨hv2, fs, hy2, h72⟩ := hp2
  refine lv_istore (lv' := [(7, .int r2), (6, .int 1), (5, .int 0), (4, .ref outD), (3, .ref out), (2, .ref y), (1, .ref x), (0, .ref b)]) hx hb dL_law_1414 hl (by decide) rfl (fun ls hl => ?_)
  refine lv_aload_n hx hb dL_law_1416 rfl (lv_at hl 5 rfl) ?_
  refine g_calli w (g_runV (As := []) (rest := []) S hE w hl (m_thrown l D ar κ (g_ov (g_res (fun a9 => ¬ (y ≤ a9 ∧ a9 < out)) (g_ov (g_res (fun a9 => ¬ (a9 < y ∨ a9 = out)) G) u1.1)) u2.1) u2.2 y fs (1) (g_ov_r (g_res_n (fun h => h ⟨Nat.le_refl _, by omega⟩)) hy2) h72) (k_RL_139 S.2.2.2.2 ⟨Nat.le_of_ble_eq_true rfl, Nat.le_of_ble_eq_true rfl⟩) (g_ov_r (g_res_n (fun h => h ⟨Nat.le_refl _, by omega⟩)) hy2) rfl rfl rfl rfl (Nat.le_of_ble_eq_true rfl) dL_law_1417 ⟨Nat.le_of_ble_eq_true rfl, Nat.le_of_ble_eq_true rfl⟩) (fun r u H locs hp hnz w => ?_)
  obtain ⟨rfl, rfl⟩ := hp
  refine lv_iload hx hb dL_law_1420 (lv_at hl 1 rfl) ?_
  refine lv_icmp_eq (tgt := 1427) hx hb dL_law_1422 (by decide) (fun _ => ?_) (fun c => absurd (by decide) c)
  refine lv_iload hx hb dL_law_1427 (lv_at hl 1 rfl) ?_
  refine lv_if_ne (tgt := 1444) hx hb dL_law_1429 (by decide) (fun _ => ?_) (fun c => absurd c (by decide))
  refine lv_goto (tgt := 2365) hx hb dL_law_1444 (by decide) ?_
  exact W.widen (Nat.le_of_ble_eq_true rfl) (Nat.le_of_ble_eq_true rfl) (hend _ _ _ _ _ w (lv_sub hl [2, 7] rfl))
set_option maxHeartbeats 4000000 in
set_option maxRecDepth 100000 in
theorem lc_20 (hlt : l.stackTraces = false) (S : CallFix p m c cL_law 9 s #[.ref b] lwA RL) (hE : g_E D vwCl (gT ar) (EX1 κ) (fun q => s.heap.size ≤ q) s s.heap) (hX : va_X b 6 xs s s.heap) (hbl : b < s.heap.size) (w : g_S D vwCl (fun q => s.heap.size ≤ q) s.heap G H locs nz) (hw : LWs ar κ G x q1 y q2 out outD) (hl : lv_has ls 9 [(5, .int 0), (4, .ref outD), (3, .ref out), (2, .ref y), (1, .ref x), (0, .ref b)]) (hend : ∀ (H : Heap) (locs : List Loc) (ls : Array Slot) (G : gW) (nz : Nat), g_S D vwCl (fun q => s.heap.size ≤ q) s.heap G H locs nz → lv_has ls 9 [(5, .int 0), (0, .ref b)] → W p l e room_1 s m #[Value.ref b] below meth c H locs 400 9000 (lw_Z below #[Value.ref b] s) (F0 m 2365 ls [])) : W p l e room_1 s m #[Value.ref b] below meth c H locs 203 5000 (lw_Z below #[Value.ref b] s) (F0 m 1447 ls []) := by
  have hx := S.1
  have hb := S.2.1
  have hbA : ¬ s.heap.size ≤ b := Nat.not_le.mpr hbl
  obtain ⟨hwF, hwM, hwo, hwoD, hw1, hw2, hw3⟩ := id hw
  have hwq : x < q1 := hwF.1
  have hwy : y < q2 := hwM.1
  refine lv_aload_n hx hb dL_law_1447 rfl (lv_at hl 4 rfl) ?_
  have hF1 : FH ar κ (g_res (fun a9 => a9 < y) G) x q1 := FH_mono hwF (fun a9 c9 h1 h2 => g_res_i (show a9 < y by omega) h2)
  refine gs_calli (g_res (fun a9 => ¬ (a9 < y)) G) w (fun _ _ => g_res_s) (fun _ _ => g_res_2) (g_runV (As := []) (rest := []) S hE (g_sub w (fun _ _ => g_res_s)) hl (h_things l D ar κ (g_res (fun a9 => a9 < y) G) nz x q1 hF1) (k_RL_204 S.2.2.2.2 ⟨Nat.le_of_ble_eq_true rfl, Nat.le_of_ble_eq_true rfl⟩) hF1.2.1 rfl rfl rfl rfl (Nat.le_of_ble_eq_true rfl) dL_law_1448 ⟨Nat.le_of_ble_eq_true rfl, Nat.le_of_ble_eq_true rfl⟩) (fun r u1 H locs hp1 hnz1 w => ?_)
  obtain rfl := hp1
  refine lv_aload_n hx hb dL_law_1451 rfl (lv_at hl 3 rfl) ?_
  have hM1 : FM ar κ (g_res (fun a9 => y ≤ a9 ∧ a9 < out) (g_ov (g_res (fun a9 => ¬ (a9 < y)) G) u1.1)) y q2 0 := FM_mono hwM (fun a9 c9 h1 h2 h3 => g_res_i (show y ≤ a9 ∧ a9 < out from ⟨h1, by omega⟩) (g_ov_l (g_res_i (show ¬ (a9 < y) by omega) h3)))
  refine gs_calli (g_res (fun a9 => ¬ (y ≤ a9 ∧ a9 < out)) (g_ov (g_res (fun a9 => ¬ (a9 < y)) G) u1.1)) w (fun _ _ => g_res_s) (fun _ _ => g_res_2) (g_runV (As := []) (rest := [.int 0]) S hE (g_sub w (fun _ _ => g_res_s)) hl (m_things l D ar κ (g_res (fun a9 => y ≤ a9 ∧ a9 < out) (g_ov (g_res (fun a9 => ¬ (a9 < y)) G) u1.1)) u1.2 y q2 0 hM1) (k_RL_207 S.2.2.2.2 ⟨Nat.le_of_ble_eq_true rfl, Nat.le_of_ble_eq_true rfl⟩) hM1.2.1 rfl rfl rfl rfl (Nat.le_of_ble_eq_true rfl) dL_law_1452 ⟨Nat.le_of_ble_eq_true rfl, Nat.le_of_ble_eq_true rfl⟩) (fun r2 u2 H locs hp2 hnz2 w => ?_)
  obtain rfl := hp2
  refine lv_icmp_eq (tgt := 2365) hx hb dL_law_1455 (by decide) (fun _ => ?_) (fun c => absurd (by decide) c)
  exact W.widen (Nat.le_of_ble_eq_true rfl) (Nat.le_of_ble_eq_true rfl) (hend _ _ _ _ _ w (lv_sub hl [0, 5] rfl))
set_option maxHeartbeats 4000000 in
set_option maxRecDepth 100000 in
theorem lc_21 (hlt : l.stackTraces = false) (S : CallFix p m c cL_law 9 s #[.ref b] lwA RL) (hE : g_E D vwCl (gT ar) (EX1 κ) (fun q => s.heap.size ≤ q) s s.heap) (hX : va_X b 6 xs s s.heap) (hbl : b < s.heap.size) (w : g_S D vwCl (fun q => s.heap.size ≤ q) s.heap G H locs nz) (hw : LWs ar κ G x q1 y q2 out outD) (hl : lv_has ls 9 [(5, .int 0), (4, .ref outD), (3, .ref out), (2, .ref y), (1, .ref x), (0, .ref b)]) (hend : ∀ (H : Heap) (locs : List Loc) (ls : Array Slot) (G : gW) (nz : Nat), g_S D vwCl (fun q => s.heap.size ≤ q) s.heap G H locs nz → lv_has ls 9 [(5, .int 0), (0, .ref b)] → W p l e room_1 s m #[Value.ref b] below meth c H locs 400 9000 (lw_Z below #[Value.ref b] s) (F0 m 2365 ls [])) : W p l e room_1 s m #[Value.ref b] below meth c H locs 203 5000 (lw_Z below #[Value.ref b] s) (F0 m 1460 ls []) := by
  have hx := S.1
  have hb := S.2.1
  have hbA : ¬ s.heap.size ≤ b := Nat.not_le.mpr hbl
  obtain ⟨hwF, hwM, hwo, hwoD, hw1, hw2, hw3⟩ := id hw
  have hwq : x < q1 := hwF.1
  have hwy : y < q2 := hwM.1
  refine lv_aload_n hx hb dL_law_1460 rfl (lv_at hl 4 rfl) ?_
  have hF1 : FH ar κ (g_res (fun a9 => a9 < y) G) x q1 := FH_mono hwF (fun a9 c9 h1 h2 => g_res_i (show a9 < y by omega) h2)
  refine gs_calli (g_res (fun a9 => ¬ (a9 < y)) G) w (fun _ _ => g_res_s) (fun _ _ => g_res_2) (g_runV (As := []) (rest := []) S hE (g_sub w (fun _ _ => g_res_s)) hl (h_collect l D ar κ (g_res (fun a9 => a9 < y) G) nz x q1 hF1) (k_RL_208 S.2.2.2.2 ⟨Nat.le_of_ble_eq_true rfl, Nat.le_of_ble_eq_true rfl⟩) hF1.2.1 rfl rfl rfl rfl (Nat.le_of_ble_eq_true rfl) dL_law_1461 ⟨Nat.le_of_ble_eq_true rfl, Nat.le_of_ble_eq_true rfl⟩) (fun r u1 H locs hp1 hnz1 w => ?_)
  obtain rfl := hp1
  refine lv_aload_n hx hb dL_law_1464 rfl (lv_at hl 3 rfl) ?_
  have hM1 : FM ar κ (g_res (fun a9 => y ≤ a9 ∧ a9 < out) (g_ov (g_res (fun a9 => ¬ (a9 < y)) G) u1.1)) y q2 0 := FM_mono hwM (fun a9 c9 h1 h2 h3 => g_res_i (show y ≤ a9 ∧ a9 < out from ⟨h1, by omega⟩) (g_ov_l (g_res_i (show ¬ (a9 < y) by omega) h3)))
  refine gs_calli (g_res (fun a9 => ¬ (y ≤ a9 ∧ a9 < out)) (g_ov (g_res (fun a9 => ¬ (a9 < y)) G) u1.1)) w (fun _ _ => g_res_s) (fun _ _ => g_res_2) (g_runV (As := []) (rest := [.int 0]) S hE (g_sub w (fun _ _ => g_res_s)) hl (m_collect l D ar κ (g_res (fun a9 => y ≤ a9 ∧ a9 < out) (g_ov (g_res (fun a9 => ¬ (a9 < y)) G) u1.1)) u1.2 y q2 0 hM1) (k_RL_211 S.2.2.2.2 ⟨Nat.le_of_ble_eq_true rfl, Nat.le_of_ble_eq_true rfl⟩) hM1.2.1 rfl rfl rfl rfl (Nat.le_of_ble_eq_true rfl) dL_law_1465 ⟨Nat.le_of_ble_eq_true rfl, Nat.le_of_ble_eq_true rfl⟩) (fun r2 u2 H locs hp2 hnz2 w => ?_)
  obtain rfl := hp2
  refine lv_icmp_eq (tgt := 2365) hx hb dL_law_1468 (by decide) (fun _ => ?_) (fun c => absurd (by decide) c)
  exact W.widen (Nat.le_of_ble_eq_true rfl) (Nat.le_of_ble_eq_true rfl) (hend _ _ _ _ _ w (lv_sub hl [0, 5] rfl))
set_option maxHeartbeats 4000000 in
set_option maxRecDepth 100000 in
theorem lc_22 (hlt : l.stackTraces = false) (S : CallFix p m c cL_law 9 s #[.ref b] lwA RL) (hE : g_E D vwCl (gT ar) (EX1 κ) (fun q => s.heap.size ≤ q) s s.heap) (hX : va_X b 6 xs s s.heap) (hbl : b < s.heap.size) (w : g_S D vwCl (fun q => s.heap.size ≤ q) s.heap G H locs nz) (hw : LWs ar κ G x q1 y q2 out outD) (hl : lv_has ls 9 [(5, .int 0), (4, .ref outD), (3, .ref out), (2, .ref y), (1, .ref x), (0, .ref b)]) (hend : ∀ (H : Heap) (locs : List Loc) (ls : Array Slot) (G : gW) (nz : Nat), g_S D vwCl (fun q => s.heap.size ≤ q) s.heap G H locs nz → lv_has ls 9 [(5, .int 0), (0, .ref b)] → W p l e room_1 s m #[Value.ref b] below meth c H locs 400 9000 (lw_Z below #[Value.ref b] s) (F0 m 2365 ls [])) : W p l e room_1 s m #[Value.ref b] below meth c H locs 203 5000 (lw_Z below #[Value.ref b] s) (F0 m 1473 ls []) := by
  have hx := S.1
  have hb := S.2.1
  have hbA : ¬ s.heap.size ≤ b := Nat.not_le.mpr hbl
  obtain ⟨hwF, hwM, hwo, hwoD, hw1, hw2, hw3⟩ := id hw
  have hwq : x < q1 := hwF.1
  have hwy : y < q2 := hwM.1
  refine lv_aload_n hx hb dL_law_1473 rfl (lv_at hl 4 rfl) ?_
  refine lv_aload_n hx hb dL_law_1474 rfl (lv_at hl 5 rfl) ?_
  refine lv_iload hx hb dL_law_1475 (lv_at hl 0 rfl) ?_
  refine lv_iconst (v := 1) hx hb dL_law_1477 (by decide) ?_
  refine lv_iadd hx hb dL_law_1478 ?_
  rw [show (0 + 1 : Int32) = 1 by decide +kernel]
  refine va_sld hx hb hX hbl hbA w.2.2.1 (vp_in_nI (n := 1) (by decide) (by decide)) dL_law_1479 ?_
  rw [show Int32.toNatClampNeg 1 = 1 from by decide]
  refine lv_aload_n hx hb dL_law_1480 rfl (lv_at hl 5 rfl) ?_
  refine lv_iload hx hb dL_law_1481 (lv_at hl 0 rfl) ?_
  refine lv_iconst (v := 2) hx hb dL_law_1483 (by decide) ?_
  refine lv_iadd hx hb dL_law_1484 ?_
  rw [show (0 + 2 : Int32) = 2 by decide +kernel]
  refine va_sld hx hb hX hbl hbA w.2.2.1 (vp_in_nI (n := 2) (by decide) (by decide)) dL_law_1485 ?_
  rw [show Int32.toNatClampNeg 2 = 2 from by decide]
  refine lv_aload_n hx hb dL_law_1486 rfl (lv_at hl 5 rfl) ?_
  refine lv_iload hx hb dL_law_1487 (lv_at hl 0 rfl) ?_
  refine lv_iconst (v := 3) hx hb dL_law_1489 (by decide) ?_
  refine lv_iadd hx hb dL_law_1490 ?_
  rw [show (0 + 3 : Int32) = 3 by decide +kernel]
  refine va_sld hx hb hX hbl hbA w.2.2.1 (vp_in_nI (n := 3) (by decide) (by decide)) dL_law_1491 ?_
  rw [show Int32.toNatClampNeg 3 = 3 from by decide]
  refine lv_aload_n hx hb dL_law_1492 rfl (lv_at hl 5 rfl) ?_
  refine lv_iload hx hb dL_law_1493 (lv_at hl 0 rfl) ?_
  refine lv_iconst (v := 4) hx hb dL_law_1495 (by decide) ?_
  refine lv_iadd hx hb dL_law_1496 ?_
  rw [show (0 + 4 : Int32) = 4 by decide +kernel]
  refine va_sld hx hb hX hbl hbA w.2.2.1 (vp_in_nI (n := 4) (by decide) (by decide)) dL_law_1497 ?_
  rw [show Int32.toNatClampNeg 4 = 4 from by decide]
  refine lv_aload_n hx hb dL_law_1498 rfl (lv_at hl 5 rfl) ?_
  refine lv_iload hx hb dL_law_1499 (lv_at hl 0 rfl) ?_
  refine lv_iconst (v := 5) hx hb dL_law_1501 (by decide) ?_
  refine lv_iadd hx hb dL_law_1502 ?_
  rw [show (0 + 5 : Int32) = 5 by decide +kernel]
  refine va_sld hx hb hX hbl hbA w.2.2.1 (vp_in_nI (n := 5) (by decide) (by decide)) dL_law_1503 ?_
  rw [show Int32.toNatClampNeg 5 = 5 from by decide]
  refine lv_aload_n hx hb dL_law_1504 rfl (lv_at hl 2 rfl) ?_
  have hF1 : FH ar κ (g_res (fun a9 => a9 < y ∨ a9 = out) G) x q1 := FH_mono hwF (fun a9 c9 h1 h2 => g_res_i (show a9 < y ∨ a9 = out from Or.inl (by omega)) h2)
  refine gs_calli (g_res (fun a9 => ¬ (a9 < y ∨ a9 = out)) G) w (fun _ _ => g_res_s) (fun _ _ => g_res_2) (g_runSW (As := [.ref x, .int (xs 1), .int (xs 2), .int (xs 3), .int (xs 4), .int (xs 5), .ref out]) (rest := []) S hE (g_sub w (fun _ _ => g_res_s)) hl (w_begin l D ar κ (g_res (fun a9 => a9 < y ∨ a9 = out) G) nz x (xs 1) (xs 2) (xs 3) (xs 4) (xs 5) out q1 (fun _ => 0) hF1 (g_res_i (show out < y ∨ out = out from Or.inr rfl) hwo) (by omega) hlt) (kW_212 S.2.2.2.2 ⟨Nat.le_of_ble_eq_true rfl, Nat.le_of_ble_eq_true rfl⟩) rfl rfl (Nat.le_of_ble_eq_true rfl) dL_law_1505 ⟨Nat.le_of_ble_eq_true rfl, Nat.le_of_ble_eq_true rfl⟩) (fun r u1 H locs hp1 hnz1 w => ?_)
  obtain rfl := hp1
  refine lv_istore (lv' := [(6, .int (K_begin (xs 1) (xs 2) (xs 3))), (5, .int 0), (4, .ref outD), (3, .ref out), (2, .ref y), (1, .ref x), (0, .ref b)]) hx hb dL_law_1508 hl (by decide) rfl (fun ls hl => ?_)
  refine lv_aload_n hx hb dL_law_1510 rfl (lv_at hl 4 rfl) ?_
  refine lv_aload_n hx hb dL_law_1511 rfl (lv_at hl 6 rfl) ?_
  refine lv_iload hx hb dL_law_1512 (lv_at hl 1 rfl) ?_
  refine lv_iconst (v := 1) hx hb dL_law_1514 (by decide) ?_
  refine lv_iadd hx hb dL_law_1515 ?_
  rw [show (0 + 1 : Int32) = 1 by decide +kernel]
  refine va_sld hx hb hX hbl hbA w.2.2.1 (vp_in_nI (n := 1) (by decide) (by decide)) dL_law_1516 ?_
  rw [show Int32.toNatClampNeg 1 = 1 from by decide]
  refine lv_aload_n hx hb dL_law_1517 rfl (lv_at hl 6 rfl) ?_
  refine lv_iload hx hb dL_law_1518 (lv_at hl 1 rfl) ?_
  refine lv_iconst (v := 2) hx hb dL_law_1520 (by decide) ?_
  refine lv_iadd hx hb dL_law_1521 ?_
  rw [show (0 + 2 : Int32) = 2 by decide +kernel]
  refine va_sld hx hb hX hbl hbA w.2.2.1 (vp_in_nI (n := 2) (by decide) (by decide)) dL_law_1522 ?_
  rw [show Int32.toNatClampNeg 2 = 2 from by decide]
  refine lv_aload_n hx hb dL_law_1523 rfl (lv_at hl 6 rfl) ?_
  refine lv_iload hx hb dL_law_1524 (lv_at hl 1 rfl) ?_
  refine lv_iconst (v := 3) hx hb dL_law_1526 (by decide) ?_
  refine lv_iadd hx hb dL_law_1527 ?_
  rw [show (0 + 3 : Int32) = 3 by decide +kernel]
  refine va_sld hx hb hX hbl hbA w.2.2.1 (vp_in_nI (n := 3) (by decide) (by decide)) dL_law_1528 ?_
  rw [show Int32.toNatClampNeg 3 = 3 from by decide]
  refine lv_aload_n hx hb dL_law_1529 rfl (lv_at hl 6 rfl) ?_
  refine lv_iload hx hb dL_law_1530 (lv_at hl 1 rfl) ?_
  refine lv_iconst (v := 4) hx hb dL_law_1532 (by decide) ?_
  refine lv_iadd hx hb dL_law_1533 ?_
  rw [show (0 + 4 : Int32) = 4 by decide +kernel]
  refine va_sld hx hb hX hbl hbA w.2.2.1 (vp_in_nI (n := 4) (by decide) (by decide)) dL_law_1534 ?_
  rw [show Int32.toNatClampNeg 4 = 4 from by decide]
  refine lv_aload_n hx hb dL_law_1535 rfl (lv_at hl 6 rfl) ?_
  refine lv_iload hx hb dL_law_1536 (lv_at hl 1 rfl) ?_
  refine lv_iconst (v := 5) hx hb dL_law_1538 (by decide) ?_
  refine lv_iadd hx hb dL_law_1539 ?_
  rw [show (0 + 5 : Int32) = 5 by decide +kernel]
  refine va_sld hx hb hX hbl hbA w.2.2.1 (vp_in_nI (n := 5) (by decide) (by decide)) dL_law_1540 ?_
  rw [show Int32.toNatClampNeg 5 = 5 from by decide]
  have hM1 : FM ar κ (g_res (fun a9 => y ≤ a9 ∧ a9 < out) (g_ov (g_res (fun a9 => ¬ (a9 < y ∨ a9 = out)) G) u1.1)) y q2 0 := FM_mono hwM (fun a9 c9 h1 h2 h3 => g_res_i (show y ≤ a9 ∧ a9 < out from ⟨h1, by omega⟩) (g_ov_l (g_res_i (show ¬ (a9 < y ∨ a9 = out) by omega) h3)))
  refine gs_calli (g_res (fun a9 => ¬ (y ≤ a9 ∧ a9 < out)) (g_ov (g_res (fun a9 => ¬ (a9 < y ∨ a9 = out)) G) u1.1)) w (fun _ _ => g_res_s) (fun _ _ => g_res_2) (g_runV (As := [.int (xs 1), .int (xs 2), .int (xs 3), .int (xs 4), .int (xs 5)]) (rest := []) S hE (g_sub w (fun _ _ => g_res_s)) hl (m_begin l D ar κ (g_res (fun a9 => y ≤ a9 ∧ a9 < out) (g_ov (g_res (fun a9 => ¬ (a9 < y ∨ a9 = out)) G) u1.1)) u1.2 y (xs 1) (xs 2) (xs 3) (xs 4) (xs 5) q2 0 hM1) (k_RL_215 S.2.2.2.2 ⟨Nat.le_of_ble_eq_true rfl, Nat.le_of_ble_eq_true rfl⟩) hM1.2.1 rfl rfl rfl rfl (Nat.le_of_ble_eq_true rfl) dL_law_1541 ⟨Nat.le_of_ble_eq_true rfl, Nat.le_of_ble_eq_true rfl⟩) (fun r2 u2 H locs hp2 hnz2 w => ?_)
  obtain ⟨hv2, fs, hy2, h72⟩ := hp2
  refine lv_istore (lv' := [(7, .int r2), (6, .int (K_begin (xs 1) (xs 2) (xs 3))), (5, .int 0), (4, .ref outD), (3, .ref out), (2, .ref y), (1, .ref x), (0, .ref b)]) hx hb dL_law_1544 hl (by decide) rfl (fun ls hl => ?_)
  refine lv_aload_n hx hb dL_law_1546 rfl (lv_at hl 5 rfl) ?_
  refine g_calli w (g_runV (As := []) (rest := []) S hE w hl (m_thrown l D ar κ (g_ov (g_res (fun a9 => ¬ (y ≤ a9 ∧ a9 < out)) (g_ov (g_res (fun a9 => ¬ (a9 < y ∨ a9 = out)) G) u1.1)) u2.1) u2.2 y fs (K_begin (xs 1) (xs 2) (xs 3)) (g_ov_r (g_res_n (fun h => h ⟨Nat.le_refl _, by omega⟩)) hy2) h72) (k_RL_139 S.2.2.2.2 ⟨Nat.le_of_ble_eq_true rfl, Nat.le_of_ble_eq_true rfl⟩) (g_ov_r (g_res_n (fun h => h ⟨Nat.le_refl _, by omega⟩)) hy2) rfl rfl rfl rfl (Nat.le_of_ble_eq_true rfl) dL_law_1547 ⟨Nat.le_of_ble_eq_true rfl, Nat.le_of_ble_eq_true rfl⟩) (fun r u H locs hp hnz w => ?_)
  obtain ⟨rfl, rfl⟩ := hp
  refine lv_iload hx hb dL_law_1550 (lv_at hl 1 rfl) ?_
  refine lv_icmp_eq (tgt := 1557) hx hb dL_law_1552 (by decide) (fun _ => ?_) (fun c => absurd rfl c)
  refine lv_iload hx hb dL_law_1557 (lv_at hl 1 rfl) ?_
  refine lv_if_ne (tgt := 1574) hx hb dL_law_1559 (by decide) (fun c_1559 => ?_) (fun c_1559 => absurd c_1559 K_begin_n)
  refine lv_goto (tgt := 2365) hx hb dL_law_1574 (by decide) ?_
  exact W.widen (Nat.le_of_ble_eq_true rfl) (Nat.le_of_ble_eq_true rfl) (hend _ _ _ _ _ w (lv_sub hl [2, 7] rfl))
set_option maxHeartbeats 4000000 in
set_option maxRecDepth 100000 in
theorem lc_23 (hlt : l.stackTraces = false) (S : CallFix p m c cL_law 9 s #[.ref b] lwA RL) (hE : g_E D vwCl (gT ar) (EX1 κ) (fun q => s.heap.size ≤ q) s s.heap) (hX : va_X b 6 xs s s.heap) (hbl : b < s.heap.size) (w : g_S D vwCl (fun q => s.heap.size ≤ q) s.heap G H locs nz) (hw : LWs ar κ G x q1 y q2 out outD) (hl : lv_has ls 9 [(5, .int 0), (4, .ref outD), (3, .ref out), (2, .ref y), (1, .ref x), (0, .ref b)]) (hend : ∀ (H : Heap) (locs : List Loc) (ls : Array Slot) (G : gW) (nz : Nat), g_S D vwCl (fun q => s.heap.size ≤ q) s.heap G H locs nz → lv_has ls 9 [(5, .int 0), (0, .ref b)] → W p l e room_1 s m #[Value.ref b] below meth c H locs 400 9000 (lw_Z below #[Value.ref b] s) (F0 m 2365 ls [])) : W p l e room_1 s m #[Value.ref b] below meth c H locs 203 5000 (lw_Z below #[Value.ref b] s) (F0 m 1577 ls []) := by
  have hx := S.1
  have hb := S.2.1
  have hbA : ¬ s.heap.size ≤ b := Nat.not_le.mpr hbl
  obtain ⟨hwF, hwM, hwo, hwoD, hw1, hw2, hw3⟩ := id hw
  have hwq : x < q1 := hwF.1
  have hwy : y < q2 := hwM.1
  refine lv_aload_n hx hb dL_law_1577 rfl (lv_at hl 4 rfl) ?_
  refine lv_aload_n hx hb dL_law_1578 rfl (lv_at hl 5 rfl) ?_
  refine lv_iload hx hb dL_law_1579 (lv_at hl 0 rfl) ?_
  refine lv_iconst (v := 1) hx hb dL_law_1581 (by decide) ?_
  refine lv_iadd hx hb dL_law_1582 ?_
  rw [show (0 + 1 : Int32) = 1 by decide +kernel]
  refine va_sld hx hb hX hbl hbA w.2.2.1 (vp_in_nI (n := 1) (by decide) (by decide)) dL_law_1583 ?_
  rw [show Int32.toNatClampNeg 1 = 1 from by decide]
  refine lv_aload_n hx hb dL_law_1584 rfl (lv_at hl 2 rfl) ?_
  have hF1 : FH ar κ (g_res (fun a9 => a9 < y ∨ a9 = out) G) x q1 := FH_mono hwF (fun a9 c9 h1 h2 => g_res_i (show a9 < y ∨ a9 = out from Or.inl (by omega)) h2)
  refine gs_calli (g_res (fun a9 => ¬ (a9 < y ∨ a9 = out)) G) w (fun _ _ => g_res_s) (fun _ _ => g_res_2) (g_runSW (As := [.ref x, .int (xs 1), .ref out]) (rest := []) S hE (g_sub w (fun _ _ => g_res_s)) hl (w_go l D ar κ (g_res (fun a9 => a9 < y ∨ a9 = out) G) nz x (xs 1) out q1 (fun _ => 0) hF1 (g_res_i (show out < y ∨ out = out from Or.inr rfl) hwo) (by omega) hlt) (kW_216 S.2.2.2.2 ⟨Nat.le_of_ble_eq_true rfl, Nat.le_of_ble_eq_true rfl⟩) rfl rfl (Nat.le_of_ble_eq_true rfl) dL_law_1585 ⟨Nat.le_of_ble_eq_true rfl, Nat.le_of_ble_eq_true rfl⟩) (fun r u1 H locs hp1 hnz1 w => ?_)
  obtain rfl := hp1
  refine lv_istore (lv' := [(6, .int (K_go (xs 1))), (5, .int 0), (4, .ref outD), (3, .ref out), (2, .ref y), (1, .ref x), (0, .ref b)]) hx hb dL_law_1588 hl (by decide) rfl (fun ls hl => ?_)
  refine lv_aload_n hx hb dL_law_1590 rfl (lv_at hl 4 rfl) ?_
  refine lv_aload_n hx hb dL_law_1591 rfl (lv_at hl 6 rfl) ?_
  refine lv_iload hx hb dL_law_1592 (lv_at hl 1 rfl) ?_
  refine lv_iconst (v := 1) hx hb dL_law_1594 (by decide) ?_
  refine lv_iadd hx hb dL_law_1595 ?_
  rw [show (0 + 1 : Int32) = 1 by decide +kernel]
  refine va_sld hx hb hX hbl hbA w.2.2.1 (vp_in_nI (n := 1) (by decide) (by decide)) dL_law_1596 ?_
  rw [show Int32.toNatClampNeg 1 = 1 from by decide]
  have hM1 : FM ar κ (g_res (fun a9 => y ≤ a9 ∧ a9 < out) (g_ov (g_res (fun a9 => ¬ (a9 < y ∨ a9 = out)) G) u1.1)) y q2 0 := FM_mono hwM (fun a9 c9 h1 h2 h3 => g_res_i (show y ≤ a9 ∧ a9 < out from ⟨h1, by omega⟩) (g_ov_l (g_res_i (show ¬ (a9 < y ∨ a9 = out) by omega) h3)))
  refine gs_calli (g_res (fun a9 => ¬ (y ≤ a9 ∧ a9 < out)) (g_ov (g_res (fun a9 => ¬ (a9 < y ∨ a9 = out)) G) u1.1)) w (fun _ _ => g_res_s) (fun _ _ => g_res_2) (g_runV (As := [.int (xs 1)]) (rest := []) S hE (g_sub w (fun _ _ => g_res_s)) hl (m_go l D ar κ (g_res (fun a9 => y ≤ a9 ∧ a9 < out) (g_ov (g_res (fun a9 => ¬ (a9 < y ∨ a9 = out)) G) u1.1)) u1.2 y (xs 1) q2 0 hM1) (k_RL_218 S.2.2.2.2 ⟨Nat.le_of_ble_eq_true rfl, Nat.le_of_ble_eq_true rfl⟩) hM1.2.1 rfl rfl rfl rfl (Nat.le_of_ble_eq_true rfl) dL_law_1597 ⟨Nat.le_of_ble_eq_true rfl, Nat.le_of_ble_eq_true rfl⟩) (fun r2 u2 H locs hp2 hnz2 w => ?_)
  obtain ⟨hv2, fs, hy2, h72⟩ := hp2
  refine lv_istore (lv' := [(7, .int r2), (6, .int (K_go (xs 1))), (5, .int 0), (4, .ref outD), (3, .ref out), (2, .ref y), (1, .ref x), (0, .ref b)]) hx hb dL_law_1600 hl (by decide) rfl (fun ls hl => ?_)
  refine lv_aload_n hx hb dL_law_1602 rfl (lv_at hl 5 rfl) ?_
  refine g_calli w (g_runV (As := []) (rest := []) S hE w hl (m_thrown l D ar κ (g_ov (g_res (fun a9 => ¬ (y ≤ a9 ∧ a9 < out)) (g_ov (g_res (fun a9 => ¬ (a9 < y ∨ a9 = out)) G) u1.1)) u2.1) u2.2 y fs (K_go (xs 1)) (g_ov_r (g_res_n (fun h => h ⟨Nat.le_refl _, by omega⟩)) hy2) h72) (k_RL_139 S.2.2.2.2 ⟨Nat.le_of_ble_eq_true rfl, Nat.le_of_ble_eq_true rfl⟩) (g_ov_r (g_res_n (fun h => h ⟨Nat.le_refl _, by omega⟩)) hy2) rfl rfl rfl rfl (Nat.le_of_ble_eq_true rfl) dL_law_1603 ⟨Nat.le_of_ble_eq_true rfl, Nat.le_of_ble_eq_true rfl⟩) (fun r u H locs hp hnz w => ?_)
  obtain ⟨rfl, rfl⟩ := hp
  refine lv_iload hx hb dL_law_1606 (lv_at hl 1 rfl) ?_
  refine lv_icmp_eq (tgt := 1613) hx hb dL_law_1608 (by decide) (fun _ => ?_) (fun c => absurd rfl c)
  refine lv_iload hx hb dL_law_1613 (lv_at hl 1 rfl) ?_
  refine lv_if_ne (tgt := 1630) hx hb dL_law_1615 (by decide) (fun c_1615 => ?_) (fun c_1615 => absurd c_1615 K_go_n)
  refine lv_goto (tgt := 2365) hx hb dL_law_1630 (by decide) ?_
  exact W.widen (Nat.le_of_ble_eq_true rfl) (Nat.le_of_ble_eq_true rfl) (hend _ _ _ _ _ w (lv_sub hl [2, 7] rfl))
set_option maxHeartbeats 4000000 in
set_option maxRecDepth 100000 in
theorem lc_24 (hlt : l.stackTraces = false) (S : CallFix p m c cL_law 9 s #[.ref b] lwA RL) (hE : g_E D vwCl (gT ar) (EX1 κ) (fun q => s.heap.size ≤ q) s s.heap) (hX : va_X b 6 xs s s.heap) (hbl : b < s.heap.size) (w : g_S D vwCl (fun q => s.heap.size ≤ q) s.heap G H locs nz) (hw : LWs ar κ G x q1 y q2 out outD) (hl : lv_has ls 9 [(5, .int 0), (4, .ref outD), (3, .ref out), (2, .ref y), (1, .ref x), (0, .ref b)]) (hend : ∀ (H : Heap) (locs : List Loc) (ls : Array Slot) (G : gW) (nz : Nat), g_S D vwCl (fun q => s.heap.size ≤ q) s.heap G H locs nz → lv_has ls 9 [(5, .int 0), (0, .ref b)] → W p l e room_1 s m #[Value.ref b] below meth c H locs 400 9000 (lw_Z below #[Value.ref b] s) (F0 m 2365 ls [])) : W p l e room_1 s m #[Value.ref b] below meth c H locs 203 5000 (lw_Z below #[Value.ref b] s) (F0 m 1633 ls []) := by
  have hx := S.1
  have hb := S.2.1
  have hbA : ¬ s.heap.size ≤ b := Nat.not_le.mpr hbl
  obtain ⟨hwF, hwM, hwo, hwoD, hw1, hw2, hw3⟩ := id hw
  have hwq : x < q1 := hwF.1
  have hwy : y < q2 := hwM.1
  refine lv_aload_n hx hb dL_law_1633 rfl (lv_at hl 4 rfl) ?_
  refine lv_aload_n hx hb dL_law_1634 rfl (lv_at hl 2 rfl) ?_
  have hF1 : FH ar κ (g_res (fun a9 => a9 < y ∨ a9 = out) G) x q1 := FH_mono hwF (fun a9 c9 h1 h2 => g_res_i (show a9 < y ∨ a9 = out from Or.inl (by omega)) h2)
  refine gs_calli (g_res (fun a9 => ¬ (a9 < y ∨ a9 = out)) G) w (fun _ _ => g_res_s) (fun _ _ => g_res_2) (g_runSW (As := [.ref x, .ref out]) (rest := []) S hE (g_sub w (fun _ _ => g_res_s)) hl (w_end l D ar κ (g_res (fun a9 => a9 < y ∨ a9 = out) G) nz x out q1 (fun _ => 0) hF1 (g_res_i (show out < y ∨ out = out from Or.inr rfl) hwo) (by omega) hlt) (kW_219 S.2.2.2.2 ⟨Nat.le_of_ble_eq_true rfl, Nat.le_of_ble_eq_true rfl⟩) rfl rfl (Nat.le_of_ble_eq_true rfl) dL_law_1635 ⟨Nat.le_of_ble_eq_true rfl, Nat.le_of_ble_eq_true rfl⟩) (fun r u1 H locs hp1 hnz1 w => ?_)
  obtain rfl := hp1
  refine lv_istore (lv' := [(6, .int 1), (5, .int 0), (4, .ref outD), (3, .ref out), (2, .ref y), (1, .ref x), (0, .ref b)]) hx hb dL_law_1638 hl (by decide) rfl (fun ls hl => ?_)
  refine lv_aload_n hx hb dL_law_1640 rfl (lv_at hl 4 rfl) ?_
  have hM1 : FM ar κ (g_res (fun a9 => y ≤ a9 ∧ a9 < out) (g_ov (g_res (fun a9 => ¬ (a9 < y ∨ a9 = out)) G) u1.1)) y q2 0 := FM_mono hwM (fun a9 c9 h1 h2 h3 => g_res_i (show y ≤ a9 ∧ a9 < out from ⟨h1, by omega⟩) (g_ov_l (g_res_i (show ¬ (a9 < y ∨ a9 = out) by omega) h3)))
  refine gs_calli (g_res (fun a9 => ¬ (y ≤ a9 ∧ a9 < out)) (g_ov (g_res (fun a9 => ¬ (a9 < y ∨ a9 = out)) G) u1.1)) w (fun _ _ => g_res_s) (fun _ _ => g_res_2) (g_runV (As := []) (rest := []) S hE (g_sub w (fun _ _ => g_res_s)) hl (m_end l D ar κ (g_res (fun a9 => y ≤ a9 ∧ a9 < out) (g_ov (g_res (fun a9 => ¬ (a9 < y ∨ a9 = out)) G) u1.1)) u1.2 y q2 0 hM1) (k_RL_222 S.2.2.2.2 ⟨Nat.le_of_ble_eq_true rfl, Nat.le_of_ble_eq_true rfl⟩) hM1.2.1 rfl rfl rfl rfl (Nat.le_of_ble_eq_true rfl) dL_law_1641 ⟨Nat.le_of_ble_eq_true rfl, Nat.le_of_ble_eq_true rfl⟩) (fun r2 u2 H locs hp2 hnz2 w => ?_)
  obtain ⟨hv2, fs, hy2, h72⟩ := hp2
  refine lv_istore (lv' := [(7, .int r2), (6, .int 1), (5, .int 0), (4, .ref outD), (3, .ref out), (2, .ref y), (1, .ref x), (0, .ref b)]) hx hb dL_law_1644 hl (by decide) rfl (fun ls hl => ?_)
  refine lv_aload_n hx hb dL_law_1646 rfl (lv_at hl 5 rfl) ?_
  refine g_calli w (g_runV (As := []) (rest := []) S hE w hl (m_thrown l D ar κ (g_ov (g_res (fun a9 => ¬ (y ≤ a9 ∧ a9 < out)) (g_ov (g_res (fun a9 => ¬ (a9 < y ∨ a9 = out)) G) u1.1)) u2.1) u2.2 y fs (1) (g_ov_r (g_res_n (fun h => h ⟨Nat.le_refl _, by omega⟩)) hy2) h72) (k_RL_139 S.2.2.2.2 ⟨Nat.le_of_ble_eq_true rfl, Nat.le_of_ble_eq_true rfl⟩) (g_ov_r (g_res_n (fun h => h ⟨Nat.le_refl _, by omega⟩)) hy2) rfl rfl rfl rfl (Nat.le_of_ble_eq_true rfl) dL_law_1647 ⟨Nat.le_of_ble_eq_true rfl, Nat.le_of_ble_eq_true rfl⟩) (fun r u H locs hp hnz w => ?_)
  obtain ⟨rfl, rfl⟩ := hp
  refine lv_iload hx hb dL_law_1650 (lv_at hl 1 rfl) ?_
  refine lv_icmp_eq (tgt := 1657) hx hb dL_law_1652 (by decide) (fun _ => ?_) (fun c => absurd (by decide) c)
  refine lv_iload hx hb dL_law_1657 (lv_at hl 1 rfl) ?_
  refine lv_if_ne (tgt := 1674) hx hb dL_law_1659 (by decide) (fun _ => ?_) (fun c => absurd c (by decide))
  refine lv_goto (tgt := 2365) hx hb dL_law_1674 (by decide) ?_
  exact W.widen (Nat.le_of_ble_eq_true rfl) (Nat.le_of_ble_eq_true rfl) (hend _ _ _ _ _ w (lv_sub hl [2, 7] rfl))
set_option maxHeartbeats 4000000 in
set_option maxRecDepth 100000 in
theorem lc_25 (hlt : l.stackTraces = false) (S : CallFix p m c cL_law 9 s #[.ref b] lwA RL) (hE : g_E D vwCl (gT ar) (EX1 κ) (fun q => s.heap.size ≤ q) s s.heap) (hX : va_X b 6 xs s s.heap) (hbl : b < s.heap.size) (w : g_S D vwCl (fun q => s.heap.size ≤ q) s.heap G H locs nz) (hw : LWs ar κ G x q1 y q2 out outD) (hl : lv_has ls 9 [(5, .int 0), (4, .ref outD), (3, .ref out), (2, .ref y), (1, .ref x), (0, .ref b)]) (hend : ∀ (H : Heap) (locs : List Loc) (ls : Array Slot) (G : gW) (nz : Nat), g_S D vwCl (fun q => s.heap.size ≤ q) s.heap G H locs nz → lv_has ls 9 [(5, .int 0), (0, .ref b)] → W p l e room_1 s m #[Value.ref b] below meth c H locs 400 9000 (lw_Z below #[Value.ref b] s) (F0 m 2365 ls [])) : W p l e room_1 s m #[Value.ref b] below meth c H locs 203 5000 (lw_Z below #[Value.ref b] s) (F0 m 1677 ls []) := by
  have hx := S.1
  have hb := S.2.1
  have hbA : ¬ s.heap.size ≤ b := Nat.not_le.mpr hbl
  obtain ⟨hwF, hwM, hwo, hwoD, hw1, hw2, hw3⟩ := id hw
  have hwq : x < q1 := hwF.1
  have hwy : y < q2 := hwM.1
  refine lv_aload_n hx hb dL_law_1677 rfl (lv_at hl 4 rfl) ?_
  have hF1 : FH ar κ (g_res (fun a9 => a9 < y) G) x q1 := FH_mono hwF (fun a9 c9 h1 h2 => g_res_i (show a9 < y by omega) h2)
  refine gs_calli (g_res (fun a9 => ¬ (a9 < y)) G) w (fun _ _ => g_res_s) (fun _ _ => g_res_2) (g_runV (As := []) (rest := []) S hE (g_sub w (fun _ _ => g_res_s)) hl (h_state l D ar κ (g_res (fun a9 => a9 < y) G) nz x q1 hF1) (k_RL_223 S.2.2.2.2 ⟨Nat.le_of_ble_eq_true rfl, Nat.le_of_ble_eq_true rfl⟩) hF1.2.1 rfl rfl rfl rfl (Nat.le_of_ble_eq_true rfl) dL_law_1678 ⟨Nat.le_of_ble_eq_true rfl, Nat.le_of_ble_eq_true rfl⟩) (fun r u1 H locs hp1 hnz1 w => ?_)
  obtain rfl := hp1
  refine lv_aload_n hx hb dL_law_1681 rfl (lv_at hl 3 rfl) ?_
  have hM1 : FM ar κ (g_res (fun a9 => y ≤ a9 ∧ a9 < out) (g_ov (g_res (fun a9 => ¬ (a9 < y)) G) u1.1)) y q2 0 := FM_mono hwM (fun a9 c9 h1 h2 h3 => g_res_i (show y ≤ a9 ∧ a9 < out from ⟨h1, by omega⟩) (g_ov_l (g_res_i (show ¬ (a9 < y) by omega) h3)))
  refine gs_calli (g_res (fun a9 => ¬ (y ≤ a9 ∧ a9 < out)) (g_ov (g_res (fun a9 => ¬ (a9 < y)) G) u1.1)) w (fun _ _ => g_res_s) (fun _ _ => g_res_2) (g_runV (As := []) (rest := [.int 45]) S hE (g_sub w (fun _ _ => g_res_s)) hl (m_state l D ar κ (g_res (fun a9 => y ≤ a9 ∧ a9 < out) (g_ov (g_res (fun a9 => ¬ (a9 < y)) G) u1.1)) u1.2 y q2 0 hM1) (k_RL_226 S.2.2.2.2 ⟨Nat.le_of_ble_eq_true rfl, Nat.le_of_ble_eq_true rfl⟩) hM1.2.1 rfl rfl rfl rfl (Nat.le_of_ble_eq_true rfl) dL_law_1682 ⟨Nat.le_of_ble_eq_true rfl, Nat.le_of_ble_eq_true rfl⟩) (fun r2 u2 H locs hp2 hnz2 w => ?_)
  obtain rfl := hp2
  refine lv_icmp_eq (tgt := 2365) hx hb dL_law_1685 (by decide) (fun _ => ?_) (fun c => absurd (by decide) c)
  exact W.widen (Nat.le_of_ble_eq_true rfl) (Nat.le_of_ble_eq_true rfl) (hend _ _ _ _ _ w (lv_sub hl [0, 5] rfl))
set_option maxHeartbeats 4000000 in
set_option maxRecDepth 100000 in
theorem lc_26 (hlt : l.stackTraces = false) (S : CallFix p m c cL_law 9 s #[.ref b] lwA RL) (hE : g_E D vwCl (gT ar) (EX1 κ) (fun q => s.heap.size ≤ q) s s.heap) (hX : va_X b 6 xs s s.heap) (hbl : b < s.heap.size) (w : g_S D vwCl (fun q => s.heap.size ≤ q) s.heap G H locs nz) (hw : LWs ar κ G x q1 y q2 out outD) (hl : lv_has ls 9 [(5, .int 0), (4, .ref outD), (3, .ref out), (2, .ref y), (1, .ref x), (0, .ref b)]) (hend : ∀ (H : Heap) (locs : List Loc) (ls : Array Slot) (G : gW) (nz : Nat), g_S D vwCl (fun q => s.heap.size ≤ q) s.heap G H locs nz → lv_has ls 9 [(5, .int 0), (0, .ref b)] → W p l e room_1 s m #[Value.ref b] below meth c H locs 400 9000 (lw_Z below #[Value.ref b] s) (F0 m 2365 ls [])) : W p l e room_1 s m #[Value.ref b] below meth c H locs 203 5000 (lw_Z below #[Value.ref b] s) (F0 m 1690 ls []) := by
  have hx := S.1
  have hb := S.2.1
  have hbA : ¬ s.heap.size ≤ b := Nat.not_le.mpr hbl
  obtain ⟨hwF, hwM, hwo, hwoD, hw1, hw2, hw3⟩ := id hw
  have hwq : x < q1 := hwF.1
  have hwy : y < q2 := hwM.1
  refine lv_aload_n hx hb dL_law_1690 rfl (lv_at hl 4 rfl) ?_
  refine lv_aload_n hx hb dL_law_1691 rfl (lv_at hl 2 rfl) ?_
  have hF1 : FH ar κ (g_res (fun a9 => a9 < y ∨ a9 = out) G) x q1 := FH_mono hwF (fun a9 c9 h1 h2 => g_res_i (show a9 < y ∨ a9 = out from Or.inl (by omega)) h2)
  refine gs_calli (g_res (fun a9 => ¬ (a9 < y ∨ a9 = out)) G) w (fun _ _ => g_res_s) (fun _ _ => g_res_2) (g_runSW (As := [.ref x, .ref out]) (rest := []) S hE (g_sub w (fun _ _ => g_res_s)) hl (w_reason l D ar κ (g_res (fun a9 => a9 < y ∨ a9 = out) G) nz x out q1 (fun _ => 0) hF1 (g_res_i (show out < y ∨ out = out from Or.inr rfl) hwo) (by omega) hlt) (kW_227 S.2.2.2.2 ⟨Nat.le_of_ble_eq_true rfl, Nat.le_of_ble_eq_true rfl⟩) rfl rfl (Nat.le_of_ble_eq_true rfl) dL_law_1692 ⟨Nat.le_of_ble_eq_true rfl, Nat.le_of_ble_eq_true rfl⟩) (fun r u1 H locs hp1 hnz1 w => ?_)
  obtain rfl := hp1
  refine lv_istore (lv' := [(6, .int 1), (5, .int 0), (4, .ref outD), (3, .ref out), (2, .ref y), (1, .ref x), (0, .ref b)]) hx hb dL_law_1695 hl (by decide) rfl (fun ls hl => ?_)
  refine lv_aload_n hx hb dL_law_1697 rfl (lv_at hl 4 rfl) ?_
  have hM1 : FM ar κ (g_res (fun a9 => y ≤ a9 ∧ a9 < out) (g_ov (g_res (fun a9 => ¬ (a9 < y ∨ a9 = out)) G) u1.1)) y q2 0 := FM_mono hwM (fun a9 c9 h1 h2 h3 => g_res_i (show y ≤ a9 ∧ a9 < out from ⟨h1, by omega⟩) (g_ov_l (g_res_i (show ¬ (a9 < y ∨ a9 = out) by omega) h3)))
  refine gs_calli (g_res (fun a9 => ¬ (y ≤ a9 ∧ a9 < out)) (g_ov (g_res (fun a9 => ¬ (a9 < y ∨ a9 = out)) G) u1.1)) w (fun _ _ => g_res_s) (fun _ _ => g_res_2) (g_runV (As := []) (rest := []) S hE (g_sub w (fun _ _ => g_res_s)) hl (m_reason l D ar κ (g_res (fun a9 => y ≤ a9 ∧ a9 < out) (g_ov (g_res (fun a9 => ¬ (a9 < y ∨ a9 = out)) G) u1.1)) u1.2 y q2 0 hM1) (k_RL_229 S.2.2.2.2 ⟨Nat.le_of_ble_eq_true rfl, Nat.le_of_ble_eq_true rfl⟩) hM1.2.1 rfl rfl rfl rfl (Nat.le_of_ble_eq_true rfl) dL_law_1698 ⟨Nat.le_of_ble_eq_true rfl, Nat.le_of_ble_eq_true rfl⟩) (fun r2 u2 H locs hp2 hnz2 w => ?_)
  obtain ⟨hv2, fs, hy2, h72⟩ := hp2
  refine lv_istore (lv' := [(7, .int r2), (6, .int 1), (5, .int 0), (4, .ref outD), (3, .ref out), (2, .ref y), (1, .ref x), (0, .ref b)]) hx hb dL_law_1701 hl (by decide) rfl (fun ls hl => ?_)
  refine lv_aload_n hx hb dL_law_1703 rfl (lv_at hl 5 rfl) ?_
  refine g_calli w (g_runV (As := []) (rest := []) S hE w hl (m_thrown l D ar κ (g_ov (g_res (fun a9 => ¬ (y ≤ a9 ∧ a9 < out)) (g_ov (g_res (fun a9 => ¬ (a9 < y ∨ a9 = out)) G) u1.1)) u2.1) u2.2 y fs (1) (g_ov_r (g_res_n (fun h => h ⟨Nat.le_refl _, by omega⟩)) hy2) h72) (k_RL_139 S.2.2.2.2 ⟨Nat.le_of_ble_eq_true rfl, Nat.le_of_ble_eq_true rfl⟩) (g_ov_r (g_res_n (fun h => h ⟨Nat.le_refl _, by omega⟩)) hy2) rfl rfl rfl rfl (Nat.le_of_ble_eq_true rfl) dL_law_1704 ⟨Nat.le_of_ble_eq_true rfl, Nat.le_of_ble_eq_true rfl⟩) (fun r u H locs hp hnz w => ?_)
  obtain ⟨rfl, rfl⟩ := hp
  refine lv_iload hx hb dL_law_1707 (lv_at hl 1 rfl) ?_
  refine lv_icmp_eq (tgt := 1714) hx hb dL_law_1709 (by decide) (fun _ => ?_) (fun c => absurd (by decide) c)
  refine lv_iload hx hb dL_law_1714 (lv_at hl 1 rfl) ?_
  refine lv_if_ne (tgt := 1731) hx hb dL_law_1716 (by decide) (fun _ => ?_) (fun c => absurd c (by decide))
  refine lv_goto (tgt := 2365) hx hb dL_law_1731 (by decide) ?_
  exact W.widen (Nat.le_of_ble_eq_true rfl) (Nat.le_of_ble_eq_true rfl) (hend _ _ _ _ _ w (lv_sub hl [2, 7] rfl))
set_option maxHeartbeats 4000000 in
set_option maxRecDepth 100000 in
theorem lc_27 (hlt : l.stackTraces = false) (S : CallFix p m c cL_law 9 s #[.ref b] lwA RL) (hE : g_E D vwCl (gT ar) (EX1 κ) (fun q => s.heap.size ≤ q) s s.heap) (hX : va_X b 6 xs s s.heap) (hbl : b < s.heap.size) (w : g_S D vwCl (fun q => s.heap.size ≤ q) s.heap G H locs nz) (hw : LWs ar κ G x q1 y q2 out outD) (hl : lv_has ls 9 [(5, .int 0), (4, .ref outD), (3, .ref out), (2, .ref y), (1, .ref x), (0, .ref b)]) (hend : ∀ (H : Heap) (locs : List Loc) (ls : Array Slot) (G : gW) (nz : Nat), g_S D vwCl (fun q => s.heap.size ≤ q) s.heap G H locs nz → lv_has ls 9 [(5, .int 0), (0, .ref b)] → W p l e room_1 s m #[Value.ref b] below meth c H locs 400 9000 (lw_Z below #[Value.ref b] s) (F0 m 2365 ls [])) : W p l e room_1 s m #[Value.ref b] below meth c H locs 203 5000 (lw_Z below #[Value.ref b] s) (F0 m 1734 ls []) := by
  have hx := S.1
  have hb := S.2.1
  have hbA : ¬ s.heap.size ≤ b := Nat.not_le.mpr hbl
  obtain ⟨hwF, hwM, hwo, hwoD, hw1, hw2, hw3⟩ := id hw
  have hwq : x < q1 := hwF.1
  have hwy : y < q2 := hwM.1
  refine lv_aload_n hx hb dL_law_1734 rfl (lv_at hl 4 rfl) ?_
  refine lv_aload_n hx hb dL_law_1735 rfl (lv_at hl 2 rfl) ?_
  have hF1 : FH ar κ (g_res (fun a9 => a9 < y ∨ a9 = out) G) x q1 := FH_mono hwF (fun a9 c9 h1 h2 => g_res_i (show a9 < y ∨ a9 = out from Or.inl (by omega)) h2)
  refine gs_calli (g_res (fun a9 => ¬ (a9 < y ∨ a9 = out)) G) w (fun _ _ => g_res_s) (fun _ _ => g_res_2) (g_runSW (As := [.ref x, .ref out]) (rest := []) S hE (g_sub w (fun _ _ => g_res_s)) hl (w_answerKind l D ar κ (g_res (fun a9 => a9 < y ∨ a9 = out) G) nz x out q1 (fun _ => 0) hF1 (g_res_i (show out < y ∨ out = out from Or.inr rfl) hwo) (by omega) hlt) (kW_230 S.2.2.2.2 ⟨Nat.le_of_ble_eq_true rfl, Nat.le_of_ble_eq_true rfl⟩) rfl rfl (Nat.le_of_ble_eq_true rfl) dL_law_1736 ⟨Nat.le_of_ble_eq_true rfl, Nat.le_of_ble_eq_true rfl⟩) (fun r u1 H locs hp1 hnz1 w => ?_)
  obtain rfl := hp1
  refine lv_istore (lv' := [(6, .int 1), (5, .int 0), (4, .ref outD), (3, .ref out), (2, .ref y), (1, .ref x), (0, .ref b)]) hx hb dL_law_1739 hl (by decide) rfl (fun ls hl => ?_)
  refine lv_aload_n hx hb dL_law_1741 rfl (lv_at hl 4 rfl) ?_
  have hM1 : FM ar κ (g_res (fun a9 => y ≤ a9 ∧ a9 < out) (g_ov (g_res (fun a9 => ¬ (a9 < y ∨ a9 = out)) G) u1.1)) y q2 0 := FM_mono hwM (fun a9 c9 h1 h2 h3 => g_res_i (show y ≤ a9 ∧ a9 < out from ⟨h1, by omega⟩) (g_ov_l (g_res_i (show ¬ (a9 < y ∨ a9 = out) by omega) h3)))
  refine gs_calli (g_res (fun a9 => ¬ (y ≤ a9 ∧ a9 < out)) (g_ov (g_res (fun a9 => ¬ (a9 < y ∨ a9 = out)) G) u1.1)) w (fun _ _ => g_res_s) (fun _ _ => g_res_2) (g_runV (As := []) (rest := []) S hE (g_sub w (fun _ _ => g_res_s)) hl (m_answerKind l D ar κ (g_res (fun a9 => y ≤ a9 ∧ a9 < out) (g_ov (g_res (fun a9 => ¬ (a9 < y ∨ a9 = out)) G) u1.1)) u1.2 y q2 0 hM1) (k_RL_232 S.2.2.2.2 ⟨Nat.le_of_ble_eq_true rfl, Nat.le_of_ble_eq_true rfl⟩) hM1.2.1 rfl rfl rfl rfl (Nat.le_of_ble_eq_true rfl) dL_law_1742 ⟨Nat.le_of_ble_eq_true rfl, Nat.le_of_ble_eq_true rfl⟩) (fun r2 u2 H locs hp2 hnz2 w => ?_)
  obtain ⟨hv2, fs, hy2, h72⟩ := hp2
  refine lv_istore (lv' := [(7, .int r2), (6, .int 1), (5, .int 0), (4, .ref outD), (3, .ref out), (2, .ref y), (1, .ref x), (0, .ref b)]) hx hb dL_law_1745 hl (by decide) rfl (fun ls hl => ?_)
  refine lv_aload_n hx hb dL_law_1747 rfl (lv_at hl 5 rfl) ?_
  refine g_calli w (g_runV (As := []) (rest := []) S hE w hl (m_thrown l D ar κ (g_ov (g_res (fun a9 => ¬ (y ≤ a9 ∧ a9 < out)) (g_ov (g_res (fun a9 => ¬ (a9 < y ∨ a9 = out)) G) u1.1)) u2.1) u2.2 y fs (1) (g_ov_r (g_res_n (fun h => h ⟨Nat.le_refl _, by omega⟩)) hy2) h72) (k_RL_139 S.2.2.2.2 ⟨Nat.le_of_ble_eq_true rfl, Nat.le_of_ble_eq_true rfl⟩) (g_ov_r (g_res_n (fun h => h ⟨Nat.le_refl _, by omega⟩)) hy2) rfl rfl rfl rfl (Nat.le_of_ble_eq_true rfl) dL_law_1748 ⟨Nat.le_of_ble_eq_true rfl, Nat.le_of_ble_eq_true rfl⟩) (fun r u H locs hp hnz w => ?_)
  obtain ⟨rfl, rfl⟩ := hp
  refine lv_iload hx hb dL_law_1751 (lv_at hl 1 rfl) ?_
  refine lv_icmp_eq (tgt := 1758) hx hb dL_law_1753 (by decide) (fun _ => ?_) (fun c => absurd (by decide) c)
  refine lv_iload hx hb dL_law_1758 (lv_at hl 1 rfl) ?_
  refine lv_if_ne (tgt := 1775) hx hb dL_law_1760 (by decide) (fun _ => ?_) (fun c => absurd c (by decide))
  refine lv_goto (tgt := 2365) hx hb dL_law_1775 (by decide) ?_
  exact W.widen (Nat.le_of_ble_eq_true rfl) (Nat.le_of_ble_eq_true rfl) (hend _ _ _ _ _ w (lv_sub hl [2, 7] rfl))
end LAWC
