section LAWC
variable {p : Program} {l : Launch} {e : Env} {s : State} {m : MethodId} {below : List Frame} {meth : Method} {c : Code} {b L : Nat} {xs : Nat → Int32} {D : va_G} {ar : Nat → ClassId} {κ : Nat → Nat} {H : Heap} {locs : List Loc} {G : gW} {nz x q1 y q2 out outD : Nat} {ls : Array Slot}
set_option maxHeartbeats 4000000 in
set_option maxRecDepth 100000 in
theorem lc_0 (hlt : l.stackTraces = false) (S : CallFix p m c cL_law 9 s #[.ref b] lwA RL) (hE : g_E D vwCl (gT ar) (EX1 κ) (fun q => s.heap.size ≤ q) s s.heap) (hX : va_X b 6 xs s s.heap) (hbl : b < s.heap.size) (w : g_S D vwCl (fun q => s.heap.size ≤ q) s.heap G H locs nz) (hw : LWs ar κ G x q1 y q2 out outD) (hl : lv_has ls 9 [(5, .int 0), (4, .ref outD), (3, .ref out), (2, .ref y), (1, .ref x), (0, .ref b)]) (hend : ∀ (H : Heap) (locs : List Loc) (ls : Array Slot) (G : gW) (nz : Nat), g_S D vwCl (fun q => s.heap.size ≤ q) s.heap G H locs nz → lv_has ls 9 [(5, .int 0), (0, .ref b)] → W p l e room_1 s m #[Value.ref b] below meth c H locs 400 9000 (lw_Z below #[Value.ref b] s) (F0 m 2365 ls [])) : W p l e room_1 s m #[Value.ref b] below meth c H locs 203 5000 (lw_Z below #[Value.ref b] s) (F0 m 224 ls []) := by
  have hx := S.1
  have hb := S.2.1
  have hbA : ¬ s.heap.size ≤ b := Nat.not_le.mpr hbl
  obtain ⟨hwF, hwM, hwo, hwoD, hw1, hw2, hw3⟩ := id hw
  have hwq : x < q1 := hwF.1
  have hwy : y < q2 := hwM.1
  refine lv_aload_n hx hb dL_law_224 rfl (lv_at hl 4 rfl) ?_
  refine lv_aload_n hx hb dL_law_225 rfl (lv_at hl 5 rfl) ?_
  refine lv_iload hx hb dL_law_226 (lv_at hl 0 rfl) ?_
  refine lv_iconst (v := 1) hx hb dL_law_228 (by decide) ?_
  refine lv_iadd hx hb dL_law_229 ?_
  rw [show (0 + 1 : Int32) = 1 by decide +kernel]
  refine va_sld hx hb hX hbl hbA w.2.2.1 (vp_in_nI (n := 1) (by decide) (by decide)) dL_law_230 ?_
  rw [show Int32.toNatClampNeg 1 = 1 from by decide]
  refine lv_aload_n hx hb dL_law_231 rfl (lv_at hl 5 rfl) ?_
  refine lv_iload hx hb dL_law_232 (lv_at hl 0 rfl) ?_
  refine lv_iconst (v := 2) hx hb dL_law_234 (by decide) ?_
  refine lv_iadd hx hb dL_law_235 ?_
  rw [show (0 + 2 : Int32) = 2 by decide +kernel]
  refine va_sld hx hb hX hbl hbA w.2.2.1 (vp_in_nI (n := 2) (by decide) (by decide)) dL_law_236 ?_
  rw [show Int32.toNatClampNeg 2 = 2 from by decide]
  refine lv_aload_n hx hb dL_law_237 rfl (lv_at hl 2 rfl) ?_
  have hF1 : FH ar κ (g_res (fun a9 => a9 < y ∨ a9 = out) G) x q1 := FH_mono hwF (fun a9 c9 h1 h2 => g_res_i (show a9 < y ∨ a9 = out from Or.inl (by omega)) h2)
  refine gs_calli (g_res (fun a9 => ¬ (a9 < y ∨ a9 = out)) G) w (fun _ _ => g_res_s) (fun _ _ => g_res_2) (g_runSW (As := [.ref x, .int (xs 1), .int (xs 2), .ref out]) (rest := []) S hE (g_sub w (fun _ _ => g_res_s)) hl (w_add l D ar κ (g_res (fun a9 => a9 < y ∨ a9 = out) G) nz x (xs 1) (xs 2) out q1 (fun _ => 0) hF1 (g_res_i (show out < y ∨ out = out from Or.inr rfl) hwo) (by omega) hlt) (kW_133 S.2.2.2.2 ⟨Nat.le_of_ble_eq_true rfl, Nat.le_of_ble_eq_true rfl⟩) rfl rfl (Nat.le_of_ble_eq_true rfl) dL_law_238 ⟨Nat.le_of_ble_eq_true rfl, Nat.le_of_ble_eq_true rfl⟩) (fun r u1 H locs hp1 hnz1 w => ?_)
  obtain ⟨rfl, ho1⟩ := hp1
  refine lv_istore (lv' := [(6, .int (K_add (xs 1) (xs 2))), (5, .int 0), (4, .ref outD), (3, .ref out), (2, .ref y), (1, .ref x), (0, .ref b)]) hx hb dL_law_241 hl (by decide) rfl (fun ls hl => ?_)
  refine lv_aload_n hx hb dL_law_243 rfl (lv_at hl 4 rfl) ?_
  refine lv_aload_n hx hb dL_law_244 rfl (lv_at hl 6 rfl) ?_
  refine lv_iload hx hb dL_law_245 (lv_at hl 1 rfl) ?_
  refine lv_iconst (v := 1) hx hb dL_law_247 (by decide) ?_
  refine lv_iadd hx hb dL_law_248 ?_
  rw [show (0 + 1 : Int32) = 1 by decide +kernel]
  refine va_sld hx hb hX hbl hbA w.2.2.1 (vp_in_nI (n := 1) (by decide) (by decide)) dL_law_249 ?_
  rw [show Int32.toNatClampNeg 1 = 1 from by decide]
  refine lv_aload_n hx hb dL_law_250 rfl (lv_at hl 6 rfl) ?_
  refine lv_iload hx hb dL_law_251 (lv_at hl 1 rfl) ?_
  refine lv_iconst (v := 2) hx hb dL_law_253 (by decide) ?_
  refine lv_iadd hx hb dL_law_254 ?_
  rw [show (0 + 2 : Int32) = 2 by decide +kernel]
  refine va_sld hx hb hX hbl hbA w.2.2.1 (vp_in_nI (n := 2) (by decide) (by decide)) dL_law_255 ?_
  rw [show Int32.toNatClampNeg 2 = 2 from by decide]
  have hM1 : FM ar κ (g_res (fun a9 => y ≤ a9 ∧ a9 < out) (g_ov (g_res (fun a9 => ¬ (a9 < y ∨ a9 = out)) G) u1.1)) y q2 0 := FM_mono hwM (fun a9 c9 h1 h2 h3 => g_res_i (show y ≤ a9 ∧ a9 < out from ⟨h1, by omega⟩) (g_ov_l (g_res_i (show ¬ (a9 < y ∨ a9 = out) by omega) h3)))
  refine gs_calli (g_res (fun a9 => ¬ (y ≤ a9 ∧ a9 < out)) (g_ov (g_res (fun a9 => ¬ (a9 < y ∨ a9 = out)) G) u1.1)) w (fun _ _ => g_res_s) (fun _ _ => g_res_2) (g_runV (As := [.int (xs 1), .int (xs 2)]) (rest := []) S hE (g_sub w (fun _ _ => g_res_s)) hl (m_add l D ar κ (g_res (fun a9 => y ≤ a9 ∧ a9 < out) (g_ov (g_res (fun a9 => ¬ (a9 < y ∨ a9 = out)) G) u1.1)) u1.2 y (xs 1) (xs 2) q2 0 hM1) (k_RL_138 S.2.2.2.2 ⟨Nat.le_of_ble_eq_true rfl, Nat.le_of_ble_eq_true rfl⟩) hM1.2.1 rfl rfl rfl rfl (Nat.le_of_ble_eq_true rfl) dL_law_256 ⟨Nat.le_of_ble_eq_true rfl, Nat.le_of_ble_eq_true rfl⟩) (fun r2 u2 H locs hp2 hnz2 w => ?_)
  obtain ⟨hv2, fs, hy2, h72⟩ := hp2
  refine lv_istore (lv' := [(7, .int r2), (6, .int (K_add (xs 1) (xs 2))), (5, .int 0), (4, .ref outD), (3, .ref out), (2, .ref y), (1, .ref x), (0, .ref b)]) hx hb dL_law_259 hl (by decide) rfl (fun ls hl => ?_)
  refine lv_aload_n hx hb dL_law_261 rfl (lv_at hl 5 rfl) ?_
  refine g_calli w (g_runV (As := []) (rest := []) S hE w hl (m_thrown l D ar κ (g_ov (g_res (fun a9 => ¬ (y ≤ a9 ∧ a9 < out)) (g_ov (g_res (fun a9 => ¬ (a9 < y ∨ a9 = out)) G) u1.1)) u2.1) u2.2 y fs (K_add (xs 1) (xs 2)) (g_ov_r (g_res_n (fun h => h ⟨Nat.le_refl _, by omega⟩)) hy2) h72) (k_RL_139 S.2.2.2.2 ⟨Nat.le_of_ble_eq_true rfl, Nat.le_of_ble_eq_true rfl⟩) (g_ov_r (g_res_n (fun h => h ⟨Nat.le_refl _, by omega⟩)) hy2) rfl rfl rfl rfl (Nat.le_of_ble_eq_true rfl) dL_law_262 ⟨Nat.le_of_ble_eq_true rfl, Nat.le_of_ble_eq_true rfl⟩) (fun r u H locs hp hnz w => ?_)
  obtain ⟨rfl, rfl⟩ := hp
  refine lv_iload hx hb dL_law_265 (lv_at hl 1 rfl) ?_
  refine lv_icmp_eq (tgt := 272) hx hb dL_law_267 (by decide) (fun _ => ?_) (fun c => absurd rfl c)
  refine lv_iload hx hb dL_law_272 (lv_at hl 1 rfl) ?_
  refine lv_if_ne (tgt := 289) hx hb dL_law_274 (by decide) (fun c_274 => ?_) (fun c_274 => ?_)
  · refine lv_goto (tgt := 2365) hx hb dL_law_289 (by decide) ?_
    exact W.widen (Nat.le_of_ble_eq_true rfl) (Nat.le_of_ble_eq_true rfl) (hend _ _ _ _ _ w (lv_sub hl [2, 7] rfl))
  · refine lv_aload_n hx hb dL_law_277 rfl (lv_at hl 4 rfl) ?_
    refine lv_iconst (v := 0) hx hb dL_law_278 (by decide) ?_
    obtain ⟨g1, hg1, hg2⟩ := ho1 c_274
    obtain rfl := hv2 c_274
    refine va_lald hx hb hE.1 (g_1 w.1 (g_ov_l (g_res_i (show ¬ (y ≤ out ∧ out < out) by omega) (g_ov_r (g_res_n (show ¬ ¬ (out < y ∨ out = out) by omega)) hg1)))) 0 1 rfl rfl (vp_in_nI (n := 0) (by decide) (by decide)) dL_law_279 ?_
    rw [show g1 (Int32.toNatClampNeg 0) = 3 from hg2]
    refine lv_iload hx hb dL_law_280 (lv_at hl 0 rfl) ?_
    refine lv_i2l hx hb dL_law_282 rfl ?_
    rw [show ((3 : Int32)).toInt64 = 3 by decide +kernel]
    refine W.lcmp hx hb dL_law_283 ?_
    rw [show lg_cmp (3 : Int64) 3 = 0 from by decide +kernel]
    refine lv_if_eq (tgt := 289) hx hb dL_law_284 (by decide) (fun _ => ?_) (fun c => absurd (by decide) c)
    refine lv_goto (tgt := 2365) hx hb dL_law_289 (by decide) ?_
    exact W.widen (Nat.le_of_ble_eq_true rfl) (Nat.le_of_ble_eq_true rfl) (hend _ _ _ _ _ w (lv_sub hl [2, 7] rfl))
set_option maxHeartbeats 4000000 in
set_option maxRecDepth 100000 in
theorem lc_1 (hlt : l.stackTraces = false) (S : CallFix p m c cL_law 9 s #[.ref b] lwA RL) (hE : g_E D vwCl (gT ar) (EX1 κ) (fun q => s.heap.size ≤ q) s s.heap) (hX : va_X b 6 xs s s.heap) (hbl : b < s.heap.size) (w : g_S D vwCl (fun q => s.heap.size ≤ q) s.heap G H locs nz) (hw : LWs ar κ G x q1 y q2 out outD) (hl : lv_has ls 9 [(5, .int 0), (4, .ref outD), (3, .ref out), (2, .ref y), (1, .ref x), (0, .ref b)]) (hend : ∀ (H : Heap) (locs : List Loc) (ls : Array Slot) (G : gW) (nz : Nat), g_S D vwCl (fun q => s.heap.size ≤ q) s.heap G H locs nz → lv_has ls 9 [(5, .int 0), (0, .ref b)] → W p l e room_1 s m #[Value.ref b] below meth c H locs 400 9000 (lw_Z below #[Value.ref b] s) (F0 m 2365 ls [])) : W p l e room_1 s m #[Value.ref b] below meth c H locs 203 5000 (lw_Z below #[Value.ref b] s) (F0 m 292 ls []) := by
  have hx := S.1
  have hb := S.2.1
  have hbA : ¬ s.heap.size ≤ b := Nat.not_le.mpr hbl
  obtain ⟨hwF, hwM, hwo, hwoD, hw1, hw2, hw3⟩ := id hw
  have hwq : x < q1 := hwF.1
  have hwy : y < q2 := hwM.1
  refine lv_aload_n hx hb dL_law_292 rfl (lv_at hl 4 rfl) ?_
  have hF1 : FH ar κ (g_res (fun a9 => a9 < y) G) x q1 := FH_mono hwF (fun a9 c9 h1 h2 => g_res_i (show a9 < y by omega) h2)
  refine gs_calli (g_res (fun a9 => ¬ (a9 < y)) G) w (fun _ _ => g_res_s) (fun _ _ => g_res_2) (g_runV (As := []) (rest := []) S hE (g_sub w (fun _ _ => g_res_s)) hl (h_classes l D ar κ (g_res (fun a9 => a9 < y) G) nz x q1 hF1) (k_RL_142 S.2.2.2.2 ⟨Nat.le_of_ble_eq_true rfl, Nat.le_of_ble_eq_true rfl⟩) hF1.2.1 rfl rfl rfl rfl (Nat.le_of_ble_eq_true rfl) dL_law_293 ⟨Nat.le_of_ble_eq_true rfl, Nat.le_of_ble_eq_true rfl⟩) (fun r u1 H locs hp1 hnz1 w => ?_)
  obtain rfl := hp1
  refine lv_aload_n hx hb dL_law_296 rfl (lv_at hl 3 rfl) ?_
  have hM1 : FM ar κ (g_res (fun a9 => y ≤ a9 ∧ a9 < out) (g_ov (g_res (fun a9 => ¬ (a9 < y)) G) u1.1)) y q2 0 := FM_mono hwM (fun a9 c9 h1 h2 h3 => g_res_i (show y ≤ a9 ∧ a9 < out from ⟨h1, by omega⟩) (g_ov_l (g_res_i (show ¬ (a9 < y) by omega) h3)))
  refine gs_calli (g_res (fun a9 => ¬ (y ≤ a9 ∧ a9 < out)) (g_ov (g_res (fun a9 => ¬ (a9 < y)) G) u1.1)) w (fun _ _ => g_res_s) (fun _ _ => g_res_2) (g_runV (As := []) (rest := [.int 3]) S hE (g_sub w (fun _ _ => g_res_s)) hl (m_classes l D ar κ (g_res (fun a9 => y ≤ a9 ∧ a9 < out) (g_ov (g_res (fun a9 => ¬ (a9 < y)) G) u1.1)) u1.2 y q2 0 hM1) (k_RL_145 S.2.2.2.2 ⟨Nat.le_of_ble_eq_true rfl, Nat.le_of_ble_eq_true rfl⟩) hM1.2.1 rfl rfl rfl rfl (Nat.le_of_ble_eq_true rfl) dL_law_297 ⟨Nat.le_of_ble_eq_true rfl, Nat.le_of_ble_eq_true rfl⟩) (fun r2 u2 H locs hp2 hnz2 w => ?_)
  obtain rfl := hp2
  refine lv_icmp_eq (tgt := 2365) hx hb dL_law_300 (by decide) (fun _ => ?_) (fun c => absurd (by decide) c)
  exact W.widen (Nat.le_of_ble_eq_true rfl) (Nat.le_of_ble_eq_true rfl) (hend _ _ _ _ _ w (lv_sub hl [0, 5] rfl))
set_option maxHeartbeats 4000000 in
set_option maxRecDepth 100000 in
theorem lc_2 (hlt : l.stackTraces = false) (S : CallFix p m c cL_law 9 s #[.ref b] lwA RL) (hE : g_E D vwCl (gT ar) (EX1 κ) (fun q => s.heap.size ≤ q) s s.heap) (hX : va_X b 6 xs s s.heap) (hbl : b < s.heap.size) (w : g_S D vwCl (fun q => s.heap.size ≤ q) s.heap G H locs nz) (hw : LWs ar κ G x q1 y q2 out outD) (hl : lv_has ls 9 [(5, .int 0), (4, .ref outD), (3, .ref out), (2, .ref y), (1, .ref x), (0, .ref b)]) (hend : ∀ (H : Heap) (locs : List Loc) (ls : Array Slot) (G : gW) (nz : Nat), g_S D vwCl (fun q => s.heap.size ≤ q) s.heap G H locs nz → lv_has ls 9 [(5, .int 0), (0, .ref b)] → W p l e room_1 s m #[Value.ref b] below meth c H locs 400 9000 (lw_Z below #[Value.ref b] s) (F0 m 2365 ls [])) : W p l e room_1 s m #[Value.ref b] below meth c H locs 203 5000 (lw_Z below #[Value.ref b] s) (F0 m 305 ls []) := by
  have hx := S.1
  have hb := S.2.1
  have hbA : ¬ s.heap.size ≤ b := Nat.not_le.mpr hbl
  obtain ⟨hwF, hwM, hwo, hwoD, hw1, hw2, hw3⟩ := id hw
  have hwq : x < q1 := hwF.1
  have hwy : y < q2 := hwM.1
  refine lv_aload_n hx hb dL_law_305 rfl (lv_at hl 4 rfl) ?_
  refine lv_aload_n hx hb dL_law_306 rfl (lv_at hl 5 rfl) ?_
  refine lv_iload hx hb dL_law_307 (lv_at hl 0 rfl) ?_
  refine lv_iconst (v := 1) hx hb dL_law_309 (by decide) ?_
  refine lv_iadd hx hb dL_law_310 ?_
  rw [show (0 + 1 : Int32) = 1 by decide +kernel]
  refine va_sld hx hb hX hbl hbA w.2.2.1 (vp_in_nI (n := 1) (by decide) (by decide)) dL_law_311 ?_
  rw [show Int32.toNatClampNeg 1 = 1 from by decide]
  refine lv_aload_n hx hb dL_law_312 rfl (lv_at hl 2 rfl) ?_
  have hF1 : FH ar κ (g_res (fun a9 => a9 < y ∨ a9 = out) G) x q1 := FH_mono hwF (fun a9 c9 h1 h2 => g_res_i (show a9 < y ∨ a9 = out from Or.inl (by omega)) h2)
  refine gs_calli (g_res (fun a9 => ¬ (a9 < y ∨ a9 = out)) G) w (fun _ _ => g_res_s) (fun _ _ => g_res_2) (g_runSW (As := [.ref x, .int (xs 1), .ref out]) (rest := []) S hE (g_sub w (fun _ _ => g_res_s)) hl (w_fields l D ar κ (g_res (fun a9 => a9 < y ∨ a9 = out) G) nz x (xs 1) out q1 (fun _ => 0) hF1 (g_res_i (show out < y ∨ out = out from Or.inr rfl) hwo) (by omega) hlt) (kW_146 S.2.2.2.2 ⟨Nat.le_of_ble_eq_true rfl, Nat.le_of_ble_eq_true rfl⟩) rfl rfl (Nat.le_of_ble_eq_true rfl) dL_law_313 ⟨Nat.le_of_ble_eq_true rfl, Nat.le_of_ble_eq_true rfl⟩) (fun r u1 H locs hp1 hnz1 w => ?_)
  obtain ⟨rfl, ho1⟩ := hp1
  refine lv_istore (lv' := [(6, .int (K_cls (xs 1))), (5, .int 0), (4, .ref outD), (3, .ref out), (2, .ref y), (1, .ref x), (0, .ref b)]) hx hb dL_law_316 hl (by decide) rfl (fun ls hl => ?_)
  refine lv_aload_n hx hb dL_law_318 rfl (lv_at hl 4 rfl) ?_
  refine lv_aload_n hx hb dL_law_319 rfl (lv_at hl 6 rfl) ?_
  refine lv_iload hx hb dL_law_320 (lv_at hl 1 rfl) ?_
  refine lv_iconst (v := 1) hx hb dL_law_322 (by decide) ?_
  refine lv_iadd hx hb dL_law_323 ?_
  rw [show (0 + 1 : Int32) = 1 by decide +kernel]
  refine va_sld hx hb hX hbl hbA w.2.2.1 (vp_in_nI (n := 1) (by decide) (by decide)) dL_law_324 ?_
  rw [show Int32.toNatClampNeg 1 = 1 from by decide]
  have hM1 : FM ar κ (g_res (fun a9 => y ≤ a9 ∧ a9 < out) (g_ov (g_res (fun a9 => ¬ (a9 < y ∨ a9 = out)) G) u1.1)) y q2 0 := FM_mono hwM (fun a9 c9 h1 h2 h3 => g_res_i (show y ≤ a9 ∧ a9 < out from ⟨h1, by omega⟩) (g_ov_l (g_res_i (show ¬ (a9 < y ∨ a9 = out) by omega) h3)))
  refine gs_calli (g_res (fun a9 => ¬ (y ≤ a9 ∧ a9 < out)) (g_ov (g_res (fun a9 => ¬ (a9 < y ∨ a9 = out)) G) u1.1)) w (fun _ _ => g_res_s) (fun _ _ => g_res_2) (g_runV (As := [.int (xs 1)]) (rest := []) S hE (g_sub w (fun _ _ => g_res_s)) hl (m_fields l D ar κ (g_res (fun a9 => y ≤ a9 ∧ a9 < out) (g_ov (g_res (fun a9 => ¬ (a9 < y ∨ a9 = out)) G) u1.1)) u1.2 y (xs 1) q2 0 hM1) (k_RL_149 S.2.2.2.2 ⟨Nat.le_of_ble_eq_true rfl, Nat.le_of_ble_eq_true rfl⟩) hM1.2.1 rfl rfl rfl rfl (Nat.le_of_ble_eq_true rfl) dL_law_325 ⟨Nat.le_of_ble_eq_true rfl, Nat.le_of_ble_eq_true rfl⟩) (fun r2 u2 H locs hp2 hnz2 w => ?_)
  obtain ⟨hv2, fs, hy2, h72⟩ := hp2
  refine lv_istore (lv' := [(7, .int r2), (6, .int (K_cls (xs 1))), (5, .int 0), (4, .ref outD), (3, .ref out), (2, .ref y), (1, .ref x), (0, .ref b)]) hx hb dL_law_328 hl (by decide) rfl (fun ls hl => ?_)
  refine lv_aload_n hx hb dL_law_330 rfl (lv_at hl 5 rfl) ?_
  refine g_calli w (g_runV (As := []) (rest := []) S hE w hl (m_thrown l D ar κ (g_ov (g_res (fun a9 => ¬ (y ≤ a9 ∧ a9 < out)) (g_ov (g_res (fun a9 => ¬ (a9 < y ∨ a9 = out)) G) u1.1)) u2.1) u2.2 y fs (K_cls (xs 1)) (g_ov_r (g_res_n (fun h => h ⟨Nat.le_refl _, by omega⟩)) hy2) h72) (k_RL_139 S.2.2.2.2 ⟨Nat.le_of_ble_eq_true rfl, Nat.le_of_ble_eq_true rfl⟩) (g_ov_r (g_res_n (fun h => h ⟨Nat.le_refl _, by omega⟩)) hy2) rfl rfl rfl rfl (Nat.le_of_ble_eq_true rfl) dL_law_331 ⟨Nat.le_of_ble_eq_true rfl, Nat.le_of_ble_eq_true rfl⟩) (fun r u H locs hp hnz w => ?_)
  obtain ⟨rfl, rfl⟩ := hp
  refine lv_iload hx hb dL_law_334 (lv_at hl 1 rfl) ?_
  refine lv_icmp_eq (tgt := 341) hx hb dL_law_336 (by decide) (fun _ => ?_) (fun c => absurd rfl c)
  refine lv_iload hx hb dL_law_341 (lv_at hl 1 rfl) ?_
  refine lv_if_ne (tgt := 358) hx hb dL_law_343 (by decide) (fun c_343 => ?_) (fun c_343 => ?_)
  · refine lv_goto (tgt := 2365) hx hb dL_law_358 (by decide) ?_
    exact W.widen (Nat.le_of_ble_eq_true rfl) (Nat.le_of_ble_eq_true rfl) (hend _ _ _ _ _ w (lv_sub hl [2, 7] rfl))
  · refine lv_aload_n hx hb dL_law_346 rfl (lv_at hl 4 rfl) ?_
    refine lv_iconst (v := 0) hx hb dL_law_347 (by decide) ?_
    obtain ⟨g1, hg1, hg2⟩ := ho1 c_343
    obtain rfl := hv2 c_343
    refine va_lald hx hb hE.1 (g_1 w.1 (g_ov_l (g_res_i (show ¬ (y ≤ out ∧ out < out) by omega) (g_ov_r (g_res_n (show ¬ ¬ (out < y ∨ out = out) by omega)) hg1)))) 0 1 rfl rfl (vp_in_nI (n := 0) (by decide) (by decide)) dL_law_348 ?_
    rw [show g1 (Int32.toNatClampNeg 0) = 0 from hg2]
    refine lv_iload hx hb dL_law_349 (lv_at hl 0 rfl) ?_
    refine lv_i2l hx hb dL_law_351 rfl ?_
    rw [show ((0 : Int32)).toInt64 = 0 by decide +kernel]
    refine W.lcmp hx hb dL_law_352 ?_
    rw [show lg_cmp (0 : Int64) 0 = 0 from by decide +kernel]
    refine lv_if_eq (tgt := 358) hx hb dL_law_353 (by decide) (fun _ => ?_) (fun c => absurd (by decide) c)
    refine lv_goto (tgt := 2365) hx hb dL_law_358 (by decide) ?_
    exact W.widen (Nat.le_of_ble_eq_true rfl) (Nat.le_of_ble_eq_true rfl) (hend _ _ _ _ _ w (lv_sub hl [2, 7] rfl))
set_option maxHeartbeats 4000000 in
set_option maxRecDepth 100000 in
theorem lc_3 (hlt : l.stackTraces = false) (S : CallFix p m c cL_law 9 s #[.ref b] lwA RL) (hE : g_E D vwCl (gT ar) (EX1 κ) (fun q => s.heap.size ≤ q) s s.heap) (hX : va_X b 6 xs s s.heap) (hbl : b < s.heap.size) (w : g_S D vwCl (fun q => s.heap.size ≤ q) s.heap G H locs nz) (hw : LWs ar κ G x q1 y q2 out outD) (hl : lv_has ls 9 [(5, .int 0), (4, .ref outD), (3, .ref out), (2, .ref y), (1, .ref x), (0, .ref b)]) (hend : ∀ (H : Heap) (locs : List Loc) (ls : Array Slot) (G : gW) (nz : Nat), g_S D vwCl (fun q => s.heap.size ≤ q) s.heap G H locs nz → lv_has ls 9 [(5, .int 0), (0, .ref b)] → W p l e room_1 s m #[Value.ref b] below meth c H locs 400 9000 (lw_Z below #[Value.ref b] s) (F0 m 2365 ls [])) : W p l e room_1 s m #[Value.ref b] below meth c H locs 203 5000 (lw_Z below #[Value.ref b] s) (F0 m 361 ls []) := by
  have hx := S.1
  have hb := S.2.1
  have hbA : ¬ s.heap.size ≤ b := Nat.not_le.mpr hbl
  obtain ⟨hwF, hwM, hwo, hwoD, hw1, hw2, hw3⟩ := id hw
  have hwq : x < q1 := hwF.1
  have hwy : y < q2 := hwM.1
  refine lv_aload_n hx hb dL_law_361 rfl (lv_at hl 4 rfl) ?_
  refine lv_aload_n hx hb dL_law_362 rfl (lv_at hl 5 rfl) ?_
  refine lv_iload hx hb dL_law_363 (lv_at hl 0 rfl) ?_
  refine lv_iconst (v := 1) hx hb dL_law_365 (by decide) ?_
  refine lv_iadd hx hb dL_law_366 ?_
  rw [show (0 + 1 : Int32) = 1 by decide +kernel]
  refine va_sld hx hb hX hbl hbA w.2.2.1 (vp_in_nI (n := 1) (by decide) (by decide)) dL_law_367 ?_
  rw [show Int32.toNatClampNeg 1 = 1 from by decide]
  refine lv_i2c hx hb dL_law_368 rfl ?_
  refine lv_aload_n hx hb dL_law_369 rfl (lv_at hl 5 rfl) ?_
  refine lv_iload hx hb dL_law_370 (lv_at hl 0 rfl) ?_
  refine lv_iconst (v := 2) hx hb dL_law_372 (by decide) ?_
  refine lv_iadd hx hb dL_law_373 ?_
  rw [show (0 + 2 : Int32) = 2 by decide +kernel]
  refine va_sld hx hb hX hbl hbA w.2.2.1 (vp_in_nI (n := 2) (by decide) (by decide)) dL_law_374 ?_
  rw [show Int32.toNatClampNeg 2 = 2 from by decide]
  refine lv_aload_n hx hb dL_law_375 rfl (lv_at hl 5 rfl) ?_
  refine lv_iload hx hb dL_law_376 (lv_at hl 0 rfl) ?_
  refine lv_iconst (v := 3) hx hb dL_law_378 (by decide) ?_
  refine lv_iadd hx hb dL_law_379 ?_
  rw [show (0 + 3 : Int32) = 3 by decide +kernel]
  refine va_sld hx hb hX hbl hbA w.2.2.1 (vp_in_nI (n := 3) (by decide) (by decide)) dL_law_380 ?_
  rw [show Int32.toNatClampNeg 3 = 3 from by decide]
  refine lv_aload_n hx hb dL_law_381 rfl (lv_at hl 2 rfl) ?_
  have hF1 : FH ar κ (g_res (fun a9 => a9 < y ∨ a9 = out) G) x q1 := FH_mono hwF (fun a9 c9 h1 h2 => g_res_i (show a9 < y ∨ a9 = out from Or.inl (by omega)) h2)
  refine gs_calli (g_res (fun a9 => ¬ (a9 < y ∨ a9 = out)) G) w (fun _ _ => g_res_s) (fun _ _ => g_res_2) (g_runSW (As := [.ref x, .int (((xs 1).toUInt32 % 65536).toInt32), .int (xs 2), .int (xs 3), .ref out]) (rest := []) S hE (g_sub w (fun _ _ => g_res_s)) hl (w_row l D ar κ (g_res (fun a9 => a9 < y ∨ a9 = out) G) nz x (((xs 1).toUInt32 % 65536).toInt32) (xs 2) (xs 3) out q1 (fun _ => 0) hF1 (g_res_i (show out < y ∨ out = out from Or.inr rfl) hwo) (by omega) hlt) (kW_150 S.2.2.2.2 ⟨Nat.le_of_ble_eq_true rfl, Nat.le_of_ble_eq_true rfl⟩) rfl rfl (Nat.le_of_ble_eq_true rfl) dL_law_382 ⟨Nat.le_of_ble_eq_true rfl, Nat.le_of_ble_eq_true rfl⟩) (fun r u1 H locs hp1 hnz1 w => ?_)
  obtain ⟨rfl, ho1⟩ := hp1
  refine lv_istore (lv' := [(6, .int (K_row (((xs 1).toUInt32 % 65536).toInt32))), (5, .int 0), (4, .ref outD), (3, .ref out), (2, .ref y), (1, .ref x), (0, .ref b)]) hx hb dL_law_385 hl (by decide) rfl (fun ls hl => ?_)
  refine lv_aload_n hx hb dL_law_387 rfl (lv_at hl 4 rfl) ?_
  refine lv_aload_n hx hb dL_law_388 rfl (lv_at hl 6 rfl) ?_
  refine lv_iload hx hb dL_law_389 (lv_at hl 1 rfl) ?_
  refine lv_iconst (v := 1) hx hb dL_law_391 (by decide) ?_
  refine lv_iadd hx hb dL_law_392 ?_
  rw [show (0 + 1 : Int32) = 1 by decide +kernel]
  refine va_sld hx hb hX hbl hbA w.2.2.1 (vp_in_nI (n := 1) (by decide) (by decide)) dL_law_393 ?_
  rw [show Int32.toNatClampNeg 1 = 1 from by decide]
  refine lv_i2c hx hb dL_law_394 rfl ?_
  refine lv_aload_n hx hb dL_law_395 rfl (lv_at hl 6 rfl) ?_
  refine lv_iload hx hb dL_law_396 (lv_at hl 1 rfl) ?_
  refine lv_iconst (v := 2) hx hb dL_law_398 (by decide) ?_
  refine lv_iadd hx hb dL_law_399 ?_
  rw [show (0 + 2 : Int32) = 2 by decide +kernel]
  refine va_sld hx hb hX hbl hbA w.2.2.1 (vp_in_nI (n := 2) (by decide) (by decide)) dL_law_400 ?_
  rw [show Int32.toNatClampNeg 2 = 2 from by decide]
  refine lv_aload_n hx hb dL_law_401 rfl (lv_at hl 6 rfl) ?_
  refine lv_iload hx hb dL_law_402 (lv_at hl 1 rfl) ?_
  refine lv_iconst (v := 3) hx hb dL_law_404 (by decide) ?_
  refine lv_iadd hx hb dL_law_405 ?_
  rw [show (0 + 3 : Int32) = 3 by decide +kernel]
  refine va_sld hx hb hX hbl hbA w.2.2.1 (vp_in_nI (n := 3) (by decide) (by decide)) dL_law_406 ?_
  rw [show Int32.toNatClampNeg 3 = 3 from by decide]
  have hM1 : FM ar κ (g_res (fun a9 => y ≤ a9 ∧ a9 < out) (g_ov (g_res (fun a9 => ¬ (a9 < y ∨ a9 = out)) G) u1.1)) y q2 0 := FM_mono hwM (fun a9 c9 h1 h2 h3 => g_res_i (show y ≤ a9 ∧ a9 < out from ⟨h1, by omega⟩) (g_ov_l (g_res_i (show ¬ (a9 < y ∨ a9 = out) by omega) h3)))
  refine gs_calli (g_res (fun a9 => ¬ (y ≤ a9 ∧ a9 < out)) (g_ov (g_res (fun a9 => ¬ (a9 < y ∨ a9 = out)) G) u1.1)) w (fun _ _ => g_res_s) (fun _ _ => g_res_2) (g_runV (As := [.int (((xs 1).toUInt32 % 65536).toInt32), .int (xs 2), .int (xs 3)]) (rest := []) S hE (g_sub w (fun _ _ => g_res_s)) hl (m_row l D ar κ (g_res (fun a9 => y ≤ a9 ∧ a9 < out) (g_ov (g_res (fun a9 => ¬ (a9 < y ∨ a9 = out)) G) u1.1)) u1.2 y (((xs 1).toUInt32 % 65536).toInt32) (xs 2) (xs 3) q2 0 hM1 (pk_nchar _)) (k_RL_153 S.2.2.2.2 ⟨Nat.le_of_ble_eq_true rfl, Nat.le_of_ble_eq_true rfl⟩) hM1.2.1 rfl rfl rfl rfl (Nat.le_of_ble_eq_true rfl) dL_law_407 ⟨Nat.le_of_ble_eq_true rfl, Nat.le_of_ble_eq_true rfl⟩) (fun r2 u2 H locs hp2 hnz2 w => ?_)
  obtain ⟨hv2, fs, hy2, h72⟩ := hp2
  refine lv_istore (lv' := [(7, .int r2), (6, .int (K_row (((xs 1).toUInt32 % 65536).toInt32))), (5, .int 0), (4, .ref outD), (3, .ref out), (2, .ref y), (1, .ref x), (0, .ref b)]) hx hb dL_law_410 hl (by decide) rfl (fun ls hl => ?_)
  refine lv_aload_n hx hb dL_law_412 rfl (lv_at hl 5 rfl) ?_
  refine g_calli w (g_runV (As := []) (rest := []) S hE w hl (m_thrown l D ar κ (g_ov (g_res (fun a9 => ¬ (y ≤ a9 ∧ a9 < out)) (g_ov (g_res (fun a9 => ¬ (a9 < y ∨ a9 = out)) G) u1.1)) u2.1) u2.2 y fs (K_row (((xs 1).toUInt32 % 65536).toInt32)) (g_ov_r (g_res_n (fun h => h ⟨Nat.le_refl _, by omega⟩)) hy2) h72) (k_RL_139 S.2.2.2.2 ⟨Nat.le_of_ble_eq_true rfl, Nat.le_of_ble_eq_true rfl⟩) (g_ov_r (g_res_n (fun h => h ⟨Nat.le_refl _, by omega⟩)) hy2) rfl rfl rfl rfl (Nat.le_of_ble_eq_true rfl) dL_law_413 ⟨Nat.le_of_ble_eq_true rfl, Nat.le_of_ble_eq_true rfl⟩) (fun r u H locs hp hnz w => ?_)
  obtain ⟨rfl, rfl⟩ := hp
  refine lv_iload hx hb dL_law_416 (lv_at hl 1 rfl) ?_
  refine lv_icmp_eq (tgt := 423) hx hb dL_law_418 (by decide) (fun _ => ?_) (fun c => absurd rfl c)
  refine lv_iload hx hb dL_law_423 (lv_at hl 1 rfl) ?_
  refine lv_if_ne (tgt := 440) hx hb dL_law_425 (by decide) (fun c_425 => ?_) (fun c_425 => ?_)
  · refine lv_goto (tgt := 2365) hx hb dL_law_440 (by decide) ?_
    exact W.widen (Nat.le_of_ble_eq_true rfl) (Nat.le_of_ble_eq_true rfl) (hend _ _ _ _ _ w (lv_sub hl [2, 7] rfl))
  · refine lv_aload_n hx hb dL_law_428 rfl (lv_at hl 4 rfl) ?_
    refine lv_iconst (v := 0) hx hb dL_law_429 (by decide) ?_
    obtain ⟨g1, hg1, hg2⟩ := ho1 c_425
    obtain rfl := hv2 c_425
    refine va_lald hx hb hE.1 (g_1 w.1 (g_ov_l (g_res_i (show ¬ (y ≤ out ∧ out < out) by omega) (g_ov_r (g_res_n (show ¬ ¬ (out < y ∨ out = out) by omega)) hg1)))) 0 1 rfl rfl (vp_in_nI (n := 0) (by decide) (by decide)) dL_law_430 ?_
    rw [show g1 (Int32.toNatClampNeg 0) = 1 from hg2]
    refine lv_iload hx hb dL_law_431 (lv_at hl 0 rfl) ?_
    refine lv_i2l hx hb dL_law_433 rfl ?_
    rw [show ((1 : Int32)).toInt64 = 1 by decide +kernel]
    refine W.lcmp hx hb dL_law_434 ?_
    rw [show lg_cmp (1 : Int64) 1 = 0 from by decide +kernel]
    refine lv_if_eq (tgt := 440) hx hb dL_law_435 (by decide) (fun _ => ?_) (fun c => absurd (by decide) c)
    refine lv_goto (tgt := 2365) hx hb dL_law_440 (by decide) ?_
    exact W.widen (Nat.le_of_ble_eq_true rfl) (Nat.le_of_ble_eq_true rfl) (hend _ _ _ _ _ w (lv_sub hl [2, 7] rfl))
set_option maxHeartbeats 4000000 in
set_option maxRecDepth 100000 in
theorem lc_4 (hlt : l.stackTraces = false) (S : CallFix p m c cL_law 9 s #[.ref b] lwA RL) (hE : g_E D vwCl (gT ar) (EX1 κ) (fun q => s.heap.size ≤ q) s s.heap) (hX : va_X b 6 xs s s.heap) (hbl : b < s.heap.size) (w : g_S D vwCl (fun q => s.heap.size ≤ q) s.heap G H locs nz) (hw : LWs ar κ G x q1 y q2 out outD) (hl : lv_has ls 9 [(5, .int 0), (4, .ref outD), (3, .ref out), (2, .ref y), (1, .ref x), (0, .ref b)]) (hend : ∀ (H : Heap) (locs : List Loc) (ls : Array Slot) (G : gW) (nz : Nat), g_S D vwCl (fun q => s.heap.size ≤ q) s.heap G H locs nz → lv_has ls 9 [(5, .int 0), (0, .ref b)] → W p l e room_1 s m #[Value.ref b] below meth c H locs 400 9000 (lw_Z below #[Value.ref b] s) (F0 m 2365 ls [])) : W p l e room_1 s m #[Value.ref b] below meth c H locs 203 5000 (lw_Z below #[Value.ref b] s) (F0 m 443 ls []) := by
  have hx := S.1
  have hb := S.2.1
  have hbA : ¬ s.heap.size ≤ b := Nat.not_le.mpr hbl
  obtain ⟨hwF, hwM, hwo, hwoD, hw1, hw2, hw3⟩ := id hw
  have hwq : x < q1 := hwF.1
  have hwy : y < q2 := hwM.1
  refine lv_aload_n hx hb dL_law_443 rfl (lv_at hl 4 rfl) ?_
  have hF1 : FH ar κ (g_res (fun a9 => a9 < y) G) x q1 := FH_mono hwF (fun a9 c9 h1 h2 => g_res_i (show a9 < y by omega) h2)
  refine gs_calli (g_res (fun a9 => ¬ (a9 < y)) G) w (fun _ _ => g_res_s) (fun _ _ => g_res_2) (g_runV (As := []) (rest := []) S hE (g_sub w (fun _ _ => g_res_s)) hl (h_wipe l D ar κ (g_res (fun a9 => a9 < y) G) nz x q1 hF1) (k_RL_154 S.2.2.2.2 ⟨Nat.le_of_ble_eq_true rfl, Nat.le_of_ble_eq_true rfl⟩) hF1.2.1 rfl rfl rfl rfl (Nat.le_of_ble_eq_true rfl) dL_law_444 ⟨Nat.le_of_ble_eq_true rfl, Nat.le_of_ble_eq_true rfl⟩) (fun r u1 H locs hp1 hnz1 w => ?_)
  obtain rfl := hp1
  refine lv_aload_n hx hb dL_law_447 rfl (lv_at hl 3 rfl) ?_
  have hM1 : FM ar κ (g_res (fun a9 => y ≤ a9 ∧ a9 < out) (g_ov (g_res (fun a9 => ¬ (a9 < y)) G) u1.1)) y q2 0 := FM_mono hwM (fun a9 c9 h1 h2 h3 => g_res_i (show y ≤ a9 ∧ a9 < out from ⟨h1, by omega⟩) (g_ov_l (g_res_i (show ¬ (a9 < y) by omega) h3)))
  refine gs_calli (g_res (fun a9 => ¬ (y ≤ a9 ∧ a9 < out)) (g_ov (g_res (fun a9 => ¬ (a9 < y)) G) u1.1)) w (fun _ _ => g_res_s) (fun _ _ => g_res_2) (g_runV (As := []) (rest := [.int 0]) S hE (g_sub w (fun _ _ => g_res_s)) hl (m_wipe l D ar κ (g_res (fun a9 => y ≤ a9 ∧ a9 < out) (g_ov (g_res (fun a9 => ¬ (a9 < y)) G) u1.1)) u1.2 y q2 0 hM1) (k_RL_157 S.2.2.2.2 ⟨Nat.le_of_ble_eq_true rfl, Nat.le_of_ble_eq_true rfl⟩) hM1.2.1 rfl rfl rfl rfl (Nat.le_of_ble_eq_true rfl) dL_law_448 ⟨Nat.le_of_ble_eq_true rfl, Nat.le_of_ble_eq_true rfl⟩) (fun r2 u2 H locs hp2 hnz2 w => ?_)
  obtain rfl := hp2
  refine lv_icmp_eq (tgt := 2365) hx hb dL_law_451 (by decide) (fun _ => ?_) (fun c => absurd (by decide) c)
  exact W.widen (Nat.le_of_ble_eq_true rfl) (Nat.le_of_ble_eq_true rfl) (hend _ _ _ _ _ w (lv_sub hl [0, 5] rfl))
set_option maxHeartbeats 4000000 in
set_option maxRecDepth 100000 in
theorem lc_5 (hlt : l.stackTraces = false) (S : CallFix p m c cL_law 9 s #[.ref b] lwA RL) (hE : g_E D vwCl (gT ar) (EX1 κ) (fun q => s.heap.size ≤ q) s s.heap) (hX : va_X b 6 xs s s.heap) (hbl : b < s.heap.size) (w : g_S D vwCl (fun q => s.heap.size ≤ q) s.heap G H locs nz) (hw : LWs ar κ G x q1 y q2 out outD) (hl : lv_has ls 9 [(5, .int 0), (4, .ref outD), (3, .ref out), (2, .ref y), (1, .ref x), (0, .ref b)]) (hend : ∀ (H : Heap) (locs : List Loc) (ls : Array Slot) (G : gW) (nz : Nat), g_S D vwCl (fun q => s.heap.size ≤ q) s.heap G H locs nz → lv_has ls 9 [(5, .int 0), (0, .ref b)] → W p l e room_1 s m #[Value.ref b] below meth c H locs 400 9000 (lw_Z below #[Value.ref b] s) (F0 m 2365 ls [])) : W p l e room_1 s m #[Value.ref b] below meth c H locs 203 5000 (lw_Z below #[Value.ref b] s) (F0 m 456 ls []) := by
  have hx := S.1
  have hb := S.2.1
  have hbA : ¬ s.heap.size ≤ b := Nat.not_le.mpr hbl
  obtain ⟨hwF, hwM, hwo, hwoD, hw1, hw2, hw3⟩ := id hw
  have hwq : x < q1 := hwF.1
  have hwy : y < q2 := hwM.1
  refine lv_aload_n hx hb dL_law_456 rfl (lv_at hl 4 rfl) ?_
  refine lv_aload_n hx hb dL_law_457 rfl (lv_at hl 5 rfl) ?_
  refine lv_iload hx hb dL_law_458 (lv_at hl 0 rfl) ?_
  refine lv_iconst (v := 1) hx hb dL_law_460 (by decide) ?_
  refine lv_iadd hx hb dL_law_461 ?_
  rw [show (0 + 1 : Int32) = 1 by decide +kernel]
  refine va_sld hx hb hX hbl hbA w.2.2.1 (vp_in_nI (n := 1) (by decide) (by decide)) dL_law_462 ?_
  rw [show Int32.toNatClampNeg 1 = 1 from by decide]
  refine lv_aload_n hx hb dL_law_463 rfl (lv_at hl 5 rfl) ?_
  refine lv_iload hx hb dL_law_464 (lv_at hl 0 rfl) ?_
  refine lv_iconst (v := 2) hx hb dL_law_466 (by decide) ?_
  refine lv_iadd hx hb dL_law_467 ?_
  rw [show (0 + 2 : Int32) = 2 by decide +kernel]
  refine va_sld hx hb hX hbl hbA w.2.2.1 (vp_in_nI (n := 2) (by decide) (by decide)) dL_law_468 ?_
  rw [show Int32.toNatClampNeg 2 = 2 from by decide]
  refine lv_aload_n hx hb dL_law_469 rfl (lv_at hl 5 rfl) ?_
  refine lv_iload hx hb dL_law_470 (lv_at hl 0 rfl) ?_
  refine lv_iconst (v := 3) hx hb dL_law_472 (by decide) ?_
  refine lv_iadd hx hb dL_law_473 ?_
  rw [show (0 + 3 : Int32) = 3 by decide +kernel]
  refine va_sld hx hb hX hbl hbA w.2.2.1 (vp_in_nI (n := 3) (by decide) (by decide)) dL_law_474 ?_
  rw [show Int32.toNatClampNeg 3 = 3 from by decide]
  refine lv_aload_n hx hb dL_law_475 rfl (lv_at hl 5 rfl) ?_
  refine lv_iload hx hb dL_law_476 (lv_at hl 0 rfl) ?_
  refine lv_iconst (v := 4) hx hb dL_law_478 (by decide) ?_
  refine lv_iadd hx hb dL_law_479 ?_
  rw [show (0 + 4 : Int32) = 4 by decide +kernel]
  refine va_sld hx hb hX hbl hbA w.2.2.1 (vp_in_nI (n := 4) (by decide) (by decide)) dL_law_480 ?_
  rw [show Int32.toNatClampNeg 4 = 4 from by decide]
  refine lv_aload_n hx hb dL_law_481 rfl (lv_at hl 2 rfl) ?_
  have hF1 : FH ar κ (g_res (fun a9 => a9 < y ∨ a9 = out) G) x q1 := FH_mono hwF (fun a9 c9 h1 h2 => g_res_i (show a9 < y ∨ a9 = out from Or.inl (by omega)) h2)
  refine gs_calli (g_res (fun a9 => ¬ (a9 < y ∨ a9 = out)) G) w (fun _ _ => g_res_s) (fun _ _ => g_res_2) (g_runSW (As := [.ref x, .int (xs 1), .int (xs 2), .int (xs 3), .int (xs 4), .ref out]) (rest := []) S hE (g_sub w (fun _ _ => g_res_s)) hl (w_method l D ar κ (g_res (fun a9 => a9 < y ∨ a9 = out) G) nz x (xs 1) (xs 2) (xs 3) (xs 4) out q1 (fun _ => 0) hF1 (g_res_i (show out < y ∨ out = out from Or.inr rfl) hwo) (by omega) hlt) (kW_158 S.2.2.2.2 ⟨Nat.le_of_ble_eq_true rfl, Nat.le_of_ble_eq_true rfl⟩) rfl rfl (Nat.le_of_ble_eq_true rfl) dL_law_482 ⟨Nat.le_of_ble_eq_true rfl, Nat.le_of_ble_eq_true rfl⟩) (fun r u1 H locs hp1 hnz1 w => ?_)
  obtain rfl := hp1
  refine lv_istore (lv' := [(6, .int (K_told (xs 1) (xs 2) (xs 3) (xs 4))), (5, .int 0), (4, .ref outD), (3, .ref out), (2, .ref y), (1, .ref x), (0, .ref b)]) hx hb dL_law_485 hl (by decide) rfl (fun ls hl => ?_)
  refine lv_aload_n hx hb dL_law_487 rfl (lv_at hl 4 rfl) ?_
  refine lv_aload_n hx hb dL_law_488 rfl (lv_at hl 6 rfl) ?_
  refine lv_iload hx hb dL_law_489 (lv_at hl 1 rfl) ?_
  refine lv_iconst (v := 1) hx hb dL_law_491 (by decide) ?_
  refine lv_iadd hx hb dL_law_492 ?_
  rw [show (0 + 1 : Int32) = 1 by decide +kernel]
  refine va_sld hx hb hX hbl hbA w.2.2.1 (vp_in_nI (n := 1) (by decide) (by decide)) dL_law_493 ?_
  rw [show Int32.toNatClampNeg 1 = 1 from by decide]
  refine lv_aload_n hx hb dL_law_494 rfl (lv_at hl 6 rfl) ?_
  refine lv_iload hx hb dL_law_495 (lv_at hl 1 rfl) ?_
  refine lv_iconst (v := 2) hx hb dL_law_497 (by decide) ?_
  refine lv_iadd hx hb dL_law_498 ?_
  rw [show (0 + 2 : Int32) = 2 by decide +kernel]
  refine va_sld hx hb hX hbl hbA w.2.2.1 (vp_in_nI (n := 2) (by decide) (by decide)) dL_law_499 ?_
  rw [show Int32.toNatClampNeg 2 = 2 from by decide]
  refine lv_aload_n hx hb dL_law_500 rfl (lv_at hl 6 rfl) ?_
  refine lv_iload hx hb dL_law_501 (lv_at hl 1 rfl) ?_
  refine lv_iconst (v := 3) hx hb dL_law_503 (by decide) ?_
  refine lv_iadd hx hb dL_law_504 ?_
  rw [show (0 + 3 : Int32) = 3 by decide +kernel]
  refine va_sld hx hb hX hbl hbA w.2.2.1 (vp_in_nI (n := 3) (by decide) (by decide)) dL_law_505 ?_
  rw [show Int32.toNatClampNeg 3 = 3 from by decide]
  refine lv_aload_n hx hb dL_law_506 rfl (lv_at hl 6 rfl) ?_
  refine lv_iload hx hb dL_law_507 (lv_at hl 1 rfl) ?_
  refine lv_iconst (v := 4) hx hb dL_law_509 (by decide) ?_
  refine lv_iadd hx hb dL_law_510 ?_
  rw [show (0 + 4 : Int32) = 4 by decide +kernel]
  refine va_sld hx hb hX hbl hbA w.2.2.1 (vp_in_nI (n := 4) (by decide) (by decide)) dL_law_511 ?_
  rw [show Int32.toNatClampNeg 4 = 4 from by decide]
  have hM1 : FM ar κ (g_res (fun a9 => y ≤ a9 ∧ a9 < out) (g_ov (g_res (fun a9 => ¬ (a9 < y ∨ a9 = out)) G) u1.1)) y q2 0 := FM_mono hwM (fun a9 c9 h1 h2 h3 => g_res_i (show y ≤ a9 ∧ a9 < out from ⟨h1, by omega⟩) (g_ov_l (g_res_i (show ¬ (a9 < y ∨ a9 = out) by omega) h3)))
  refine gs_calli (g_res (fun a9 => ¬ (y ≤ a9 ∧ a9 < out)) (g_ov (g_res (fun a9 => ¬ (a9 < y ∨ a9 = out)) G) u1.1)) w (fun _ _ => g_res_s) (fun _ _ => g_res_2) (g_runV (As := [.int (xs 1), .int (xs 2), .int (xs 3), .int (xs 4)]) (rest := []) S hE (g_sub w (fun _ _ => g_res_s)) hl (m_method l D ar κ (g_res (fun a9 => y ≤ a9 ∧ a9 < out) (g_ov (g_res (fun a9 => ¬ (a9 < y ∨ a9 = out)) G) u1.1)) u1.2 y (xs 1) (xs 2) (xs 3) (xs 4) q2 0 hM1) (k_RL_161 S.2.2.2.2 ⟨Nat.le_of_ble_eq_true rfl, Nat.le_of_ble_eq_true rfl⟩) hM1.2.1 rfl rfl rfl rfl (Nat.le_of_ble_eq_true rfl) dL_law_512 ⟨Nat.le_of_ble_eq_true rfl, Nat.le_of_ble_eq_true rfl⟩) (fun r2 u2 H locs hp2 hnz2 w => ?_)
  obtain ⟨hv2, fs, hy2, h72⟩ := hp2
  refine lv_istore (lv' := [(7, .int r2), (6, .int (K_told (xs 1) (xs 2) (xs 3) (xs 4))), (5, .int 0), (4, .ref outD), (3, .ref out), (2, .ref y), (1, .ref x), (0, .ref b)]) hx hb dL_law_515 hl (by decide) rfl (fun ls hl => ?_)
  refine lv_aload_n hx hb dL_law_517 rfl (lv_at hl 5 rfl) ?_
  refine g_calli w (g_runV (As := []) (rest := []) S hE w hl (m_thrown l D ar κ (g_ov (g_res (fun a9 => ¬ (y ≤ a9 ∧ a9 < out)) (g_ov (g_res (fun a9 => ¬ (a9 < y ∨ a9 = out)) G) u1.1)) u2.1) u2.2 y fs (K_told (xs 1) (xs 2) (xs 3) (xs 4)) (g_ov_r (g_res_n (fun h => h ⟨Nat.le_refl _, by omega⟩)) hy2) h72) (k_RL_139 S.2.2.2.2 ⟨Nat.le_of_ble_eq_true rfl, Nat.le_of_ble_eq_true rfl⟩) (g_ov_r (g_res_n (fun h => h ⟨Nat.le_refl _, by omega⟩)) hy2) rfl rfl rfl rfl (Nat.le_of_ble_eq_true rfl) dL_law_518 ⟨Nat.le_of_ble_eq_true rfl, Nat.le_of_ble_eq_true rfl⟩) (fun r u H locs hp hnz w => ?_)
  obtain ⟨rfl, rfl⟩ := hp
  refine lv_iload hx hb dL_law_521 (lv_at hl 1 rfl) ?_
  refine lv_icmp_eq (tgt := 528) hx hb dL_law_523 (by decide) (fun _ => ?_) (fun c => absurd rfl c)
  refine lv_iload hx hb dL_law_528 (lv_at hl 1 rfl) ?_
  refine lv_if_ne (tgt := 545) hx hb dL_law_530 (by decide) (fun c_530 => ?_) (fun c_530 => absurd c_530 K_told_n)
  refine lv_goto (tgt := 2365) hx hb dL_law_545 (by decide) ?_
  exact W.widen (Nat.le_of_ble_eq_true rfl) (Nat.le_of_ble_eq_true rfl) (hend _ _ _ _ _ w (lv_sub hl [2, 7] rfl))
set_option maxHeartbeats 4000000 in
set_option maxRecDepth 100000 in
theorem lc_6 (hlt : l.stackTraces = false) (S : CallFix p m c cL_law 9 s #[.ref b] lwA RL) (hE : g_E D vwCl (gT ar) (EX1 κ) (fun q => s.heap.size ≤ q) s s.heap) (hX : va_X b 6 xs s s.heap) (hbl : b < s.heap.size) (w : g_S D vwCl (fun q => s.heap.size ≤ q) s.heap G H locs nz) (hw : LWs ar κ G x q1 y q2 out outD) (hl : lv_has ls 9 [(5, .int 0), (4, .ref outD), (3, .ref out), (2, .ref y), (1, .ref x), (0, .ref b)]) (hend : ∀ (H : Heap) (locs : List Loc) (ls : Array Slot) (G : gW) (nz : Nat), g_S D vwCl (fun q => s.heap.size ≤ q) s.heap G H locs nz → lv_has ls 9 [(5, .int 0), (0, .ref b)] → W p l e room_1 s m #[Value.ref b] below meth c H locs 400 9000 (lw_Z below #[Value.ref b] s) (F0 m 2365 ls [])) : W p l e room_1 s m #[Value.ref b] below meth c H locs 203 5000 (lw_Z below #[Value.ref b] s) (F0 m 548 ls []) := by
  have hx := S.1
  have hb := S.2.1
  have hbA : ¬ s.heap.size ≤ b := Nat.not_le.mpr hbl
  obtain ⟨hwF, hwM, hwo, hwoD, hw1, hw2, hw3⟩ := id hw
  have hwq : x < q1 := hwF.1
  have hwy : y < q2 := hwM.1
  refine lv_aload_n hx hb dL_law_548 rfl (lv_at hl 4 rfl) ?_
  refine lv_aload_n hx hb dL_law_549 rfl (lv_at hl 5 rfl) ?_
  refine lv_iload hx hb dL_law_550 (lv_at hl 0 rfl) ?_
  refine lv_iconst (v := 1) hx hb dL_law_552 (by decide) ?_
  refine lv_iadd hx hb dL_law_553 ?_
  rw [show (0 + 1 : Int32) = 1 by decide +kernel]
  refine va_sld hx hb hX hbl hbA w.2.2.1 (vp_in_nI (n := 1) (by decide) (by decide)) dL_law_554 ?_
  rw [show Int32.toNatClampNeg 1 = 1 from by decide]
  refine lv_aload_n hx hb dL_law_555 rfl (lv_at hl 5 rfl) ?_
  refine lv_iload hx hb dL_law_556 (lv_at hl 0 rfl) ?_
  refine lv_iconst (v := 2) hx hb dL_law_558 (by decide) ?_
  refine lv_iadd hx hb dL_law_559 ?_
  rw [show (0 + 2 : Int32) = 2 by decide +kernel]
  refine va_sld hx hb hX hbl hbA w.2.2.1 (vp_in_nI (n := 2) (by decide) (by decide)) dL_law_560 ?_
  rw [show Int32.toNatClampNeg 2 = 2 from by decide]
  refine lv_aload_n hx hb dL_law_561 rfl (lv_at hl 2 rfl) ?_
  have hF1 : FH ar κ (g_res (fun a9 => a9 < y ∨ a9 = out) G) x q1 := FH_mono hwF (fun a9 c9 h1 h2 => g_res_i (show a9 < y ∨ a9 = out from Or.inl (by omega)) h2)
  refine gs_calli (g_res (fun a9 => ¬ (a9 < y ∨ a9 = out)) G) w (fun _ _ => g_res_s) (fun _ _ => g_res_2) (g_runSW (As := [.ref x, .int (xs 1), .int (xs 2), .ref out]) (rest := []) S hE (g_sub w (fun _ _ => g_res_s)) hl (w_remove l D ar κ (g_res (fun a9 => a9 < y ∨ a9 = out) G) nz x (xs 1) (xs 2) out q1 (fun _ => 0) hF1 (g_res_i (show out < y ∨ out = out from Or.inr rfl) hwo) (by omega) hlt) (kW_162 S.2.2.2.2 ⟨Nat.le_of_ble_eq_true rfl, Nat.le_of_ble_eq_true rfl⟩) rfl rfl (Nat.le_of_ble_eq_true rfl) dL_law_562 ⟨Nat.le_of_ble_eq_true rfl, Nat.le_of_ble_eq_true rfl⟩) (fun r u1 H locs hp1 hnz1 w => ?_)
  obtain rfl := hp1
  refine lv_istore (lv' := [(6, .int (K_meth (xs 1) (xs 2))), (5, .int 0), (4, .ref outD), (3, .ref out), (2, .ref y), (1, .ref x), (0, .ref b)]) hx hb dL_law_565 hl (by decide) rfl (fun ls hl => ?_)
  refine lv_aload_n hx hb dL_law_567 rfl (lv_at hl 4 rfl) ?_
  refine lv_aload_n hx hb dL_law_568 rfl (lv_at hl 6 rfl) ?_
  refine lv_iload hx hb dL_law_569 (lv_at hl 1 rfl) ?_
  refine lv_iconst (v := 1) hx hb dL_law_571 (by decide) ?_
  refine lv_iadd hx hb dL_law_572 ?_
  rw [show (0 + 1 : Int32) = 1 by decide +kernel]
  refine va_sld hx hb hX hbl hbA w.2.2.1 (vp_in_nI (n := 1) (by decide) (by decide)) dL_law_573 ?_
  rw [show Int32.toNatClampNeg 1 = 1 from by decide]
  refine lv_aload_n hx hb dL_law_574 rfl (lv_at hl 6 rfl) ?_
  refine lv_iload hx hb dL_law_575 (lv_at hl 1 rfl) ?_
  refine lv_iconst (v := 2) hx hb dL_law_577 (by decide) ?_
  refine lv_iadd hx hb dL_law_578 ?_
  rw [show (0 + 2 : Int32) = 2 by decide +kernel]
  refine va_sld hx hb hX hbl hbA w.2.2.1 (vp_in_nI (n := 2) (by decide) (by decide)) dL_law_579 ?_
  rw [show Int32.toNatClampNeg 2 = 2 from by decide]
  have hM1 : FM ar κ (g_res (fun a9 => y ≤ a9 ∧ a9 < out) (g_ov (g_res (fun a9 => ¬ (a9 < y ∨ a9 = out)) G) u1.1)) y q2 0 := FM_mono hwM (fun a9 c9 h1 h2 h3 => g_res_i (show y ≤ a9 ∧ a9 < out from ⟨h1, by omega⟩) (g_ov_l (g_res_i (show ¬ (a9 < y ∨ a9 = out) by omega) h3)))
  refine gs_calli (g_res (fun a9 => ¬ (y ≤ a9 ∧ a9 < out)) (g_ov (g_res (fun a9 => ¬ (a9 < y ∨ a9 = out)) G) u1.1)) w (fun _ _ => g_res_s) (fun _ _ => g_res_2) (g_runV (As := [.int (xs 1), .int (xs 2)]) (rest := []) S hE (g_sub w (fun _ _ => g_res_s)) hl (m_remove l D ar κ (g_res (fun a9 => y ≤ a9 ∧ a9 < out) (g_ov (g_res (fun a9 => ¬ (a9 < y ∨ a9 = out)) G) u1.1)) u1.2 y (xs 1) (xs 2) q2 0 hM1) (k_RL_164 S.2.2.2.2 ⟨Nat.le_of_ble_eq_true rfl, Nat.le_of_ble_eq_true rfl⟩) hM1.2.1 rfl rfl rfl rfl (Nat.le_of_ble_eq_true rfl) dL_law_580 ⟨Nat.le_of_ble_eq_true rfl, Nat.le_of_ble_eq_true rfl⟩) (fun r2 u2 H locs hp2 hnz2 w => ?_)
  obtain ⟨hv2, fs, hy2, h72⟩ := hp2
  refine lv_istore (lv' := [(7, .int r2), (6, .int (K_meth (xs 1) (xs 2))), (5, .int 0), (4, .ref outD), (3, .ref out), (2, .ref y), (1, .ref x), (0, .ref b)]) hx hb dL_law_583 hl (by decide) rfl (fun ls hl => ?_)
  refine lv_aload_n hx hb dL_law_585 rfl (lv_at hl 5 rfl) ?_
  refine g_calli w (g_runV (As := []) (rest := []) S hE w hl (m_thrown l D ar κ (g_ov (g_res (fun a9 => ¬ (y ≤ a9 ∧ a9 < out)) (g_ov (g_res (fun a9 => ¬ (a9 < y ∨ a9 = out)) G) u1.1)) u2.1) u2.2 y fs (K_meth (xs 1) (xs 2)) (g_ov_r (g_res_n (fun h => h ⟨Nat.le_refl _, by omega⟩)) hy2) h72) (k_RL_139 S.2.2.2.2 ⟨Nat.le_of_ble_eq_true rfl, Nat.le_of_ble_eq_true rfl⟩) (g_ov_r (g_res_n (fun h => h ⟨Nat.le_refl _, by omega⟩)) hy2) rfl rfl rfl rfl (Nat.le_of_ble_eq_true rfl) dL_law_586 ⟨Nat.le_of_ble_eq_true rfl, Nat.le_of_ble_eq_true rfl⟩) (fun r u H locs hp hnz w => ?_)
  obtain ⟨rfl, rfl⟩ := hp
  refine lv_iload hx hb dL_law_589 (lv_at hl 1 rfl) ?_
  refine lv_icmp_eq (tgt := 596) hx hb dL_law_591 (by decide) (fun _ => ?_) (fun c => absurd rfl c)
  refine lv_iload hx hb dL_law_596 (lv_at hl 1 rfl) ?_
  refine lv_if_ne (tgt := 613) hx hb dL_law_598 (by decide) (fun c_598 => ?_) (fun c_598 => absurd c_598 K_meth_n)
  refine lv_goto (tgt := 2365) hx hb dL_law_613 (by decide) ?_
  exact W.widen (Nat.le_of_ble_eq_true rfl) (Nat.le_of_ble_eq_true rfl) (hend _ _ _ _ _ w (lv_sub hl [2, 7] rfl))
set_option maxHeartbeats 4000000 in
set_option maxRecDepth 100000 in
theorem lc_7 (hlt : l.stackTraces = false) (S : CallFix p m c cL_law 9 s #[.ref b] lwA RL) (hE : g_E D vwCl (gT ar) (EX1 κ) (fun q => s.heap.size ≤ q) s s.heap) (hX : va_X b 6 xs s s.heap) (hbl : b < s.heap.size) (w : g_S D vwCl (fun q => s.heap.size ≤ q) s.heap G H locs nz) (hw : LWs ar κ G x q1 y q2 out outD) (hl : lv_has ls 9 [(5, .int 0), (4, .ref outD), (3, .ref out), (2, .ref y), (1, .ref x), (0, .ref b)]) (hend : ∀ (H : Heap) (locs : List Loc) (ls : Array Slot) (G : gW) (nz : Nat), g_S D vwCl (fun q => s.heap.size ≤ q) s.heap G H locs nz → lv_has ls 9 [(5, .int 0), (0, .ref b)] → W p l e room_1 s m #[Value.ref b] below meth c H locs 400 9000 (lw_Z below #[Value.ref b] s) (F0 m 2365 ls [])) : W p l e room_1 s m #[Value.ref b] below meth c H locs 203 5000 (lw_Z below #[Value.ref b] s) (F0 m 616 ls []) := by
  have hx := S.1
  have hb := S.2.1
  have hbA : ¬ s.heap.size ≤ b := Nat.not_le.mpr hbl
  obtain ⟨hwF, hwM, hwo, hwoD, hw1, hw2, hw3⟩ := id hw
  have hwq : x < q1 := hwF.1
  have hwy : y < q2 := hwM.1
  refine lv_aload_n hx hb dL_law_616 rfl (lv_at hl 4 rfl) ?_
  refine lv_aload_n hx hb dL_law_617 rfl (lv_at hl 5 rfl) ?_
  refine lv_iload hx hb dL_law_618 (lv_at hl 0 rfl) ?_
  refine lv_iconst (v := 1) hx hb dL_law_620 (by decide) ?_
  refine lv_iadd hx hb dL_law_621 ?_
  rw [show (0 + 1 : Int32) = 1 by decide +kernel]
  refine va_sld hx hb hX hbl hbA w.2.2.1 (vp_in_nI (n := 1) (by decide) (by decide)) dL_law_622 ?_
  rw [show Int32.toNatClampNeg 1 = 1 from by decide]
  refine lv_aload_n hx hb dL_law_623 rfl (lv_at hl 5 rfl) ?_
  refine lv_iload hx hb dL_law_624 (lv_at hl 0 rfl) ?_
  refine lv_iconst (v := 2) hx hb dL_law_626 (by decide) ?_
  refine lv_iadd hx hb dL_law_627 ?_
  rw [show (0 + 2 : Int32) = 2 by decide +kernel]
  refine va_sld hx hb hX hbl hbA w.2.2.1 (vp_in_nI (n := 2) (by decide) (by decide)) dL_law_628 ?_
  rw [show Int32.toNatClampNeg 2 = 2 from by decide]
  refine lv_aload_n hx hb dL_law_629 rfl (lv_at hl 2 rfl) ?_
  have hF1 : FH ar κ (g_res (fun a9 => a9 < y ∨ a9 = out) G) x q1 := FH_mono hwF (fun a9 c9 h1 h2 => g_res_i (show a9 < y ∨ a9 = out from Or.inl (by omega)) h2)
  refine gs_calli (g_res (fun a9 => ¬ (a9 < y ∨ a9 = out)) G) w (fun _ _ => g_res_s) (fun _ _ => g_res_2) (g_runSW (As := [.ref x, .int (xs 1), .int (xs 2), .ref out]) (rest := []) S hE (g_sub w (fun _ _ => g_res_s)) hl (w_find l D ar κ (g_res (fun a9 => a9 < y ∨ a9 = out) G) nz x (xs 1) (xs 2) out q1 (fun _ => 0) hF1 (g_res_i (show out < y ∨ out = out from Or.inr rfl) hwo) (by omega) hlt) (kW_165 S.2.2.2.2 ⟨Nat.le_of_ble_eq_true rfl, Nat.le_of_ble_eq_true rfl⟩) rfl rfl (Nat.le_of_ble_eq_true rfl) dL_law_630 ⟨Nat.le_of_ble_eq_true rfl, Nat.le_of_ble_eq_true rfl⟩) (fun r u1 H locs hp1 hnz1 w => ?_)
  obtain rfl := hp1
  refine lv_istore (lv' := [(6, .int (K_meth (xs 1) (xs 2))), (5, .int 0), (4, .ref outD), (3, .ref out), (2, .ref y), (1, .ref x), (0, .ref b)]) hx hb dL_law_633 hl (by decide) rfl (fun ls hl => ?_)
  refine lv_aload_n hx hb dL_law_635 rfl (lv_at hl 4 rfl) ?_
  refine lv_aload_n hx hb dL_law_636 rfl (lv_at hl 6 rfl) ?_
  refine lv_iload hx hb dL_law_637 (lv_at hl 1 rfl) ?_
  refine lv_iconst (v := 1) hx hb dL_law_639 (by decide) ?_
  refine lv_iadd hx hb dL_law_640 ?_
  rw [show (0 + 1 : Int32) = 1 by decide +kernel]
  refine va_sld hx hb hX hbl hbA w.2.2.1 (vp_in_nI (n := 1) (by decide) (by decide)) dL_law_641 ?_
  rw [show Int32.toNatClampNeg 1 = 1 from by decide]
  refine lv_aload_n hx hb dL_law_642 rfl (lv_at hl 6 rfl) ?_
  refine lv_iload hx hb dL_law_643 (lv_at hl 1 rfl) ?_
  refine lv_iconst (v := 2) hx hb dL_law_645 (by decide) ?_
  refine lv_iadd hx hb dL_law_646 ?_
  rw [show (0 + 2 : Int32) = 2 by decide +kernel]
  refine va_sld hx hb hX hbl hbA w.2.2.1 (vp_in_nI (n := 2) (by decide) (by decide)) dL_law_647 ?_
  rw [show Int32.toNatClampNeg 2 = 2 from by decide]
  have hM1 : FM ar κ (g_res (fun a9 => y ≤ a9 ∧ a9 < out) (g_ov (g_res (fun a9 => ¬ (a9 < y ∨ a9 = out)) G) u1.1)) y q2 0 := FM_mono hwM (fun a9 c9 h1 h2 h3 => g_res_i (show y ≤ a9 ∧ a9 < out from ⟨h1, by omega⟩) (g_ov_l (g_res_i (show ¬ (a9 < y ∨ a9 = out) by omega) h3)))
  refine gs_calli (g_res (fun a9 => ¬ (y ≤ a9 ∧ a9 < out)) (g_ov (g_res (fun a9 => ¬ (a9 < y ∨ a9 = out)) G) u1.1)) w (fun _ _ => g_res_s) (fun _ _ => g_res_2) (g_runV (As := [.int (xs 1), .int (xs 2)]) (rest := []) S hE (g_sub w (fun _ _ => g_res_s)) hl (m_find l D ar κ (g_res (fun a9 => y ≤ a9 ∧ a9 < out) (g_ov (g_res (fun a9 => ¬ (a9 < y ∨ a9 = out)) G) u1.1)) u1.2 y (xs 1) (xs 2) q2 0 hM1) (k_RL_167 S.2.2.2.2 ⟨Nat.le_of_ble_eq_true rfl, Nat.le_of_ble_eq_true rfl⟩) hM1.2.1 rfl rfl rfl rfl (Nat.le_of_ble_eq_true rfl) dL_law_648 ⟨Nat.le_of_ble_eq_true rfl, Nat.le_of_ble_eq_true rfl⟩) (fun r2 u2 H locs hp2 hnz2 w => ?_)
  obtain ⟨hv2, fs, hy2, h72⟩ := hp2
  refine lv_istore (lv' := [(7, .int r2), (6, .int (K_meth (xs 1) (xs 2))), (5, .int 0), (4, .ref outD), (3, .ref out), (2, .ref y), (1, .ref x), (0, .ref b)]) hx hb dL_law_651 hl (by decide) rfl (fun ls hl => ?_)
  refine lv_aload_n hx hb dL_law_653 rfl (lv_at hl 5 rfl) ?_
  refine g_calli w (g_runV (As := []) (rest := []) S hE w hl (m_thrown l D ar κ (g_ov (g_res (fun a9 => ¬ (y ≤ a9 ∧ a9 < out)) (g_ov (g_res (fun a9 => ¬ (a9 < y ∨ a9 = out)) G) u1.1)) u2.1) u2.2 y fs (K_meth (xs 1) (xs 2)) (g_ov_r (g_res_n (fun h => h ⟨Nat.le_refl _, by omega⟩)) hy2) h72) (k_RL_139 S.2.2.2.2 ⟨Nat.le_of_ble_eq_true rfl, Nat.le_of_ble_eq_true rfl⟩) (g_ov_r (g_res_n (fun h => h ⟨Nat.le_refl _, by omega⟩)) hy2) rfl rfl rfl rfl (Nat.le_of_ble_eq_true rfl) dL_law_654 ⟨Nat.le_of_ble_eq_true rfl, Nat.le_of_ble_eq_true rfl⟩) (fun r u H locs hp hnz w => ?_)
  obtain ⟨rfl, rfl⟩ := hp
  refine lv_iload hx hb dL_law_657 (lv_at hl 1 rfl) ?_
  refine lv_icmp_eq (tgt := 664) hx hb dL_law_659 (by decide) (fun _ => ?_) (fun c => absurd rfl c)
  refine lv_iload hx hb dL_law_664 (lv_at hl 1 rfl) ?_
  refine lv_if_ne (tgt := 681) hx hb dL_law_666 (by decide) (fun c_666 => ?_) (fun c_666 => absurd c_666 K_meth_n)
  refine lv_goto (tgt := 2365) hx hb dL_law_681 (by decide) ?_
  exact W.widen (Nat.le_of_ble_eq_true rfl) (Nat.le_of_ble_eq_true rfl) (hend _ _ _ _ _ w (lv_sub hl [2, 7] rfl))
set_option maxHeartbeats 4000000 in
set_option maxRecDepth 100000 in
theorem lc_8 (hlt : l.stackTraces = false) (S : CallFix p m c cL_law 9 s #[.ref b] lwA RL) (hE : g_E D vwCl (gT ar) (EX1 κ) (fun q => s.heap.size ≤ q) s s.heap) (hX : va_X b 6 xs s s.heap) (hbl : b < s.heap.size) (w : g_S D vwCl (fun q => s.heap.size ≤ q) s.heap G H locs nz) (hw : LWs ar κ G x q1 y q2 out outD) (hl : lv_has ls 9 [(5, .int 0), (4, .ref outD), (3, .ref out), (2, .ref y), (1, .ref x), (0, .ref b)]) (hend : ∀ (H : Heap) (locs : List Loc) (ls : Array Slot) (G : gW) (nz : Nat), g_S D vwCl (fun q => s.heap.size ≤ q) s.heap G H locs nz → lv_has ls 9 [(5, .int 0), (0, .ref b)] → W p l e room_1 s m #[Value.ref b] below meth c H locs 400 9000 (lw_Z below #[Value.ref b] s) (F0 m 2365 ls [])) : W p l e room_1 s m #[Value.ref b] below meth c H locs 203 5000 (lw_Z below #[Value.ref b] s) (F0 m 684 ls []) := by
  have hx := S.1
  have hb := S.2.1
  have hbA : ¬ s.heap.size ≤ b := Nat.not_le.mpr hbl
  obtain ⟨hwF, hwM, hwo, hwoD, hw1, hw2, hw3⟩ := id hw
  have hwq : x < q1 := hwF.1
  have hwy : y < q2 := hwM.1
  refine lv_aload_n hx hb dL_law_684 rfl (lv_at hl 4 rfl) ?_
  refine lv_aload_n hx hb dL_law_685 rfl (lv_at hl 5 rfl) ?_
  refine lv_iload hx hb dL_law_686 (lv_at hl 0 rfl) ?_
  refine lv_iconst (v := 1) hx hb dL_law_688 (by decide) ?_
  refine lv_iadd hx hb dL_law_689 ?_
  rw [show (0 + 1 : Int32) = 1 by decide +kernel]
  refine va_sld hx hb hX hbl hbA w.2.2.1 (vp_in_nI (n := 1) (by decide) (by decide)) dL_law_690 ?_
  rw [show Int32.toNatClampNeg 1 = 1 from by decide]
  refine lv_aload_n hx hb dL_law_691 rfl (lv_at hl 5 rfl) ?_
  refine lv_iload hx hb dL_law_692 (lv_at hl 0 rfl) ?_
  refine lv_iconst (v := 2) hx hb dL_law_694 (by decide) ?_
  refine lv_iadd hx hb dL_law_695 ?_
  rw [show (0 + 2 : Int32) = 2 by decide +kernel]
  refine va_sld hx hb hX hbl hbA w.2.2.1 (vp_in_nI (n := 2) (by decide) (by decide)) dL_law_696 ?_
  rw [show Int32.toNatClampNeg 2 = 2 from by decide]
  refine lv_aload_n hx hb dL_law_697 rfl (lv_at hl 2 rfl) ?_
  have hF1 : FH ar κ (g_res (fun a9 => a9 < y ∨ a9 = out) G) x q1 := FH_mono hwF (fun a9 c9 h1 h2 => g_res_i (show a9 < y ∨ a9 = out from Or.inl (by omega)) h2)
  refine gs_calli (g_res (fun a9 => ¬ (a9 < y ∨ a9 = out)) G) w (fun _ _ => g_res_s) (fun _ _ => g_res_2) (g_runSW (As := [.ref x, .int (xs 1), .int (xs 2), .ref out]) (rest := []) S hE (g_sub w (fun _ _ => g_res_s)) hl (w_calls l D ar κ (g_res (fun a9 => a9 < y ∨ a9 = out) G) nz x (xs 1) (xs 2) out q1 (fun _ => 0) hF1 (g_res_i (show out < y ∨ out = out from Or.inr rfl) hwo) (by omega) hlt) (kW_168 S.2.2.2.2 ⟨Nat.le_of_ble_eq_true rfl, Nat.le_of_ble_eq_true rfl⟩) rfl rfl (Nat.le_of_ble_eq_true rfl) dL_law_698 ⟨Nat.le_of_ble_eq_true rfl, Nat.le_of_ble_eq_true rfl⟩) (fun r u1 H locs hp1 hnz1 w => ?_)
  obtain rfl := hp1
  refine lv_istore (lv' := [(6, .int (K_meth (xs 1) (xs 2))), (5, .int 0), (4, .ref outD), (3, .ref out), (2, .ref y), (1, .ref x), (0, .ref b)]) hx hb dL_law_701 hl (by decide) rfl (fun ls hl => ?_)
  refine lv_aload_n hx hb dL_law_703 rfl (lv_at hl 4 rfl) ?_
  refine lv_aload_n hx hb dL_law_704 rfl (lv_at hl 6 rfl) ?_
  refine lv_iload hx hb dL_law_705 (lv_at hl 1 rfl) ?_
  refine lv_iconst (v := 1) hx hb dL_law_707 (by decide) ?_
  refine lv_iadd hx hb dL_law_708 ?_
  rw [show (0 + 1 : Int32) = 1 by decide +kernel]
  refine va_sld hx hb hX hbl hbA w.2.2.1 (vp_in_nI (n := 1) (by decide) (by decide)) dL_law_709 ?_
  rw [show Int32.toNatClampNeg 1 = 1 from by decide]
  refine lv_aload_n hx hb dL_law_710 rfl (lv_at hl 6 rfl) ?_
  refine lv_iload hx hb dL_law_711 (lv_at hl 1 rfl) ?_
  refine lv_iconst (v := 2) hx hb dL_law_713 (by decide) ?_
  refine lv_iadd hx hb dL_law_714 ?_
  rw [show (0 + 2 : Int32) = 2 by decide +kernel]
  refine va_sld hx hb hX hbl hbA w.2.2.1 (vp_in_nI (n := 2) (by decide) (by decide)) dL_law_715 ?_
  rw [show Int32.toNatClampNeg 2 = 2 from by decide]
  have hM1 : FM ar κ (g_res (fun a9 => y ≤ a9 ∧ a9 < out) (g_ov (g_res (fun a9 => ¬ (a9 < y ∨ a9 = out)) G) u1.1)) y q2 0 := FM_mono hwM (fun a9 c9 h1 h2 h3 => g_res_i (show y ≤ a9 ∧ a9 < out from ⟨h1, by omega⟩) (g_ov_l (g_res_i (show ¬ (a9 < y ∨ a9 = out) by omega) h3)))
  refine gs_calli (g_res (fun a9 => ¬ (y ≤ a9 ∧ a9 < out)) (g_ov (g_res (fun a9 => ¬ (a9 < y ∨ a9 = out)) G) u1.1)) w (fun _ _ => g_res_s) (fun _ _ => g_res_2) (g_runV (As := [.int (xs 1), .int (xs 2)]) (rest := []) S hE (g_sub w (fun _ _ => g_res_s)) hl (m_calls l D ar κ (g_res (fun a9 => y ≤ a9 ∧ a9 < out) (g_ov (g_res (fun a9 => ¬ (a9 < y ∨ a9 = out)) G) u1.1)) u1.2 y (xs 1) (xs 2) q2 0 hM1) (k_RL_170 S.2.2.2.2 ⟨Nat.le_of_ble_eq_true rfl, Nat.le_of_ble_eq_true rfl⟩) hM1.2.1 rfl rfl rfl rfl (Nat.le_of_ble_eq_true rfl) dL_law_716 ⟨Nat.le_of_ble_eq_true rfl, Nat.le_of_ble_eq_true rfl⟩) (fun r2 u2 H locs hp2 hnz2 w => ?_)
  obtain ⟨hv2, fs, hy2, h72⟩ := hp2
  refine lv_istore (lv' := [(7, .int r2), (6, .int (K_meth (xs 1) (xs 2))), (5, .int 0), (4, .ref outD), (3, .ref out), (2, .ref y), (1, .ref x), (0, .ref b)]) hx hb dL_law_719 hl (by decide) rfl (fun ls hl => ?_)
  refine lv_aload_n hx hb dL_law_721 rfl (lv_at hl 5 rfl) ?_
  refine g_calli w (g_runV (As := []) (rest := []) S hE w hl (m_thrown l D ar κ (g_ov (g_res (fun a9 => ¬ (y ≤ a9 ∧ a9 < out)) (g_ov (g_res (fun a9 => ¬ (a9 < y ∨ a9 = out)) G) u1.1)) u2.1) u2.2 y fs (K_meth (xs 1) (xs 2)) (g_ov_r (g_res_n (fun h => h ⟨Nat.le_refl _, by omega⟩)) hy2) h72) (k_RL_139 S.2.2.2.2 ⟨Nat.le_of_ble_eq_true rfl, Nat.le_of_ble_eq_true rfl⟩) (g_ov_r (g_res_n (fun h => h ⟨Nat.le_refl _, by omega⟩)) hy2) rfl rfl rfl rfl (Nat.le_of_ble_eq_true rfl) dL_law_722 ⟨Nat.le_of_ble_eq_true rfl, Nat.le_of_ble_eq_true rfl⟩) (fun r u H locs hp hnz w => ?_)
  obtain ⟨rfl, rfl⟩ := hp
  refine lv_iload hx hb dL_law_725 (lv_at hl 1 rfl) ?_
  refine lv_icmp_eq (tgt := 732) hx hb dL_law_727 (by decide) (fun _ => ?_) (fun c => absurd rfl c)
  refine lv_iload hx hb dL_law_732 (lv_at hl 1 rfl) ?_
  refine lv_if_ne (tgt := 749) hx hb dL_law_734 (by decide) (fun c_734 => ?_) (fun c_734 => absurd c_734 K_meth_n)
  refine lv_goto (tgt := 2365) hx hb dL_law_749 (by decide) ?_
  exact W.widen (Nat.le_of_ble_eq_true rfl) (Nat.le_of_ble_eq_true rfl) (hend _ _ _ _ _ w (lv_sub hl [2, 7] rfl))
set_option maxHeartbeats 4000000 in
set_option maxRecDepth 100000 in
theorem lc_9 (hlt : l.stackTraces = false) (S : CallFix p m c cL_law 9 s #[.ref b] lwA RL) (hE : g_E D vwCl (gT ar) (EX1 κ) (fun q => s.heap.size ≤ q) s s.heap) (hX : va_X b 6 xs s s.heap) (hbl : b < s.heap.size) (w : g_S D vwCl (fun q => s.heap.size ≤ q) s.heap G H locs nz) (hw : LWs ar κ G x q1 y q2 out outD) (hl : lv_has ls 9 [(5, .int 0), (4, .ref outD), (3, .ref out), (2, .ref y), (1, .ref x), (0, .ref b)]) (hend : ∀ (H : Heap) (locs : List Loc) (ls : Array Slot) (G : gW) (nz : Nat), g_S D vwCl (fun q => s.heap.size ≤ q) s.heap G H locs nz → lv_has ls 9 [(5, .int 0), (0, .ref b)] → W p l e room_1 s m #[Value.ref b] below meth c H locs 400 9000 (lw_Z below #[Value.ref b] s) (F0 m 2365 ls [])) : W p l e room_1 s m #[Value.ref b] below meth c H locs 203 5000 (lw_Z below #[Value.ref b] s) (F0 m 752 ls []) := by
  have hx := S.1
  have hb := S.2.1
  have hbA : ¬ s.heap.size ≤ b := Nat.not_le.mpr hbl
  obtain ⟨hwF, hwM, hwo, hwoD, hw1, hw2, hw3⟩ := id hw
  have hwq : x < q1 := hwF.1
  have hwy : y < q2 := hwM.1
  refine lv_aload_n hx hb dL_law_752 rfl (lv_at hl 4 rfl) ?_
  refine lv_aload_n hx hb dL_law_753 rfl (lv_at hl 5 rfl) ?_
  refine lv_iload hx hb dL_law_754 (lv_at hl 0 rfl) ?_
  refine lv_iconst (v := 1) hx hb dL_law_756 (by decide) ?_
  refine lv_iadd hx hb dL_law_757 ?_
  rw [show (0 + 1 : Int32) = 1 by decide +kernel]
  refine va_sld hx hb hX hbl hbA w.2.2.1 (vp_in_nI (n := 1) (by decide) (by decide)) dL_law_758 ?_
  rw [show Int32.toNatClampNeg 1 = 1 from by decide]
  refine lv_aload_n hx hb dL_law_759 rfl (lv_at hl 5 rfl) ?_
  refine lv_iload hx hb dL_law_760 (lv_at hl 0 rfl) ?_
  refine lv_iconst (v := 2) hx hb dL_law_762 (by decide) ?_
  refine lv_iadd hx hb dL_law_763 ?_
  rw [show (0 + 2 : Int32) = 2 by decide +kernel]
  refine va_sld hx hb hX hbl hbA w.2.2.1 (vp_in_nI (n := 2) (by decide) (by decide)) dL_law_764 ?_
  rw [show Int32.toNatClampNeg 2 = 2 from by decide]
  refine lv_aload_n hx hb dL_law_765 rfl (lv_at hl 2 rfl) ?_
  have hF1 : FH ar κ (g_res (fun a9 => a9 < y ∨ a9 = out) G) x q1 := FH_mono hwF (fun a9 c9 h1 h2 => g_res_i (show a9 < y ∨ a9 = out from Or.inl (by omega)) h2)
  refine gs_calli (g_res (fun a9 => ¬ (a9 < y ∨ a9 = out)) G) w (fun _ _ => g_res_s) (fun _ _ => g_res_2) (g_runSW (As := [.ref x, .int (xs 1), .int (xs 2), .ref out]) (rest := []) S hE (g_sub w (fun _ _ => g_res_s)) hl (w_compile l D ar κ (g_res (fun a9 => a9 < y ∨ a9 = out) G) nz x (xs 1) (xs 2) out q1 (fun _ => 0) hF1 (g_res_i (show out < y ∨ out = out from Or.inr rfl) hwo) (by omega) hlt) (kW_171 S.2.2.2.2 ⟨Nat.le_of_ble_eq_true rfl, Nat.le_of_ble_eq_true rfl⟩) rfl rfl (Nat.le_of_ble_eq_true rfl) dL_law_766 ⟨Nat.le_of_ble_eq_true rfl, Nat.le_of_ble_eq_true rfl⟩) (fun r u1 H locs hp1 hnz1 w => ?_)
  obtain rfl := hp1
  refine lv_istore (lv' := [(6, .int (K_meth (xs 1) (xs 2))), (5, .int 0), (4, .ref outD), (3, .ref out), (2, .ref y), (1, .ref x), (0, .ref b)]) hx hb dL_law_769 hl (by decide) rfl (fun ls hl => ?_)
  refine lv_aload_n hx hb dL_law_771 rfl (lv_at hl 4 rfl) ?_
  refine lv_aload_n hx hb dL_law_772 rfl (lv_at hl 6 rfl) ?_
  refine lv_iload hx hb dL_law_773 (lv_at hl 1 rfl) ?_
  refine lv_iconst (v := 1) hx hb dL_law_775 (by decide) ?_
  refine lv_iadd hx hb dL_law_776 ?_
  rw [show (0 + 1 : Int32) = 1 by decide +kernel]
  refine va_sld hx hb hX hbl hbA w.2.2.1 (vp_in_nI (n := 1) (by decide) (by decide)) dL_law_777 ?_
  rw [show Int32.toNatClampNeg 1 = 1 from by decide]
  refine lv_aload_n hx hb dL_law_778 rfl (lv_at hl 6 rfl) ?_
  refine lv_iload hx hb dL_law_779 (lv_at hl 1 rfl) ?_
  refine lv_iconst (v := 2) hx hb dL_law_781 (by decide) ?_
  refine lv_iadd hx hb dL_law_782 ?_
  rw [show (0 + 2 : Int32) = 2 by decide +kernel]
  refine va_sld hx hb hX hbl hbA w.2.2.1 (vp_in_nI (n := 2) (by decide) (by decide)) dL_law_783 ?_
  rw [show Int32.toNatClampNeg 2 = 2 from by decide]
  have hM1 : FM ar κ (g_res (fun a9 => y ≤ a9 ∧ a9 < out) (g_ov (g_res (fun a9 => ¬ (a9 < y ∨ a9 = out)) G) u1.1)) y q2 0 := FM_mono hwM (fun a9 c9 h1 h2 h3 => g_res_i (show y ≤ a9 ∧ a9 < out from ⟨h1, by omega⟩) (g_ov_l (g_res_i (show ¬ (a9 < y ∨ a9 = out) by omega) h3)))
  refine gs_calli (g_res (fun a9 => ¬ (y ≤ a9 ∧ a9 < out)) (g_ov (g_res (fun a9 => ¬ (a9 < y ∨ a9 = out)) G) u1.1)) w (fun _ _ => g_res_s) (fun _ _ => g_res_2) (g_runV (As := [.int (xs 1), .int (xs 2)]) (rest := []) S hE (g_sub w (fun _ _ => g_res_s)) hl (m_compile l D ar κ (g_res (fun a9 => y ≤ a9 ∧ a9 < out) (g_ov (g_res (fun a9 => ¬ (a9 < y ∨ a9 = out)) G) u1.1)) u1.2 y (xs 1) (xs 2) q2 0 hM1) (k_RL_173 S.2.2.2.2 ⟨Nat.le_of_ble_eq_true rfl, Nat.le_of_ble_eq_true rfl⟩) hM1.2.1 rfl rfl rfl rfl (Nat.le_of_ble_eq_true rfl) dL_law_784 ⟨Nat.le_of_ble_eq_true rfl, Nat.le_of_ble_eq_true rfl⟩) (fun r2 u2 H locs hp2 hnz2 w => ?_)
  obtain ⟨hv2, fs, hy2, h72⟩ := hp2
  refine lv_istore (lv' := [(7, .int r2), (6, .int (K_meth (xs 1) (xs 2))), (5, .int 0), (4, .ref outD), (3, .ref out), (2, .ref y), (1, .ref x), (0, .ref b)]) hx hb dL_law_787 hl (by decide) rfl (fun ls hl => ?_)
  refine lv_aload_n hx hb dL_law_789 rfl (lv_at hl 5 rfl) ?_
  refine g_calli w (g_runV (As := []) (rest := []) S hE w hl (m_thrown l D ar κ (g_ov (g_res (fun a9 => ¬ (y ≤ a9 ∧ a9 < out)) (g_ov (g_res (fun a9 => ¬ (a9 < y ∨ a9 = out)) G) u1.1)) u2.1) u2.2 y fs (K_meth (xs 1) (xs 2)) (g_ov_r (g_res_n (fun h => h ⟨Nat.le_refl _, by omega⟩)) hy2) h72) (k_RL_139 S.2.2.2.2 ⟨Nat.le_of_ble_eq_true rfl, Nat.le_of_ble_eq_true rfl⟩) (g_ov_r (g_res_n (fun h => h ⟨Nat.le_refl _, by omega⟩)) hy2) rfl rfl rfl rfl (Nat.le_of_ble_eq_true rfl) dL_law_790 ⟨Nat.le_of_ble_eq_true rfl, Nat.le_of_ble_eq_true rfl⟩) (fun r u H locs hp hnz w => ?_)
  obtain ⟨rfl, rfl⟩ := hp
  refine lv_iload hx hb dL_law_793 (lv_at hl 1 rfl) ?_
  refine lv_icmp_eq (tgt := 800) hx hb dL_law_795 (by decide) (fun _ => ?_) (fun c => absurd rfl c)
  refine lv_iload hx hb dL_law_800 (lv_at hl 1 rfl) ?_
  refine lv_if_ne (tgt := 817) hx hb dL_law_802 (by decide) (fun c_802 => ?_) (fun c_802 => absurd c_802 K_meth_n)
  refine lv_goto (tgt := 2365) hx hb dL_law_817 (by decide) ?_
  exact W.widen (Nat.le_of_ble_eq_true rfl) (Nat.le_of_ble_eq_true rfl) (hend _ _ _ _ _ w (lv_sub hl [2, 7] rfl))
set_option maxHeartbeats 4000000 in
set_option maxRecDepth 100000 in
theorem lc_10 (hlt : l.stackTraces = false) (S : CallFix p m c cL_law 9 s #[.ref b] lwA RL) (hE : g_E D vwCl (gT ar) (EX1 κ) (fun q => s.heap.size ≤ q) s s.heap) (hX : va_X b 6 xs s s.heap) (hbl : b < s.heap.size) (w : g_S D vwCl (fun q => s.heap.size ≤ q) s.heap G H locs nz) (hw : LWs ar κ G x q1 y q2 out outD) (hl : lv_has ls 9 [(5, .int 0), (4, .ref outD), (3, .ref out), (2, .ref y), (1, .ref x), (0, .ref b)]) (hend : ∀ (H : Heap) (locs : List Loc) (ls : Array Slot) (G : gW) (nz : Nat), g_S D vwCl (fun q => s.heap.size ≤ q) s.heap G H locs nz → lv_has ls 9 [(5, .int 0), (0, .ref b)] → W p l e room_1 s m #[Value.ref b] below meth c H locs 400 9000 (lw_Z below #[Value.ref b] s) (F0 m 2365 ls [])) : W p l e room_1 s m #[Value.ref b] below meth c H locs 203 5000 (lw_Z below #[Value.ref b] s) (F0 m 820 ls []) := by
  have hx := S.1
  have hb := S.2.1
  have hbA : ¬ s.heap.size ≤ b := Nat.not_le.mpr hbl
  obtain ⟨hwF, hwM, hwo, hwoD, hw1, hw2, hw3⟩ := id hw
  have hwq : x < q1 := hwF.1
  have hwy : y < q2 := hwM.1
  refine lv_aload_n hx hb dL_law_820 rfl (lv_at hl 4 rfl) ?_
  refine lv_aload_n hx hb dL_law_821 rfl (lv_at hl 5 rfl) ?_
  refine lv_iload hx hb dL_law_822 (lv_at hl 0 rfl) ?_
  refine lv_iconst (v := 1) hx hb dL_law_824 (by decide) ?_
  refine lv_iadd hx hb dL_law_825 ?_
  rw [show (0 + 1 : Int32) = 1 by decide +kernel]
  refine va_sld hx hb hX hbl hbA w.2.2.1 (vp_in_nI (n := 1) (by decide) (by decide)) dL_law_826 ?_
  rw [show Int32.toNatClampNeg 1 = 1 from by decide]
  refine lv_aload_n hx hb dL_law_827 rfl (lv_at hl 5 rfl) ?_
  refine lv_iload hx hb dL_law_828 (lv_at hl 0 rfl) ?_
  refine lv_iconst (v := 2) hx hb dL_law_830 (by decide) ?_
  refine lv_iadd hx hb dL_law_831 ?_
  rw [show (0 + 2 : Int32) = 2 by decide +kernel]
  refine va_sld hx hb hX hbl hbA w.2.2.1 (vp_in_nI (n := 2) (by decide) (by decide)) dL_law_832 ?_
  rw [show Int32.toNatClampNeg 2 = 2 from by decide]
  refine lv_aload_n hx hb dL_law_833 rfl (lv_at hl 2 rfl) ?_
  have hF1 : FH ar κ (g_res (fun a9 => a9 < y ∨ a9 = out) G) x q1 := FH_mono hwF (fun a9 c9 h1 h2 => g_res_i (show a9 < y ∨ a9 = out from Or.inl (by omega)) h2)
  refine gs_calli (g_res (fun a9 => ¬ (a9 < y ∨ a9 = out)) G) w (fun _ _ => g_res_s) (fun _ _ => g_res_2) (g_runSW (As := [.ref x, .int (xs 1), .int (xs 2), .ref out]) (rest := []) S hE (g_sub w (fun _ _ => g_res_s)) hl (w_isCompiled l D ar κ (g_res (fun a9 => a9 < y ∨ a9 = out) G) nz x (xs 1) (xs 2) out q1 (fun _ => 0) hF1 (g_res_i (show out < y ∨ out = out from Or.inr rfl) hwo) (by omega) hlt) (kW_174 S.2.2.2.2 ⟨Nat.le_of_ble_eq_true rfl, Nat.le_of_ble_eq_true rfl⟩) rfl rfl (Nat.le_of_ble_eq_true rfl) dL_law_834 ⟨Nat.le_of_ble_eq_true rfl, Nat.le_of_ble_eq_true rfl⟩) (fun r u1 H locs hp1 hnz1 w => ?_)
  obtain rfl := hp1
  refine lv_istore (lv' := [(6, .int (K_meth (xs 1) (xs 2))), (5, .int 0), (4, .ref outD), (3, .ref out), (2, .ref y), (1, .ref x), (0, .ref b)]) hx hb dL_law_837 hl (by decide) rfl (fun ls hl => ?_)
  refine lv_aload_n hx hb dL_law_839 rfl (lv_at hl 4 rfl) ?_
  refine lv_aload_n hx hb dL_law_840 rfl (lv_at hl 6 rfl) ?_
  refine lv_iload hx hb dL_law_841 (lv_at hl 1 rfl) ?_
  refine lv_iconst (v := 1) hx hb dL_law_843 (by decide) ?_
  refine lv_iadd hx hb dL_law_844 ?_
  rw [show (0 + 1 : Int32) = 1 by decide +kernel]
  refine va_sld hx hb hX hbl hbA w.2.2.1 (vp_in_nI (n := 1) (by decide) (by decide)) dL_law_845 ?_
  rw [show Int32.toNatClampNeg 1 = 1 from by decide]
  refine lv_aload_n hx hb dL_law_846 rfl (lv_at hl 6 rfl) ?_
  refine lv_iload hx hb dL_law_847 (lv_at hl 1 rfl) ?_
  refine lv_iconst (v := 2) hx hb dL_law_849 (by decide) ?_
  refine lv_iadd hx hb dL_law_850 ?_
  rw [show (0 + 2 : Int32) = 2 by decide +kernel]
  refine va_sld hx hb hX hbl hbA w.2.2.1 (vp_in_nI (n := 2) (by decide) (by decide)) dL_law_851 ?_
  rw [show Int32.toNatClampNeg 2 = 2 from by decide]
  have hM1 : FM ar κ (g_res (fun a9 => y ≤ a9 ∧ a9 < out) (g_ov (g_res (fun a9 => ¬ (a9 < y ∨ a9 = out)) G) u1.1)) y q2 0 := FM_mono hwM (fun a9 c9 h1 h2 h3 => g_res_i (show y ≤ a9 ∧ a9 < out from ⟨h1, by omega⟩) (g_ov_l (g_res_i (show ¬ (a9 < y ∨ a9 = out) by omega) h3)))
  refine gs_calli (g_res (fun a9 => ¬ (y ≤ a9 ∧ a9 < out)) (g_ov (g_res (fun a9 => ¬ (a9 < y ∨ a9 = out)) G) u1.1)) w (fun _ _ => g_res_s) (fun _ _ => g_res_2) (g_runV (As := [.int (xs 1), .int (xs 2)]) (rest := []) S hE (g_sub w (fun _ _ => g_res_s)) hl (m_isCompiled l D ar κ (g_res (fun a9 => y ≤ a9 ∧ a9 < out) (g_ov (g_res (fun a9 => ¬ (a9 < y ∨ a9 = out)) G) u1.1)) u1.2 y (xs 1) (xs 2) q2 0 hM1) (k_RL_176 S.2.2.2.2 ⟨Nat.le_of_ble_eq_true rfl, Nat.le_of_ble_eq_true rfl⟩) hM1.2.1 rfl rfl rfl rfl (Nat.le_of_ble_eq_true rfl) dL_law_852 ⟨Nat.le_of_ble_eq_true rfl, Nat.le_of_ble_eq_true rfl⟩) (fun r2 u2 H locs hp2 hnz2 w => ?_)
  obtain ⟨hv2, fs, hy2, h72⟩ := hp2
  refine lv_istore (lv' := [(7, .int r2), (6, .int (K_meth (xs 1) (xs 2))), (5, .int 0), (4, .ref outD), (3, .ref out), (2, .ref y), (1, .ref x), (0, .ref b)]) hx hb dL_law_855 hl (by decide) rfl (fun ls hl => ?_)
  refine lv_aload_n hx hb dL_law_857 rfl (lv_at hl 5 rfl) ?_
  refine g_calli w (g_runV (As := []) (rest := []) S hE w hl (m_thrown l D ar κ (g_ov (g_res (fun a9 => ¬ (y ≤ a9 ∧ a9 < out)) (g_ov (g_res (fun a9 => ¬ (a9 < y ∨ a9 = out)) G) u1.1)) u2.1) u2.2 y fs (K_meth (xs 1) (xs 2)) (g_ov_r (g_res_n (fun h => h ⟨Nat.le_refl _, by omega⟩)) hy2) h72) (k_RL_139 S.2.2.2.2 ⟨Nat.le_of_ble_eq_true rfl, Nat.le_of_ble_eq_true rfl⟩) (g_ov_r (g_res_n (fun h => h ⟨Nat.le_refl _, by omega⟩)) hy2) rfl rfl rfl rfl (Nat.le_of_ble_eq_true rfl) dL_law_858 ⟨Nat.le_of_ble_eq_true rfl, Nat.le_of_ble_eq_true rfl⟩) (fun r u H locs hp hnz w => ?_)
  obtain ⟨rfl, rfl⟩ := hp
  refine lv_iload hx hb dL_law_861 (lv_at hl 1 rfl) ?_
  refine lv_icmp_eq (tgt := 868) hx hb dL_law_863 (by decide) (fun _ => ?_) (fun c => absurd rfl c)
  refine lv_iload hx hb dL_law_868 (lv_at hl 1 rfl) ?_
  refine lv_if_ne (tgt := 892) hx hb dL_law_870 (by decide) (fun c_870 => ?_) (fun c_870 => absurd c_870 K_meth_n)
  refine lv_goto (tgt := 2365) hx hb dL_law_892 (by decide) ?_
  exact W.widen (Nat.le_of_ble_eq_true rfl) (Nat.le_of_ble_eq_true rfl) (hend _ _ _ _ _ w (lv_sub hl [2, 7] rfl))
set_option maxHeartbeats 4000000 in
set_option maxRecDepth 100000 in
theorem lc_11 (hlt : l.stackTraces = false) (S : CallFix p m c cL_law 9 s #[.ref b] lwA RL) (hE : g_E D vwCl (gT ar) (EX1 κ) (fun q => s.heap.size ≤ q) s s.heap) (hX : va_X b 6 xs s s.heap) (hbl : b < s.heap.size) (w : g_S D vwCl (fun q => s.heap.size ≤ q) s.heap G H locs nz) (hw : LWs ar κ G x q1 y q2 out outD) (hl : lv_has ls 9 [(5, .int 0), (4, .ref outD), (3, .ref out), (2, .ref y), (1, .ref x), (0, .ref b)]) (hend : ∀ (H : Heap) (locs : List Loc) (ls : Array Slot) (G : gW) (nz : Nat), g_S D vwCl (fun q => s.heap.size ≤ q) s.heap G H locs nz → lv_has ls 9 [(5, .int 0), (0, .ref b)] → W p l e room_1 s m #[Value.ref b] below meth c H locs 400 9000 (lw_Z below #[Value.ref b] s) (F0 m 2365 ls [])) : W p l e room_1 s m #[Value.ref b] below meth c H locs 203 5000 (lw_Z below #[Value.ref b] s) (F0 m 895 ls []) := by
  have hx := S.1
  have hb := S.2.1
  have hbA : ¬ s.heap.size ≤ b := Nat.not_le.mpr hbl
  obtain ⟨hwF, hwM, hwo, hwoD, hw1, hw2, hw3⟩ := id hw
  have hwq : x < q1 := hwF.1
  have hwy : y < q2 := hwM.1
  refine lv_aload_n hx hb dL_law_895 rfl (lv_at hl 4 rfl) ?_
  refine lv_aload_n hx hb dL_law_896 rfl (lv_at hl 5 rfl) ?_
  refine lv_iload hx hb dL_law_897 (lv_at hl 0 rfl) ?_
  refine lv_iconst (v := 1) hx hb dL_law_899 (by decide) ?_
  refine lv_iadd hx hb dL_law_900 ?_
  rw [show (0 + 1 : Int32) = 1 by decide +kernel]
  refine va_sld hx hb hX hbl hbA w.2.2.1 (vp_in_nI (n := 1) (by decide) (by decide)) dL_law_901 ?_
  rw [show Int32.toNatClampNeg 1 = 1 from by decide]
  refine lv_aload_n hx hb dL_law_902 rfl (lv_at hl 2 rfl) ?_
  have hF1 : FH ar κ (g_res (fun a9 => a9 < y ∨ a9 = out) G) x q1 := FH_mono hwF (fun a9 c9 h1 h2 => g_res_i (show a9 < y ∨ a9 = out from Or.inl (by omega)) h2)
  refine gs_calli (g_res (fun a9 => ¬ (a9 < y ∨ a9 = out)) G) w (fun _ _ => g_res_s) (fun _ _ => g_res_2) (g_runSW (As := [.ref x, .int (xs 1), .ref out]) (rest := []) S hE (g_sub w (fun _ _ => g_res_s)) hl (w_hot l D ar κ (g_res (fun a9 => a9 < y ∨ a9 = out) G) nz x (xs 1) out q1 (fun _ => 0) hF1 (g_res_i (show out < y ∨ out = out from Or.inr rfl) hwo) (by omega) hlt) (kW_177 S.2.2.2.2 ⟨Nat.le_of_ble_eq_true rfl, Nat.le_of_ble_eq_true rfl⟩) rfl rfl (Nat.le_of_ble_eq_true rfl) dL_law_903 ⟨Nat.le_of_ble_eq_true rfl, Nat.le_of_ble_eq_true rfl⟩) (fun r u1 H locs hp1 hnz1 w => ?_)
  obtain ⟨rfl, ho1⟩ := hp1
  refine lv_istore (lv' := [(6, .int (K_hot (xs 1))), (5, .int 0), (4, .ref outD), (3, .ref out), (2, .ref y), (1, .ref x), (0, .ref b)]) hx hb dL_law_906 hl (by decide) rfl (fun ls hl => ?_)
  refine lv_aload_n hx hb dL_law_908 rfl (lv_at hl 4 rfl) ?_
  refine lv_aload_n hx hb dL_law_909 rfl (lv_at hl 6 rfl) ?_
  refine lv_iload hx hb dL_law_910 (lv_at hl 1 rfl) ?_
  refine lv_iconst (v := 1) hx hb dL_law_912 (by decide) ?_
  refine lv_iadd hx hb dL_law_913 ?_
  rw [show (0 + 1 : Int32) = 1 by decide +kernel]
  refine va_sld hx hb hX hbl hbA w.2.2.1 (vp_in_nI (n := 1) (by decide) (by decide)) dL_law_914 ?_
  rw [show Int32.toNatClampNeg 1 = 1 from by decide]
  have hM1 : FM ar κ (g_res (fun a9 => y ≤ a9 ∧ a9 < out) (g_ov (g_res (fun a9 => ¬ (a9 < y ∨ a9 = out)) G) u1.1)) y q2 0 := FM_mono hwM (fun a9 c9 h1 h2 h3 => g_res_i (show y ≤ a9 ∧ a9 < out from ⟨h1, by omega⟩) (g_ov_l (g_res_i (show ¬ (a9 < y ∨ a9 = out) by omega) h3)))
  refine gs_calli (g_res (fun a9 => ¬ (y ≤ a9 ∧ a9 < out)) (g_ov (g_res (fun a9 => ¬ (a9 < y ∨ a9 = out)) G) u1.1)) w (fun _ _ => g_res_s) (fun _ _ => g_res_2) (g_runV (As := [.int (xs 1)]) (rest := []) S hE (g_sub w (fun _ _ => g_res_s)) hl (m_hot l D ar κ (g_res (fun a9 => y ≤ a9 ∧ a9 < out) (g_ov (g_res (fun a9 => ¬ (a9 < y ∨ a9 = out)) G) u1.1)) u1.2 y (xs 1) q2 0 hM1) (k_RL_179 S.2.2.2.2 ⟨Nat.le_of_ble_eq_true rfl, Nat.le_of_ble_eq_true rfl⟩) hM1.2.1 rfl rfl rfl rfl (Nat.le_of_ble_eq_true rfl) dL_law_915 ⟨Nat.le_of_ble_eq_true rfl, Nat.le_of_ble_eq_true rfl⟩) (fun r2 u2 H locs hp2 hnz2 w => ?_)
  obtain ⟨hv2, fs, hy2, h72⟩ := hp2
  refine lv_istore (lv' := [(7, .int r2), (6, .int (K_hot (xs 1))), (5, .int 0), (4, .ref outD), (3, .ref out), (2, .ref y), (1, .ref x), (0, .ref b)]) hx hb dL_law_918 hl (by decide) rfl (fun ls hl => ?_)
  refine lv_aload_n hx hb dL_law_920 rfl (lv_at hl 5 rfl) ?_
  refine g_calli w (g_runV (As := []) (rest := []) S hE w hl (m_thrown l D ar κ (g_ov (g_res (fun a9 => ¬ (y ≤ a9 ∧ a9 < out)) (g_ov (g_res (fun a9 => ¬ (a9 < y ∨ a9 = out)) G) u1.1)) u2.1) u2.2 y fs (K_hot (xs 1)) (g_ov_r (g_res_n (fun h => h ⟨Nat.le_refl _, by omega⟩)) hy2) h72) (k_RL_139 S.2.2.2.2 ⟨Nat.le_of_ble_eq_true rfl, Nat.le_of_ble_eq_true rfl⟩) (g_ov_r (g_res_n (fun h => h ⟨Nat.le_refl _, by omega⟩)) hy2) rfl rfl rfl rfl (Nat.le_of_ble_eq_true rfl) dL_law_921 ⟨Nat.le_of_ble_eq_true rfl, Nat.le_of_ble_eq_true rfl⟩) (fun r u H locs hp hnz w => ?_)
  obtain ⟨rfl, rfl⟩ := hp
  refine lv_iload hx hb dL_law_924 (lv_at hl 1 rfl) ?_
  refine lv_icmp_eq (tgt := 931) hx hb dL_law_926 (by decide) (fun _ => ?_) (fun c => absurd rfl c)
  refine lv_iload hx hb dL_law_931 (lv_at hl 1 rfl) ?_
  refine lv_if_ne (tgt := 948) hx hb dL_law_933 (by decide) (fun c_933 => ?_) (fun c_933 => ?_)
  · refine lv_goto (tgt := 2365) hx hb dL_law_948 (by decide) ?_
    exact W.widen (Nat.le_of_ble_eq_true rfl) (Nat.le_of_ble_eq_true rfl) (hend _ _ _ _ _ w (lv_sub hl [2, 7] rfl))
  · refine lv_aload_n hx hb dL_law_936 rfl (lv_at hl 4 rfl) ?_
    refine lv_iconst (v := 0) hx hb dL_law_937 (by decide) ?_
    obtain ⟨g1, hg1, hg2⟩ := ho1 c_933
    obtain rfl := hv2 c_933
    refine va_lald hx hb hE.1 (g_1 w.1 (g_ov_l (g_res_i (show ¬ (y ≤ out ∧ out < out) by omega) (g_ov_r (g_res_n (show ¬ ¬ (out < y ∨ out = out) by omega)) hg1)))) 0 1 rfl rfl (vp_in_nI (n := 0) (by decide) (by decide)) dL_law_938 ?_
    rw [show g1 (Int32.toNatClampNeg 0) = 0 from hg2]
    refine lv_iload hx hb dL_law_939 (lv_at hl 0 rfl) ?_
    refine lv_i2l hx hb dL_law_941 rfl ?_
    rw [show ((0 : Int32)).toInt64 = 0 by decide +kernel]
    refine W.lcmp hx hb dL_law_942 ?_
    rw [show lg_cmp (0 : Int64) 0 = 0 from by decide +kernel]
    refine lv_if_eq (tgt := 948) hx hb dL_law_943 (by decide) (fun _ => ?_) (fun c => absurd (by decide) c)
    refine lv_goto (tgt := 2365) hx hb dL_law_948 (by decide) ?_
    exact W.widen (Nat.le_of_ble_eq_true rfl) (Nat.le_of_ble_eq_true rfl) (hend _ _ _ _ _ w (lv_sub hl [2, 7] rfl))
set_option maxHeartbeats 4000000 in
set_option maxRecDepth 100000 in
theorem lc_12 (hlt : l.stackTraces = false) (S : CallFix p m c cL_law 9 s #[.ref b] lwA RL) (hE : g_E D vwCl (gT ar) (EX1 κ) (fun q => s.heap.size ≤ q) s s.heap) (hX : va_X b 6 xs s s.heap) (hbl : b < s.heap.size) (w : g_S D vwCl (fun q => s.heap.size ≤ q) s.heap G H locs nz) (hw : LWs ar κ G x q1 y q2 out outD) (hl : lv_has ls 9 [(5, .int 0), (4, .ref outD), (3, .ref out), (2, .ref y), (1, .ref x), (0, .ref b)]) (hend : ∀ (H : Heap) (locs : List Loc) (ls : Array Slot) (G : gW) (nz : Nat), g_S D vwCl (fun q => s.heap.size ≤ q) s.heap G H locs nz → lv_has ls 9 [(5, .int 0), (0, .ref b)] → W p l e room_1 s m #[Value.ref b] below meth c H locs 400 9000 (lw_Z below #[Value.ref b] s) (F0 m 2365 ls [])) : W p l e room_1 s m #[Value.ref b] below meth c H locs 203 5000 (lw_Z below #[Value.ref b] s) (F0 m 951 ls []) := by
  have hx := S.1
  have hb := S.2.1
  have hbA : ¬ s.heap.size ≤ b := Nat.not_le.mpr hbl
  obtain ⟨hwF, hwM, hwo, hwoD, hw1, hw2, hw3⟩ := id hw
  have hwq : x < q1 := hwF.1
  have hwy : y < q2 := hwM.1
  refine lv_aload_n hx hb dL_law_951 rfl (lv_at hl 4 rfl) ?_
  refine lv_aload_n hx hb dL_law_952 rfl (lv_at hl 5 rfl) ?_
  refine lv_iload hx hb dL_law_953 (lv_at hl 0 rfl) ?_
  refine lv_iconst (v := 1) hx hb dL_law_955 (by decide) ?_
  refine lv_iadd hx hb dL_law_956 ?_
  rw [show (0 + 1 : Int32) = 1 by decide +kernel]
  refine va_sld hx hb hX hbl hbA w.2.2.1 (vp_in_nI (n := 1) (by decide) (by decide)) dL_law_957 ?_
  rw [show Int32.toNatClampNeg 1 = 1 from by decide]
  refine lv_aload_n hx hb dL_law_958 rfl (lv_at hl 5 rfl) ?_
  refine lv_iload hx hb dL_law_959 (lv_at hl 0 rfl) ?_
  refine lv_iconst (v := 2) hx hb dL_law_961 (by decide) ?_
  refine lv_iadd hx hb dL_law_962 ?_
  rw [show (0 + 2 : Int32) = 2 by decide +kernel]
  refine va_sld hx hb hX hbl hbA w.2.2.1 (vp_in_nI (n := 2) (by decide) (by decide)) dL_law_963 ?_
  rw [show Int32.toNatClampNeg 2 = 2 from by decide]
  refine lv_aload_n hx hb dL_law_964 rfl (lv_at hl 2 rfl) ?_
  have hF1 : FH ar κ (g_res (fun a9 => a9 < y ∨ a9 = out) G) x q1 := FH_mono hwF (fun a9 c9 h1 h2 => g_res_i (show a9 < y ∨ a9 = out from Or.inl (by omega)) h2)
  refine gs_calli (g_res (fun a9 => ¬ (a9 < y ∨ a9 = out)) G) w (fun _ _ => g_res_s) (fun _ _ => g_res_2) (g_runSW (As := [.ref x, .int (xs 1), .int (xs 2), .ref out]) (rest := []) S hE (g_sub w (fun _ _ => g_res_s)) hl (w_number l D ar κ (g_res (fun a9 => a9 < y ∨ a9 = out) G) nz x (xs 1) (xs 2) out q1 (fun _ => 0) hF1 (g_res_i (show out < y ∨ out = out from Or.inr rfl) hwo) (by omega) hlt) (kW_180 S.2.2.2.2 ⟨Nat.le_of_ble_eq_true rfl, Nat.le_of_ble_eq_true rfl⟩) rfl rfl (Nat.le_of_ble_eq_true rfl) dL_law_965 ⟨Nat.le_of_ble_eq_true rfl, Nat.le_of_ble_eq_true rfl⟩) (fun r u1 H locs hp1 hnz1 w => ?_)
  obtain ⟨rfl, ho1⟩ := hp1
  refine lv_istore (lv' := [(6, .int (K_gl (xs 1))), (5, .int 0), (4, .ref outD), (3, .ref out), (2, .ref y), (1, .ref x), (0, .ref b)]) hx hb dL_law_968 hl (by decide) rfl (fun ls hl => ?_)
  refine lv_aload_n hx hb dL_law_970 rfl (lv_at hl 4 rfl) ?_
  refine lv_aload_n hx hb dL_law_971 rfl (lv_at hl 6 rfl) ?_
  refine lv_iload hx hb dL_law_972 (lv_at hl 1 rfl) ?_
  refine lv_iconst (v := 1) hx hb dL_law_974 (by decide) ?_
  refine lv_iadd hx hb dL_law_975 ?_
  rw [show (0 + 1 : Int32) = 1 by decide +kernel]
  refine va_sld hx hb hX hbl hbA w.2.2.1 (vp_in_nI (n := 1) (by decide) (by decide)) dL_law_976 ?_
  rw [show Int32.toNatClampNeg 1 = 1 from by decide]
  refine lv_aload_n hx hb dL_law_977 rfl (lv_at hl 6 rfl) ?_
  refine lv_iload hx hb dL_law_978 (lv_at hl 1 rfl) ?_
  refine lv_iconst (v := 2) hx hb dL_law_980 (by decide) ?_
  refine lv_iadd hx hb dL_law_981 ?_
  rw [show (0 + 2 : Int32) = 2 by decide +kernel]
  refine va_sld hx hb hX hbl hbA w.2.2.1 (vp_in_nI (n := 2) (by decide) (by decide)) dL_law_982 ?_
  rw [show Int32.toNatClampNeg 2 = 2 from by decide]
  have hM1 : FM ar κ (g_res (fun a9 => y ≤ a9 ∧ a9 < out) (g_ov (g_res (fun a9 => ¬ (a9 < y ∨ a9 = out)) G) u1.1)) y q2 0 := FM_mono hwM (fun a9 c9 h1 h2 h3 => g_res_i (show y ≤ a9 ∧ a9 < out from ⟨h1, by omega⟩) (g_ov_l (g_res_i (show ¬ (a9 < y ∨ a9 = out) by omega) h3)))
  refine gs_calli (g_res (fun a9 => ¬ (y ≤ a9 ∧ a9 < out)) (g_ov (g_res (fun a9 => ¬ (a9 < y ∨ a9 = out)) G) u1.1)) w (fun _ _ => g_res_s) (fun _ _ => g_res_2) (g_runV (As := [.int (xs 1), .int (xs 2)]) (rest := []) S hE (g_sub w (fun _ _ => g_res_s)) hl (m_number l D ar κ (g_res (fun a9 => y ≤ a9 ∧ a9 < out) (g_ov (g_res (fun a9 => ¬ (a9 < y ∨ a9 = out)) G) u1.1)) u1.2 y (xs 1) (xs 2) q2 0 hM1) (k_RL_182 S.2.2.2.2 ⟨Nat.le_of_ble_eq_true rfl, Nat.le_of_ble_eq_true rfl⟩) hM1.2.1 rfl rfl rfl rfl (Nat.le_of_ble_eq_true rfl) dL_law_983 ⟨Nat.le_of_ble_eq_true rfl, Nat.le_of_ble_eq_true rfl⟩) (fun r2 u2 H locs hp2 hnz2 w => ?_)
  obtain ⟨hv2, fs, hy2, h72⟩ := hp2
  refine lv_istore (lv' := [(7, .int r2), (6, .int (K_gl (xs 1))), (5, .int 0), (4, .ref outD), (3, .ref out), (2, .ref y), (1, .ref x), (0, .ref b)]) hx hb dL_law_986 hl (by decide) rfl (fun ls hl => ?_)
  refine lv_aload_n hx hb dL_law_988 rfl (lv_at hl 5 rfl) ?_
  refine g_calli w (g_runV (As := []) (rest := []) S hE w hl (m_thrown l D ar κ (g_ov (g_res (fun a9 => ¬ (y ≤ a9 ∧ a9 < out)) (g_ov (g_res (fun a9 => ¬ (a9 < y ∨ a9 = out)) G) u1.1)) u2.1) u2.2 y fs (K_gl (xs 1)) (g_ov_r (g_res_n (fun h => h ⟨Nat.le_refl _, by omega⟩)) hy2) h72) (k_RL_139 S.2.2.2.2 ⟨Nat.le_of_ble_eq_true rfl, Nat.le_of_ble_eq_true rfl⟩) (g_ov_r (g_res_n (fun h => h ⟨Nat.le_refl _, by omega⟩)) hy2) rfl rfl rfl rfl (Nat.le_of_ble_eq_true rfl) dL_law_989 ⟨Nat.le_of_ble_eq_true rfl, Nat.le_of_ble_eq_true rfl⟩) (fun r u H locs hp hnz w => ?_)
  obtain ⟨rfl, rfl⟩ := hp
  refine lv_iload hx hb dL_law_992 (lv_at hl 1 rfl) ?_
  refine lv_icmp_eq (tgt := 999) hx hb dL_law_994 (by decide) (fun _ => ?_) (fun c => absurd rfl c)
  refine lv_iload hx hb dL_law_999 (lv_at hl 1 rfl) ?_
  refine lv_if_ne (tgt := 1016) hx hb dL_law_1001 (by decide) (fun c_1001 => ?_) (fun c_1001 => ?_)
  · refine lv_goto (tgt := 2365) hx hb dL_law_1016 (by decide) ?_
    exact W.widen (Nat.le_of_ble_eq_true rfl) (Nat.le_of_ble_eq_true rfl) (hend _ _ _ _ _ w (lv_sub hl [2, 7] rfl))
  · refine lv_aload_n hx hb dL_law_1004 rfl (lv_at hl 4 rfl) ?_
    refine lv_iconst (v := 0) hx hb dL_law_1005 (by decide) ?_
    obtain ⟨g1, hg1, hg2⟩ := ho1 c_1001
    obtain rfl := hv2 c_1001
    refine va_lald hx hb hE.1 (g_1 w.1 (g_ov_l (g_res_i (show ¬ (y ≤ out ∧ out < out) by omega) (g_ov_r (g_res_n (show ¬ ¬ (out < y ∨ out = out) by omega)) hg1)))) 0 1 rfl rfl (vp_in_nI (n := 0) (by decide) (by decide)) dL_law_1006 ?_
    rw [show g1 (Int32.toNatClampNeg 0) = 0 from hg2]
    refine lv_iload hx hb dL_law_1007 (lv_at hl 0 rfl) ?_
    refine lv_i2l hx hb dL_law_1009 rfl ?_
    rw [show ((0 : Int32)).toInt64 = 0 by decide +kernel]
    refine W.lcmp hx hb dL_law_1010 ?_
    rw [show lg_cmp (0 : Int64) 0 = 0 from by decide +kernel]
    refine lv_if_eq (tgt := 1016) hx hb dL_law_1011 (by decide) (fun _ => ?_) (fun c => absurd (by decide) c)
    refine lv_goto (tgt := 2365) hx hb dL_law_1016 (by decide) ?_
    exact W.widen (Nat.le_of_ble_eq_true rfl) (Nat.le_of_ble_eq_true rfl) (hend _ _ _ _ _ w (lv_sub hl [2, 7] rfl))
set_option maxHeartbeats 4000000 in
set_option maxRecDepth 100000 in
theorem lc_13 (hlt : l.stackTraces = false) (S : CallFix p m c cL_law 9 s #[.ref b] lwA RL) (hE : g_E D vwCl (gT ar) (EX1 κ) (fun q => s.heap.size ≤ q) s s.heap) (hX : va_X b 6 xs s s.heap) (hbl : b < s.heap.size) (w : g_S D vwCl (fun q => s.heap.size ≤ q) s.heap G H locs nz) (hw : LWs ar κ G x q1 y q2 out outD) (hl : lv_has ls 9 [(5, .int 0), (4, .ref outD), (3, .ref out), (2, .ref y), (1, .ref x), (0, .ref b)]) (hend : ∀ (H : Heap) (locs : List Loc) (ls : Array Slot) (G : gW) (nz : Nat), g_S D vwCl (fun q => s.heap.size ≤ q) s.heap G H locs nz → lv_has ls 9 [(5, .int 0), (0, .ref b)] → W p l e room_1 s m #[Value.ref b] below meth c H locs 400 9000 (lw_Z below #[Value.ref b] s) (F0 m 2365 ls [])) : W p l e room_1 s m #[Value.ref b] below meth c H locs 203 5000 (lw_Z below #[Value.ref b] s) (F0 m 1019 ls []) := by
  have hx := S.1
  have hb := S.2.1
  have hbA : ¬ s.heap.size ≤ b := Nat.not_le.mpr hbl
  obtain ⟨hwF, hwM, hwo, hwoD, hw1, hw2, hw3⟩ := id hw
  have hwq : x < q1 := hwF.1
  have hwy : y < q2 := hwM.1
  refine lv_aload_n hx hb dL_law_1019 rfl (lv_at hl 4 rfl) ?_
  refine lv_aload_n hx hb dL_law_1020 rfl (lv_at hl 5 rfl) ?_
  refine lv_iload hx hb dL_law_1021 (lv_at hl 0 rfl) ?_
  refine lv_iconst (v := 1) hx hb dL_law_1023 (by decide) ?_
  refine lv_iadd hx hb dL_law_1024 ?_
  rw [show (0 + 1 : Int32) = 1 by decide +kernel]
  refine va_sld hx hb hX hbl hbA w.2.2.1 (vp_in_nI (n := 1) (by decide) (by decide)) dL_law_1025 ?_
  rw [show Int32.toNatClampNeg 1 = 1 from by decide]
  refine lv_aload_n hx hb dL_law_1026 rfl (lv_at hl 2 rfl) ?_
  have hF1 : FH ar κ (g_res (fun a9 => a9 < y ∨ a9 = out) G) x q1 := FH_mono hwF (fun a9 c9 h1 h2 => g_res_i (show a9 < y ∨ a9 = out from Or.inl (by omega)) h2)
  refine gs_calli (g_res (fun a9 => ¬ (a9 < y ∨ a9 = out)) G) w (fun _ _ => g_res_s) (fun _ _ => g_res_2) (g_runSW (As := [.ref x, .int (xs 1), .ref out]) (rest := []) S hE (g_sub w (fun _ _ => g_res_s)) hl (w_nothing l D ar κ (g_res (fun a9 => a9 < y ∨ a9 = out) G) nz x (xs 1) out q1 (fun _ => 0) hF1 (g_res_i (show out < y ∨ out = out from Or.inr rfl) hwo) (by omega) hlt) (kW_183 S.2.2.2.2 ⟨Nat.le_of_ble_eq_true rfl, Nat.le_of_ble_eq_true rfl⟩) rfl rfl (Nat.le_of_ble_eq_true rfl) dL_law_1027 ⟨Nat.le_of_ble_eq_true rfl, Nat.le_of_ble_eq_true rfl⟩) (fun r u1 H locs hp1 hnz1 w => ?_)
  obtain ⟨rfl, ho1⟩ := hp1
  refine lv_istore (lv' := [(6, .int (K_gl (xs 1))), (5, .int 0), (4, .ref outD), (3, .ref out), (2, .ref y), (1, .ref x), (0, .ref b)]) hx hb dL_law_1030 hl (by decide) rfl (fun ls hl => ?_)
  refine lv_aload_n hx hb dL_law_1032 rfl (lv_at hl 4 rfl) ?_
  refine lv_aload_n hx hb dL_law_1033 rfl (lv_at hl 6 rfl) ?_
  refine lv_iload hx hb dL_law_1034 (lv_at hl 1 rfl) ?_
  refine lv_iconst (v := 1) hx hb dL_law_1036 (by decide) ?_
  refine lv_iadd hx hb dL_law_1037 ?_
  rw [show (0 + 1 : Int32) = 1 by decide +kernel]
  refine va_sld hx hb hX hbl hbA w.2.2.1 (vp_in_nI (n := 1) (by decide) (by decide)) dL_law_1038 ?_
  rw [show Int32.toNatClampNeg 1 = 1 from by decide]
  have hM1 : FM ar κ (g_res (fun a9 => y ≤ a9 ∧ a9 < out) (g_ov (g_res (fun a9 => ¬ (a9 < y ∨ a9 = out)) G) u1.1)) y q2 0 := FM_mono hwM (fun a9 c9 h1 h2 h3 => g_res_i (show y ≤ a9 ∧ a9 < out from ⟨h1, by omega⟩) (g_ov_l (g_res_i (show ¬ (a9 < y ∨ a9 = out) by omega) h3)))
  refine gs_calli (g_res (fun a9 => ¬ (y ≤ a9 ∧ a9 < out)) (g_ov (g_res (fun a9 => ¬ (a9 < y ∨ a9 = out)) G) u1.1)) w (fun _ _ => g_res_s) (fun _ _ => g_res_2) (g_runV (As := [.int (xs 1)]) (rest := []) S hE (g_sub w (fun _ _ => g_res_s)) hl (m_nothing l D ar κ (g_res (fun a9 => y ≤ a9 ∧ a9 < out) (g_ov (g_res (fun a9 => ¬ (a9 < y ∨ a9 = out)) G) u1.1)) u1.2 y (xs 1) q2 0 hM1) (k_RL_185 S.2.2.2.2 ⟨Nat.le_of_ble_eq_true rfl, Nat.le_of_ble_eq_true rfl⟩) hM1.2.1 rfl rfl rfl rfl (Nat.le_of_ble_eq_true rfl) dL_law_1039 ⟨Nat.le_of_ble_eq_true rfl, Nat.le_of_ble_eq_true rfl⟩) (fun r2 u2 H locs hp2 hnz2 w => ?_)
  obtain ⟨hv2, fs, hy2, h72⟩ := hp2
  refine lv_istore (lv' := [(7, .int r2), (6, .int (K_gl (xs 1))), (5, .int 0), (4, .ref outD), (3, .ref out), (2, .ref y), (1, .ref x), (0, .ref b)]) hx hb dL_law_1042 hl (by decide) rfl (fun ls hl => ?_)
  refine lv_aload_n hx hb dL_law_1044 rfl (lv_at hl 5 rfl) ?_
  refine g_calli w (g_runV (As := []) (rest := []) S hE w hl (m_thrown l D ar κ (g_ov (g_res (fun a9 => ¬ (y ≤ a9 ∧ a9 < out)) (g_ov (g_res (fun a9 => ¬ (a9 < y ∨ a9 = out)) G) u1.1)) u2.1) u2.2 y fs (K_gl (xs 1)) (g_ov_r (g_res_n (fun h => h ⟨Nat.le_refl _, by omega⟩)) hy2) h72) (k_RL_139 S.2.2.2.2 ⟨Nat.le_of_ble_eq_true rfl, Nat.le_of_ble_eq_true rfl⟩) (g_ov_r (g_res_n (fun h => h ⟨Nat.le_refl _, by omega⟩)) hy2) rfl rfl rfl rfl (Nat.le_of_ble_eq_true rfl) dL_law_1045 ⟨Nat.le_of_ble_eq_true rfl, Nat.le_of_ble_eq_true rfl⟩) (fun r u H locs hp hnz w => ?_)
  obtain ⟨rfl, rfl⟩ := hp
  refine lv_iload hx hb dL_law_1048 (lv_at hl 1 rfl) ?_
  refine lv_icmp_eq (tgt := 1055) hx hb dL_law_1050 (by decide) (fun _ => ?_) (fun c => absurd rfl c)
  refine lv_iload hx hb dL_law_1055 (lv_at hl 1 rfl) ?_
  refine lv_if_ne (tgt := 1072) hx hb dL_law_1057 (by decide) (fun c_1057 => ?_) (fun c_1057 => ?_)
  · refine lv_goto (tgt := 2365) hx hb dL_law_1072 (by decide) ?_
    exact W.widen (Nat.le_of_ble_eq_true rfl) (Nat.le_of_ble_eq_true rfl) (hend _ _ _ _ _ w (lv_sub hl [2, 7] rfl))
  · refine lv_aload_n hx hb dL_law_1060 rfl (lv_at hl 4 rfl) ?_
    refine lv_iconst (v := 0) hx hb dL_law_1061 (by decide) ?_
    obtain ⟨g1, hg1, hg2⟩ := ho1 c_1057
    obtain rfl := hv2 c_1057
    refine va_lald hx hb hE.1 (g_1 w.1 (g_ov_l (g_res_i (show ¬ (y ≤ out ∧ out < out) by omega) (g_ov_r (g_res_n (show ¬ ¬ (out < y ∨ out = out) by omega)) hg1)))) 0 1 rfl rfl (vp_in_nI (n := 0) (by decide) (by decide)) dL_law_1062 ?_
    rw [show g1 (Int32.toNatClampNeg 0) = 0 from hg2]
    refine lv_iload hx hb dL_law_1063 (lv_at hl 0 rfl) ?_
    refine lv_i2l hx hb dL_law_1065 rfl ?_
    rw [show ((0 : Int32)).toInt64 = 0 by decide +kernel]
    refine W.lcmp hx hb dL_law_1066 ?_
    rw [show lg_cmp (0 : Int64) 0 = 0 from by decide +kernel]
    refine lv_if_eq (tgt := 1072) hx hb dL_law_1067 (by decide) (fun _ => ?_) (fun c => absurd (by decide) c)
    refine lv_goto (tgt := 2365) hx hb dL_law_1072 (by decide) ?_
    exact W.widen (Nat.le_of_ble_eq_true rfl) (Nat.le_of_ble_eq_true rfl) (hend _ _ _ _ _ w (lv_sub hl [2, 7] rfl))
end LAWC
