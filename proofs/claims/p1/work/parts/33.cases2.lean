section LAWC
variable {p : Program} {l : Launch} {e : Env} {s : State} {m : MethodId} {below : List Frame} {meth : Method} {c : Code} {b L : Nat} {xs : Nat → Int32} {D : va_G} {ar : Nat → ClassId} {κ : Nat → Nat} {H : Heap} {locs : List Loc} {G : gW} {nz x q1 y q2 out outD : Nat} {ls : Array Slot}
set_option maxHeartbeats 4000000 in
set_option maxRecDepth 100000 in
theorem lc_28 (hlt : l.stackTraces = false) (S : CallFix p m c cL_law 9 s #[.ref b] lwA RL) (hE : g_E D vwCl (gT ar) (EX1 κ) (fun q => s.heap.size ≤ q) s s.heap) (hX : va_X b 6 xs s s.heap) (hbl : b < s.heap.size) (w : g_S D vwCl (fun q => s.heap.size ≤ q) s.heap G H locs nz) (hw : LWs ar κ G x q1 y q2 out outD) (hl : lv_has ls 9 [(5, .int 0), (4, .ref outD), (3, .ref out), (2, .ref y), (1, .ref x), (0, .ref b)]) (hend : ∀ (H : Heap) (locs : List Loc) (ls : Array Slot) (G : gW) (nz : Nat), g_S D vwCl (fun q => s.heap.size ≤ q) s.heap G H locs nz → lv_has ls 9 [(5, .int 0), (0, .ref b)] → W p l e room_1 s m #[Value.ref b] below meth c H locs 400 9000 (lw_Z below #[Value.ref b] s) (F0 m 2365 ls [])) : W p l e room_1 s m #[Value.ref b] below meth c H locs 203 5000 (lw_Z below #[Value.ref b] s) (F0 m 1778 ls []) := by
  have hx := S.1
  have hb := S.2.1
  have hbA : ¬ s.heap.size ≤ b := Nat.not_le.mpr hbl
  obtain ⟨hwF, hwM, hwo, hwoD, hw1, hw2, hw3⟩ := id hw
  have hwq : x < q1 := hwF.1
  have hwy : y < q2 := hwM.1
  refine lv_aload_n hx hb dL_law_1778 rfl (lv_at hl 4 rfl) ?_
  refine lv_aload_n hx hb dL_law_1779 rfl (lv_at hl 2 rfl) ?_
  have hF1 : FH ar κ (g_res (fun a9 => a9 < y ∨ a9 = out) G) x q1 := FH_mono hwF (fun a9 c9 h1 h2 => g_res_i (show a9 < y ∨ a9 = out from Or.inl (by omega)) h2)
  refine gs_calli (g_res (fun a9 => ¬ (a9 < y ∨ a9 = out)) G) w (fun _ _ => g_res_s) (fun _ _ => g_res_2) (g_runSW (As := [.ref x, .ref out]) (rest := []) S hE (g_sub w (fun _ _ => g_res_s)) hl (w_answer l D ar κ (g_res (fun a9 => a9 < y ∨ a9 = out) G) nz x out q1 (fun _ => 0) hF1 (g_res_i (show out < y ∨ out = out from Or.inr rfl) hwo) (by omega) hlt) (kW_233 S.2.2.2.2 ⟨Nat.le_of_ble_eq_true rfl, Nat.le_of_ble_eq_true rfl⟩) rfl rfl (Nat.le_of_ble_eq_true rfl) dL_law_1780 ⟨Nat.le_of_ble_eq_true rfl, Nat.le_of_ble_eq_true rfl⟩) (fun r u1 H locs hp1 hnz1 w => ?_)
  obtain rfl := hp1
  refine lv_istore (lv' := [(6, .int 1), (5, .int 0), (4, .ref outD), (3, .ref out), (2, .ref y), (1, .ref x), (0, .ref b)]) hx hb dL_law_1783 hl (by decide) rfl (fun ls hl => ?_)
  refine lv_aload_n hx hb dL_law_1785 rfl (lv_at hl 4 rfl) ?_
  have hM1 : FM ar κ (g_res (fun a9 => y ≤ a9 ∧ a9 < out) (g_ov (g_res (fun a9 => ¬ (a9 < y ∨ a9 = out)) G) u1.1)) y q2 0 := FM_mono hwM (fun a9 c9 h1 h2 h3 => g_res_i (show y ≤ a9 ∧ a9 < out from ⟨h1, by omega⟩) (g_ov_l (g_res_i (show ¬ (a9 < y ∨ a9 = out) by omega) h3)))
  refine gs_calli (g_res (fun a9 => ¬ (y ≤ a9 ∧ a9 < out)) (g_ov (g_res (fun a9 => ¬ (a9 < y ∨ a9 = out)) G) u1.1)) w (fun _ _ => g_res_s) (fun _ _ => g_res_2) (g_runV (As := []) (rest := []) S hE (g_sub w (fun _ _ => g_res_s)) hl (m_answer l D ar κ (g_res (fun a9 => y ≤ a9 ∧ a9 < out) (g_ov (g_res (fun a9 => ¬ (a9 < y ∨ a9 = out)) G) u1.1)) u1.2 y q2 0 hM1) (k_RL_235 S.2.2.2.2 ⟨Nat.le_of_ble_eq_true rfl, Nat.le_of_ble_eq_true rfl⟩) hM1.2.1 rfl rfl rfl rfl (Nat.le_of_ble_eq_true rfl) dL_law_1786 ⟨Nat.le_of_ble_eq_true rfl, Nat.le_of_ble_eq_true rfl⟩) (fun r2 u2 H locs hp2 hnz2 w => ?_)
  obtain ⟨hv2, fs, hy2, h72⟩ := hp2
  refine lv_istore (lv' := [(7, .int r2), (6, .int 1), (5, .int 0), (4, .ref outD), (3, .ref out), (2, .ref y), (1, .ref x), (0, .ref b)]) hx hb dL_law_1789 hl (by decide) rfl (fun ls hl => ?_)
  refine lv_aload_n hx hb dL_law_1791 rfl (lv_at hl 5 rfl) ?_
  refine g_calli w (g_runV (As := []) (rest := []) S hE w hl (m_thrown l D ar κ (g_ov (g_res (fun a9 => ¬ (y ≤ a9 ∧ a9 < out)) (g_ov (g_res (fun a9 => ¬ (a9 < y ∨ a9 = out)) G) u1.1)) u2.1) u2.2 y fs (1) (g_ov_r (g_res_n (fun h => h ⟨Nat.le_refl _, by omega⟩)) hy2) h72) (k_RL_139 S.2.2.2.2 ⟨Nat.le_of_ble_eq_true rfl, Nat.le_of_ble_eq_true rfl⟩) (g_ov_r (g_res_n (fun h => h ⟨Nat.le_refl _, by omega⟩)) hy2) rfl rfl rfl rfl (Nat.le_of_ble_eq_true rfl) dL_law_1792 ⟨Nat.le_of_ble_eq_true rfl, Nat.le_of_ble_eq_true rfl⟩) (fun r u H locs hp hnz w => ?_)
  obtain ⟨rfl, rfl⟩ := hp
  refine lv_iload hx hb dL_law_1795 (lv_at hl 1 rfl) ?_
  refine lv_icmp_eq (tgt := 1802) hx hb dL_law_1797 (by decide) (fun _ => ?_) (fun c => absurd (by decide) c)
  refine lv_iload hx hb dL_law_1802 (lv_at hl 1 rfl) ?_
  refine lv_if_ne (tgt := 1819) hx hb dL_law_1804 (by decide) (fun _ => ?_) (fun c => absurd c (by decide))
  refine lv_goto (tgt := 2365) hx hb dL_law_1819 (by decide) ?_
  exact W.widen (Nat.le_of_ble_eq_true rfl) (Nat.le_of_ble_eq_true rfl) (hend _ _ _ _ _ w (lv_sub hl [2, 7] rfl))
set_option maxHeartbeats 4000000 in
set_option maxRecDepth 100000 in
theorem lc_29 (hlt : l.stackTraces = false) (S : CallFix p m c cL_law 9 s #[.ref b] lwA RL) (hE : g_E D vwCl (gT ar) (EX1 κ) (fun q => s.heap.size ≤ q) s s.heap) (hX : va_X b 6 xs s s.heap) (hbl : b < s.heap.size) (w : g_S D vwCl (fun q => s.heap.size ≤ q) s.heap G H locs nz) (hw : LWs ar κ G x q1 y q2 out outD) (hl : lv_has ls 9 [(5, .int 0), (4, .ref outD), (3, .ref out), (2, .ref y), (1, .ref x), (0, .ref b)]) (hend : ∀ (H : Heap) (locs : List Loc) (ls : Array Slot) (G : gW) (nz : Nat), g_S D vwCl (fun q => s.heap.size ≤ q) s.heap G H locs nz → lv_has ls 9 [(5, .int 0), (0, .ref b)] → W p l e room_1 s m #[Value.ref b] below meth c H locs 400 9000 (lw_Z below #[Value.ref b] s) (F0 m 2365 ls [])) : W p l e room_1 s m #[Value.ref b] below meth c H locs 203 5000 (lw_Z below #[Value.ref b] s) (F0 m 1822 ls []) := by
  have hx := S.1
  have hb := S.2.1
  have hbA : ¬ s.heap.size ≤ b := Nat.not_le.mpr hbl
  obtain ⟨hwF, hwM, hwo, hwoD, hw1, hw2, hw3⟩ := id hw
  have hwq : x < q1 := hwF.1
  have hwy : y < q2 := hwM.1
  refine lv_aload_n hx hb dL_law_1822 rfl (lv_at hl 4 rfl) ?_
  have hF1 : FH ar κ (g_res (fun a9 => a9 < y) G) x q1 := FH_mono hwF (fun a9 c9 h1 h2 => g_res_i (show a9 < y by omega) h2)
  refine gs_calli (g_res (fun a9 => ¬ (a9 < y)) G) w (fun _ _ => g_res_s) (fun _ _ => g_res_2) (g_runV (As := []) (rest := []) S hE (g_sub w (fun _ _ => g_res_s)) hl (h_steps l D ar κ (g_res (fun a9 => a9 < y) G) nz x q1 hF1) (k_RL_236 S.2.2.2.2 ⟨Nat.le_of_ble_eq_true rfl, Nat.le_of_ble_eq_true rfl⟩) hF1.2.1 rfl rfl rfl rfl (Nat.le_of_ble_eq_true rfl) dL_law_1823 ⟨Nat.le_of_ble_eq_true rfl, Nat.le_of_ble_eq_true rfl⟩) (fun r u1 H locs hp1 hnz1 w => ?_)
  obtain rfl := hp1
  refine lv_aload_n hx hb dL_law_1826 rfl (lv_at hl 3 rfl) ?_
  have hM1 : FM ar κ (g_res (fun a9 => y ≤ a9 ∧ a9 < out) (g_ov (g_res (fun a9 => ¬ (a9 < y)) G) u1.1)) y q2 0 := FM_mono hwM (fun a9 c9 h1 h2 h3 => g_res_i (show y ≤ a9 ∧ a9 < out from ⟨h1, by omega⟩) (g_ov_l (g_res_i (show ¬ (a9 < y) by omega) h3)))
  refine gs_calli (g_res (fun a9 => ¬ (y ≤ a9 ∧ a9 < out)) (g_ov (g_res (fun a9 => ¬ (a9 < y)) G) u1.1)) w (fun _ _ => g_res_s) (fun _ _ => g_res_2) (g_runV (As := []) (rest := [.int 0]) S hE (g_sub w (fun _ _ => g_res_s)) hl (m_steps l D ar κ (g_res (fun a9 => y ≤ a9 ∧ a9 < out) (g_ov (g_res (fun a9 => ¬ (a9 < y)) G) u1.1)) u1.2 y q2 0 hM1) (k_RL_239 S.2.2.2.2 ⟨Nat.le_of_ble_eq_true rfl, Nat.le_of_ble_eq_true rfl⟩) hM1.2.1 rfl rfl rfl rfl (Nat.le_of_ble_eq_true rfl) dL_law_1827 ⟨Nat.le_of_ble_eq_true rfl, Nat.le_of_ble_eq_true rfl⟩) (fun r2 u2 H locs hp2 hnz2 w => ?_)
  obtain rfl := hp2
  refine lv_icmp_eq (tgt := 2365) hx hb dL_law_1830 (by decide) (fun _ => ?_) (fun c => absurd (by decide) c)
  exact W.widen (Nat.le_of_ble_eq_true rfl) (Nat.le_of_ble_eq_true rfl) (hend _ _ _ _ _ w (lv_sub hl [0, 5] rfl))
set_option maxHeartbeats 4000000 in
set_option maxRecDepth 100000 in
theorem lc_30 (hlt : l.stackTraces = false) (S : CallFix p m c cL_law 9 s #[.ref b] lwA RL) (hE : g_E D vwCl (gT ar) (EX1 κ) (fun q => s.heap.size ≤ q) s s.heap) (hX : va_X b 6 xs s s.heap) (hbl : b < s.heap.size) (w : g_S D vwCl (fun q => s.heap.size ≤ q) s.heap G H locs nz) (hw : LWs ar κ G x q1 y q2 out outD) (hl : lv_has ls 9 [(5, .int 0), (4, .ref outD), (3, .ref out), (2, .ref y), (1, .ref x), (0, .ref b)]) (hend : ∀ (H : Heap) (locs : List Loc) (ls : Array Slot) (G : gW) (nz : Nat), g_S D vwCl (fun q => s.heap.size ≤ q) s.heap G H locs nz → lv_has ls 9 [(5, .int 0), (0, .ref b)] → W p l e room_1 s m #[Value.ref b] below meth c H locs 400 9000 (lw_Z below #[Value.ref b] s) (F0 m 2365 ls [])) : W p l e room_1 s m #[Value.ref b] below meth c H locs 203 5000 (lw_Z below #[Value.ref b] s) (F0 m 1835 ls []) := by
  have hx := S.1
  have hb := S.2.1
  have hbA : ¬ s.heap.size ≤ b := Nat.not_le.mpr hbl
  obtain ⟨hwF, hwM, hwo, hwoD, hw1, hw2, hw3⟩ := id hw
  have hwq : x < q1 := hwF.1
  have hwy : y < q2 := hwM.1
  refine lv_aload_n hx hb dL_law_1835 rfl (lv_at hl 4 rfl) ?_
  have hF1 : FH ar κ (g_res (fun a9 => a9 < y) G) x q1 := FH_mono hwF (fun a9 c9 h1 h2 => g_res_i (show a9 < y by omega) h2)
  refine gs_calli (g_res (fun a9 => ¬ (a9 < y)) G) w (fun _ _ => g_res_s) (fun _ _ => g_res_2) (g_runV (As := []) (rest := []) S hE (g_sub w (fun _ _ => g_res_s)) hl (h_frames l D ar κ (g_res (fun a9 => a9 < y) G) nz x q1 hF1) (k_RL_240 S.2.2.2.2 ⟨Nat.le_of_ble_eq_true rfl, Nat.le_of_ble_eq_true rfl⟩) hF1.2.1 rfl rfl rfl rfl (Nat.le_of_ble_eq_true rfl) dL_law_1836 ⟨Nat.le_of_ble_eq_true rfl, Nat.le_of_ble_eq_true rfl⟩) (fun r u1 H locs hp1 hnz1 w => ?_)
  obtain rfl := hp1
  refine lv_aload_n hx hb dL_law_1839 rfl (lv_at hl 3 rfl) ?_
  have hM1 : FM ar κ (g_res (fun a9 => y ≤ a9 ∧ a9 < out) (g_ov (g_res (fun a9 => ¬ (a9 < y)) G) u1.1)) y q2 0 := FM_mono hwM (fun a9 c9 h1 h2 h3 => g_res_i (show y ≤ a9 ∧ a9 < out from ⟨h1, by omega⟩) (g_ov_l (g_res_i (show ¬ (a9 < y) by omega) h3)))
  refine gs_calli (g_res (fun a9 => ¬ (y ≤ a9 ∧ a9 < out)) (g_ov (g_res (fun a9 => ¬ (a9 < y)) G) u1.1)) w (fun _ _ => g_res_s) (fun _ _ => g_res_2) (g_runV (As := []) (rest := [.int 0]) S hE (g_sub w (fun _ _ => g_res_s)) hl (m_frames l D ar κ (g_res (fun a9 => y ≤ a9 ∧ a9 < out) (g_ov (g_res (fun a9 => ¬ (a9 < y)) G) u1.1)) u1.2 y q2 0 hM1) (k_RL_243 S.2.2.2.2 ⟨Nat.le_of_ble_eq_true rfl, Nat.le_of_ble_eq_true rfl⟩) hM1.2.1 rfl rfl rfl rfl (Nat.le_of_ble_eq_true rfl) dL_law_1840 ⟨Nat.le_of_ble_eq_true rfl, Nat.le_of_ble_eq_true rfl⟩) (fun r2 u2 H locs hp2 hnz2 w => ?_)
  obtain rfl := hp2
  refine lv_icmp_eq (tgt := 2365) hx hb dL_law_1843 (by decide) (fun _ => ?_) (fun c => absurd (by decide) c)
  exact W.widen (Nat.le_of_ble_eq_true rfl) (Nat.le_of_ble_eq_true rfl) (hend _ _ _ _ _ w (lv_sub hl [0, 5] rfl))
set_option maxHeartbeats 4000000 in
set_option maxRecDepth 100000 in
theorem lc_31 (hlt : l.stackTraces = false) (S : CallFix p m c cL_law 9 s #[.ref b] lwA RL) (hE : g_E D vwCl (gT ar) (EX1 κ) (fun q => s.heap.size ≤ q) s s.heap) (hX : va_X b 6 xs s s.heap) (hbl : b < s.heap.size) (w : g_S D vwCl (fun q => s.heap.size ≤ q) s.heap G H locs nz) (hw : LWs ar κ G x q1 y q2 out outD) (hl : lv_has ls 9 [(5, .int 0), (4, .ref outD), (3, .ref out), (2, .ref y), (1, .ref x), (0, .ref b)]) (hend : ∀ (H : Heap) (locs : List Loc) (ls : Array Slot) (G : gW) (nz : Nat), g_S D vwCl (fun q => s.heap.size ≤ q) s.heap G H locs nz → lv_has ls 9 [(5, .int 0), (0, .ref b)] → W p l e room_1 s m #[Value.ref b] below meth c H locs 400 9000 (lw_Z below #[Value.ref b] s) (F0 m 2365 ls [])) : W p l e room_1 s m #[Value.ref b] below meth c H locs 203 5000 (lw_Z below #[Value.ref b] s) (F0 m 1848 ls []) := by
  have hx := S.1
  have hb := S.2.1
  have hbA : ¬ s.heap.size ≤ b := Nat.not_le.mpr hbl
  obtain ⟨hwF, hwM, hwo, hwoD, hw1, hw2, hw3⟩ := id hw
  have hwq : x < q1 := hwF.1
  have hwy : y < q2 := hwM.1
  refine lv_aload_n hx hb dL_law_1848 rfl (lv_at hl 4 rfl) ?_
  refine lv_aload_n hx hb dL_law_1849 rfl (lv_at hl 5 rfl) ?_
  refine lv_iload hx hb dL_law_1850 (lv_at hl 0 rfl) ?_
  refine lv_iconst (v := 1) hx hb dL_law_1852 (by decide) ?_
  refine lv_iadd hx hb dL_law_1853 ?_
  rw [show (0 + 1 : Int32) = 1 by decide +kernel]
  refine va_sld hx hb hX hbl hbA w.2.2.1 (vp_in_nI (n := 1) (by decide) (by decide)) dL_law_1854 ?_
  rw [show Int32.toNatClampNeg 1 = 1 from by decide]
  refine lv_aload_n hx hb dL_law_1855 rfl (lv_at hl 5 rfl) ?_
  refine lv_iload hx hb dL_law_1856 (lv_at hl 0 rfl) ?_
  refine lv_iconst (v := 2) hx hb dL_law_1858 (by decide) ?_
  refine lv_iadd hx hb dL_law_1859 ?_
  rw [show (0 + 2 : Int32) = 2 by decide +kernel]
  refine va_sld hx hb hX hbl hbA w.2.2.1 (vp_in_nI (n := 2) (by decide) (by decide)) dL_law_1860 ?_
  rw [show Int32.toNatClampNeg 2 = 2 from by decide]
  refine lv_i2c hx hb dL_law_1861 rfl ?_
  refine lv_aload_n hx hb dL_law_1862 rfl (lv_at hl 2 rfl) ?_
  have hF1 : FH ar κ (g_res (fun a9 => a9 < y ∨ a9 = out) G) x q1 := FH_mono hwF (fun a9 c9 h1 h2 => g_res_i (show a9 < y ∨ a9 = out from Or.inl (by omega)) h2)
  refine gs_calli (g_res (fun a9 => ¬ (a9 < y ∨ a9 = out)) G) w (fun _ _ => g_res_s) (fun _ _ => g_res_2) (g_runSW (As := [.ref x, .int (xs 1), .int (((xs 2).toUInt32 % 65536).toInt32), .ref out]) (rest := []) S hE (g_sub w (fun _ _ => g_res_s)) hl (w_frame l D ar κ (g_res (fun a9 => a9 < y ∨ a9 = out) G) nz x (xs 1) (((xs 2).toUInt32 % 65536).toInt32) out q1 (fun _ => 0) hF1 (g_res_i (show out < y ∨ out = out from Or.inr rfl) hwo) (by omega) hlt) (kW_244 S.2.2.2.2 ⟨Nat.le_of_ble_eq_true rfl, Nat.le_of_ble_eq_true rfl⟩) rfl rfl (Nat.le_of_ble_eq_true rfl) dL_law_1863 ⟨Nat.le_of_ble_eq_true rfl, Nat.le_of_ble_eq_true rfl⟩) (fun r u1 H locs hp1 hnz1 w => ?_)
  obtain rfl := hp1
  refine lv_istore (lv' := [(6, .int 1), (5, .int 0), (4, .ref outD), (3, .ref out), (2, .ref y), (1, .ref x), (0, .ref b)]) hx hb dL_law_1866 hl (by decide) rfl (fun ls hl => ?_)
  refine lv_aload_n hx hb dL_law_1868 rfl (lv_at hl 4 rfl) ?_
  refine lv_aload_n hx hb dL_law_1869 rfl (lv_at hl 6 rfl) ?_
  refine lv_iload hx hb dL_law_1870 (lv_at hl 1 rfl) ?_
  refine lv_iconst (v := 1) hx hb dL_law_1872 (by decide) ?_
  refine lv_iadd hx hb dL_law_1873 ?_
  rw [show (0 + 1 : Int32) = 1 by decide +kernel]
  refine va_sld hx hb hX hbl hbA w.2.2.1 (vp_in_nI (n := 1) (by decide) (by decide)) dL_law_1874 ?_
  rw [show Int32.toNatClampNeg 1 = 1 from by decide]
  refine lv_aload_n hx hb dL_law_1875 rfl (lv_at hl 6 rfl) ?_
  refine lv_iload hx hb dL_law_1876 (lv_at hl 1 rfl) ?_
  refine lv_iconst (v := 2) hx hb dL_law_1878 (by decide) ?_
  refine lv_iadd hx hb dL_law_1879 ?_
  rw [show (0 + 2 : Int32) = 2 by decide +kernel]
  refine va_sld hx hb hX hbl hbA w.2.2.1 (vp_in_nI (n := 2) (by decide) (by decide)) dL_law_1880 ?_
  rw [show Int32.toNatClampNeg 2 = 2 from by decide]
  refine lv_i2c hx hb dL_law_1881 rfl ?_
  have hM1 : FM ar κ (g_res (fun a9 => y ≤ a9 ∧ a9 < out) (g_ov (g_res (fun a9 => ¬ (a9 < y ∨ a9 = out)) G) u1.1)) y q2 0 := FM_mono hwM (fun a9 c9 h1 h2 h3 => g_res_i (show y ≤ a9 ∧ a9 < out from ⟨h1, by omega⟩) (g_ov_l (g_res_i (show ¬ (a9 < y ∨ a9 = out) by omega) h3)))
  refine gs_calli (g_res (fun a9 => ¬ (y ≤ a9 ∧ a9 < out)) (g_ov (g_res (fun a9 => ¬ (a9 < y ∨ a9 = out)) G) u1.1)) w (fun _ _ => g_res_s) (fun _ _ => g_res_2) (g_runV (As := [.int (xs 1), .int (((xs 2).toUInt32 % 65536).toInt32)]) (rest := []) S hE (g_sub w (fun _ _ => g_res_s)) hl (m_frame l D ar κ (g_res (fun a9 => y ≤ a9 ∧ a9 < out) (g_ov (g_res (fun a9 => ¬ (a9 < y ∨ a9 = out)) G) u1.1)) u1.2 y (xs 1) (((xs 2).toUInt32 % 65536).toInt32) q2 0 hM1) (k_RL_247 S.2.2.2.2 ⟨Nat.le_of_ble_eq_true rfl, Nat.le_of_ble_eq_true rfl⟩) hM1.2.1 rfl rfl rfl rfl (Nat.le_of_ble_eq_true rfl) dL_law_1882 ⟨Nat.le_of_ble_eq_true rfl, Nat.le_of_ble_eq_true rfl⟩) (fun r2 u2 H locs hp2 hnz2 w => ?_)
  obtain ⟨hv2, fs, hy2, h72⟩ := hp2
  refine lv_istore (lv' := [(7, .int r2), (6, .int 1), (5, .int 0), (4, .ref outD), (3, .ref out), (2, .ref y), (1, .ref x), (0, .ref b)]) hx hb dL_law_1885 hl (by decide) rfl (fun ls hl => ?_)
  refine lv_aload_n hx hb dL_law_1887 rfl (lv_at hl 5 rfl) ?_
  refine g_calli w (g_runV (As := []) (rest := []) S hE w hl (m_thrown l D ar κ (g_ov (g_res (fun a9 => ¬ (y ≤ a9 ∧ a9 < out)) (g_ov (g_res (fun a9 => ¬ (a9 < y ∨ a9 = out)) G) u1.1)) u2.1) u2.2 y fs (1) (g_ov_r (g_res_n (fun h => h ⟨Nat.le_refl _, by omega⟩)) hy2) h72) (k_RL_139 S.2.2.2.2 ⟨Nat.le_of_ble_eq_true rfl, Nat.le_of_ble_eq_true rfl⟩) (g_ov_r (g_res_n (fun h => h ⟨Nat.le_refl _, by omega⟩)) hy2) rfl rfl rfl rfl (Nat.le_of_ble_eq_true rfl) dL_law_1888 ⟨Nat.le_of_ble_eq_true rfl, Nat.le_of_ble_eq_true rfl⟩) (fun r u H locs hp hnz w => ?_)
  obtain ⟨rfl, rfl⟩ := hp
  refine lv_iload hx hb dL_law_1891 (lv_at hl 1 rfl) ?_
  refine lv_icmp_eq (tgt := 1898) hx hb dL_law_1893 (by decide) (fun _ => ?_) (fun c => absurd (by decide) c)
  refine lv_iload hx hb dL_law_1898 (lv_at hl 1 rfl) ?_
  refine lv_if_ne (tgt := 1915) hx hb dL_law_1900 (by decide) (fun _ => ?_) (fun c => absurd c (by decide))
  refine lv_goto (tgt := 2365) hx hb dL_law_1915 (by decide) ?_
  exact W.widen (Nat.le_of_ble_eq_true rfl) (Nat.le_of_ble_eq_true rfl) (hend _ _ _ _ _ w (lv_sub hl [2, 7] rfl))
set_option maxHeartbeats 4000000 in
set_option maxRecDepth 100000 in
theorem lc_32 (hlt : l.stackTraces = false) (S : CallFix p m c cL_law 9 s #[.ref b] lwA RL) (hE : g_E D vwCl (gT ar) (EX1 κ) (fun q => s.heap.size ≤ q) s s.heap) (hX : va_X b 6 xs s s.heap) (hbl : b < s.heap.size) (w : g_S D vwCl (fun q => s.heap.size ≤ q) s.heap G H locs nz) (hw : LWs ar κ G x q1 y q2 out outD) (hl : lv_has ls 9 [(5, .int 0), (4, .ref outD), (3, .ref out), (2, .ref y), (1, .ref x), (0, .ref b)]) (hend : ∀ (H : Heap) (locs : List Loc) (ls : Array Slot) (G : gW) (nz : Nat), g_S D vwCl (fun q => s.heap.size ≤ q) s.heap G H locs nz → lv_has ls 9 [(5, .int 0), (0, .ref b)] → W p l e room_1 s m #[Value.ref b] below meth c H locs 400 9000 (lw_Z below #[Value.ref b] s) (F0 m 2365 ls [])) : W p l e room_1 s m #[Value.ref b] below meth c H locs 203 5000 (lw_Z below #[Value.ref b] s) (F0 m 1918 ls []) := by
  have hx := S.1
  have hb := S.2.1
  have hbA : ¬ s.heap.size ≤ b := Nat.not_le.mpr hbl
  obtain ⟨hwF, hwM, hwo, hwoD, hw1, hw2, hw3⟩ := id hw
  have hwq : x < q1 := hwF.1
  have hwy : y < q2 := hwM.1
  refine lv_aload_n hx hb dL_law_1918 rfl (lv_at hl 4 rfl) ?_
  refine lv_aload_n hx hb dL_law_1919 rfl (lv_at hl 5 rfl) ?_
  refine lv_iload hx hb dL_law_1920 (lv_at hl 0 rfl) ?_
  refine lv_iconst (v := 1) hx hb dL_law_1922 (by decide) ?_
  refine lv_iadd hx hb dL_law_1923 ?_
  rw [show (0 + 1 : Int32) = 1 by decide +kernel]
  refine va_sld hx hb hX hbl hbA w.2.2.1 (vp_in_nI (n := 1) (by decide) (by decide)) dL_law_1924 ?_
  rw [show Int32.toNatClampNeg 1 = 1 from by decide]
  refine lv_aload_n hx hb dL_law_1925 rfl (lv_at hl 5 rfl) ?_
  refine lv_iload hx hb dL_law_1926 (lv_at hl 0 rfl) ?_
  refine lv_iconst (v := 2) hx hb dL_law_1928 (by decide) ?_
  refine lv_iadd hx hb dL_law_1929 ?_
  rw [show (0 + 2 : Int32) = 2 by decide +kernel]
  refine va_sld hx hb hX hbl hbA w.2.2.1 (vp_in_nI (n := 2) (by decide) (by decide)) dL_law_1930 ?_
  rw [show Int32.toNatClampNeg 2 = 2 from by decide]
  refine lv_i2c hx hb dL_law_1931 rfl ?_
  refine lv_aload_n hx hb dL_law_1932 rfl (lv_at hl 5 rfl) ?_
  refine lv_iload hx hb dL_law_1933 (lv_at hl 0 rfl) ?_
  refine lv_iconst (v := 3) hx hb dL_law_1935 (by decide) ?_
  refine lv_iadd hx hb dL_law_1936 ?_
  rw [show (0 + 3 : Int32) = 3 by decide +kernel]
  refine va_sld hx hb hX hbl hbA w.2.2.1 (vp_in_nI (n := 3) (by decide) (by decide)) dL_law_1937 ?_
  rw [show Int32.toNatClampNeg 3 = 3 from by decide]
  refine lv_aload_n hx hb dL_law_1938 rfl (lv_at hl 2 rfl) ?_
  have hF1 : FH ar κ (g_res (fun a9 => a9 < y ∨ a9 = out) G) x q1 := FH_mono hwF (fun a9 c9 h1 h2 => g_res_i (show a9 < y ∨ a9 = out from Or.inl (by omega)) h2)
  refine gs_calli (g_res (fun a9 => ¬ (a9 < y ∨ a9 = out)) G) w (fun _ _ => g_res_s) (fun _ _ => g_res_2) (g_runSW (As := [.ref x, .int (xs 1), .int (((xs 2).toUInt32 % 65536).toInt32), .int (xs 3), .ref out]) (rest := []) S hE (g_sub w (fun _ _ => g_res_s)) hl (w_slotKind l D ar κ (g_res (fun a9 => a9 < y ∨ a9 = out) G) nz x (xs 1) (((xs 2).toUInt32 % 65536).toInt32) (xs 3) out q1 (fun _ => 0) hF1 (g_res_i (show out < y ∨ out = out from Or.inr rfl) hwo) (by omega) hlt) (kW_248 S.2.2.2.2 ⟨Nat.le_of_ble_eq_true rfl, Nat.le_of_ble_eq_true rfl⟩) rfl rfl (Nat.le_of_ble_eq_true rfl) dL_law_1939 ⟨Nat.le_of_ble_eq_true rfl, Nat.le_of_ble_eq_true rfl⟩) (fun r u1 H locs hp1 hnz1 w => ?_)
  obtain rfl := hp1
  refine lv_istore (lv' := [(6, .int 1), (5, .int 0), (4, .ref outD), (3, .ref out), (2, .ref y), (1, .ref x), (0, .ref b)]) hx hb dL_law_1942 hl (by decide) rfl (fun ls hl => ?_)
  refine lv_aload_n hx hb dL_law_1944 rfl (lv_at hl 4 rfl) ?_
  refine lv_aload_n hx hb dL_law_1945 rfl (lv_at hl 6 rfl) ?_
  refine lv_iload hx hb dL_law_1946 (lv_at hl 1 rfl) ?_
  refine lv_iconst (v := 1) hx hb dL_law_1948 (by decide) ?_
  refine lv_iadd hx hb dL_law_1949 ?_
  rw [show (0 + 1 : Int32) = 1 by decide +kernel]
  refine va_sld hx hb hX hbl hbA w.2.2.1 (vp_in_nI (n := 1) (by decide) (by decide)) dL_law_1950 ?_
  rw [show Int32.toNatClampNeg 1 = 1 from by decide]
  refine lv_aload_n hx hb dL_law_1951 rfl (lv_at hl 6 rfl) ?_
  refine lv_iload hx hb dL_law_1952 (lv_at hl 1 rfl) ?_
  refine lv_iconst (v := 2) hx hb dL_law_1954 (by decide) ?_
  refine lv_iadd hx hb dL_law_1955 ?_
  rw [show (0 + 2 : Int32) = 2 by decide +kernel]
  refine va_sld hx hb hX hbl hbA w.2.2.1 (vp_in_nI (n := 2) (by decide) (by decide)) dL_law_1956 ?_
  rw [show Int32.toNatClampNeg 2 = 2 from by decide]
  refine lv_i2c hx hb dL_law_1957 rfl ?_
  refine lv_aload_n hx hb dL_law_1958 rfl (lv_at hl 6 rfl) ?_
  refine lv_iload hx hb dL_law_1959 (lv_at hl 1 rfl) ?_
  refine lv_iconst (v := 3) hx hb dL_law_1961 (by decide) ?_
  refine lv_iadd hx hb dL_law_1962 ?_
  rw [show (0 + 3 : Int32) = 3 by decide +kernel]
  refine va_sld hx hb hX hbl hbA w.2.2.1 (vp_in_nI (n := 3) (by decide) (by decide)) dL_law_1963 ?_
  rw [show Int32.toNatClampNeg 3 = 3 from by decide]
  have hM1 : FM ar κ (g_res (fun a9 => y ≤ a9 ∧ a9 < out) (g_ov (g_res (fun a9 => ¬ (a9 < y ∨ a9 = out)) G) u1.1)) y q2 0 := FM_mono hwM (fun a9 c9 h1 h2 h3 => g_res_i (show y ≤ a9 ∧ a9 < out from ⟨h1, by omega⟩) (g_ov_l (g_res_i (show ¬ (a9 < y ∨ a9 = out) by omega) h3)))
  refine gs_calli (g_res (fun a9 => ¬ (y ≤ a9 ∧ a9 < out)) (g_ov (g_res (fun a9 => ¬ (a9 < y ∨ a9 = out)) G) u1.1)) w (fun _ _ => g_res_s) (fun _ _ => g_res_2) (g_runV (As := [.int (xs 1), .int (((xs 2).toUInt32 % 65536).toInt32), .int (xs 3)]) (rest := []) S hE (g_sub w (fun _ _ => g_res_s)) hl (m_slotKind l D ar κ (g_res (fun a9 => y ≤ a9 ∧ a9 < out) (g_ov (g_res (fun a9 => ¬ (a9 < y ∨ a9 = out)) G) u1.1)) u1.2 y (xs 1) (((xs 2).toUInt32 % 65536).toInt32) (xs 3) q2 0 hM1) (k_RL_251 S.2.2.2.2 ⟨Nat.le_of_ble_eq_true rfl, Nat.le_of_ble_eq_true rfl⟩) hM1.2.1 rfl rfl rfl rfl (Nat.le_of_ble_eq_true rfl) dL_law_1964 ⟨Nat.le_of_ble_eq_true rfl, Nat.le_of_ble_eq_true rfl⟩) (fun r2 u2 H locs hp2 hnz2 w => ?_)
  obtain ⟨hv2, fs, hy2, h72⟩ := hp2
  refine lv_istore (lv' := [(7, .int r2), (6, .int 1), (5, .int 0), (4, .ref outD), (3, .ref out), (2, .ref y), (1, .ref x), (0, .ref b)]) hx hb dL_law_1967 hl (by decide) rfl (fun ls hl => ?_)
  refine lv_aload_n hx hb dL_law_1969 rfl (lv_at hl 5 rfl) ?_
  refine g_calli w (g_runV (As := []) (rest := []) S hE w hl (m_thrown l D ar κ (g_ov (g_res (fun a9 => ¬ (y ≤ a9 ∧ a9 < out)) (g_ov (g_res (fun a9 => ¬ (a9 < y ∨ a9 = out)) G) u1.1)) u2.1) u2.2 y fs (1) (g_ov_r (g_res_n (fun h => h ⟨Nat.le_refl _, by omega⟩)) hy2) h72) (k_RL_139 S.2.2.2.2 ⟨Nat.le_of_ble_eq_true rfl, Nat.le_of_ble_eq_true rfl⟩) (g_ov_r (g_res_n (fun h => h ⟨Nat.le_refl _, by omega⟩)) hy2) rfl rfl rfl rfl (Nat.le_of_ble_eq_true rfl) dL_law_1970 ⟨Nat.le_of_ble_eq_true rfl, Nat.le_of_ble_eq_true rfl⟩) (fun r u H locs hp hnz w => ?_)
  obtain ⟨rfl, rfl⟩ := hp
  refine lv_iload hx hb dL_law_1973 (lv_at hl 1 rfl) ?_
  refine lv_icmp_eq (tgt := 1980) hx hb dL_law_1975 (by decide) (fun _ => ?_) (fun c => absurd (by decide) c)
  refine lv_iload hx hb dL_law_1980 (lv_at hl 1 rfl) ?_
  refine lv_if_ne (tgt := 1997) hx hb dL_law_1982 (by decide) (fun _ => ?_) (fun c => absurd c (by decide))
  refine lv_goto (tgt := 2365) hx hb dL_law_1997 (by decide) ?_
  exact W.widen (Nat.le_of_ble_eq_true rfl) (Nat.le_of_ble_eq_true rfl) (hend _ _ _ _ _ w (lv_sub hl [2, 7] rfl))
set_option maxHeartbeats 4000000 in
set_option maxRecDepth 100000 in
theorem lc_33 (hlt : l.stackTraces = false) (S : CallFix p m c cL_law 9 s #[.ref b] lwA RL) (hE : g_E D vwCl (gT ar) (EX1 κ) (fun q => s.heap.size ≤ q) s s.heap) (hX : va_X b 6 xs s s.heap) (hbl : b < s.heap.size) (w : g_S D vwCl (fun q => s.heap.size ≤ q) s.heap G H locs nz) (hw : LWs ar κ G x q1 y q2 out outD) (hl : lv_has ls 9 [(5, .int 0), (4, .ref outD), (3, .ref out), (2, .ref y), (1, .ref x), (0, .ref b)]) (hend : ∀ (H : Heap) (locs : List Loc) (ls : Array Slot) (G : gW) (nz : Nat), g_S D vwCl (fun q => s.heap.size ≤ q) s.heap G H locs nz → lv_has ls 9 [(5, .int 0), (0, .ref b)] → W p l e room_1 s m #[Value.ref b] below meth c H locs 400 9000 (lw_Z below #[Value.ref b] s) (F0 m 2365 ls [])) : W p l e room_1 s m #[Value.ref b] below meth c H locs 203 5000 (lw_Z below #[Value.ref b] s) (F0 m 2000 ls []) := by
  have hx := S.1
  have hb := S.2.1
  have hbA : ¬ s.heap.size ≤ b := Nat.not_le.mpr hbl
  obtain ⟨hwF, hwM, hwo, hwoD, hw1, hw2, hw3⟩ := id hw
  have hwq : x < q1 := hwF.1
  have hwy : y < q2 := hwM.1
  refine lv_aload_n hx hb dL_law_2000 rfl (lv_at hl 4 rfl) ?_
  refine lv_aload_n hx hb dL_law_2001 rfl (lv_at hl 5 rfl) ?_
  refine lv_iload hx hb dL_law_2002 (lv_at hl 0 rfl) ?_
  refine lv_iconst (v := 1) hx hb dL_law_2004 (by decide) ?_
  refine lv_iadd hx hb dL_law_2005 ?_
  rw [show (0 + 1 : Int32) = 1 by decide +kernel]
  refine va_sld hx hb hX hbl hbA w.2.2.1 (vp_in_nI (n := 1) (by decide) (by decide)) dL_law_2006 ?_
  rw [show Int32.toNatClampNeg 1 = 1 from by decide]
  refine lv_aload_n hx hb dL_law_2007 rfl (lv_at hl 5 rfl) ?_
  refine lv_iload hx hb dL_law_2008 (lv_at hl 0 rfl) ?_
  refine lv_iconst (v := 2) hx hb dL_law_2010 (by decide) ?_
  refine lv_iadd hx hb dL_law_2011 ?_
  rw [show (0 + 2 : Int32) = 2 by decide +kernel]
  refine va_sld hx hb hX hbl hbA w.2.2.1 (vp_in_nI (n := 2) (by decide) (by decide)) dL_law_2012 ?_
  rw [show Int32.toNatClampNeg 2 = 2 from by decide]
  refine lv_i2c hx hb dL_law_2013 rfl ?_
  refine lv_aload_n hx hb dL_law_2014 rfl (lv_at hl 5 rfl) ?_
  refine lv_iload hx hb dL_law_2015 (lv_at hl 0 rfl) ?_
  refine lv_iconst (v := 3) hx hb dL_law_2017 (by decide) ?_
  refine lv_iadd hx hb dL_law_2018 ?_
  rw [show (0 + 3 : Int32) = 3 by decide +kernel]
  refine va_sld hx hb hX hbl hbA w.2.2.1 (vp_in_nI (n := 3) (by decide) (by decide)) dL_law_2019 ?_
  rw [show Int32.toNatClampNeg 3 = 3 from by decide]
  refine lv_aload_n hx hb dL_law_2020 rfl (lv_at hl 2 rfl) ?_
  have hF1 : FH ar κ (g_res (fun a9 => a9 < y ∨ a9 = out) G) x q1 := FH_mono hwF (fun a9 c9 h1 h2 => g_res_i (show a9 < y ∨ a9 = out from Or.inl (by omega)) h2)
  refine gs_calli (g_res (fun a9 => ¬ (a9 < y ∨ a9 = out)) G) w (fun _ _ => g_res_s) (fun _ _ => g_res_2) (g_runSW (As := [.ref x, .int (xs 1), .int (((xs 2).toUInt32 % 65536).toInt32), .int (xs 3), .ref out]) (rest := []) S hE (g_sub w (fun _ _ => g_res_s)) hl (w_slot l D ar κ (g_res (fun a9 => a9 < y ∨ a9 = out) G) nz x (xs 1) (((xs 2).toUInt32 % 65536).toInt32) (xs 3) out q1 (fun _ => 0) hF1 (g_res_i (show out < y ∨ out = out from Or.inr rfl) hwo) (by omega) hlt) (kW_252 S.2.2.2.2 ⟨Nat.le_of_ble_eq_true rfl, Nat.le_of_ble_eq_true rfl⟩) rfl rfl (Nat.le_of_ble_eq_true rfl) dL_law_2021 ⟨Nat.le_of_ble_eq_true rfl, Nat.le_of_ble_eq_true rfl⟩) (fun r u1 H locs hp1 hnz1 w => ?_)
  obtain rfl := hp1
  refine lv_istore (lv' := [(6, .int 1), (5, .int 0), (4, .ref outD), (3, .ref out), (2, .ref y), (1, .ref x), (0, .ref b)]) hx hb dL_law_2024 hl (by decide) rfl (fun ls hl => ?_)
  refine lv_aload_n hx hb dL_law_2026 rfl (lv_at hl 4 rfl) ?_
  refine lv_aload_n hx hb dL_law_2027 rfl (lv_at hl 6 rfl) ?_
  refine lv_iload hx hb dL_law_2028 (lv_at hl 1 rfl) ?_
  refine lv_iconst (v := 1) hx hb dL_law_2030 (by decide) ?_
  refine lv_iadd hx hb dL_law_2031 ?_
  rw [show (0 + 1 : Int32) = 1 by decide +kernel]
  refine va_sld hx hb hX hbl hbA w.2.2.1 (vp_in_nI (n := 1) (by decide) (by decide)) dL_law_2032 ?_
  rw [show Int32.toNatClampNeg 1 = 1 from by decide]
  refine lv_aload_n hx hb dL_law_2033 rfl (lv_at hl 6 rfl) ?_
  refine lv_iload hx hb dL_law_2034 (lv_at hl 1 rfl) ?_
  refine lv_iconst (v := 2) hx hb dL_law_2036 (by decide) ?_
  refine lv_iadd hx hb dL_law_2037 ?_
  rw [show (0 + 2 : Int32) = 2 by decide +kernel]
  refine va_sld hx hb hX hbl hbA w.2.2.1 (vp_in_nI (n := 2) (by decide) (by decide)) dL_law_2038 ?_
  rw [show Int32.toNatClampNeg 2 = 2 from by decide]
  refine lv_i2c hx hb dL_law_2039 rfl ?_
  refine lv_aload_n hx hb dL_law_2040 rfl (lv_at hl 6 rfl) ?_
  refine lv_iload hx hb dL_law_2041 (lv_at hl 1 rfl) ?_
  refine lv_iconst (v := 3) hx hb dL_law_2043 (by decide) ?_
  refine lv_iadd hx hb dL_law_2044 ?_
  rw [show (0 + 3 : Int32) = 3 by decide +kernel]
  refine va_sld hx hb hX hbl hbA w.2.2.1 (vp_in_nI (n := 3) (by decide) (by decide)) dL_law_2045 ?_
  rw [show Int32.toNatClampNeg 3 = 3 from by decide]
  have hM1 : FM ar κ (g_res (fun a9 => y ≤ a9 ∧ a9 < out) (g_ov (g_res (fun a9 => ¬ (a9 < y ∨ a9 = out)) G) u1.1)) y q2 0 := FM_mono hwM (fun a9 c9 h1 h2 h3 => g_res_i (show y ≤ a9 ∧ a9 < out from ⟨h1, by omega⟩) (g_ov_l (g_res_i (show ¬ (a9 < y ∨ a9 = out) by omega) h3)))
  refine gs_calli (g_res (fun a9 => ¬ (y ≤ a9 ∧ a9 < out)) (g_ov (g_res (fun a9 => ¬ (a9 < y ∨ a9 = out)) G) u1.1)) w (fun _ _ => g_res_s) (fun _ _ => g_res_2) (g_runV (As := [.int (xs 1), .int (((xs 2).toUInt32 % 65536).toInt32), .int (xs 3)]) (rest := []) S hE (g_sub w (fun _ _ => g_res_s)) hl (m_slot l D ar κ (g_res (fun a9 => y ≤ a9 ∧ a9 < out) (g_ov (g_res (fun a9 => ¬ (a9 < y ∨ a9 = out)) G) u1.1)) u1.2 y (xs 1) (((xs 2).toUInt32 % 65536).toInt32) (xs 3) q2 0 hM1) (k_RL_254 S.2.2.2.2 ⟨Nat.le_of_ble_eq_true rfl, Nat.le_of_ble_eq_true rfl⟩) hM1.2.1 rfl rfl rfl rfl (Nat.le_of_ble_eq_true rfl) dL_law_2046 ⟨Nat.le_of_ble_eq_true rfl, Nat.le_of_ble_eq_true rfl⟩) (fun r2 u2 H locs hp2 hnz2 w => ?_)
  obtain ⟨hv2, fs, hy2, h72⟩ := hp2
  refine lv_istore (lv' := [(7, .int r2), (6, .int 1), (5, .int 0), (4, .ref outD), (3, .ref out), (2, .ref y), (1, .ref x), (0, .ref b)]) hx hb dL_law_2049 hl (by decide) rfl (fun ls hl => ?_)
  refine lv_aload_n hx hb dL_law_2051 rfl (lv_at hl 5 rfl) ?_
  refine g_calli w (g_runV (As := []) (rest := []) S hE w hl (m_thrown l D ar κ (g_ov (g_res (fun a9 => ¬ (y ≤ a9 ∧ a9 < out)) (g_ov (g_res (fun a9 => ¬ (a9 < y ∨ a9 = out)) G) u1.1)) u2.1) u2.2 y fs (1) (g_ov_r (g_res_n (fun h => h ⟨Nat.le_refl _, by omega⟩)) hy2) h72) (k_RL_139 S.2.2.2.2 ⟨Nat.le_of_ble_eq_true rfl, Nat.le_of_ble_eq_true rfl⟩) (g_ov_r (g_res_n (fun h => h ⟨Nat.le_refl _, by omega⟩)) hy2) rfl rfl rfl rfl (Nat.le_of_ble_eq_true rfl) dL_law_2052 ⟨Nat.le_of_ble_eq_true rfl, Nat.le_of_ble_eq_true rfl⟩) (fun r u H locs hp hnz w => ?_)
  obtain ⟨rfl, rfl⟩ := hp
  refine lv_iload hx hb dL_law_2055 (lv_at hl 1 rfl) ?_
  refine lv_icmp_eq (tgt := 2062) hx hb dL_law_2057 (by decide) (fun _ => ?_) (fun c => absurd (by decide) c)
  refine lv_iload hx hb dL_law_2062 (lv_at hl 1 rfl) ?_
  refine lv_if_ne (tgt := 2079) hx hb dL_law_2064 (by decide) (fun _ => ?_) (fun c => absurd c (by decide))
  refine lv_goto (tgt := 2365) hx hb dL_law_2079 (by decide) ?_
  exact W.widen (Nat.le_of_ble_eq_true rfl) (Nat.le_of_ble_eq_true rfl) (hend _ _ _ _ _ w (lv_sub hl [2, 7] rfl))
set_option maxHeartbeats 4000000 in
set_option maxRecDepth 100000 in
theorem lc_34 (hlt : l.stackTraces = false) (S : CallFix p m c cL_law 9 s #[.ref b] lwA RL) (hE : g_E D vwCl (gT ar) (EX1 κ) (fun q => s.heap.size ≤ q) s s.heap) (hX : va_X b 6 xs s s.heap) (hbl : b < s.heap.size) (w : g_S D vwCl (fun q => s.heap.size ≤ q) s.heap G H locs nz) (hw : LWs ar κ G x q1 y q2 out outD) (hl : lv_has ls 9 [(5, .int 0), (4, .ref outD), (3, .ref out), (2, .ref y), (1, .ref x), (0, .ref b)]) (hend : ∀ (H : Heap) (locs : List Loc) (ls : Array Slot) (G : gW) (nz : Nat), g_S D vwCl (fun q => s.heap.size ≤ q) s.heap G H locs nz → lv_has ls 9 [(5, .int 0), (0, .ref b)] → W p l e room_1 s m #[Value.ref b] below meth c H locs 400 9000 (lw_Z below #[Value.ref b] s) (F0 m 2365 ls [])) : W p l e room_1 s m #[Value.ref b] below meth c H locs 203 5000 (lw_Z below #[Value.ref b] s) (F0 m 2082 ls []) := by
  have hx := S.1
  have hb := S.2.1
  have hbA : ¬ s.heap.size ≤ b := Nat.not_le.mpr hbl
  obtain ⟨hwF, hwM, hwo, hwoD, hw1, hw2, hw3⟩ := id hw
  have hwq : x < q1 := hwF.1
  have hwy : y < q2 := hwM.1
  refine lv_aload_n hx hb dL_law_2082 rfl (lv_at hl 4 rfl) ?_
  have hF1 : FH ar κ (g_res (fun a9 => a9 < y) G) x q1 := FH_mono hwF (fun a9 c9 h1 h2 => g_res_i (show a9 < y by omega) h2)
  refine gs_calli (g_res (fun a9 => ¬ (a9 < y)) G) w (fun _ _ => g_res_s) (fun _ _ => g_res_2) (g_runV (As := []) (rest := []) S hE (g_sub w (fun _ _ => g_res_s)) hl (h_written l D ar κ (g_res (fun a9 => a9 < y) G) nz x q1 hF1) (k_RL_255 S.2.2.2.2 ⟨Nat.le_of_ble_eq_true rfl, Nat.le_of_ble_eq_true rfl⟩) hF1.2.1 rfl rfl rfl rfl (Nat.le_of_ble_eq_true rfl) dL_law_2083 ⟨Nat.le_of_ble_eq_true rfl, Nat.le_of_ble_eq_true rfl⟩) (fun r u1 H locs hp1 hnz1 w => ?_)
  obtain rfl := hp1
  refine lv_aload_n hx hb dL_law_2086 rfl (lv_at hl 3 rfl) ?_
  have hM1 : FM ar κ (g_res (fun a9 => y ≤ a9 ∧ a9 < out) (g_ov (g_res (fun a9 => ¬ (a9 < y)) G) u1.1)) y q2 0 := FM_mono hwM (fun a9 c9 h1 h2 h3 => g_res_i (show y ≤ a9 ∧ a9 < out from ⟨h1, by omega⟩) (g_ov_l (g_res_i (show ¬ (a9 < y) by omega) h3)))
  refine gs_calli (g_res (fun a9 => ¬ (y ≤ a9 ∧ a9 < out)) (g_ov (g_res (fun a9 => ¬ (a9 < y)) G) u1.1)) w (fun _ _ => g_res_s) (fun _ _ => g_res_2) (g_runV (As := []) (rest := [.int 0]) S hE (g_sub w (fun _ _ => g_res_s)) hl (m_written l D ar κ (g_res (fun a9 => y ≤ a9 ∧ a9 < out) (g_ov (g_res (fun a9 => ¬ (a9 < y)) G) u1.1)) u1.2 y q2 0 hM1) (k_RL_258 S.2.2.2.2 ⟨Nat.le_of_ble_eq_true rfl, Nat.le_of_ble_eq_true rfl⟩) hM1.2.1 rfl rfl rfl rfl (Nat.le_of_ble_eq_true rfl) dL_law_2087 ⟨Nat.le_of_ble_eq_true rfl, Nat.le_of_ble_eq_true rfl⟩) (fun r2 u2 H locs hp2 hnz2 w => ?_)
  obtain rfl := hp2
  refine lv_icmp_eq (tgt := 2365) hx hb dL_law_2090 (by decide) (fun _ => ?_) (fun c => absurd (by decide) c)
  exact W.widen (Nat.le_of_ble_eq_true rfl) (Nat.le_of_ble_eq_true rfl) (hend _ _ _ _ _ w (lv_sub hl [0, 5] rfl))
set_option maxHeartbeats 4000000 in
set_option maxRecDepth 100000 in
theorem lc_35 (hlt : l.stackTraces = false) (S : CallFix p m c cL_law 9 s #[.ref b] lwA RL) (hE : g_E D vwCl (gT ar) (EX1 κ) (fun q => s.heap.size ≤ q) s s.heap) (hX : va_X b 6 xs s s.heap) (hbl : b < s.heap.size) (w : g_S D vwCl (fun q => s.heap.size ≤ q) s.heap G H locs nz) (hw : LWs ar κ G x q1 y q2 out outD) (hl : lv_has ls 9 [(5, .int 0), (4, .ref outD), (3, .ref out), (2, .ref y), (1, .ref x), (0, .ref b)]) (hend : ∀ (H : Heap) (locs : List Loc) (ls : Array Slot) (G : gW) (nz : Nat), g_S D vwCl (fun q => s.heap.size ≤ q) s.heap G H locs nz → lv_has ls 9 [(5, .int 0), (0, .ref b)] → W p l e room_1 s m #[Value.ref b] below meth c H locs 400 9000 (lw_Z below #[Value.ref b] s) (F0 m 2365 ls [])) : W p l e room_1 s m #[Value.ref b] below meth c H locs 203 5000 (lw_Z below #[Value.ref b] s) (F0 m 2095 ls []) := by
  have hx := S.1
  have hb := S.2.1
  have hbA : ¬ s.heap.size ≤ b := Nat.not_le.mpr hbl
  obtain ⟨hwF, hwM, hwo, hwoD, hw1, hw2, hw3⟩ := id hw
  have hwq : x < q1 := hwF.1
  have hwy : y < q2 := hwM.1
  refine lv_aload_n hx hb dL_law_2095 rfl (lv_at hl 4 rfl) ?_
  refine lv_aload_n hx hb dL_law_2096 rfl (lv_at hl 5 rfl) ?_
  refine lv_iload hx hb dL_law_2097 (lv_at hl 0 rfl) ?_
  refine lv_iconst (v := 1) hx hb dL_law_2099 (by decide) ?_
  refine lv_iadd hx hb dL_law_2100 ?_
  rw [show (0 + 1 : Int32) = 1 by decide +kernel]
  refine va_sld hx hb hX hbl hbA w.2.2.1 (vp_in_nI (n := 1) (by decide) (by decide)) dL_law_2101 ?_
  rw [show Int32.toNatClampNeg 1 = 1 from by decide]
  refine lv_aload_n hx hb dL_law_2102 rfl (lv_at hl 2 rfl) ?_
  have hF1 : FH ar κ (g_res (fun a9 => a9 < y ∨ a9 = out) G) x q1 := FH_mono hwF (fun a9 c9 h1 h2 => g_res_i (show a9 < y ∨ a9 = out from Or.inl (by omega)) h2)
  refine gs_calli (g_res (fun a9 => ¬ (a9 < y ∨ a9 = out)) G) w (fun _ _ => g_res_s) (fun _ _ => g_res_2) (g_runSW (As := [.ref x, .int (xs 1), .ref out]) (rest := []) S hE (g_sub w (fun _ _ => g_res_s)) hl (w_writtenKind l D ar κ (g_res (fun a9 => a9 < y ∨ a9 = out) G) nz x (xs 1) out q1 (fun _ => 0) hF1 (g_res_i (show out < y ∨ out = out from Or.inr rfl) hwo) (by omega) hlt) (kW_259 S.2.2.2.2 ⟨Nat.le_of_ble_eq_true rfl, Nat.le_of_ble_eq_true rfl⟩) rfl rfl (Nat.le_of_ble_eq_true rfl) dL_law_2103 ⟨Nat.le_of_ble_eq_true rfl, Nat.le_of_ble_eq_true rfl⟩) (fun r u1 H locs hp1 hnz1 w => ?_)
  obtain rfl := hp1
  refine lv_istore (lv' := [(6, .int 1), (5, .int 0), (4, .ref outD), (3, .ref out), (2, .ref y), (1, .ref x), (0, .ref b)]) hx hb dL_law_2106 hl (by decide) rfl (fun ls hl => ?_)
  refine lv_aload_n hx hb dL_law_2108 rfl (lv_at hl 4 rfl) ?_
  refine lv_aload_n hx hb dL_law_2109 rfl (lv_at hl 6 rfl) ?_
  refine lv_iload hx hb dL_law_2110 (lv_at hl 1 rfl) ?_
  refine lv_iconst (v := 1) hx hb dL_law_2112 (by decide) ?_
  refine lv_iadd hx hb dL_law_2113 ?_
  rw [show (0 + 1 : Int32) = 1 by decide +kernel]
  refine va_sld hx hb hX hbl hbA w.2.2.1 (vp_in_nI (n := 1) (by decide) (by decide)) dL_law_2114 ?_
  rw [show Int32.toNatClampNeg 1 = 1 from by decide]
  have hM1 : FM ar κ (g_res (fun a9 => y ≤ a9 ∧ a9 < out) (g_ov (g_res (fun a9 => ¬ (a9 < y ∨ a9 = out)) G) u1.1)) y q2 0 := FM_mono hwM (fun a9 c9 h1 h2 h3 => g_res_i (show y ≤ a9 ∧ a9 < out from ⟨h1, by omega⟩) (g_ov_l (g_res_i (show ¬ (a9 < y ∨ a9 = out) by omega) h3)))
  refine gs_calli (g_res (fun a9 => ¬ (y ≤ a9 ∧ a9 < out)) (g_ov (g_res (fun a9 => ¬ (a9 < y ∨ a9 = out)) G) u1.1)) w (fun _ _ => g_res_s) (fun _ _ => g_res_2) (g_runV (As := [.int (xs 1)]) (rest := []) S hE (g_sub w (fun _ _ => g_res_s)) hl (m_writtenKind l D ar κ (g_res (fun a9 => y ≤ a9 ∧ a9 < out) (g_ov (g_res (fun a9 => ¬ (a9 < y ∨ a9 = out)) G) u1.1)) u1.2 y (xs 1) q2 0 hM1) (k_RL_261 S.2.2.2.2 ⟨Nat.le_of_ble_eq_true rfl, Nat.le_of_ble_eq_true rfl⟩) hM1.2.1 rfl rfl rfl rfl (Nat.le_of_ble_eq_true rfl) dL_law_2115 ⟨Nat.le_of_ble_eq_true rfl, Nat.le_of_ble_eq_true rfl⟩) (fun r2 u2 H locs hp2 hnz2 w => ?_)
  obtain ⟨hv2, fs, hy2, h72⟩ := hp2
  refine lv_istore (lv' := [(7, .int r2), (6, .int 1), (5, .int 0), (4, .ref outD), (3, .ref out), (2, .ref y), (1, .ref x), (0, .ref b)]) hx hb dL_law_2118 hl (by decide) rfl (fun ls hl => ?_)
  refine lv_aload_n hx hb dL_law_2120 rfl (lv_at hl 5 rfl) ?_
  refine g_calli w (g_runV (As := []) (rest := []) S hE w hl (m_thrown l D ar κ (g_ov (g_res (fun a9 => ¬ (y ≤ a9 ∧ a9 < out)) (g_ov (g_res (fun a9 => ¬ (a9 < y ∨ a9 = out)) G) u1.1)) u2.1) u2.2 y fs (1) (g_ov_r (g_res_n (fun h => h ⟨Nat.le_refl _, by omega⟩)) hy2) h72) (k_RL_139 S.2.2.2.2 ⟨Nat.le_of_ble_eq_true rfl, Nat.le_of_ble_eq_true rfl⟩) (g_ov_r (g_res_n (fun h => h ⟨Nat.le_refl _, by omega⟩)) hy2) rfl rfl rfl rfl (Nat.le_of_ble_eq_true rfl) dL_law_2121 ⟨Nat.le_of_ble_eq_true rfl, Nat.le_of_ble_eq_true rfl⟩) (fun r u H locs hp hnz w => ?_)
  obtain ⟨rfl, rfl⟩ := hp
  refine lv_iload hx hb dL_law_2124 (lv_at hl 1 rfl) ?_
  refine lv_icmp_eq (tgt := 2131) hx hb dL_law_2126 (by decide) (fun _ => ?_) (fun c => absurd (by decide) c)
  refine lv_iload hx hb dL_law_2131 (lv_at hl 1 rfl) ?_
  refine lv_if_ne (tgt := 2148) hx hb dL_law_2133 (by decide) (fun _ => ?_) (fun c => absurd c (by decide))
  refine lv_goto (tgt := 2365) hx hb dL_law_2148 (by decide) ?_
  exact W.widen (Nat.le_of_ble_eq_true rfl) (Nat.le_of_ble_eq_true rfl) (hend _ _ _ _ _ w (lv_sub hl [2, 7] rfl))
set_option maxHeartbeats 4000000 in
set_option maxRecDepth 100000 in
theorem lc_36 (hlt : l.stackTraces = false) (S : CallFix p m c cL_law 9 s #[.ref b] lwA RL) (hE : g_E D vwCl (gT ar) (EX1 κ) (fun q => s.heap.size ≤ q) s s.heap) (hX : va_X b 6 xs s s.heap) (hbl : b < s.heap.size) (w : g_S D vwCl (fun q => s.heap.size ≤ q) s.heap G H locs nz) (hw : LWs ar κ G x q1 y q2 out outD) (hl : lv_has ls 9 [(5, .int 0), (4, .ref outD), (3, .ref out), (2, .ref y), (1, .ref x), (0, .ref b)]) (hend : ∀ (H : Heap) (locs : List Loc) (ls : Array Slot) (G : gW) (nz : Nat), g_S D vwCl (fun q => s.heap.size ≤ q) s.heap G H locs nz → lv_has ls 9 [(5, .int 0), (0, .ref b)] → W p l e room_1 s m #[Value.ref b] below meth c H locs 400 9000 (lw_Z below #[Value.ref b] s) (F0 m 2365 ls [])) : W p l e room_1 s m #[Value.ref b] below meth c H locs 203 5000 (lw_Z below #[Value.ref b] s) (F0 m 2151 ls []) := by
  have hx := S.1
  have hb := S.2.1
  have hbA : ¬ s.heap.size ≤ b := Nat.not_le.mpr hbl
  obtain ⟨hwF, hwM, hwo, hwoD, hw1, hw2, hw3⟩ := id hw
  have hwq : x < q1 := hwF.1
  have hwy : y < q2 := hwM.1
  refine lv_aload_n hx hb dL_law_2151 rfl (lv_at hl 4 rfl) ?_
  refine lv_aload_n hx hb dL_law_2152 rfl (lv_at hl 5 rfl) ?_
  refine lv_iload hx hb dL_law_2153 (lv_at hl 0 rfl) ?_
  refine lv_iconst (v := 1) hx hb dL_law_2155 (by decide) ?_
  refine lv_iadd hx hb dL_law_2156 ?_
  rw [show (0 + 1 : Int32) = 1 by decide +kernel]
  refine va_sld hx hb hX hbl hbA w.2.2.1 (vp_in_nI (n := 1) (by decide) (by decide)) dL_law_2157 ?_
  rw [show Int32.toNatClampNeg 1 = 1 from by decide]
  refine lv_aload_n hx hb dL_law_2158 rfl (lv_at hl 2 rfl) ?_
  have hF1 : FH ar κ (g_res (fun a9 => a9 < y ∨ a9 = out) G) x q1 := FH_mono hwF (fun a9 c9 h1 h2 => g_res_i (show a9 < y ∨ a9 = out from Or.inl (by omega)) h2)
  refine gs_calli (g_res (fun a9 => ¬ (a9 < y ∨ a9 = out)) G) w (fun _ _ => g_res_s) (fun _ _ => g_res_2) (g_runSW (As := [.ref x, .int (xs 1), .ref out]) (rest := []) S hE (g_sub w (fun _ _ => g_res_s)) hl (w_writtenValue l D ar κ (g_res (fun a9 => a9 < y ∨ a9 = out) G) nz x (xs 1) out q1 (fun _ => 0) hF1 (g_res_i (show out < y ∨ out = out from Or.inr rfl) hwo) (by omega) hlt) (kW_262 S.2.2.2.2 ⟨Nat.le_of_ble_eq_true rfl, Nat.le_of_ble_eq_true rfl⟩) rfl rfl (Nat.le_of_ble_eq_true rfl) dL_law_2159 ⟨Nat.le_of_ble_eq_true rfl, Nat.le_of_ble_eq_true rfl⟩) (fun r u1 H locs hp1 hnz1 w => ?_)
  obtain rfl := hp1
  refine lv_istore (lv' := [(6, .int 1), (5, .int 0), (4, .ref outD), (3, .ref out), (2, .ref y), (1, .ref x), (0, .ref b)]) hx hb dL_law_2162 hl (by decide) rfl (fun ls hl => ?_)
  refine lv_aload_n hx hb dL_law_2164 rfl (lv_at hl 4 rfl) ?_
  refine lv_aload_n hx hb dL_law_2165 rfl (lv_at hl 6 rfl) ?_
  refine lv_iload hx hb dL_law_2166 (lv_at hl 1 rfl) ?_
  refine lv_iconst (v := 1) hx hb dL_law_2168 (by decide) ?_
  refine lv_iadd hx hb dL_law_2169 ?_
  rw [show (0 + 1 : Int32) = 1 by decide +kernel]
  refine va_sld hx hb hX hbl hbA w.2.2.1 (vp_in_nI (n := 1) (by decide) (by decide)) dL_law_2170 ?_
  rw [show Int32.toNatClampNeg 1 = 1 from by decide]
  have hM1 : FM ar κ (g_res (fun a9 => y ≤ a9 ∧ a9 < out) (g_ov (g_res (fun a9 => ¬ (a9 < y ∨ a9 = out)) G) u1.1)) y q2 0 := FM_mono hwM (fun a9 c9 h1 h2 h3 => g_res_i (show y ≤ a9 ∧ a9 < out from ⟨h1, by omega⟩) (g_ov_l (g_res_i (show ¬ (a9 < y ∨ a9 = out) by omega) h3)))
  refine gs_calli (g_res (fun a9 => ¬ (y ≤ a9 ∧ a9 < out)) (g_ov (g_res (fun a9 => ¬ (a9 < y ∨ a9 = out)) G) u1.1)) w (fun _ _ => g_res_s) (fun _ _ => g_res_2) (g_runV (As := [.int (xs 1)]) (rest := []) S hE (g_sub w (fun _ _ => g_res_s)) hl (m_writtenValue l D ar κ (g_res (fun a9 => y ≤ a9 ∧ a9 < out) (g_ov (g_res (fun a9 => ¬ (a9 < y ∨ a9 = out)) G) u1.1)) u1.2 y (xs 1) q2 0 hM1) (k_RL_264 S.2.2.2.2 ⟨Nat.le_of_ble_eq_true rfl, Nat.le_of_ble_eq_true rfl⟩) hM1.2.1 rfl rfl rfl rfl (Nat.le_of_ble_eq_true rfl) dL_law_2171 ⟨Nat.le_of_ble_eq_true rfl, Nat.le_of_ble_eq_true rfl⟩) (fun r2 u2 H locs hp2 hnz2 w => ?_)
  obtain ⟨hv2, fs, hy2, h72⟩ := hp2
  refine lv_istore (lv' := [(7, .int r2), (6, .int 1), (5, .int 0), (4, .ref outD), (3, .ref out), (2, .ref y), (1, .ref x), (0, .ref b)]) hx hb dL_law_2174 hl (by decide) rfl (fun ls hl => ?_)
  refine lv_aload_n hx hb dL_law_2176 rfl (lv_at hl 5 rfl) ?_
  refine g_calli w (g_runV (As := []) (rest := []) S hE w hl (m_thrown l D ar κ (g_ov (g_res (fun a9 => ¬ (y ≤ a9 ∧ a9 < out)) (g_ov (g_res (fun a9 => ¬ (a9 < y ∨ a9 = out)) G) u1.1)) u2.1) u2.2 y fs (1) (g_ov_r (g_res_n (fun h => h ⟨Nat.le_refl _, by omega⟩)) hy2) h72) (k_RL_139 S.2.2.2.2 ⟨Nat.le_of_ble_eq_true rfl, Nat.le_of_ble_eq_true rfl⟩) (g_ov_r (g_res_n (fun h => h ⟨Nat.le_refl _, by omega⟩)) hy2) rfl rfl rfl rfl (Nat.le_of_ble_eq_true rfl) dL_law_2177 ⟨Nat.le_of_ble_eq_true rfl, Nat.le_of_ble_eq_true rfl⟩) (fun r u H locs hp hnz w => ?_)
  obtain ⟨rfl, rfl⟩ := hp
  refine lv_iload hx hb dL_law_2180 (lv_at hl 1 rfl) ?_
  refine lv_icmp_eq (tgt := 2187) hx hb dL_law_2182 (by decide) (fun _ => ?_) (fun c => absurd (by decide) c)
  refine lv_iload hx hb dL_law_2187 (lv_at hl 1 rfl) ?_
  refine lv_if_ne (tgt := 2204) hx hb dL_law_2189 (by decide) (fun _ => ?_) (fun c => absurd c (by decide))
  refine lv_goto (tgt := 2365) hx hb dL_law_2204 (by decide) ?_
  exact W.widen (Nat.le_of_ble_eq_true rfl) (Nat.le_of_ble_eq_true rfl) (hend _ _ _ _ _ w (lv_sub hl [2, 7] rfl))
set_option maxHeartbeats 4000000 in
set_option maxRecDepth 100000 in
theorem lc_37 (hlt : l.stackTraces = false) (S : CallFix p m c cL_law 9 s #[.ref b] lwA RL) (hE : g_E D vwCl (gT ar) (EX1 κ) (fun q => s.heap.size ≤ q) s s.heap) (hX : va_X b 6 xs s s.heap) (hbl : b < s.heap.size) (w : g_S D vwCl (fun q => s.heap.size ≤ q) s.heap G H locs nz) (hw : LWs ar κ G x q1 y q2 out outD) (hl : lv_has ls 9 [(5, .int 0), (4, .ref outD), (3, .ref out), (2, .ref y), (1, .ref x), (0, .ref b)]) (hend : ∀ (H : Heap) (locs : List Loc) (ls : Array Slot) (G : gW) (nz : Nat), g_S D vwCl (fun q => s.heap.size ≤ q) s.heap G H locs nz → lv_has ls 9 [(5, .int 0), (0, .ref b)] → W p l e room_1 s m #[Value.ref b] below meth c H locs 400 9000 (lw_Z below #[Value.ref b] s) (F0 m 2365 ls [])) : W p l e room_1 s m #[Value.ref b] below meth c H locs 203 5000 (lw_Z below #[Value.ref b] s) (F0 m 2207 ls []) := by
  have hx := S.1
  have hb := S.2.1
  have hbA : ¬ s.heap.size ≤ b := Nat.not_le.mpr hbl
  obtain ⟨hwF, hwM, hwo, hwoD, hw1, hw2, hw3⟩ := id hw
  have hwq : x < q1 := hwF.1
  have hwy : y < q2 := hwM.1
  refine lv_aload_n hx hb dL_law_2207 rfl (lv_at hl 4 rfl) ?_
  refine lv_aload hx hb dL_law_2208 (lv_at hl 1 rfl) ?_
  have hF1 : FH ar κ (g_res (fun a9 => a9 < y ∨ a9 = outD) G) x q1 := FH_mono hwF (fun a9 c9 h1 h2 => g_res_i (show a9 < y ∨ a9 = outD from Or.inl (by omega)) h2)
  refine gs_calli (g_res (fun a9 => ¬ (a9 < y ∨ a9 = outD)) G) w (fun _ _ => g_res_s) (fun _ _ => g_res_2) (g_runSW (As := [.ref x, .ref outD]) (rest := []) S hE (g_sub w (fun _ _ => g_res_s)) hl (w_compiledShare l D ar κ (g_res (fun a9 => a9 < y ∨ a9 = outD) G) nz x outD q1 (fun _ => 0) hF1 (g_res_i (show outD < y ∨ outD = outD from Or.inr rfl) hwoD) (by omega) hlt) (kW_265 S.2.2.2.2 ⟨Nat.le_of_ble_eq_true rfl, Nat.le_of_ble_eq_true rfl⟩) rfl rfl (Nat.le_of_ble_eq_true rfl) dL_law_2210 ⟨Nat.le_of_ble_eq_true rfl, Nat.le_of_ble_eq_true rfl⟩) (fun r u1 H locs hp1 hnz1 w => ?_)
  obtain rfl := hp1
  refine lv_istore (lv' := [(6, .int 1), (5, .int 0), (4, .ref outD), (3, .ref out), (2, .ref y), (1, .ref x), (0, .ref b)]) hx hb dL_law_2213 hl (by decide) rfl (fun ls hl => ?_)
  refine lv_aload_n hx hb dL_law_2215 rfl (lv_at hl 4 rfl) ?_
  have hM1 : FM ar κ (g_res (fun a9 => y ≤ a9 ∧ a9 < out) (g_ov (g_res (fun a9 => ¬ (a9 < y ∨ a9 = outD)) G) u1.1)) y q2 0 := FM_mono hwM (fun a9 c9 h1 h2 h3 => g_res_i (show y ≤ a9 ∧ a9 < out from ⟨h1, by omega⟩) (g_ov_l (g_res_i (show ¬ (a9 < y ∨ a9 = outD) by omega) h3)))
  refine gs_callf (g_res (fun a9 => ¬ (y ≤ a9 ∧ a9 < out)) (g_ov (g_res (fun a9 => ¬ (a9 < y ∨ a9 = outD)) G) u1.1)) w (fun _ _ => g_res_s) (fun _ _ => g_res_2) (g_runV (As := []) (rest := []) S hE (g_sub w (fun _ _ => g_res_s)) hl (m_compiledShare l D ar κ (g_res (fun a9 => y ≤ a9 ∧ a9 < out) (g_ov (g_res (fun a9 => ¬ (a9 < y ∨ a9 = outD)) G) u1.1)) u1.2 y q2 0 hM1) (k_RL_268 S.2.2.2.2 ⟨Nat.le_of_ble_eq_true rfl, Nat.le_of_ble_eq_true rfl⟩) hM1.2.1 rfl rfl rfl rfl (Nat.le_of_ble_eq_true rfl) dL_law_2216 ⟨Nat.le_of_ble_eq_true rfl, Nat.le_of_ble_eq_true rfl⟩) (fun r2 u2 H locs hp2 hnz2 w => ?_)
  obtain ⟨fs, hy2, h72⟩ := hp2
  refine lv_fstore (lv' := [(7, .float r2), (6, .int 1), (5, .int 0), (4, .ref outD), (3, .ref out), (2, .ref y), (1, .ref x), (0, .ref b)]) hx hb dL_law_2219 hl (by decide) rfl (fun ls hl => ?_)
  refine lv_aload_n hx hb dL_law_2221 rfl (lv_at hl 5 rfl) ?_
  refine g_calli w (g_runV (As := []) (rest := []) S hE w hl (m_thrown l D ar κ (g_ov (g_res (fun a9 => ¬ (y ≤ a9 ∧ a9 < out)) (g_ov (g_res (fun a9 => ¬ (a9 < y ∨ a9 = outD)) G) u1.1)) u2.1) u2.2 y fs (1) (g_ov_r (g_res_n (fun h => h ⟨Nat.le_refl _, by omega⟩)) hy2) h72) (k_RL_139 S.2.2.2.2 ⟨Nat.le_of_ble_eq_true rfl, Nat.le_of_ble_eq_true rfl⟩) (g_ov_r (g_res_n (fun h => h ⟨Nat.le_refl _, by omega⟩)) hy2) rfl rfl rfl rfl (Nat.le_of_ble_eq_true rfl) dL_law_2222 ⟨Nat.le_of_ble_eq_true rfl, Nat.le_of_ble_eq_true rfl⟩) (fun r u H locs hp hnz w => ?_)
  obtain ⟨rfl, rfl⟩ := hp
  refine lv_iload hx hb dL_law_2225 (lv_at hl 1 rfl) ?_
  refine lv_icmp_eq (tgt := 2232) hx hb dL_law_2227 (by decide) (fun _ => ?_) (fun c => absurd (by decide) c)
  refine lv_iload hx hb dL_law_2232 (lv_at hl 1 rfl) ?_
  refine lv_if_ne (tgt := 2270) hx hb dL_law_2234 (by decide) (fun _ => ?_) (fun c => absurd c (by decide))
  refine lv_goto (tgt := 2365) hx hb dL_law_2270 (by decide) ?_
  exact W.widen (Nat.le_of_ble_eq_true rfl) (Nat.le_of_ble_eq_true rfl) (hend _ _ _ _ _ w (lv_sub hl [2, 7] rfl))
set_option maxHeartbeats 4000000 in
set_option maxRecDepth 100000 in
theorem lc_38 (hlt : l.stackTraces = false) (S : CallFix p m c cL_law 9 s #[.ref b] lwA RL) (hE : g_E D vwCl (gT ar) (EX1 κ) (fun q => s.heap.size ≤ q) s s.heap) (hX : va_X b 6 xs s s.heap) (hbl : b < s.heap.size) (w : g_S D vwCl (fun q => s.heap.size ≤ q) s.heap G H locs nz) (hw : LWs ar κ G x q1 y q2 out outD) (hl : lv_has ls 9 [(5, .int 0), (4, .ref outD), (3, .ref out), (2, .ref y), (1, .ref x), (0, .ref b)]) (hend : ∀ (H : Heap) (locs : List Loc) (ls : Array Slot) (G : gW) (nz : Nat), g_S D vwCl (fun q => s.heap.size ≤ q) s.heap G H locs nz → lv_has ls 9 [(5, .int 0), (0, .ref b)] → W p l e room_1 s m #[Value.ref b] below meth c H locs 400 9000 (lw_Z below #[Value.ref b] s) (F0 m 2365 ls [])) : W p l e room_1 s m #[Value.ref b] below meth c H locs 203 5000 (lw_Z below #[Value.ref b] s) (F0 m 2273 ls []) := by
  have hx := S.1
  have hb := S.2.1
  have hbA : ¬ s.heap.size ≤ b := Nat.not_le.mpr hbl
  obtain ⟨hwF, hwM, hwo, hwoD, hw1, hw2, hw3⟩ := id hw
  have hwq : x < q1 := hwF.1
  have hwy : y < q2 := hwM.1
  refine lv_aload_n hx hb dL_law_2273 rfl (lv_at hl 4 rfl) ?_
  refine lv_aload hx hb dL_law_2274 (lv_at hl 1 rfl) ?_
  have hF1 : FH ar κ (g_res (fun a9 => a9 < y ∨ a9 = outD) G) x q1 := FH_mono hwF (fun a9 c9 h1 h2 => g_res_i (show a9 < y ∨ a9 = outD from Or.inl (by omega)) h2)
  refine gs_calli (g_res (fun a9 => ¬ (a9 < y ∨ a9 = outD)) G) w (fun _ _ => g_res_s) (fun _ _ => g_res_2) (g_runSW (As := [.ref x, .ref outD]) (rest := []) S hE (g_sub w (fun _ _ => g_res_s)) hl (w_meanCalls l D ar κ (g_res (fun a9 => a9 < y ∨ a9 = outD) G) nz x outD q1 (fun _ => 0) hF1 (g_res_i (show outD < y ∨ outD = outD from Or.inr rfl) hwoD) (by omega) hlt) (kW_269 S.2.2.2.2 ⟨Nat.le_of_ble_eq_true rfl, Nat.le_of_ble_eq_true rfl⟩) rfl rfl (Nat.le_of_ble_eq_true rfl) dL_law_2276 ⟨Nat.le_of_ble_eq_true rfl, Nat.le_of_ble_eq_true rfl⟩) (fun r u1 H locs hp1 hnz1 w => ?_)
  obtain rfl := hp1
  refine lv_istore (lv' := [(6, .int 1), (5, .int 0), (4, .ref outD), (3, .ref out), (2, .ref y), (1, .ref x), (0, .ref b)]) hx hb dL_law_2279 hl (by decide) rfl (fun ls hl => ?_)
  refine lv_aload_n hx hb dL_law_2281 rfl (lv_at hl 4 rfl) ?_
  have hM1 : FM ar κ (g_res (fun a9 => y ≤ a9 ∧ a9 < out) (g_ov (g_res (fun a9 => ¬ (a9 < y ∨ a9 = outD)) G) u1.1)) y q2 0 := FM_mono hwM (fun a9 c9 h1 h2 h3 => g_res_i (show y ≤ a9 ∧ a9 < out from ⟨h1, by omega⟩) (g_ov_l (g_res_i (show ¬ (a9 < y ∨ a9 = outD) by omega) h3)))
  refine gs_calld (g_res (fun a9 => ¬ (y ≤ a9 ∧ a9 < out)) (g_ov (g_res (fun a9 => ¬ (a9 < y ∨ a9 = outD)) G) u1.1)) w (fun _ _ => g_res_s) (fun _ _ => g_res_2) (g_runV (As := []) (rest := []) S hE (g_sub w (fun _ _ => g_res_s)) hl (m_meanCalls l D ar κ (g_res (fun a9 => y ≤ a9 ∧ a9 < out) (g_ov (g_res (fun a9 => ¬ (a9 < y ∨ a9 = outD)) G) u1.1)) u1.2 y q2 0 hM1) (k_RL_271 S.2.2.2.2 ⟨Nat.le_of_ble_eq_true rfl, Nat.le_of_ble_eq_true rfl⟩) hM1.2.1 rfl rfl rfl rfl (Nat.le_of_ble_eq_true rfl) dL_law_2282 ⟨Nat.le_of_ble_eq_true rfl, Nat.le_of_ble_eq_true rfl⟩) (fun r2 u2 H locs hp2 hnz2 w => ?_)
  obtain ⟨fs, hy2, h72⟩ := hp2
  refine lv_dstore (lv' := [(7, .double r2), (6, .int 1), (5, .int 0), (4, .ref outD), (3, .ref out), (2, .ref y), (1, .ref x), (0, .ref b)]) hx hb dL_law_2285 hl (by decide) rfl (fun ls hl => ?_)
  refine lv_aload_n hx hb dL_law_2287 rfl (lv_at hl 5 rfl) ?_
  refine g_calli w (g_runV (As := []) (rest := []) S hE w hl (m_thrown l D ar κ (g_ov (g_res (fun a9 => ¬ (y ≤ a9 ∧ a9 < out)) (g_ov (g_res (fun a9 => ¬ (a9 < y ∨ a9 = outD)) G) u1.1)) u2.1) u2.2 y fs (1) (g_ov_r (g_res_n (fun h => h ⟨Nat.le_refl _, by omega⟩)) hy2) h72) (k_RL_139 S.2.2.2.2 ⟨Nat.le_of_ble_eq_true rfl, Nat.le_of_ble_eq_true rfl⟩) (g_ov_r (g_res_n (fun h => h ⟨Nat.le_refl _, by omega⟩)) hy2) rfl rfl rfl rfl (Nat.le_of_ble_eq_true rfl) dL_law_2288 ⟨Nat.le_of_ble_eq_true rfl, Nat.le_of_ble_eq_true rfl⟩) (fun r u H locs hp hnz w => ?_)
  obtain ⟨rfl, rfl⟩ := hp
  refine lv_iload hx hb dL_law_2291 (lv_at hl 1 rfl) ?_
  refine lv_icmp_eq (tgt := 2298) hx hb dL_law_2293 (by decide) (fun _ => ?_) (fun c => absurd (by decide) c)
  refine lv_iload hx hb dL_law_2298 (lv_at hl 1 rfl) ?_
  refine lv_if_ne (tgt := 2335) hx hb dL_law_2300 (by decide) (fun _ => ?_) (fun c => absurd c (by decide))
  refine lv_goto (tgt := 2365) hx hb dL_law_2335 (by decide) ?_
  exact W.widen (Nat.le_of_ble_eq_true rfl) (Nat.le_of_ble_eq_true rfl) (hend _ _ _ _ _ w (lv_sub hl [2, 7] rfl))
set_option maxHeartbeats 4000000 in
set_option maxRecDepth 100000 in
theorem lc_39 (hlt : l.stackTraces = false) (S : CallFix p m c cL_law 9 s #[.ref b] lwA RL) (hE : g_E D vwCl (gT ar) (EX1 κ) (fun q => s.heap.size ≤ q) s s.heap) (hX : va_X b 6 xs s s.heap) (hbl : b < s.heap.size) (w : g_S D vwCl (fun q => s.heap.size ≤ q) s.heap G H locs nz) (hw : LWs ar κ G x q1 y q2 out outD) (hl : lv_has ls 9 [(5, .int 0), (4, .ref outD), (3, .ref out), (2, .ref y), (1, .ref x), (0, .ref b)]) (hend : ∀ (H : Heap) (locs : List Loc) (ls : Array Slot) (G : gW) (nz : Nat), g_S D vwCl (fun q => s.heap.size ≤ q) s.heap G H locs nz → lv_has ls 9 [(5, .int 0), (0, .ref b)] → W p l e room_1 s m #[Value.ref b] below meth c H locs 400 9000 (lw_Z below #[Value.ref b] s) (F0 m 2365 ls [])) : W p l e room_1 s m #[Value.ref b] below meth c H locs 203 5000 (lw_Z below #[Value.ref b] s) (F0 m 2338 ls []) := by
  have hx := S.1
  have hb := S.2.1
  have hbA : ¬ s.heap.size ≤ b := Nat.not_le.mpr hbl
  obtain ⟨hwF, hwM, hwo, hwoD, hw1, hw2, hw3⟩ := id hw
  have hwq : x < q1 := hwF.1
  have hwy : y < q2 := hwM.1
  refine lv_aload_n hx hb dL_law_2338 rfl (lv_at hl 4 rfl) ?_
  have hF1 : FH ar κ (g_res (fun a9 => a9 < y) G) x q1 := FH_mono hwF (fun a9 c9 h1 h2 => g_res_i (show a9 < y by omega) h2)
  refine gs_calll (g_res (fun a9 => ¬ (a9 < y)) G) w (fun _ _ => g_res_s) (fun _ _ => g_res_2) (g_runV (As := []) (rest := []) S hE (g_sub w (fun _ _ => g_res_s)) hl (h_checksum l D ar κ (g_res (fun a9 => a9 < y) G) nz x q1 hF1) (k_RL_272 S.2.2.2.2 ⟨Nat.le_of_ble_eq_true rfl, Nat.le_of_ble_eq_true rfl⟩) hF1.2.1 rfl rfl rfl rfl (Nat.le_of_ble_eq_true rfl) dL_law_2339 ⟨Nat.le_of_ble_eq_true rfl, Nat.le_of_ble_eq_true rfl⟩) (fun r u1 H locs hp1 hnz1 w => ?_)
  obtain rfl := hp1
  refine lv_aload_n hx hb dL_law_2342 rfl (lv_at hl 3 rfl) ?_
  have hM1 : FM ar κ (g_res (fun a9 => y ≤ a9 ∧ a9 < out) (g_ov (g_res (fun a9 => ¬ (a9 < y)) G) u1.1)) y q2 0 := FM_mono hwM (fun a9 c9 h1 h2 h3 => g_res_i (show y ≤ a9 ∧ a9 < out from ⟨h1, by omega⟩) (g_ov_l (g_res_i (show ¬ (a9 < y) by omega) h3)))
  refine gs_calll (g_res (fun a9 => ¬ (y ≤ a9 ∧ a9 < out)) (g_ov (g_res (fun a9 => ¬ (a9 < y)) G) u1.1)) w (fun _ _ => g_res_s) (fun _ _ => g_res_2) (g_runV (As := []) (rest := [.long 278040950975800092]) S hE (g_sub w (fun _ _ => g_res_s)) hl (m_checksum l D ar κ (g_res (fun a9 => y ≤ a9 ∧ a9 < out) (g_ov (g_res (fun a9 => ¬ (a9 < y)) G) u1.1)) u1.2 y q2 0 hM1) (k_RL_276 S.2.2.2.2 ⟨Nat.le_of_ble_eq_true rfl, Nat.le_of_ble_eq_true rfl⟩) hM1.2.1 rfl rfl rfl rfl (Nat.le_of_ble_eq_true rfl) dL_law_2343 ⟨Nat.le_of_ble_eq_true rfl, Nat.le_of_ble_eq_true rfl⟩) (fun r2 u2 H locs hp2 hnz2 w => ?_)
  obtain rfl := hp2
  refine W.lcmp hx hb dL_law_2346 ?_
  rw [show lg_cmp (278040950975800092 : Int64) 278040950975800092 = 0 from by decide +kernel]
  refine lv_if_eq (tgt := 2365) hx hb dL_law_2347 (by decide) (fun _ => ?_) (fun c => absurd (by decide) c)
  exact W.widen (Nat.le_of_ble_eq_true rfl) (Nat.le_of_ble_eq_true rfl) (hend _ _ _ _ _ w (lv_sub hl [0, 5] rfl))
set_option maxHeartbeats 4000000 in
set_option maxRecDepth 100000 in
theorem lc_40 (hlt : l.stackTraces = false) (S : CallFix p m c cL_law 9 s #[.ref b] lwA RL) (hE : g_E D vwCl (gT ar) (EX1 κ) (fun q => s.heap.size ≤ q) s s.heap) (hX : va_X b 6 xs s s.heap) (hbl : b < s.heap.size) (w : g_S D vwCl (fun q => s.heap.size ≤ q) s.heap G H locs nz) (hw : LWs ar κ G x q1 y q2 out outD) (hl : lv_has ls 9 [(5, .int 0), (4, .ref outD), (3, .ref out), (2, .ref y), (1, .ref x), (0, .ref b)]) (hend : ∀ (H : Heap) (locs : List Loc) (ls : Array Slot) (G : gW) (nz : Nat), g_S D vwCl (fun q => s.heap.size ≤ q) s.heap G H locs nz → lv_has ls 9 [(5, .int 0), (0, .ref b)] → W p l e room_1 s m #[Value.ref b] below meth c H locs 400 9000 (lw_Z below #[Value.ref b] s) (F0 m 2365 ls [])) : W p l e room_1 s m #[Value.ref b] below meth c H locs 203 5000 (lw_Z below #[Value.ref b] s) (F0 m 2352 ls []) := by
  have hx := S.1
  have hb := S.2.1
  have hbA : ¬ s.heap.size ≤ b := Nat.not_le.mpr hbl
  obtain ⟨hwF, hwM, hwo, hwoD, hw1, hw2, hw3⟩ := id hw
  have hwq : x < q1 := hwF.1
  have hwy : y < q2 := hwM.1
  refine lv_aload_n hx hb dL_law_2352 rfl (lv_at hl 4 rfl) ?_
  have hF1 : FH ar κ (g_res (fun a9 => a9 < y) G) x q1 := FH_mono hwF (fun a9 c9 h1 h2 => g_res_i (show a9 < y by omega) h2)
  refine gs_calli (g_res (fun a9 => ¬ (a9 < y)) G) w (fun _ _ => g_res_s) (fun _ _ => g_res_2) (g_runV (As := []) (rest := []) S hE (g_sub w (fun _ _ => g_res_s)) hl (h_isSound l D ar κ (g_res (fun a9 => a9 < y) G) nz x q1 hF1) (k_RL_277 S.2.2.2.2 ⟨Nat.le_of_ble_eq_true rfl, Nat.le_of_ble_eq_true rfl⟩) hF1.2.1 rfl rfl rfl rfl (Nat.le_of_ble_eq_true rfl) dL_law_2353 ⟨Nat.le_of_ble_eq_true rfl, Nat.le_of_ble_eq_true rfl⟩) (fun r u1 H locs hp1 hnz1 w => ?_)
  obtain rfl := hp1
  refine lv_aload_n hx hb dL_law_2356 rfl (lv_at hl 3 rfl) ?_
  have hM1 : FM ar κ (g_res (fun a9 => y ≤ a9 ∧ a9 < out) (g_ov (g_res (fun a9 => ¬ (a9 < y)) G) u1.1)) y q2 0 := FM_mono hwM (fun a9 c9 h1 h2 h3 => g_res_i (show y ≤ a9 ∧ a9 < out from ⟨h1, by omega⟩) (g_ov_l (g_res_i (show ¬ (a9 < y) by omega) h3)))
  refine gs_calli (g_res (fun a9 => ¬ (y ≤ a9 ∧ a9 < out)) (g_ov (g_res (fun a9 => ¬ (a9 < y)) G) u1.1)) w (fun _ _ => g_res_s) (fun _ _ => g_res_2) (g_runV (As := []) (rest := [.int 1]) S hE (g_sub w (fun _ _ => g_res_s)) hl (m_isSound l D ar κ (g_res (fun a9 => y ≤ a9 ∧ a9 < out) (g_ov (g_res (fun a9 => ¬ (a9 < y)) G) u1.1)) u1.2 y q2 0 hM1) (k_RL_281 S.2.2.2.2 ⟨Nat.le_of_ble_eq_true rfl, Nat.le_of_ble_eq_true rfl⟩) hM1.2.1 rfl rfl rfl rfl (Nat.le_of_ble_eq_true rfl) dL_law_2357 ⟨Nat.le_of_ble_eq_true rfl, Nat.le_of_ble_eq_true rfl⟩) (fun r2 u2 H locs hp2 hnz2 w => ?_)
  obtain rfl := hp2
  refine lv_icmp_eq (tgt := 2365) hx hb dL_law_2360 (by decide) (fun _ => ?_) (fun c => absurd (by decide) c)
  exact W.widen (Nat.le_of_ble_eq_true rfl) (Nat.le_of_ble_eq_true rfl) (hend _ _ _ _ _ w (lv_sub hl [0, 5] rfl))
end LAWC
