theorem dX8_method_0 : decode cX8_method 0 = .ok (.aload_n 0, 1) := by decide +kernel
theorem dX8_method_1 : decode cX8_method 1 = .ok (.iload_n 1, 1) := by decide +kernel
theorem dX8_method_2 : decode cX8_method 2 = .ok (.iload_n 2, 1) := by decide +kernel
theorem dX8_method_3 : decode cX8_method 3 = .ok (.invokevirtual 134, 3) := by decide +kernel
theorem dX8_method_6 : decode cX8_method 6 = .ok (.iload_n 3, 1) := by decide +kernel
theorem dX8_method_7 : decode cX8_method 7 = .ok (.iconst 3, 1) := by decide +kernel
theorem dX8_method_8 : decode cX8_method 8 = .ok (.invokestatic 97, 3) := by decide +kernel
theorem dX8_method_11 : decode cX8_method 11 = .ok (.ifCond .eq 12, 3) := by decide +kernel
theorem dX8_method_14 : decode cX8_method 14 = .ok (.iload 4, 2) := by decide +kernel
theorem dX8_method_16 : decode cX8_method 16 = .ok (.iconst 5, 1) := by decide +kernel
theorem dX8_method_17 : decode cX8_method 17 = .ok (.invokestatic 97, 3) := by decide +kernel
theorem dX8_method_20 : decode cX8_method 20 = .ok (.ifCond .ne 13, 3) := by decide +kernel
theorem dX8_method_23 : decode cX8_method 23 = .ok (.new 105, 3) := by decide +kernel
theorem dX8_method_26 : decode cX8_method 26 = .ok (.dup, 1) := by decide +kernel
theorem dX8_method_27 : decode cX8_method 27 = .ok (.ldc 138, 2) := by decide +kernel
theorem dX8_method_29 : decode cX8_method 29 = .ok (.invokespecial 109, 3) := by decide +kernel
theorem dX8_method_32 : decode cX8_method 32 = .ok (.athrow, 1) := by decide +kernel
theorem dX8_method_33 : decode cX8_method 33 = .ok (.new 16, 3) := by decide +kernel
theorem dX8_method_36 : decode cX8_method 36 = .ok (.dup, 1) := by decide +kernel
theorem dX8_method_37 : decode cX8_method 37 = .ok (.iload_n 1, 1) := by decide +kernel
theorem dX8_method_38 : decode cX8_method 38 = .ok (.iload_n 2, 1) := by decide +kernel
theorem dX8_method_39 : decode cX8_method 39 = .ok (.iload_n 3, 1) := by decide +kernel
theorem dX8_method_40 : decode cX8_method 40 = .ok (.iload 4, 2) := by decide +kernel
theorem dX8_method_42 : decode cX8_method 42 = .ok (.aload_n 0, 1) := by decide +kernel
theorem dX8_method_43 : decode cX8_method 43 = .ok (.getfield 25, 3) := by decide +kernel
theorem dX8_method_46 : decode cX8_method 46 = .ok (.invokespecial 140, 3) := by decide +kernel
theorem dX8_method_49 : decode cX8_method 49 = .ok (.astore 5, 2) := by decide +kernel
theorem dX8_method_51 : decode cX8_method 51 = .ok (.aload 5, 2) := by decide +kernel
theorem dX8_method_53 : decode cX8_method 53 = .ok (.aload_n 0, 1) := by decide +kernel
theorem dX8_method_54 : decode cX8_method 54 = .ok (.getfield 10, 3) := by decide +kernel
theorem dX8_method_57 : decode cX8_method 57 = .ok (.invokevirtual 143, 3) := by decide +kernel
theorem dX8_method_60 : decode cX8_method 60 = .ok (.ifCond .ne 13, 3) := by decide +kernel
theorem dX8_method_63 : decode cX8_method 63 = .ok (.new 147, 3) := by decide +kernel
theorem dX8_method_66 : decode cX8_method 66 = .ok (.dup, 1) := by decide +kernel
theorem dX8_method_67 : decode cX8_method 67 = .ok (.ldc 149, 2) := by decide +kernel
theorem dX8_method_69 : decode cX8_method 69 = .ok (.invokespecial 151, 3) := by decide +kernel
theorem dX8_method_72 : decode cX8_method 72 = .ok (.athrow, 1) := by decide +kernel
theorem dX8_method_73 : decode cX8_method 73 = .ok (.aload_n 0, 1) := by decide +kernel
theorem dX8_method_74 : decode cX8_method 74 = .ok (.iload_n 1, 1) := by decide +kernel
theorem dX8_method_75 : decode cX8_method 75 = .ok (.iload_n 2, 1) := by decide +kernel
theorem dX8_method_76 : decode cX8_method 76 = .ok (.aload 5, 2) := by decide +kernel
theorem dX8_method_78 : decode cX8_method 78 = .ok (.invokevirtual 152, 3) := by decide +kernel
theorem dX8_method_81 : decode cX8_method 81 = .ok (.aload_n 0, 1) := by decide +kernel
theorem dX8_method_82 : decode cX8_method 82 = .ok (.new 22, 3) := by decide +kernel
theorem dX8_method_85 : decode cX8_method 85 = .ok (.dup, 1) := by decide +kernel
theorem dX8_method_86 : decode cX8_method 86 = .ok (.invokespecial 24, 3) := by decide +kernel
theorem dX8_method_89 : decode cX8_method 89 = .ok (.putfield 25, 3) := by decide +kernel
theorem dX8_method_92 : decode cX8_method 92 = .ok (.aload 5, 2) := by decide +kernel
theorem dX8_method_94 : decode cX8_method 94 = .ok (.getfield 156, 3) := by decide +kernel
theorem dX8_method_97 : decode cX8_method 97 = .ok (.getfield 128, 3) := by decide +kernel
theorem dX8_method_100 : decode cX8_method 100 = .ok (.ireturn, 1) := by decide +kernel
section SITES
variable {p : Program} {l : Launch} {e : Env} {R : Room} {s : State} {m : MethodId} {args : Array Value} {below : List Frame} {meth : Method} {c : Code} {H : Heap} {locs : List Loc} {cells slots : Nat} {Q : State → Prop}
variable {pc : Nat} {ls : Array Slot} {rest : List Value} {D : va_G} {ar : Nat → ClassId} {κ : Nat → Nat} {A : Nat → Prop} {a : Nat} {H0 : Heap} {G : gW} {nz nL : Nat} {cc : ByteArray}
theorem m_6_207 : (Cond.instantiable RX6 7) ∈ lwA := lwA_mk (ck_6 _ (List.mem_of_getElem? (i := 207) rfl)) rfl
theorem nw_RX8_16 {A9 : Nat → Prop} {H9 : Heap} (S : CallFix p m c cc nL s args lwA RX8) (hE : g_E D vwCl (gT ar) (EX1 κ) A9 s H9) (w : g_S D vwCl A H0 G H locs nz) (hcells : cells + 1 ≤ R.cells) (hslots : slots + 7 ≤ R.slots) (hdg : decode cc pc = .ok (.new 16, 3)) (kk : ∀ (H1 : Heap), g_S D vwCl A H0 (g_up G nz (.inr (12, [.int 0, .int 0, .int 0, .int 0, .null, .int 0, .int 0]))) H1 locs (nz + 1) → W p l e R s m args below meth c H1 locs (cells + 1) (slots + 7) Q (F0 m (pc + 3) ls (.ref nz :: rest))) : W p l e R s m args below meth c H locs cells slots Q (F0 m pc ls rest) :=
  g_new (ci := 12) (fs := [.int 0, .int 0, .int 0, .int 0, .null, .int 0, .int 0]) (C := RX6) (T := TX6) (N := 7) S.1 S.2.1 S.2.2.2.2 inA_RX6 tyX6 tyX6_ok S.2.2.2.1 (S.2.2.2.2 _ m_1_66) (S.2.2.2.2 _ m_6_207) (S.2.2.2.2 _ m_1_36) hE.1 w rfl (fun j hj => by rcases (show j = 0 ∨ j = 1 ∨ j = 2 ∨ j = 3 ∨ j = 4 ∨ j = 5 ∨ j = 6 by omega) with rfl | rfl | rfl | rfl | rfl | rfl | rfl <;> rfl) hcells hslots hdg kk
theorem m_6_210 : (Cond.code yX6_init cX6_init 6 none) ∈ lwA := lwA_mk (ck_6 _ (List.mem_of_getElem? (i := 210) rfl)) rfl
theorem m_6_208 : (Cond.methodLink RX8 140 yX6_init) ∈ lwA := lwA_mk (ck_6 _ (List.mem_of_getElem? (i := 208) rfl)) rfl
theorem m_6_209 : (Cond.instanceMethod yX6_init) ∈ lwA := lwA_mk (ck_6 _ (List.mem_of_getElem? (i := 209) rfl)) rfl
theorem k_RX8_140 {args : Array Value} {s : State} {R rm : Room} (hts : ∀ w ∈ lwA, w.before args s = true) (hR : rm.frames + 1 ≤ R.frames ∧ 8 + (6 + 11) + rm.locals ≤ R.locals) : CallB R s args RX8 140 yX6_init cX6_init 6 none (lwC yX6_init cX6_init 6 none) rm rm.cells rm.slots 5 ∧ yX6_init.name = "<init>" ∧ (Cond.instanceMethod yX6_init).before args s = true := cwI 5 hts (gd m_6_210) rfl rfl rfl (hts _ m_1_36) (hts _ m_6_208) (hts _ m_6_209) rfl (by decide +kernel) hR
theorem m_7_7 : (Cond.code yX6_isWellTold cX6_isWellTold 4 (some .boolean)) ∈ lwA := lwA_mk (ck_7 _ (List.mem_of_getElem? (i := 7) rfl)) rfl
theorem m_7_4 : (Cond.methodLink RX8 143 yX6_isWellTold) ∈ lwA := lwA_mk (ck_7 _ (List.mem_of_getElem? (i := 4) rfl)) rfl
theorem m_7_5 : (Cond.instanceMethod yX6_isWellTold) ∈ lwA := lwA_mk (ck_7 _ (List.mem_of_getElem? (i := 5) rfl)) rfl
theorem m_7_6 : (Cond.selects RX6 yX6_isWellTold yX6_isWellTold) ∈ lwA := lwA_mk (ck_7 _ (List.mem_of_getElem? (i := 6) rfl)) rfl
theorem k_RX8_143 {args : Array Value} {s : State} {R rm : Room} (hts : ∀ w ∈ lwA, w.before args s = true) (hR : rm.frames + 1 ≤ R.frames ∧ 8 + (4 + 11) + rm.locals ≤ R.locals) : CallW R s args RX8 RX6 143 yX6_isWellTold cX6_isWellTold 4 (some .boolean) (lwC yX6_isWellTold cX6_isWellTold 4 (some .boolean)) rm rm.cells rm.slots 1 := cwV 1 hts (gdV m_7_4 m_7_5 m_7_6 m_1_36 m_7_7) rfl rfl rfl (by decide +kernel) hR
theorem Ho_ab_sty {v9 : Ho} {y9 : Nat} : (v9.sty y9).ab = v9.ab := rfl
theorem Ho_fc_sty {v9 : Ho} {y9 : Nat} : (v9.sty y9).fc = v9.fc := rfl
theorem Ho_cn_sty {v9 : Ho} {y9 : Nat} : (v9.sty y9).cn = v9.cn := rfl
theorem Ho_me_sty {v9 : Ho} {y9 : Nat} : (v9.sty y9).me = v9.me := rfl
theorem Ho_nt_sty {v9 : Ho} {y9 : Nat} : (v9.sty y9).nt = v9.nt := rfl
theorem Ho_nr_sty {v9 : Ho} {y9 : Nat} : (v9.sty y9).nr = v9.nr := rfl
theorem Ho_to_sty {v9 : Ho} {y9 : Nat} : (v9.sty y9).to = v9.to := rfl
theorem Ho_ro_sty {v9 : Ho} {y9 : Nat} : (v9.sty y9).ro = v9.ro := rfl
theorem Ho_gl_sty {v9 : Ho} {y9 : Nat} : (v9.sty y9).gl = v9.gl := rfl
theorem Ho_al_sty {v9 : Ho} {y9 : Nat} : (v9.sty y9).al = v9.al := rfl
theorem Ho_re_sty {v9 : Ho} {y9 : Nat} : (v9.sty y9).re = v9.re := rfl
theorem Ho_th_sty {v9 : Ho} {y9 : Nat} : (v9.sty y9).th = v9.th := rfl
theorem Ho_tc_sty {v9 : Ho} {y9 : Nat} : (v9.sty y9).tc = v9.tc := rfl
theorem Ho_rc_sty {v9 : Ho} {y9 : Nat} : (v9.sty y9).rc = v9.rc := rfl
theorem Ho_mk_sty {v9 : Ho} {y9 : Nat} : (v9.sty y9).mk = v9.mk := rfl
theorem Ho_fr_sty {v9 : Ho} {y9 : Nat} : (v9.sty y9).fr = v9.fr := rfl
theorem Ho_np_sty {v9 : Ho} {y9 : Nat} : (v9.sty y9).np = v9.np := rfl
theorem Ho_pg_sty {v9 : Ho} {y9 : Nat} : (v9.sty y9).pg = v9.pg := rfl
theorem Ho_wc_sty {v9 : Ho} {y9 : Nat} : (v9.sty y9).wc = v9.wc := rfl
theorem Ho_ws_sty {v9 : Ho} {y9 : Nat} : (v9.sty y9).ws = v9.ws := rfl
theorem Ho_wp_sty {v9 : Ho} {y9 : Nat} : (v9.sty y9).wp = v9.wp := rfl
theorem gf_RX8_156_12 {A9 : Nat → Prop} {H9 : Heap} {fs : List Value} {v : Value} (S : CallFix p m c cc nL s args lwA RX8) (hE : g_E D vwCl (gT ar) (EX1 κ) A9 s H9) (w : g_S D vwCl A H0 G H locs nz) (ha : G a = some (.inr (12, fs))) (hv : fs[4]? = some v) (hdg : decode cc pc = .ok (.getfield 156, 3)) (kk : W p l e R s m args below meth c H locs cells slots Q (F0 m (pc + 3) ls (v :: rest))) : W p l e R s m args below meth c H locs cells slots Q (F0 m pc ls (.ref a :: rest)) :=
  va_getN (ci := 12) (C := RX6) (T := TX6) (N := 7) S.1 S.2.1 S.2.2.2.2 inA_RX6 S.2.2.2.1 hE.1 (g_1 w.1 ha) 0 rfl rfl 4 (by decide) (va_Nw.use rfl (hE.2.1.1 _ (ckN_1 _ (List.mem_of_getElem? (i := 34) rfl)))) (fun _ h => h) hv hdg kk
end SITES
def sX8_method (Z : Ho) (i0 : Int32) (j0 : Int32) (n0 : Int32) (t0 : Int32) : Rs Int32 := rc (sX8_checkPlaceOfMethod Z i0 j0) (fun _ T5 => if isB n0 3 = 0 then (.inr ("java/lang/IllegalArgumentException", T5)) else (if isB t0 5 = 0 then (.inr ("java/lang/IllegalArgumentException", T5)) else (pc (sX6_isWellTold T5 i0 j0 n0 t0 T5.ty) (fun r10 T11 => if r10 = 0 then (.inr ("java/lang/UnsupportedOperationException", T11)) else (vc (((T11.snt (Z.nt + 1)).toS Z.nt ((((i0, j0), n0), ((t0, 0), T5.ty)) : To))) (fun T16 => vc (sX8_placeMethod T16 i0 j0 Z.nt) (fun T19 => vc (((T19.snr (Z.nr + 1)).roS Z.nr (((((fun _ => 0), (fun _ => 0)), ((fun _ => 0), (fun _ => 0))), (((fun _ => 0), 0), 0)) : Ro))) (fun T26 => .inl ((T26.ro ((T26.to Z.nt).q)).n, (T26.sty Z.nr)))))))))) (fun E9 T9 => .inr (E9, T9))
theorem sX8_method_u (Z : Ho) (i0 : Int32) (j0 : Int32) (n0 : Int32) (t0 : Int32) : sX8_method Z i0 j0 n0 t0 = rc (sX8_checkPlaceOfMethod Z i0 j0) (fun _ T5 => if isB n0 3 = 0 then (.inr ("java/lang/IllegalArgumentException", T5)) else (if isB t0 5 = 0 then (.inr ("java/lang/IllegalArgumentException", T5)) else (pc (sX6_isWellTold T5 i0 j0 n0 t0 T5.ty) (fun r10 T11 => if r10 = 0 then (.inr ("java/lang/UnsupportedOperationException", T11)) else (vc (((T11.snt (Z.nt + 1)).toS Z.nt ((((i0, j0), n0), ((t0, 0), T5.ty)) : To))) (fun T16 => vc (sX8_placeMethod T16 i0 j0 Z.nt) (fun T19 => vc (((T19.snr (Z.nr + 1)).roS Z.nr (((((fun _ => 0), (fun _ => 0)), ((fun _ => 0), (fun _ => 0))), (((fun _ => 0), 0), 0)) : Ro))) (fun T26 => .inl ((T26.ro ((T26.to Z.nt).q)).n, (T26.sty Z.nr)))))))))) (fun E9 T9 => .inr (E9, T9)) := rfl
set_option maxHeartbeats 4000000 in
set_option maxRecDepth 100000 in
theorem hX8_method (l : Launch) (D : va_G) (ar : Nat → ClassId) (κ : Nat → Nat) (G : gW) (x : Xo) (Z : Ho) (sz : Nat) (i0 : Int32) (j0 : Int32) (n0 : Int32) (t0 : Int32) (hk : OK x Z) (h0 : x.f (.to Z.nt) = sz) (h1 : RoA x Z.nr (sz + 1)) (hlt : l.stackTraces = false) : vx_Met l yX8_method (lwC yX8_method cX8_method 6 (some .int)) (rD 10 8 140) (g_Pc D vwCl (gT ar) (EX1 κ) (ov κ ar x Z G) sz [.ref (x.f .ho), .int i0, .int j0, .int n0, .int t0]) (g_Qi D vwCl (g_A (ov κ ar x Z G) sz) (fun r u => ∃ z9 : Zo, ∃ T9 : Ho, sX8_method Z i0 j0 n0 t0 = .inl (r, T9) ∧ u.1 = ov κ ar (x.pgs z9) T9 G ∧ OK (x.pgs z9) T9 ∧ BX x z9 sz)) (gX D (g_A (ov κ ar x Z G) sz) (fun E u => ∃ z9 : Zo, ∃ T9 : Ho, sX8_method Z i0 j0 n0 t0 = .inr (E, T9) ∧ u.1 = ov κ ar (x.pgs z9) T9 G ∧ OK (x.pgs z9) T9 ∧ BX x z9 sz)) 8 140 (g_A (ov κ ar x Z G) sz) := by
  refine gx_ofW (by decide +kernel) (Nat.le_of_ble_eq_true rfl) ?_
  intro p e s m below meth c ls S hr hlk ht hE w hl
  have hx := S.1
  have hb := S.2.1
  have hl : lv_has ls 6 [(0, .ref (x.f .ho)), (1, .int i0), (2, .int j0), (3, .int n0), (4, .int t0)] := hl
  have hG0 : G sz = none := ov_G0 (g_none w)
  refine lv_aload_n hx hb dX8_method_0 rfl (lv_at hl 0 rfl) ?_
  refine lv_iload_n hx hb dX8_method_1 rfl (lv_at hl 1 rfl) ?_
  refine lv_iload_n hx hb dX8_method_2 rfl (lv_at hl 2 rfl) ?_
  refine gx_callv w (gx_runV (As := [.int i0, .int j0]) (rest := []) S hE w hl (hX8_checkPlaceOfMethod l D ar κ G x Z sz i0 j0 hk  hlt) (k_RX8_134 S.2.2.2.2 ⟨Nat.le_of_ble_eq_true rfl, Nat.le_of_ble_eq_true rfl⟩) (ov_r (t := .ho) (hk.e (.ho) rfl)) rfl rfl rfl rfl (Nat.le_of_ble_eq_true rfl) dX8_method_3 ⟨Nat.le_of_ble_eq_true rfl, Nat.le_of_ble_eq_true rfl⟩) (fun E ce q9 u H locs hp hnz w hce hv hcl => by obtain ⟨T1, e2, hu9, hk3, sq4⟩ := hp; exact g_pass ht hlk w hce hv hcl ⟨x.z, _, ((sX8_method_u Z i0 j0 n0 t0).trans (rc_x e2)), hu9, hk3, (fun a9 t9 h9 => Or.inl h9)⟩ (Nat.le_of_ble_eq_true rfl) (Nat.le_of_ble_eq_true rfl)) (fun u H locs hp hnz w => ?_)
  obtain ⟨T5, e6, hu9, hk7, sq8⟩ := hp
  subst hu9
  dsimp only at w
  refine lv_iload_n hx hb dX8_method_6 rfl (lv_at hl 3 rfl) ?_
  refine lv_iconst (v := 3) hx hb dX8_method_7 (by decide) ?_
  refine g_calli w (g_runS (As := [.int n0, .int 3]) (rest := []) S hE w hl (c_X8_isBelow l D ar κ (ov κ ar x T5 G) sz n0 3) (k_RX8_97 S.2.2.2.2 ⟨Nat.le_of_ble_eq_true rfl, Nat.le_of_ble_eq_true rfl⟩) rfl rfl (Nat.le_of_ble_eq_true rfl) dX8_method_8 ⟨Nat.le_of_ble_eq_true rfl, Nat.le_of_ble_eq_true rfl⟩) (fun r u H locs hp hnz w => ?_)
  obtain ⟨rfl, rfl⟩ := hp
  dsimp only at w
  refine lv_if_eq (tgt := 23) hx hb dX8_method_11 (by decide) (fun c_11 => ?_) (fun c_11 => ?_)
  · exact g_throwS (names := ["java/lang/RuntimeException", "java/lang/Exception"]) hlt S hE w hl ht hlk (by decide +kernel) (by decide +kernel) m_3_42 m_1_18 (List.mem_of_getElem? (i := 3) rfl) th_RX8_105_109_1 th_RX8_105_109_2 th_RX8_105_109_3 dX8_method_23 dX8_method_26 dX8_method_27 dX8_method_29 dX8_method_32 (Nat.le_of_ble_eq_true rfl) (Nat.le_of_ble_eq_true rfl) (Nat.le_of_ble_eq_true rfl) (Nat.le_of_ble_eq_true rfl) (Nat.le_of_ble_eq_true rfl) (Nat.le_of_ble_eq_true rfl) (fun n9 hn9 => ⟨x.z, _, ((sX8_method_u Z i0 j0 n0 t0).trans ((rc_v e6).trans (if_pos c_11))), rfl, hk7, (fun a9 t9 h9 => Or.inl h9)⟩)
  · refine lv_iload hx hb dX8_method_14 (lv_at hl 4 rfl) ?_
    refine lv_iconst (v := 5) hx hb dX8_method_16 (by decide) ?_
    refine g_calli w (g_runS (As := [.int t0, .int 5]) (rest := []) S hE w hl (c_X8_isBelow l D ar κ (ov κ ar x T5 G) sz t0 5) (k_RX8_97 S.2.2.2.2 ⟨Nat.le_of_ble_eq_true rfl, Nat.le_of_ble_eq_true rfl⟩) rfl rfl (Nat.le_of_ble_eq_true rfl) dX8_method_17 ⟨Nat.le_of_ble_eq_true rfl, Nat.le_of_ble_eq_true rfl⟩) (fun r u H locs hp hnz w => ?_)
    obtain ⟨rfl, rfl⟩ := hp
    dsimp only at w
    refine lv_if_ne (tgt := 33) hx hb dX8_method_20 (by decide) (fun c_20 => ?_) (fun c_20 => ?_)
    · have nb9 : x.b sz = none := ov_b0 (g_none w)
      refine nw_RX8_16 S hE w (Nat.le_of_ble_eq_true rfl) (Nat.le_of_ble_eq_true rfl) dX8_method_33 (fun H w => ?_)
      have w := g_eqw w (ov_new nb9)
      refine lv_dup hx hb dX8_method_36 rfl ?_
      refine lv_iload_n hx hb dX8_method_37 rfl (lv_at hl 1 rfl) ?_
      refine lv_iload_n hx hb dX8_method_38 rfl (lv_at hl 2 rfl) ?_
      refine lv_iload_n hx hb dX8_method_39 rfl (lv_at hl 3 rfl) ?_
      refine lv_iload hx hb dX8_method_40 (lv_at hl 4 rfl) ?_
      refine lv_aload_n hx hb dX8_method_42 rfl (lv_at hl 0 rfl) ?_
      refine gf_RX8_25_14 (v := .ref (x.f (.ro T5.ty))) S hE w (ov_r (t := .ho) (hk7.e (.ho) rfl)) rfl dX8_method_43 ?_
      refine g_callv w (g_runI (As := [.int i0, .int j0, .int n0, .int t0, .ref (x.f (.ro T5.ty))]) (rest := [.ref sz]) S hE w hl (c_X6_init l D ar κ (ov κ ar x T5 (g_up G sz (.inr (12, [.int 0, .int 0, .int 0, .int 0, .null, .int 0, .int 0])))) (sz + 1) sz i0 j0 n0 t0 (x.f (.ro T5.ty)) (ov_o nb9 g_up_s)) (k_RX8_140 S.2.2.2.2 ⟨Nat.le_of_ble_eq_true rfl, Nat.le_of_ble_eq_true rfl⟩) rfl rfl (Nat.le_of_ble_eq_true rfl) dX8_method_46 ⟨Nat.le_of_ble_eq_true rfl, Nat.le_of_ble_eq_true rfl⟩) (fun u H locs hp hnz w => ?_)
      obtain rfl := hp
      dsimp only at w
      have w := g_eqw w (ov_new nb9)
      have w := g_eqw w (congrArg (fun Z9 => (ov κ ar x T5 Z9)) g_over)
      refine lv_astore (lv' := [(5, .ref sz), (0, .ref (x.f .ho)), (1, .int i0), (2, .int j0), (3, .int n0), (4, .int t0)]) hx hb dX8_method_49 hl (by decide) rfl (fun ls hl => ?_)
      refine lv_aload hx hb dX8_method_51 (lv_at hl 0 rfl) ?_
      refine lv_aload_n hx hb dX8_method_53 rfl (lv_at hl 1 rfl) ?_
      refine gf_RX8_10_14 (v := .ref (x.f .cl)) S hE w (ov_r (t := .ho) (hk7.e (.ho) rfl)) rfl dX8_method_54 ?_
      refine g_calli w (g_runV (As := [.ref (x.f .cl)]) (rest := []) S hE w hl (hX6_isWellTold l D ar κ (g_up G sz (.inr (12, [.int i0, .int j0, .int n0, .int t0, .ref (x.f (.ro T5.ty)), .int 0, .int 0]))) x T5 (sz + 1) sz i0 j0 n0 t0 T5.ty hk7 nb9 g_up_s hk7.y) (k_RX8_143 S.2.2.2.2 ⟨Nat.le_of_ble_eq_true rfl, Nat.le_of_ble_eq_true rfl⟩) (ov_o nb9 g_up_s) rfl rfl rfl rfl (Nat.le_of_ble_eq_true rfl) dX8_method_57 ⟨Nat.le_of_ble_eq_true rfl, Nat.le_of_ble_eq_true rfl⟩) (fun r10 u H locs hp hnz w => ?_)
      obtain ⟨T11, e12, hu9, hk13, sq14⟩ := hp
      subst hu9
      dsimp only at w
      have vk15 : T5.ty < T11.nr := SZ.ro sq14 hk7.y
      refine lv_if_ne (tgt := 73) hx hb dX8_method_60 (by decide) (fun c_60 => ?_) (fun c_60 => ?_)
      · have hnt : T11.nt = Z.nt := (SZ.t sq14 (SZ.t sq8 ⟨rfl, rfl, rfl, rfl⟩)).1
        have hnr : T11.nr = Z.nr := (SZ.t sq14 (SZ.t sq8 ⟨rfl, rfl, rfl, rfl⟩)).2.1
        have w := g_eqw w (adopt1 (k := Z.nt) (v := ((((i0, j0), n0), ((t0, 0), T5.ty)) : To)) hk13.v nb9 h0 rfl)
        have hk180 : OK (x.pgs (zTo x Z.nt sz)) ((T11.snt (Z.nt + 1)).toS Z.nt ((((i0, j0), n0), ((t0, 0), T5.ty)) : To)) := hk13.adopt1 hnt nb9 h0 vk15
        obtain ⟨T16, eT17⟩ : ∃ T9 : Ho, ((T11.snt (Z.nt + 1)).toS Z.nt ((((i0, j0), n0), ((t0, 0), T5.ty)) : To)) = T9 := ⟨_, rfl⟩
        have hk18 : OK (x.pgs (zTo x Z.nt sz)) T16 := eT17 ▸ hk180
        have w := g_eqw w (congrArg (fun Z9 => ov κ ar (x.pgs (zTo x Z.nt sz)) Z9 G) eT17)
        have hv1 : Z.nt < T16.nt := by rw [← eT17]; exact Nat.lt_succ_self _
        have hv2 : T5.ty < T16.nr := by rw [← eT17]; exact vk15
        have hnr2 : T16.nr = Z.nr := by rw [← eT17]; exact hnr
        have hl : lv_has ls 6 [(5, .ref (x.f (.to Z.nt))), (0, .ref (x.f .ho)), (1, .int i0), (2, .int j0), (3, .int n0), (4, .int t0)] := by rw [← h0] at hl; exact hl
        have hbf2 := ov_bf w
        refine lv_aload_n hx hb dX8_method_73 rfl (lv_at hl 1 rfl) ?_
        refine lv_iload_n hx hb dX8_method_74 rfl (lv_at hl 2 rfl) ?_
        refine lv_iload_n hx hb dX8_method_75 rfl (lv_at hl 3 rfl) ?_
        refine lv_aload hx hb dX8_method_76 (lv_at hl 0 rfl) ?_
        refine g_callv w (g_runV (As := [.int i0, .int j0, .ref (x.f (.to Z.nt))]) (rest := []) S hE w hl (hX8_placeMethod l D ar κ G (x.pgs (zTo x Z.nt sz)) T16 (sz + 1) i0 j0 Z.nt hk18 hv1) (k_RX8_152 S.2.2.2.2 ⟨Nat.le_of_ble_eq_true rfl, Nat.le_of_ble_eq_true rfl⟩) (ov_r (t := .ho) (hk18.e (.ho) rfl)) rfl rfl rfl rfl (Nat.le_of_ble_eq_true rfl) dX8_method_78 ⟨Nat.le_of_ble_eq_true rfl, Nat.le_of_ble_eq_true rfl⟩) (fun u H locs hp hnz w => ?_)
        obtain ⟨T19, e20, hu9, hk21, sq22⟩ := hp
        subst hu9
        dsimp only at w
        have vk23 : Z.nt < T19.nt := SZ.to sq22 hv1
        have vk24 : T5.ty < T19.nr := SZ.ro sq22 hv2
        have hnr3 : T19.nr = Z.nr := sq22.2.1.trans hnr2
        refine lv_aload_n hx hb dX8_method_81 rfl (lv_at hl 1 rfl) ?_
        have nb25 : (x.pgs (zTo x Z.nt sz)).b (sz + 1) = none := ov_b0 (g_none w)
        refine nw_RX8_22 S hE w (Nat.le_of_ble_eq_true rfl) (Nat.le_of_ble_eq_true rfl) dX8_method_82 (fun H w => ?_)
        have w := g_eqw w (ov_new nb25)
        refine lv_dup hx hb dX8_method_85 rfl ?_
        refine g_callv w (g_runIN (As := []) (rest := [.ref (sz + 1), .ref (x.f .ho)]) S hE w hl (c_X3_init l D ar κ (ov κ ar (x.pgs (zTo x Z.nt sz)) T19 (g_up G (sz + 1) (.inr (9, [.null, .null, .null, .null, .null, .int 0, .int 0])))) (sz + 2) (sz + 1) (ov_o nb25 g_up_s)) (k_RX8_24 S.2.2.2.2 (hE.2.1.1 _ (ckN_0 _ (List.mem_of_getElem? (i := 2) rfl))) ⟨Nat.le_of_ble_eq_true rfl, Nat.le_of_ble_eq_true rfl⟩) rfl rfl (Nat.le_of_ble_eq_true rfl) dX8_method_86 ⟨Nat.le_of_ble_eq_true rfl, Nat.le_of_ble_eq_true rfl⟩) (fun u H locs hp hnz w => ?_)
        obtain rfl := hp
        dsimp only at w
        have w := g_eqw w (congrArg (fun Z9 => (g_up (g_up (g_up (g_up (g_up Z9 (sz + 1) (.inr (9, [.ref (sz + 2), .ref (sz + 3), .ref (sz + 4), .ref (sz + 5), .ref (sz + 6), .int 0, .int 0]))) (sz + 3) (.inl (ar 0, 24, .inl (fun _ => 0)))) (sz + 4) (.inl (ar 0, 24, .inl (fun _ => 0)))) (sz + 5) (.inl (ar 0, 24, .inl (fun _ => 0)))) (sz + 6) (.inl (ar 0, 24, .inl (fun _ => 0))))) (ov_new (a := sz + 2) (hbf2 _ (by omega))))
        have w := g_eqw w (congrArg (fun Z9 => (g_up (g_up (g_up (g_up Z9 (sz + 3) (.inl (ar 0, 24, .inl (fun _ => 0)))) (sz + 4) (.inl (ar 0, 24, .inl (fun _ => 0)))) (sz + 5) (.inl (ar 0, 24, .inl (fun _ => 0)))) (sz + 6) (.inl (ar 0, 24, .inl (fun _ => 0))))) (ov_new (a := sz + 1) nb25))
        have w := g_eqw w (congrArg (fun Z9 => (g_up (g_up (g_up (g_up (ov κ ar (x.pgs (zTo x Z.nt sz)) T19 Z9) (sz + 3) (.inl (ar 0, 24, .inl (fun _ => 0)))) (sz + 4) (.inl (ar 0, 24, .inl (fun _ => 0)))) (sz + 5) (.inl (ar 0, 24, .inl (fun _ => 0)))) (sz + 6) (.inl (ar 0, 24, .inl (fun _ => 0))))) (g_inn g_over (by omega)))
        have w := g_eqw w (congrArg (fun Z9 => (g_up (g_up (g_up Z9 (sz + 4) (.inl (ar 0, 24, .inl (fun _ => 0)))) (sz + 5) (.inl (ar 0, 24, .inl (fun _ => 0)))) (sz + 6) (.inl (ar 0, 24, .inl (fun _ => 0))))) (ov_new (a := sz + 3) (hbf2 _ (by omega))))
        have w := g_eqw w (congrArg (fun Z9 => (g_up (g_up Z9 (sz + 5) (.inl (ar 0, 24, .inl (fun _ => 0)))) (sz + 6) (.inl (ar 0, 24, .inl (fun _ => 0))))) (ov_new (a := sz + 4) (hbf2 _ (by omega))))
        have w := g_eqw w (congrArg (fun Z9 => (g_up Z9 (sz + 6) (.inl (ar 0, 24, .inl (fun _ => 0))))) (ov_new (a := sz + 5) (hbf2 _ (by omega))))
        have w := g_eqw w (ov_new (hbf2 _ (by omega)))
        have w := g_eqw w (adopt2 (r := Z.nr) (a := sz + 1) (v := (((((fun _ => 0), (fun _ => 0)), ((fun _ => 0), (fun _ => 0))), (((fun _ => 0), 0), 0)) : Ro)) hk21.v (fun k9 _ => hbf2 _ (by omega)) h1 (ro_cell h1) rfl rfl rfl rfl rfl)
        have hk280 : OK (x.pgs (zRo (x.pgs (zTo x Z.nt sz)) Z.nr (sz + 1))) ((T19.snr (Z.nr + 1)).roS Z.nr (((((fun _ => 0), (fun _ => 0)), ((fun _ => 0), (fun _ => 0))), (((fun _ => 0), 0), 0)) : Ro)) := hk21.adopt2 hnr3 (fun k9 _ => hbf2 _ (by omega)) h1
        obtain ⟨T26, eT27⟩ : ∃ T9 : Ho, ((T19.snr (Z.nr + 1)).roS Z.nr (((((fun _ => 0), (fun _ => 0)), ((fun _ => 0), (fun _ => 0))), (((fun _ => 0), 0), 0)) : Ro)) = T9 := ⟨_, rfl⟩
        have hk28 : OK (x.pgs (zRo (x.pgs (zTo x Z.nt sz)) Z.nr (sz + 1))) T26 := eT27 ▸ hk280
        have w := g_eqw w (congrArg (fun Z9 => ov κ ar (x.pgs (zRo (x.pgs (zTo x Z.nt sz)) Z.nr (sz + 1))) Z9 G) eT27)
        have vk29 : Z.nt < T26.nt := by rw [← eT27]; exact vk23
        have vk30 : T5.ty < T26.nr := by rw [← eT27]; exact Nat.lt_succ_of_lt (by rw [← hnr3]; exact vk24)
        have hv7 : Z.nr < T26.nr := by rw [← eT27]; exact Nat.lt_succ_self _
        rw [show sz + 1 = x.f (.ro Z.nr) from h1.1.symm]
        show W p l e _ s m _ below meth c _ _ _ _ _ (F0 m 89 ls [.ref (x.f (.ro Z.nr)), .ref (x.f .ho)])
        refine pf_RX8_25_14 (fs1 := [.ref (x.f .cl), .ref (x.f .me), .ref (x.f (.ro Z.nr)), .int x.ht, .ref (x.f .gl), .ref (x.f .ts), .ref (x.f .fs), .int T26.fn, .int T26.st, .int T26.rs, .long T26.an, .int T26.sp, .ref (x.f .wr)]) S hE w (ov_r (t := .ho) (hk28.e (.ho) rfl)) rfl rfl (Nat.le_of_ble_eq_true rfl) rfl dX8_method_89 (fun H locs w => ?_)
        have w : g_S D vwCl (g_A (ov κ ar x Z G) sz) s.heap (ov κ ar (x.pgs (zRo (x.pgs (zTo x Z.nt sz)) Z.nr (sz + 1))) (T26.sty Z.nr) G) H _ (sz + 7) := g_eqw w (ov_who (S := T26) (T := (T26.sty Z.nr)) hk28.v (hk28.e (.ho) rfl) rfl Ho_ab_sty Ho_fc_sty Ho_cn_sty Ho_me_sty Ho_nt_sty Ho_nr_sty Ho_to_sty Ho_ro_sty Ho_gl_sty Ho_al_sty Ho_re_sty Ho_th_sty Ho_tc_sty Ho_rc_sty Ho_mk_sty Ho_fr_sty Ho_np_sty Ho_pg_sty Ho_wc_sty Ho_ws_sty Ho_wp_sty)
        refine lv_aload hx hb dX8_method_92 (lv_at hl 0 rfl) ?_
        refine gf_RX8_156_12 (v := .ref (x.f (.ro ((T26.to Z.nt).q)))) S hE w (ov_r (t := .to Z.nt) (hk28.e_to vk29)) rfl dX8_method_94 ?_
        refine gf_RX8_128_9 (v := .int ((T26.ro ((T26.to Z.nt).q)).n)) S hE w (ov_r (t := .ro ((T26.to Z.nt).q)) (hk28.e_ro (hk28.q vk29))) rfl dX8_method_97 ?_
        exact vx_ret (g_iret hx hb hr hlk w (Nat.le_of_ble_eq_true rfl) (Nat.le_of_ble_eq_true rfl) dX8_method_100 ⟨(zRo (x.pgs (zTo x Z.nt sz)) Z.nr (sz + 1)), _, ((sX8_method_u Z i0 j0 n0 t0).trans ((rc_v e6).trans ((if_neg c_11).trans ((if_neg c_20).trans ((pc_e e12).trans ((if_neg c_60).trans ((vc_e eT17).trans ((vc_e e20).trans (vc_e eT27))))))))), rfl, (OK.tyS (S := T26) hk28 hv7), (BX_t (BX_zTo (Nat.le_refl _)) (BX_zRo (Nat.le_refl _)) (by omega))⟩)
      · have w := g_sub w (ov_sub (up_sub hG0))
        exact g_throwS (names := ["java/lang/RuntimeException", "java/lang/Exception"]) hlt S hE w hl ht hlk (by decide +kernel) (by decide +kernel) m_3_90 m_1_37 (List.mem_of_getElem? (i := 30) rfl) th_RX8_147_151_1 th_RX8_147_151_2 th_RX8_147_151_3 dX8_method_63 dX8_method_66 dX8_method_67 dX8_method_69 dX8_method_72 (Nat.le_of_ble_eq_true rfl) (Nat.le_of_ble_eq_true rfl) (Nat.le_of_ble_eq_true rfl) (Nat.le_of_ble_eq_true rfl) (Nat.le_of_ble_eq_true rfl) (Nat.le_of_ble_eq_true rfl) (fun n9 hn9 => ⟨x.z, _, ((sX8_method_u Z i0 j0 n0 t0).trans ((rc_v e6).trans ((if_neg c_11).trans ((if_neg c_20).trans ((pc_e e12).trans (if_pos c_60)))))), rfl, hk13, (fun a9 t9 h9 => Or.inl h9)⟩)
    · exact g_throwS (names := ["java/lang/RuntimeException", "java/lang/Exception"]) hlt S hE w hl ht hlk (by decide +kernel) (by decide +kernel) m_3_42 m_1_18 (List.mem_of_getElem? (i := 3) rfl) th_RX8_105_109_1 th_RX8_105_109_2 th_RX8_105_109_3 dX8_method_23 dX8_method_26 dX8_method_27 dX8_method_29 dX8_method_32 (Nat.le_of_ble_eq_true rfl) (Nat.le_of_ble_eq_true rfl) (Nat.le_of_ble_eq_true rfl) (Nat.le_of_ble_eq_true rfl) (Nat.le_of_ble_eq_true rfl) (Nat.le_of_ble_eq_true rfl) (fun n9 hn9 => ⟨x.z, _, ((sX8_method_u Z i0 j0 n0 t0).trans ((rc_v e6).trans ((if_neg c_11).trans (if_pos c_20)))), rfl, hk7, (fun a9 t9 h9 => Or.inl h9)⟩)
