theorem dX8_go_0 : decode cX8_go 0 = .ok (.iload_n 1, 1) := by decide +kernel
theorem dX8_go_1 : decode cX8_go 1 = .ok (.iconst 1, 1) := by decide +kernel
theorem dX8_go_2 : decode cX8_go 2 = .ok (.if_icmp .lt 10, 3) := by decide +kernel
theorem dX8_go_5 : decode cX8_go 5 = .ok (.iload_n 1, 1) := by decide +kernel
theorem dX8_go_6 : decode cX8_go 6 = .ok (.sipush 500, 3) := by decide +kernel
theorem dX8_go_9 : decode cX8_go 9 = .ok (.if_icmp .le 13, 3) := by decide +kernel
theorem dX8_go_12 : decode cX8_go 12 = .ok (.new 105, 3) := by decide +kernel
theorem dX8_go_15 : decode cX8_go 15 = .ok (.dup, 1) := by decide +kernel
theorem dX8_go_16 : decode cX8_go 16 = .ok (.ldc 138, 2) := by decide +kernel
theorem dX8_go_18 : decode cX8_go 18 = .ok (.invokespecial 109, 3) := by decide +kernel
theorem dX8_go_21 : decode cX8_go 21 = .ok (.athrow, 1) := by decide +kernel
theorem dX8_go_22 : decode cX8_go 22 = .ok (.aload_n 0, 1) := by decide +kernel
theorem dX8_go_23 : decode cX8_go 23 = .ok (.getfield 53, 3) := by decide +kernel
theorem dX8_go_26 : decode cX8_go 26 = .ok (.bipush 115, 2) := by decide +kernel
theorem dX8_go_28 : decode cX8_go 28 = .ok (.if_icmp .eq 14, 3) := by decide +kernel
theorem dX8_go_31 : decode cX8_go 31 = .ok (.new 113, 3) := by decide +kernel
theorem dX8_go_34 : decode cX8_go 34 = .ok (.dup, 1) := by decide +kernel
theorem dX8_go_35 : decode cX8_go 35 = .ok (.ldc_w 298, 3) := by decide +kernel
theorem dX8_go_38 : decode cX8_go 38 = .ok (.invokespecial 117, 3) := by decide +kernel
theorem dX8_go_41 : decode cX8_go 41 = .ok (.athrow, 1) := by decide +kernel
theorem dX8_go_42 : decode cX8_go 42 = .ok (.iconst 0, 1) := by decide +kernel
theorem dX8_go_43 : decode cX8_go 43 = .ok (.istore_n 2, 1) := by decide +kernel
theorem dX8_go_44 : decode cX8_go 44 = .ok (.iconst 0, 1) := by decide +kernel
theorem dX8_go_45 : decode cX8_go 45 = .ok (.istore_n 3, 1) := by decide +kernel
theorem dX8_go_46 : decode cX8_go 46 = .ok (.iload_n 3, 1) := by decide +kernel
theorem dX8_go_47 : decode cX8_go 47 = .ok (.ldc_w 300, 3) := by decide +kernel
theorem dX8_go_50 : decode cX8_go 50 = .ok (.if_icmp .ge 64, 3) := by decide +kernel
theorem dX8_go_53 : decode cX8_go 53 = .ok (.aload_n 0, 1) := by decide +kernel
theorem dX8_go_54 : decode cX8_go 54 = .ok (.getfield 53, 3) := by decide +kernel
theorem dX8_go_57 : decode cX8_go 57 = .ok (.bipush 115, 2) := by decide +kernel
theorem dX8_go_59 : decode cX8_go 59 = .ok (.if_icmp .ne 55, 3) := by decide +kernel
theorem dX8_go_62 : decode cX8_go 62 = .ok (.aload_n 0, 1) := by decide +kernel
theorem dX8_go_63 : decode cX8_go 63 = .ok (.aload_n 0, 1) := by decide +kernel
theorem dX8_go_64 : decode cX8_go 64 = .ok (.getfield 50, 3) := by decide +kernel
theorem dX8_go_67 : decode cX8_go 67 = .ok (.iconst 1, 1) := by decide +kernel
theorem dX8_go_68 : decode cX8_go 68 = .ok (.isub, 1) := by decide +kernel
theorem dX8_go_69 : decode cX8_go 69 = .ok (.invokevirtual 251, 3) := by decide +kernel
theorem dX8_go_72 : decode cX8_go 72 = .ok (.astore 4, 2) := by decide +kernel
theorem dX8_go_74 : decode cX8_go 74 = .ok (.aload 4, 2) := by decide +kernel
theorem dX8_go_76 : decode cX8_go 76 = .ok (.ifnonnull 6, 3) := by decide +kernel
theorem dX8_go_79 : decode cX8_go 79 = .ok (.goto 35, 3) := by decide +kernel
theorem dX8_go_82 : decode cX8_go 82 = .ok (.aload_n 0, 1) := by decide +kernel
theorem dX8_go_83 : decode cX8_go 83 = .ok (.aload 4, 2) := by decide +kernel
theorem dX8_go_85 : decode cX8_go 85 = .ok (.invokevirtual 301, 3) := by decide +kernel
theorem dX8_go_88 : decode cX8_go 88 = .ok (.ifCond .eq 14, 3) := by decide +kernel
theorem dX8_go_91 : decode cX8_go 91 = .ok (.iload_n 2, 1) := by decide +kernel
theorem dX8_go_92 : decode cX8_go 92 = .ok (.iload_n 1, 1) := by decide +kernel
theorem dX8_go_93 : decode cX8_go 93 = .ok (.if_icmp .ne 6, 3) := by decide +kernel
theorem dX8_go_96 : decode cX8_go 96 = .ok (.goto 18, 3) := by decide +kernel
theorem dX8_go_99 : decode cX8_go 99 = .ok (.iinc 2 1, 3) := by decide +kernel
theorem dX8_go_102 : decode cX8_go 102 = .ok (.aload_n 0, 1) := by decide +kernel
theorem dX8_go_103 : decode cX8_go 103 = .ok (.aload 4, 2) := by decide +kernel
theorem dX8_go_105 : decode cX8_go 105 = .ok (.invokevirtual 305, 3) := by decide +kernel
theorem dX8_go_108 : decode cX8_go 108 = .ok (.iinc 3 1, 3) := by decide +kernel
theorem dX8_go_111 : decode cX8_go 111 = .ok (.goto (-65), 3) := by decide +kernel
theorem dX8_go_114 : decode cX8_go 114 = .ok (.aload_n 0, 1) := by decide +kernel
theorem dX8_go_115 : decode cX8_go 115 = .ok (.dup, 1) := by decide +kernel
theorem dX8_go_116 : decode cX8_go 116 = .ok (.getfield 66, 3) := by decide +kernel
theorem dX8_go_119 : decode cX8_go 119 = .ok (.iload_n 2, 1) := by decide +kernel
theorem dX8_go_120 : decode cX8_go 120 = .ok (.iadd, 1) := by decide +kernel
theorem dX8_go_121 : decode cX8_go 121 = .ok (.putfield 66, 3) := by decide +kernel
theorem dX8_go_124 : decode cX8_go 124 = .ok (.iload_n 2, 1) := by decide +kernel
theorem dX8_go_125 : decode cX8_go 125 = .ok (.ireturn, 1) := by decide +kernel
section SITES
variable {p : Program} {l : Launch} {e : Env} {R : Room} {s : State} {m : MethodId} {args : Array Value} {below : List Frame} {meth : Method} {c : Code} {H : Heap} {locs : List Loc} {cells slots : Nat} {Q : State → Prop}
variable {pc : Nat} {ls : Array Slot} {rest : List Value} {D : va_G} {ar : Nat → ClassId} {κ : Nat → Nat} {A : Nat → Prop} {a : Nat} {H0 : Heap} {G : gW} {nz nL : Nat} {cc : ByteArray}
theorem m_3_137 : (Cond.constant RX8 300 (1000000)) ∈ lwA := lwA_mk (ck_3 _ (List.mem_of_getElem? (i := 137) rfl)) rfl
theorem Ho_ab_ssp {v9 : Ho} {y9 : Int32} : (v9.ssp y9).ab = v9.ab := rfl
theorem Ho_fc_ssp {v9 : Ho} {y9 : Int32} : (v9.ssp y9).fc = v9.fc := rfl
theorem Ho_cn_ssp {v9 : Ho} {y9 : Int32} : (v9.ssp y9).cn = v9.cn := rfl
theorem Ho_me_ssp {v9 : Ho} {y9 : Int32} : (v9.ssp y9).me = v9.me := rfl
theorem Ho_nt_ssp {v9 : Ho} {y9 : Int32} : (v9.ssp y9).nt = v9.nt := rfl
theorem Ho_nr_ssp {v9 : Ho} {y9 : Int32} : (v9.ssp y9).nr = v9.nr := rfl
theorem Ho_to_ssp {v9 : Ho} {y9 : Int32} : (v9.ssp y9).to = v9.to := rfl
theorem Ho_ro_ssp {v9 : Ho} {y9 : Int32} : (v9.ssp y9).ro = v9.ro := rfl
theorem Ho_gl_ssp {v9 : Ho} {y9 : Int32} : (v9.ssp y9).gl = v9.gl := rfl
theorem Ho_al_ssp {v9 : Ho} {y9 : Int32} : (v9.ssp y9).al = v9.al := rfl
theorem Ho_re_ssp {v9 : Ho} {y9 : Int32} : (v9.ssp y9).re = v9.re := rfl
theorem Ho_th_ssp {v9 : Ho} {y9 : Int32} : (v9.ssp y9).th = v9.th := rfl
theorem Ho_tc_ssp {v9 : Ho} {y9 : Int32} : (v9.ssp y9).tc = v9.tc := rfl
theorem Ho_rc_ssp {v9 : Ho} {y9 : Int32} : (v9.ssp y9).rc = v9.rc := rfl
theorem Ho_mk_ssp {v9 : Ho} {y9 : Int32} : (v9.ssp y9).mk = v9.mk := rfl
theorem Ho_fr_ssp {v9 : Ho} {y9 : Int32} : (v9.ssp y9).fr = v9.fr := rfl
theorem Ho_np_ssp {v9 : Ho} {y9 : Int32} : (v9.ssp y9).np = v9.np := rfl
theorem Ho_pg_ssp {v9 : Ho} {y9 : Int32} : (v9.ssp y9).pg = v9.pg := rfl
theorem Ho_wc_ssp {v9 : Ho} {y9 : Int32} : (v9.ssp y9).wc = v9.wc := rfl
theorem Ho_ws_ssp {v9 : Ho} {y9 : Int32} : (v9.ssp y9).ws = v9.ws := rfl
theorem Ho_wp_ssp {v9 : Ho} {y9 : Int32} : (v9.ssp y9).wp = v9.wp := rfl
theorem m_3_141 : (Cond.code yX8_isStep cX8_isStep 2 (some .boolean)) ∈ lwA := lwA_mk (ck_3 _ (List.mem_of_getElem? (i := 141) rfl)) rfl
theorem m_3_138 : (Cond.methodLink RX8 301 yX8_isStep) ∈ lwA := lwA_mk (ck_3 _ (List.mem_of_getElem? (i := 138) rfl)) rfl
theorem m_3_140 : (Cond.instanceMethod yX8_isStep) ∈ lwA := lwA_mk (ck_3 _ (List.mem_of_getElem? (i := 140) rfl)) rfl
theorem ms_10 : (Cond.selects RX8 yX8_isStep yX8_isStep) ∈ lwA := lwA_mk (List.mem_append_left _ (List.mem_of_getElem? (i := 10) rfl)) rfl
theorem k_RX8_301 {args : Array Value} {s : State} {R rm : Room} (hts : ∀ w ∈ lwA, w.before args s = true) (hR : rm.frames + 1 ≤ R.frames ∧ 8 + (2 + 11) + rm.locals ≤ R.locals) : CallW R s args RX8 RX8 301 yX8_isStep cX8_isStep 2 (some .boolean) (lwC yX8_isStep cX8_isStep 2 (some .boolean)) rm rm.cells rm.slots 1 := cwV 1 hts (gdV m_3_138 m_3_140 ms_10 m_1_1 m_3_141) rfl rfl rfl (by decide +kernel) hR
theorem m_3_171 : (Cond.code yX8_doRow cX8_doRow 4 none) ∈ lwA := lwA_mk (ck_3 _ (List.mem_of_getElem? (i := 171) rfl)) rfl
theorem m_3_168 : (Cond.methodLink RX8 305 yX8_doRow) ∈ lwA := lwA_mk (ck_3 _ (List.mem_of_getElem? (i := 168) rfl)) rfl
theorem m_3_170 : (Cond.instanceMethod yX8_doRow) ∈ lwA := lwA_mk (ck_3 _ (List.mem_of_getElem? (i := 170) rfl)) rfl
theorem ms_11 : (Cond.selects RX8 yX8_doRow yX8_doRow) ∈ lwA := lwA_mk (List.mem_append_left _ (List.mem_of_getElem? (i := 11) rfl)) rfl
theorem k_RX8_305 {args : Array Value} {s : State} {R rm : Room} (hts : ∀ w ∈ lwA, w.before args s = true) (hR : rm.frames + 1 ≤ R.frames ∧ 8 + (4 + 11) + rm.locals ≤ R.locals) : CallW R s args RX8 RX8 305 yX8_doRow cX8_doRow 4 none (lwC yX8_doRow cX8_doRow 4 none) rm rm.cells rm.slots 1 := cwV 1 hts (gdV m_3_168 m_3_170 ms_11 m_1_1 m_3_171) rfl rfl rfl (by decide +kernel) hR
end SITES
noncomputable def LX8_go_46 (n0 : Int32) : Nat → Int32 → Int32 → Ho → Rs Int32
  | 0, _, _, S2 => .inr ("", S2)
  | nx1 + 1, x1, dnx1, S2 => if 1000000 ≤ x1 then (.inl (dnx1, (S2.ssp (S2.sp + dnx1)))) else (if S2.st = 115 then (oc (sX8_frameAt S2 (S2.fn - 1)) (.inl (dnx1, (S2.ssp (S2.sp + dnx1)))) (fun k13 => if sX8_isStep S2 k13 = 0 then (vc (sX8_doRow S2 k13) (fun T15 => LX8_go_46 n0 nx1 (x1 + 1) dnx1 T15)) else (if dnx1 = n0 then (.inl (dnx1, (S2.ssp (S2.sp + dnx1)))) else (vc (sX8_doRow S2 k13) (fun T24 => LX8_go_46 n0 nx1 (x1 + 1) (dnx1 + 1) T24))))) else (.inl (dnx1, (S2.ssp (S2.sp + dnx1)))))
theorem LX8_go_46_u (n0 : Int32) (nx1 : Nat) (x1 : Int32) (dnx1 : Int32) (S2 : Ho) : LX8_go_46 n0 (nx1 + 1) x1 dnx1 S2 = if 1000000 ≤ x1 then (.inl (dnx1, (S2.ssp (S2.sp + dnx1)))) else (if S2.st = 115 then (oc (sX8_frameAt S2 (S2.fn - 1)) (.inl (dnx1, (S2.ssp (S2.sp + dnx1)))) (fun k13 => if sX8_isStep S2 k13 = 0 then (vc (sX8_doRow S2 k13) (fun T15 => LX8_go_46 n0 nx1 (x1 + 1) dnx1 T15)) else (if dnx1 = n0 then (.inl (dnx1, (S2.ssp (S2.sp + dnx1)))) else (vc (sX8_doRow S2 k13) (fun T24 => LX8_go_46 n0 nx1 (x1 + 1) (dnx1 + 1) T24))))) else (.inl (dnx1, (S2.ssp (S2.sp + dnx1))))) := rfl
noncomputable def sX8_go (Z : Ho) (n0 : Int32) : Rs Int32 := if n0 < 1 then (.inr ("java/lang/IllegalArgumentException", Z)) else (if n0 ≤ 500 then (if Z.st = 115 then (LX8_go_46 n0 FU 0 0 Z) else (.inr ("java/lang/IllegalStateException", Z))) else (.inr ("java/lang/IllegalArgumentException", Z)))
theorem sX8_go_u (Z : Ho) (n0 : Int32) : sX8_go Z n0 = if n0 < 1 then (.inr ("java/lang/IllegalArgumentException", Z)) else (if n0 ≤ 500 then (if Z.st = 115 then (LX8_go_46 n0 FU 0 0 Z) else (.inr ("java/lang/IllegalStateException", Z))) else (.inr ("java/lang/IllegalArgumentException", Z))) := rfl
set_option maxHeartbeats 4000000 in
set_option maxRecDepth 100000 in
theorem hX8_go (l : Launch) (D : va_G) (ar : Nat → ClassId) (κ : Nat → Nat) (G : gW) (x : Xo) (Z : Ho) (sz : Nat) (n0 : Int32) (hk : OK x Z) (I : Int32 → Ho → Prop) (hI0 : I 0 Z) (hIw : ∀ d S, I d S → Wk S) (hIr : ∀ d S k, S.st = 115 → sX8_frameAt S (S.fn - 1) = some k → sX8_isStep S k = 0 → I d S → I d (sX8_doRow S k)) (hIs : ∀ d S k, S.st = 115 → sX8_frameAt S (S.fn - 1) = some k → ¬ sX8_isStep S k = 0 → ¬ d = n0 → I d S → I (d + 1) (sX8_doRow S k)) (hlt : l.stackTraces = false) : vx_Met l yX8_go (lwC yX8_go cX8_go 5 (some .int)) (rD 12 30 5230) (g_Pc D vwCl (gT ar) (EX1 κ) (ov κ ar x Z G) sz [.ref (x.f .ho), .int n0]) (g_Qi D vwCl (g_A (ov κ ar x Z G) sz) (fun r u => ∃ z9 : Zo, ∃ T9 : Ho, sX8_go Z n0 = .inl (r, T9) ∧ u.1 = ov κ ar (x.pgs z9) T9 G ∧ OK (x.pgs z9) T9 ∧ BX x z9 sz ∧ SZW T9 Z)) (gX D (g_A (ov κ ar x Z G) sz) (fun E u => ∃ z9 : Zo, ∃ T9 : Ho, sX8_go Z n0 = .inr (E, T9) ∧ u.1 = ov κ ar (x.pgs z9) T9 G ∧ OK (x.pgs z9) T9 ∧ BX x z9 sz ∧ SZW T9 Z)) 30 5230 (g_A (ov κ ar x Z G) sz) := by
  refine gx_ofW (by decide +kernel) (Nat.le_of_ble_eq_true rfl) ?_
  intro p e s m below meth c ls S hr hlk ht hE w hl
  have hx := S.1
  have hb := S.2.1
  have hl : lv_has ls 5 [(0, .ref (x.f .ho)), (1, .int n0)] := hl
  refine lv_iload_n hx hb dX8_go_0 rfl (lv_at hl 1 rfl) ?_
  refine lv_iconst (v := 1) hx hb dX8_go_1 (by decide) ?_
  refine lv_icmp_lt (tgt := 12) hx hb dX8_go_2 (by decide) (fun c_2 => ?_) (fun c_2 => ?_)
  · exact g_throwS (names := ["java/lang/RuntimeException", "java/lang/Exception"]) hlt S hE w hl ht hlk (by decide +kernel) (by decide +kernel) m_3_42 m_1_18 (List.mem_of_getElem? (i := 3) rfl) th_RX8_105_109_1 th_RX8_105_109_2 th_RX8_105_109_3 dX8_go_12 dX8_go_15 dX8_go_16 dX8_go_18 dX8_go_21 (Nat.le_of_ble_eq_true rfl) (Nat.le_of_ble_eq_true rfl) (Nat.le_of_ble_eq_true rfl) (Nat.le_of_ble_eq_true rfl) (Nat.le_of_ble_eq_true rfl) (Nat.le_of_ble_eq_true rfl) (fun n9 hn9 => ⟨x.z, _, ((sX8_go_u Z n0).trans (if_pos c_2)), rfl, hk, (fun a9 t9 h9 => Or.inl h9), ⟨rfl, rfl, Nat.le_refl _⟩⟩)
  · refine lv_iload_n hx hb dX8_go_5 rfl (lv_at hl 1 rfl) ?_
    refine lv_sipush (v := 500) hx hb dX8_go_6 (by decide) ?_
    refine lv_icmp_le (tgt := 22) hx hb dX8_go_9 (by decide) (fun c_9 => ?_) (fun c_9 => ?_)
    · refine lv_aload_n hx hb dX8_go_22 rfl (lv_at hl 0 rfl) ?_
      refine gf_RX8_53_14 (v := .int Z.st) S hE w (ov_r (t := .ho) (hk.e (.ho) rfl)) rfl dX8_go_23 ?_
      refine lv_bipush (v := 115) hx hb dX8_go_26 (by decide) ?_
      refine lv_icmp_eq (tgt := 42) hx hb dX8_go_28 (by decide) (fun c_28 => ?_) (fun c_28 => ?_)
      · refine lv_iconst (v := 0) hx hb dX8_go_42 (by decide) ?_
        refine lv_istore_n (lv' := [(2, .int 0), (0, .ref (x.f .ho)), (1, .int n0)]) hx hb dX8_go_43 rfl hl (by decide) rfl (fun ls hl => ?_)
        refine lv_iconst (v := 0) hx hb dX8_go_44 (by decide) ?_
        refine lv_istore_n (lv' := [(3, .int 0), (2, .int 0), (0, .ref (x.f .ho)), (1, .int n0)]) hx hb dX8_go_45 rfl hl (by decide) rfl (fun ls hl => ?_)
        have key11 : ∀ (nx1 ix1 : Nat), ix1 ≤ 2147483647 → 2147483647 + 1 ≤ ix1 + nx1 → ∀ (x1 : Int32), x1 = nI ix1 → ∀ (dnx1 : Int32), ∀ (z5 : Zo) (n7 : Nat), BX x z5 sz → sz ≤ n7 → ∀ (S2 : Ho), OK (x.pgs z5) S2 → SZW S2 Z → (I dnx1 S2) → sX8_go Z n0 = LX8_go_46 n0 nx1 x1 dnx1 S2 → ∀ (H : Heap) (locs : List Loc) (ls : Array Slot), g_S D vwCl (g_A (ov κ ar x Z G) sz) s.heap (ov κ ar (x.pgs z5) S2 G) H locs n7 → lv_has ls 5 [(3, .int x1), (2, .int dnx1), (0, .ref (x.f .ho)), (1, .int n0)] → W p l e (rD 12 30 5230) s m ([.ref (x.f .ho), .int n0] : List Value).toArray below meth c H locs (3 * S2.np) (523 * S2.np) (vx_MQ below (g_Qi D vwCl (g_A (ov κ ar x Z G) sz) (fun r u => ∃ z9 : Zo, ∃ T9 : Ho, sX8_go Z n0 = .inl (r, T9) ∧ u.1 = ov κ ar (x.pgs z9) T9 G ∧ OK (x.pgs z9) T9 ∧ BX x z9 sz ∧ SZW T9 Z)) (gX D (g_A (ov κ ar x Z G) sz) (fun E u => ∃ z9 : Zo, ∃ T9 : Ho, sX8_go Z n0 = .inr (E, T9) ∧ u.1 = ov κ ar (x.pgs z9) T9 G ∧ OK (x.pgs z9) T9 ∧ BX x z9 sz ∧ SZW T9 Z)) ([.ref (x.f .ho), .int n0] : List Value).toArray s 30 5230 (g_A (ov κ ar x Z G) sz)) (F0 m 46 ls []) := by
          intro nx1
          induction nx1 with
          | zero => intro ix1 hix1 hi2; exact absurd hi2 (by omega)
          | succ nx1 ihx1 =>
            intro ix1 hix1 hi2 x1 exx1 dnx1 z5 n7 bx6 hz8 S2 hk3 sq4 hinv12 hsp10 H locs ls w hl
            have hN8 := (hIw _ _ hinv12).np
            refine lv_iload_n hx hb dX8_go_46 rfl (lv_at hl 0 rfl) ?_
            refine lv_ldcw hx hb S.2.2.2.1 (S.2.2.2.2 _ m_3_137) dX8_go_47 ?_
            refine lv_icmp_ge (tgt := 114) hx hb dX8_go_50 (by decide) (fun c_50 => ?_) (fun c_50 => ?_)
            · refine lv_aload_n hx hb dX8_go_114 rfl (lv_at hl 2 rfl) ?_
              refine lv_dup hx hb dX8_go_115 rfl ?_
              refine gf_RX8_66_14 (v := .int S2.sp) S hE w (ov_r (t := .ho) (hk3.e (.ho) rfl)) rfl dX8_go_116 ?_
              refine lv_iload_n hx hb dX8_go_119 rfl (lv_at hl 1 rfl) ?_
              refine lv_iadd hx hb dX8_go_120 ?_
              refine pf_RX8_66_14 (fs1 := [.ref (x.f .cl), .ref (x.f .me), .ref (x.f (.ro S2.ty)), .int x.ht, .ref (x.f .gl), .ref (x.f .ts), .ref (x.f .fs), .int S2.fn, .int S2.st, .int S2.rs, .long S2.an, .int (S2.sp + dnx1), .ref (x.f .wr)]) S hE w (ov_r (t := .ho) (hk3.e (.ho) rfl)) rfl rfl (Nat.le_of_ble_eq_true rfl) rfl dX8_go_121 (fun H locs w => ?_)
              have w : g_S D vwCl (g_A (ov κ ar x Z G) sz) s.heap (ov κ ar (x.pgs z5) (S2.ssp (S2.sp + dnx1)) G) H _ n7 := g_eqw w (ov_who (S := S2) (T := (S2.ssp (S2.sp + dnx1))) hk3.v (hk3.e (.ho) rfl) rfl Ho_ab_ssp Ho_fc_ssp Ho_cn_ssp Ho_me_ssp Ho_nt_ssp Ho_nr_ssp Ho_to_ssp Ho_ro_ssp Ho_gl_ssp Ho_al_ssp Ho_re_ssp Ho_th_ssp Ho_tc_ssp Ho_rc_ssp Ho_mk_ssp Ho_fr_ssp Ho_np_ssp Ho_pg_ssp Ho_wc_ssp Ho_ws_ssp Ho_wp_ssp)
              refine lv_iload_n hx hb dX8_go_124 rfl (lv_at hl 1 rfl) ?_
              exact vx_ret (g_iret hx hb hr hlk w (by (try dsimp only [rD]); omega) (by (try dsimp only [rD]); omega) dX8_go_125 ⟨z5, _, ((hsp10).trans ((LX8_go_46_u n0 nx1 x1 dnx1 S2).trans (if_pos c_50))), rfl, (hk3.plain (T := (S2.ssp (S2.sp + dnx1))) rfl rfl rfl rfl rfl rfl rfl), bx6, sq4⟩)
            · refine lv_aload_n hx hb dX8_go_53 rfl (lv_at hl 2 rfl) ?_
              refine gf_RX8_53_14 (v := .int S2.st) S hE w (ov_r (t := .ho) (hk3.e (.ho) rfl)) rfl dX8_go_54 ?_
              refine lv_bipush (v := 115) hx hb dX8_go_57 (by decide) ?_
              refine lv_icmp_ne (tgt := 114) hx hb dX8_go_59 (by decide) (fun c_59 => ?_) (fun c_59 => ?_)
              · refine lv_aload_n hx hb dX8_go_114 rfl (lv_at hl 2 rfl) ?_
                refine lv_dup hx hb dX8_go_115 rfl ?_
                refine gf_RX8_66_14 (v := .int S2.sp) S hE w (ov_r (t := .ho) (hk3.e (.ho) rfl)) rfl dX8_go_116 ?_
                refine lv_iload_n hx hb dX8_go_119 rfl (lv_at hl 1 rfl) ?_
                refine lv_iadd hx hb dX8_go_120 ?_
                refine pf_RX8_66_14 (fs1 := [.ref (x.f .cl), .ref (x.f .me), .ref (x.f (.ro S2.ty)), .int x.ht, .ref (x.f .gl), .ref (x.f .ts), .ref (x.f .fs), .int S2.fn, .int S2.st, .int S2.rs, .long S2.an, .int (S2.sp + dnx1), .ref (x.f .wr)]) S hE w (ov_r (t := .ho) (hk3.e (.ho) rfl)) rfl rfl (Nat.le_of_ble_eq_true rfl) rfl dX8_go_121 (fun H locs w => ?_)
                have w : g_S D vwCl (g_A (ov κ ar x Z G) sz) s.heap (ov κ ar (x.pgs z5) (S2.ssp (S2.sp + dnx1)) G) H _ n7 := g_eqw w (ov_who (S := S2) (T := (S2.ssp (S2.sp + dnx1))) hk3.v (hk3.e (.ho) rfl) rfl Ho_ab_ssp Ho_fc_ssp Ho_cn_ssp Ho_me_ssp Ho_nt_ssp Ho_nr_ssp Ho_to_ssp Ho_ro_ssp Ho_gl_ssp Ho_al_ssp Ho_re_ssp Ho_th_ssp Ho_tc_ssp Ho_rc_ssp Ho_mk_ssp Ho_fr_ssp Ho_np_ssp Ho_pg_ssp Ho_wc_ssp Ho_ws_ssp Ho_wp_ssp)
                refine lv_iload_n hx hb dX8_go_124 rfl (lv_at hl 1 rfl) ?_
                exact vx_ret (g_iret hx hb hr hlk w (by (try dsimp only [rD]); omega) (by (try dsimp only [rD]); omega) dX8_go_125 ⟨z5, _, ((hsp10).trans ((LX8_go_46_u n0 nx1 x1 dnx1 S2).trans ((if_neg c_50).trans (if_neg c_59)))), rfl, (hk3.plain (T := (S2.ssp (S2.sp + dnx1))) rfl rfl rfl rfl rfl rfl rfl), bx6, sq4⟩)
              · refine lv_aload_n hx hb dX8_go_62 rfl (lv_at hl 2 rfl) ?_
                refine lv_aload_n hx hb dX8_go_63 rfl (lv_at hl 2 rfl) ?_
                refine gf_RX8_50_14 (v := .int S2.fn) S hE w (ov_r (t := .ho) (hk3.e (.ho) rfl)) rfl dX8_go_64 ?_
                refine lv_iconst (v := 1) hx hb dX8_go_67 (by decide) ?_
                refine lv_isub hx hb dX8_go_68 ?_
                refine g_callq w (g_runV (As := [.int (S2.fn - 1)]) (rest := []) S hE w hl (hX8_frameAt l D ar κ G (x.pgs z5) S2 n7 (S2.fn - 1) hk3 ) (k_RX8_251 S.2.2.2.2 ⟨Nat.le_of_ble_eq_true rfl, Nat.le_of_ble_eq_true rfl⟩) (ov_r (t := .ho) (hk3.e (.ho) rfl)) rfl rfl rfl rfl (Nat.le_of_ble_eq_true rfl) dX8_go_69 ⟨(by (try dsimp only [rD]); omega), (by (try dsimp only [rD]); omega)⟩) (fun r u H locs hp hnz w => ?_)
                obtain ⟨rfl, rfl⟩ := hp
                dsimp only at w
                refine lv_astoreQ (lv' := [(4, va_rf ((sX8_frameAt S2 (S2.fn - 1)).map (fun k9 => x.f (.fr k9)))), (3, .int x1), (2, .int dnx1), (0, .ref (x.f .ho)), (1, .int n0)]) hx hb dX8_go_72 hl (by decide) rfl (fun ls hl => ?_)
                refine lv_aloadQ hx hb dX8_go_74 (lv_at hl 0 rfl) ?_
                rcases he14 : sX8_frameAt S2 (S2.fn - 1) with _ | k13
                · have hl : lv_has ls 5 [(4, .null), (3, .int x1), (2, .int dnx1), (0, .ref (x.f .ho)), (1, .int n0)] := by rw [he14] at hl; exact hl
                  show W p l e _ s m _ below meth c _ _ _ _ _ (F0 m 76 ls [.null])
                  refine lv_ifnonnullN hx hb dX8_go_76 ?_
                  refine lv_goto (tgt := 114) hx hb dX8_go_79 (by decide) ?_
                  refine lv_aload_n hx hb dX8_go_114 rfl (lv_at hl 3 rfl) ?_
                  refine lv_dup hx hb dX8_go_115 rfl ?_
                  refine gf_RX8_66_14 (v := .int S2.sp) S hE w (ov_r (t := .ho) (hk3.e (.ho) rfl)) rfl dX8_go_116 ?_
                  refine lv_iload_n hx hb dX8_go_119 rfl (lv_at hl 2 rfl) ?_
                  refine lv_iadd hx hb dX8_go_120 ?_
                  refine pf_RX8_66_14 (fs1 := [.ref (x.f .cl), .ref (x.f .me), .ref (x.f (.ro S2.ty)), .int x.ht, .ref (x.f .gl), .ref (x.f .ts), .ref (x.f .fs), .int S2.fn, .int S2.st, .int S2.rs, .long S2.an, .int (S2.sp + dnx1), .ref (x.f .wr)]) S hE w (ov_r (t := .ho) (hk3.e (.ho) rfl)) rfl rfl (Nat.le_of_ble_eq_true rfl) rfl dX8_go_121 (fun H locs w => ?_)
                  have w : g_S D vwCl (g_A (ov κ ar x Z G) sz) s.heap (ov κ ar (x.pgs z5) (S2.ssp (S2.sp + dnx1)) G) H _ n7 := g_eqw w (ov_who (S := S2) (T := (S2.ssp (S2.sp + dnx1))) hk3.v (hk3.e (.ho) rfl) rfl Ho_ab_ssp Ho_fc_ssp Ho_cn_ssp Ho_me_ssp Ho_nt_ssp Ho_nr_ssp Ho_to_ssp Ho_ro_ssp Ho_gl_ssp Ho_al_ssp Ho_re_ssp Ho_th_ssp Ho_tc_ssp Ho_rc_ssp Ho_mk_ssp Ho_fr_ssp Ho_np_ssp Ho_pg_ssp Ho_wc_ssp Ho_ws_ssp Ho_wp_ssp)
                  refine lv_iload_n hx hb dX8_go_124 rfl (lv_at hl 2 rfl) ?_
                  exact vx_ret (g_iret hx hb hr hlk w (by (try dsimp only [rD]); omega) (by (try dsimp only [rD]); omega) dX8_go_125 ⟨z5, _, ((hsp10).trans ((LX8_go_46_u n0 nx1 x1 dnx1 S2).trans ((if_neg c_50).trans ((if_pos c_59).trans (oc_n he14))))), rfl, (hk3.plain (T := (S2.ssp (S2.sp + dnx1))) rfl rfl rfl rfl rfl rfl rfl), bx6, sq4⟩)
                · have hl : lv_has ls 5 [(4, .ref (x.f (.fr k13))), (3, .int x1), (2, .int dnx1), (0, .ref (x.f .ho)), (1, .int n0)] := by rw [he14] at hl; exact hl
                  show W p l e _ s m _ below meth c _ _ _ _ _ (F0 m 76 ls [.ref (x.f (.fr k13))])
                  refine lv_ifnonnull (tgt := 82) hx hb dX8_go_76 (by decide) ?_
                  refine lv_aload_n hx hb dX8_go_82 rfl (lv_at hl 3 rfl) ?_
                  refine lv_aload hx hb dX8_go_83 (lv_at hl 0 rfl) ?_
                  refine g_calli w (g_runV (As := [.ref (x.f (.fr k13))]) (rest := []) S hE w hl (hX8_isStep l D ar κ G (x.pgs z5) S2 n7 k13 hk3 ) (k_RX8_301 S.2.2.2.2 ⟨Nat.le_of_ble_eq_true rfl, Nat.le_of_ble_eq_true rfl⟩) (ov_r (t := .ho) (hk3.e (.ho) rfl)) rfl rfl rfl rfl (Nat.le_of_ble_eq_true rfl) dX8_go_85 ⟨(by (try dsimp only [rD]); omega), (by (try dsimp only [rD]); omega)⟩) (fun r u H locs hp hnz w => ?_)
                  obtain ⟨rfl, rfl⟩ := hp
                  dsimp only at w
                  refine lv_if_eq (tgt := 102) hx hb dX8_go_88 (by decide) (fun c_88 => ?_) (fun c_88 => ?_)
                  · have hI9 := hIr _ _ _ c_59 he14 c_88 hinv12
                    have hN9 := (hIw _ _ hI9).np
                    refine lv_aload_n hx hb dX8_go_102 rfl (lv_at hl 3 rfl) ?_
                    refine lv_aload hx hb dX8_go_103 (lv_at hl 0 rfl) ?_
                    refine g_callv w (g_runV (As := [.ref (x.f (.fr k13))]) (rest := []) S hE w hl (hX8_doRow l D ar κ G (x.pgs z5) S2 n7 k13 hk3 (hIw _ _ hinv12)) (k_RX8_305 S.2.2.2.2 ⟨Nat.le_of_ble_eq_true rfl, Nat.le_of_ble_eq_true rfl⟩) (ov_r (t := .ho) (hk3.e (.ho) rfl)) rfl rfl rfl rfl (Nat.le_of_ble_eq_true rfl) dX8_go_105 ⟨(by (try dsimp only [rD]); omega), (by (try dsimp only [rD]); omega)⟩) (fun u H locs hp hnz w => ?_)
                    obtain ⟨z18, T15, e16, hu9, hk17, bx19, sq20⟩ := hp
                    obtain ⟨u22, n21⟩ := u
                    dsimp only at hu9 w hnz
                    subst hu9
                    have hz23 := hnz
                    refine lv_iinc (v := x1 + 1) (lv' := [(3, .int (x1 + 1)), (4, .ref (x.f (.fr k13))), (2, .int dnx1), (0, .ref (x.f .ho)), (1, .int n0)]) hx hb dX8_go_108 hl (k := 1) rfl rfl (by decide) rfl (fun ls hl => ?_)
                    refine lv_goto (tgt := 46) hx hb dX8_go_111 (by decide) ?_
                    refine W.widen (k := 3 * T15.np) (n := 523 * T15.np) (by have q9 := congrArg Ho.np e16; have q8 := sq20.2.2; omega) (by have q9 := congrArg Ho.np e16; have q8 := sq20.2.2; omega) ?_
                    exact ihx1 (ix1 + 1) (lp_fu exx1 hix1 c_50) (by omega) (x1 + 1) (by rw [exx1]; exact nI_1 ix1) dnx1 z18 n21 (BX_t bx6 bx19 (by omega)) (by omega) T15 hk17 (SZW.t sq20 sq4) (e16 ▸ hI9) ((hsp10).trans ((LX8_go_46_u n0 nx1 x1 dnx1 S2).trans ((if_neg c_50).trans ((if_pos c_59).trans ((oc_s he14).trans ((if_pos c_88).trans (vc_e e16))))))) H _ ls w (lv_sub hl [0, 2, 3, 4] rfl)
                  · refine lv_iload_n hx hb dX8_go_91 rfl (lv_at hl 2 rfl) ?_
                    refine lv_iload_n hx hb dX8_go_92 rfl (lv_at hl 4 rfl) ?_
                    refine lv_icmp_ne (tgt := 99) hx hb dX8_go_93 (by decide) (fun c_93 => ?_) (fun c_93 => ?_)
                    · refine lv_iinc (v := dnx1 + 1) (lv' := [(2, .int (dnx1 + 1)), (4, .ref (x.f (.fr k13))), (3, .int x1), (0, .ref (x.f .ho)), (1, .int n0)]) hx hb dX8_go_99 hl (k := 2) rfl rfl (by decide) rfl (fun ls hl => ?_)
                      have hI9 := hIs _ _ _ c_59 he14 c_88 c_93 hinv12
                      have hN9 := (hIw _ _ hI9).np
                      refine lv_aload_n hx hb dX8_go_102 rfl (lv_at hl 3 rfl) ?_
                      refine lv_aload hx hb dX8_go_103 (lv_at hl 1 rfl) ?_
                      refine g_callv w (g_runV (As := [.ref (x.f (.fr k13))]) (rest := []) S hE w hl (hX8_doRow l D ar κ G (x.pgs z5) S2 n7 k13 hk3 (hIw _ _ hinv12)) (k_RX8_305 S.2.2.2.2 ⟨Nat.le_of_ble_eq_true rfl, Nat.le_of_ble_eq_true rfl⟩) (ov_r (t := .ho) (hk3.e (.ho) rfl)) rfl rfl rfl rfl (Nat.le_of_ble_eq_true rfl) dX8_go_105 ⟨(by (try dsimp only [rD]); omega), (by (try dsimp only [rD]); omega)⟩) (fun u H locs hp hnz w => ?_)
                      obtain ⟨z27, T24, e25, hu9, hk26, bx28, sq29⟩ := hp
                      obtain ⟨u31, n30⟩ := u
                      dsimp only at hu9 w hnz
                      subst hu9
                      have hz32 := hnz
                      refine lv_iinc (v := x1 + 1) (lv' := [(3, .int (x1 + 1)), (2, .int (dnx1 + 1)), (4, .ref (x.f (.fr k13))), (0, .ref (x.f .ho)), (1, .int n0)]) hx hb dX8_go_108 hl (k := 2) rfl rfl (by decide) rfl (fun ls hl => ?_)
                      refine lv_goto (tgt := 46) hx hb dX8_go_111 (by decide) ?_
                      refine W.widen (k := 3 * T24.np) (n := 523 * T24.np) (by have q9 := congrArg Ho.np e25; have q8 := sq29.2.2; omega) (by have q9 := congrArg Ho.np e25; have q8 := sq29.2.2; omega) ?_
                      exact ihx1 (ix1 + 1) (lp_fu exx1 hix1 c_50) (by omega) (x1 + 1) (by rw [exx1]; exact nI_1 ix1) (dnx1 + 1) z27 n30 (BX_t bx6 bx28 (by omega)) (by omega) T24 hk26 (SZW.t sq29 sq4) (e25 ▸ hI9) ((hsp10).trans ((LX8_go_46_u n0 nx1 x1 dnx1 S2).trans ((if_neg c_50).trans ((if_pos c_59).trans ((oc_s he14).trans ((if_neg c_88).trans ((if_neg c_93).trans (vc_e e25)))))))) H _ ls w (lv_sub hl [0, 1, 3, 4] rfl)
                    · refine lv_goto (tgt := 114) hx hb dX8_go_96 (by decide) ?_
                      refine lv_aload_n hx hb dX8_go_114 rfl (lv_at hl 3 rfl) ?_
                      refine lv_dup hx hb dX8_go_115 rfl ?_
                      refine gf_RX8_66_14 (v := .int S2.sp) S hE w (ov_r (t := .ho) (hk3.e (.ho) rfl)) rfl dX8_go_116 ?_
                      refine lv_iload_n hx hb dX8_go_119 rfl (lv_at hl 2 rfl) ?_
                      refine lv_iadd hx hb dX8_go_120 ?_
                      refine pf_RX8_66_14 (fs1 := [.ref (x.f .cl), .ref (x.f .me), .ref (x.f (.ro S2.ty)), .int x.ht, .ref (x.f .gl), .ref (x.f .ts), .ref (x.f .fs), .int S2.fn, .int S2.st, .int S2.rs, .long S2.an, .int (S2.sp + dnx1), .ref (x.f .wr)]) S hE w (ov_r (t := .ho) (hk3.e (.ho) rfl)) rfl rfl (Nat.le_of_ble_eq_true rfl) rfl dX8_go_121 (fun H locs w => ?_)
                      have w : g_S D vwCl (g_A (ov κ ar x Z G) sz) s.heap (ov κ ar (x.pgs z5) (S2.ssp (S2.sp + dnx1)) G) H _ n7 := g_eqw w (ov_who (S := S2) (T := (S2.ssp (S2.sp + dnx1))) hk3.v (hk3.e (.ho) rfl) rfl Ho_ab_ssp Ho_fc_ssp Ho_cn_ssp Ho_me_ssp Ho_nt_ssp Ho_nr_ssp Ho_to_ssp Ho_ro_ssp Ho_gl_ssp Ho_al_ssp Ho_re_ssp Ho_th_ssp Ho_tc_ssp Ho_rc_ssp Ho_mk_ssp Ho_fr_ssp Ho_np_ssp Ho_pg_ssp Ho_wc_ssp Ho_ws_ssp Ho_wp_ssp)
                      refine lv_iload_n hx hb dX8_go_124 rfl (lv_at hl 2 rfl) ?_
                      exact vx_ret (g_iret hx hb hr hlk w (by (try dsimp only [rD]); omega) (by (try dsimp only [rD]); omega) dX8_go_125 ⟨z5, _, ((hsp10).trans ((LX8_go_46_u n0 nx1 x1 dnx1 S2).trans ((if_neg c_50).trans ((if_pos c_59).trans ((oc_s he14).trans ((if_neg c_88).trans (if_pos c_93))))))), rfl, (hk3.plain (T := (S2.ssp (S2.sp + dnx1))) rfl rfl rfl rfl rfl rfl rfl), bx6, sq4⟩)
        refine W.widen (k := 3 * Z.np) (n := 523 * Z.np) (Nat.zero_le _) (Nat.zero_le _) ?_
        exact key11 FU 0 (Nat.zero_le _) (by rw [FU_e]; decide) 0 rfl 0 x.z sz (fun a9 t9 h9 => Or.inl h9) (by omega) Z hk ⟨rfl, rfl, Nat.le_refl _⟩ hI0 ((sX8_go_u Z n0).trans ((if_neg c_2).trans ((if_pos c_9).trans (if_pos c_28)))) _ _ _ w (lv_sub hl [0, 1, 2, 3] rfl)
      · exact g_throwSW (names := ["java/lang/RuntimeException", "java/lang/Exception"]) hlt S hE w hl ht hlk (by decide +kernel) (by decide +kernel) m_3_58 m_1_19 (List.mem_of_getElem? (i := 6) rfl) th_RX8_113_117_1 th_RX8_113_117_2 th_RX8_113_117_3 dX8_go_31 dX8_go_34 dX8_go_35 dX8_go_38 dX8_go_41 (Nat.le_of_ble_eq_true rfl) (Nat.le_of_ble_eq_true rfl) (Nat.le_of_ble_eq_true rfl) (Nat.le_of_ble_eq_true rfl) (Nat.le_of_ble_eq_true rfl) (Nat.le_of_ble_eq_true rfl) (fun n9 hn9 => ⟨x.z, _, ((sX8_go_u Z n0).trans ((if_neg c_2).trans ((if_pos c_9).trans (if_neg c_28)))), rfl, hk, (fun a9 t9 h9 => Or.inl h9), ⟨rfl, rfl, Nat.le_refl _⟩⟩)
    · exact g_throwS (names := ["java/lang/RuntimeException", "java/lang/Exception"]) hlt S hE w hl ht hlk (by decide +kernel) (by decide +kernel) m_3_42 m_1_18 (List.mem_of_getElem? (i := 3) rfl) th_RX8_105_109_1 th_RX8_105_109_2 th_RX8_105_109_3 dX8_go_12 dX8_go_15 dX8_go_16 dX8_go_18 dX8_go_21 (Nat.le_of_ble_eq_true rfl) (Nat.le_of_ble_eq_true rfl) (Nat.le_of_ble_eq_true rfl) (Nat.le_of_ble_eq_true rfl) (Nat.le_of_ble_eq_true rfl) (Nat.le_of_ble_eq_true rfl) (fun n9 hn9 => ⟨x.z, _, ((sX8_go_u Z n0).trans ((if_neg c_2).trans (if_neg c_9))), rfl, hk, (fun a9 t9 h9 => Or.inl h9), ⟨rfl, rfl, Nat.le_refl _⟩⟩)
