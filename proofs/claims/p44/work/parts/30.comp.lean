theorem dX8_compiledMethods_0 : decode cX8_compiledMethods 0 = .ok (.iconst 0, 1) := by decide +kernel
theorem dX8_compiledMethods_1 : decode cX8_compiledMethods 1 = .ok (.istore_n 1, 1) := by decide +kernel
theorem dX8_compiledMethods_2 : decode cX8_compiledMethods 2 = .ok (.aload_n 0, 1) := by decide +kernel
theorem dX8_compiledMethods_3 : decode cX8_compiledMethods 3 = .ok (.getfield 18, 3) := by decide +kernel
theorem dX8_compiledMethods_6 : decode cX8_compiledMethods 6 = .ok (.astore_n 2, 1) := by decide +kernel
theorem dX8_compiledMethods_7 : decode cX8_compiledMethods 7 = .ok (.aload_n 2, 1) := by decide +kernel
theorem dX8_compiledMethods_8 : decode cX8_compiledMethods 8 = .ok (.arraylength, 1) := by decide +kernel
theorem dX8_compiledMethods_9 : decode cX8_compiledMethods 9 = .ok (.istore_n 3, 1) := by decide +kernel
theorem dX8_compiledMethods_10 : decode cX8_compiledMethods 10 = .ok (.iconst 0, 1) := by decide +kernel
theorem dX8_compiledMethods_11 : decode cX8_compiledMethods 11 = .ok (.istore 4, 2) := by decide +kernel
theorem dX8_compiledMethods_13 : decode cX8_compiledMethods 13 = .ok (.iload 4, 2) := by decide +kernel
theorem dX8_compiledMethods_15 : decode cX8_compiledMethods 15 = .ok (.iload_n 3, 1) := by decide +kernel
theorem dX8_compiledMethods_16 : decode cX8_compiledMethods 16 = .ok (.if_icmp .ge 31, 3) := by decide +kernel
theorem dX8_compiledMethods_19 : decode cX8_compiledMethods 19 = .ok (.aload_n 2, 1) := by decide +kernel
theorem dX8_compiledMethods_20 : decode cX8_compiledMethods 20 = .ok (.iload 4, 2) := by decide +kernel
theorem dX8_compiledMethods_22 : decode cX8_compiledMethods 22 = .ok (.aaload, 1) := by decide +kernel
theorem dX8_compiledMethods_23 : decode cX8_compiledMethods 23 = .ok (.astore 5, 2) := by decide +kernel
theorem dX8_compiledMethods_25 : decode cX8_compiledMethods 25 = .ok (.aload 5, 2) := by decide +kernel
theorem dX8_compiledMethods_27 : decode cX8_compiledMethods 27 = .ok (.ifnull 14, 3) := by decide +kernel
theorem dX8_compiledMethods_30 : decode cX8_compiledMethods 30 = .ok (.aload 5, 2) := by decide +kernel
theorem dX8_compiledMethods_32 : decode cX8_compiledMethods 32 = .ok (.getfield 187, 3) := by decide +kernel
theorem dX8_compiledMethods_35 : decode cX8_compiledMethods 35 = .ok (.ifCond .eq 6, 3) := by decide +kernel
theorem dX8_compiledMethods_38 : decode cX8_compiledMethods 38 = .ok (.iinc 1 1, 3) := by decide +kernel
theorem dX8_compiledMethods_41 : decode cX8_compiledMethods 41 = .ok (.iinc 4 1, 3) := by decide +kernel
theorem dX8_compiledMethods_44 : decode cX8_compiledMethods 44 = .ok (.goto (-31), 3) := by decide +kernel
theorem dX8_compiledMethods_47 : decode cX8_compiledMethods 47 = .ok (.iload_n 1, 1) := by decide +kernel
theorem dX8_compiledMethods_48 : decode cX8_compiledMethods 48 = .ok (.ireturn, 1) := by decide +kernel
theorem dX8_compile_0 : decode cX8_compile 0 = .ok (.aload_n 0, 1) := by decide +kernel
theorem dX8_compile_1 : decode cX8_compile 1 = .ok (.iload_n 1, 1) := by decide +kernel
theorem dX8_compile_2 : decode cX8_compile 2 = .ok (.iload_n 2, 1) := by decide +kernel
theorem dX8_compile_3 : decode cX8_compile 3 = .ok (.invokevirtual 159, 3) := by decide +kernel
theorem dX8_compile_6 : decode cX8_compile 6 = .ok (.iconst 1, 1) := by decide +kernel
theorem dX8_compile_7 : decode cX8_compile 7 = .ok (.putfield 187, 3) := by decide +kernel
theorem dX8_compile_10 : decode cX8_compile 10 = .ok (.aload_n 0, 1) := by decide +kernel
theorem dX8_compile_11 : decode cX8_compile 11 = .ok (.invokevirtual 191, 3) := by decide +kernel
theorem dX8_compile_14 : decode cX8_compile 14 = .ok (.ireturn, 1) := by decide +kernel
theorem dX8_hot_0 : decode cX8_hot 0 = .ok (.iload_n 1, 1) := by decide +kernel
theorem dX8_hot_1 : decode cX8_hot 1 = .ok (.bipush 100, 2) := by decide +kernel
theorem dX8_hot_3 : decode cX8_hot 3 = .ok (.invokestatic 97, 3) := by decide +kernel
theorem dX8_hot_6 : decode cX8_hot 6 = .ok (.ifCond .ne 13, 3) := by decide +kernel
theorem dX8_hot_9 : decode cX8_hot 9 = .ok (.new 105, 3) := by decide +kernel
theorem dX8_hot_12 : decode cX8_hot 12 = .ok (.dup, 1) := by decide +kernel
theorem dX8_hot_13 : decode cX8_hot 13 = .ok (.ldc 138, 2) := by decide +kernel
theorem dX8_hot_15 : decode cX8_hot 15 = .ok (.invokespecial 109, 3) := by decide +kernel
theorem dX8_hot_18 : decode cX8_hot 18 = .ok (.athrow, 1) := by decide +kernel
theorem dX8_hot_19 : decode cX8_hot 19 = .ok (.aload_n 0, 1) := by decide +kernel
theorem dX8_hot_20 : decode cX8_hot 20 = .ok (.getfield 29, 3) := by decide +kernel
theorem dX8_hot_23 : decode cX8_hot 23 = .ok (.istore_n 2, 1) := by decide +kernel
theorem dX8_hot_24 : decode cX8_hot 24 = .ok (.aload_n 0, 1) := by decide +kernel
theorem dX8_hot_25 : decode cX8_hot 25 = .ok (.iload_n 1, 1) := by decide +kernel
theorem dX8_hot_26 : decode cX8_hot 26 = .ok (.putfield 29, 3) := by decide +kernel
theorem dX8_hot_29 : decode cX8_hot 29 = .ok (.iload_n 2, 1) := by decide +kernel
theorem dX8_hot_30 : decode cX8_hot 30 = .ok (.ireturn, 1) := by decide +kernel
section SITES
variable {p : Program} {l : Launch} {e : Env} {R : Room} {s : State} {m : MethodId} {args : Array Value} {below : List Frame} {meth : Method} {c : Code} {H : Heap} {locs : List Loc} {cells slots : Nat} {Q : State → Prop}
variable {pc : Nat} {ls : Array Slot} {rest : List Value} {D : va_G} {ar : Nat → ClassId} {κ : Nat → Nat} {A : Nat → Prop} {a : Nat} {H0 : Heap} {G : gW} {nz nL : Nat} {cc : ByteArray}
theorem gf_RX8_187_12 {A9 : Nat → Prop} {H9 : Heap} {fs : List Value} {v : Value} (S : CallFix p m c cc nL s args lwA RX8) (hE : g_E D vwCl (gT ar) (EX1 κ) A9 s H9) (w : g_S D vwCl A H0 G H locs nz) (ha : G a = some (.inr (12, fs))) (hv : fs[6]? = some v) (hdg : decode cc pc = .ok (.getfield 187, 3)) (kk : W p l e R s m args below meth c H locs cells slots Q (F0 m (pc + 3) ls (v :: rest))) : W p l e R s m args below meth c H locs cells slots Q (F0 m pc ls (.ref a :: rest)) :=
  va_getN (ci := 12) (C := RX6) (T := TX6) (N := 7) S.1 S.2.1 S.2.2.2.2 inA_RX6 S.2.2.2.1 hE.1 (g_1 w.1 ha) 0 rfl rfl 6 (by decide) (va_Nw.use rfl (hE.2.1.1 _ (ckN_1 _ (List.mem_of_getElem? (i := 36) rfl)))) (fun _ h => h) hv hdg kk
theorem m_7_148 : (Cond.code yX8_compiledMethods cX8_compiledMethods 6 (some .int)) ∈ lwA := lwA_mk (ck_7 _ (List.mem_of_getElem? (i := 148) rfl)) rfl
theorem m_7_145 : (Cond.methodLink RX8 191 yX8_compiledMethods) ∈ lwA := lwA_mk (ck_7 _ (List.mem_of_getElem? (i := 145) rfl)) rfl
theorem m_7_147 : (Cond.instanceMethod yX8_compiledMethods) ∈ lwA := lwA_mk (ck_7 _ (List.mem_of_getElem? (i := 147) rfl)) rfl
theorem ms_31 : (Cond.selects RX8 yX8_compiledMethods yX8_compiledMethods) ∈ lwA := lwA_mk (List.mem_append_left _ (List.mem_of_getElem? (i := 31) rfl)) rfl
theorem k_RX8_191 {args : Array Value} {s : State} {R rm : Room} (hts : ∀ w ∈ lwA, w.before args s = true) (hR : rm.frames + 1 ≤ R.frames ∧ 8 + (6 + 11) + rm.locals ≤ R.locals) : CallW R s args RX8 RX8 191 yX8_compiledMethods cX8_compiledMethods 6 (some .int) (lwC yX8_compiledMethods cX8_compiledMethods 6 (some .int)) rm rm.cells rm.slots 0 := cwV 0 hts (gdV m_7_145 m_7_147 ms_31 m_1_1 m_7_148) rfl rfl rfl (by decide +kernel) hR
end SITES
def LX8_compiledMethods_13 (x : Xo) : Nat → Int32 → Int32 → Ho → Int32
  | 0, _, _, Z => 0
  | nx1 + 1, x1, mnx1, Z => if 192 ≤ x1 then (mnx1) else (oc (Z.me (Int32.toNatClampNeg x1)) (LX8_compiledMethods_13 x nx1 (x1 + 1) mnx1 Z) (fun k5 => if x.cm k5 = 0 then (LX8_compiledMethods_13 x nx1 (x1 + 1) mnx1 Z) else (LX8_compiledMethods_13 x nx1 (x1 + 1) (mnx1 + 1) Z)))
theorem LX8_compiledMethods_13_u (x : Xo) (nx1 : Nat) (x1 : Int32) (mnx1 : Int32) (Z : Ho) : LX8_compiledMethods_13 x (nx1 + 1) x1 mnx1 Z = if 192 ≤ x1 then (mnx1) else (oc (Z.me (Int32.toNatClampNeg x1)) (LX8_compiledMethods_13 x nx1 (x1 + 1) mnx1 Z) (fun k5 => if x.cm k5 = 0 then (LX8_compiledMethods_13 x nx1 (x1 + 1) mnx1 Z) else (LX8_compiledMethods_13 x nx1 (x1 + 1) (mnx1 + 1) Z))) := rfl
def sX8_compiledMethods (x : Xo) (Z : Ho) : Int32 := LX8_compiledMethods_13 x 193 0 0 Z
theorem sX8_compiledMethods_u (x : Xo) (Z : Ho) : sX8_compiledMethods x Z = LX8_compiledMethods_13 x 193 0 0 Z := rfl
set_option maxHeartbeats 4000000 in
set_option maxRecDepth 100000 in
theorem hX8_compiledMethods (l : Launch) (D : va_G) (ar : Nat → ClassId) (κ : Nat → Nat) (G : gW) (x : Xo) (Z : Ho) (sz : Nat) (hk : OK x Z) : Met l yX8_compiledMethods (lwC yX8_compiledMethods cX8_compiledMethods 6 (some .int)) (rD 2 0 0) (g_Pc D vwCl (gT ar) (EX1 κ) (ov κ ar x Z G) sz [.ref (x.f .ho)]) (g_Qi D vwCl (g_A (ov κ ar x Z G) sz) (fun r u => r = sX8_compiledMethods x Z ∧ u = (ov κ ar x Z G, sz))) 0 0 (g_A (ov κ ar x Z G) sz) := by
  refine g_ofW (by decide +kernel) (Nat.le_of_ble_eq_true rfl) ?_
  intro p e s m below meth c ls S hr hlk hin hE w hl
  have hx := S.1
  have hb := S.2.1
  have hl : lv_has ls 6 [(0, .ref (x.f .ho))] := hl
  refine lv_iconst (v := 0) hx hb dX8_compiledMethods_0 (by decide) ?_
  refine lv_istore_n (lv' := [(1, .int 0), (0, .ref (x.f .ho))]) hx hb dX8_compiledMethods_1 rfl hl (by decide) rfl (fun ls hl => ?_)
  refine lv_aload_n hx hb dX8_compiledMethods_2 rfl (lv_at hl 1 rfl) ?_
  refine gf_RX8_18_14 (v := .ref (x.f .me)) S hE w (ov_r (t := .ho) (hk.e (.ho) rfl)) rfl dX8_compiledMethods_3 ?_
  refine lv_astore_n (lv' := [(2, .ref (x.f .me)), (1, .int 0), (0, .ref (x.f .ho))]) hx hb dX8_compiledMethods_6 rfl hl (by decide) rfl (fun ls hl => ?_)
  refine lv_aload_n hx hb dX8_compiledMethods_7 rfl (lv_at hl 0 rfl) ?_
  refine va_alen (v := 192) hx hb hE.1 (g_1 w.1 (ov_r (t := .me) (hk.e (.me) rfl))) 0 7 rfl rfl rfl dX8_compiledMethods_8 ?_
  refine lv_istore_n (lv' := [(3, .int 192), (2, .ref (x.f .me)), (1, .int 0), (0, .ref (x.f .ho))]) hx hb dX8_compiledMethods_9 rfl hl (by decide) rfl (fun ls hl => ?_)
  refine lv_iconst (v := 0) hx hb dX8_compiledMethods_10 (by decide) ?_
  refine lv_istore (lv' := [(4, .int 0), (3, .int 192), (2, .ref (x.f .me)), (1, .int 0), (0, .ref (x.f .ho))]) hx hb dX8_compiledMethods_11 hl (by decide) rfl (fun ls hl => ?_)
  have key4 : ∀ (nx1 ix1 : Nat), ix1 ≤ 192 → 192 + 1 ≤ ix1 + nx1 → ∀ (x1 : Int32), x1 = nI ix1 → ∀ (mnx1 : Int32), sX8_compiledMethods x Z = LX8_compiledMethods_13 x nx1 x1 mnx1 Z → ∀ (H : Heap) (locs : List Loc) (ls : Array Slot), g_S D vwCl (g_A (ov κ ar x Z G) sz) s.heap (ov κ ar x Z G) H locs sz → lv_has ls 6 [(4, .int x1), (1, .int mnx1), (3, .int 192), (2, .ref (x.f .me)), (0, .ref (x.f .ho))] → W p l e (rD 2 0 0) s m ([.ref (x.f .ho)] : List Value).toArray below meth c H locs 0 0 (MQ below (g_Qi D vwCl (g_A (ov κ ar x Z G) sz) (fun r u => r = sX8_compiledMethods x Z ∧ u = (ov κ ar x Z G, sz))) ([.ref (x.f .ho)] : List Value).toArray s 0 0 (g_A (ov κ ar x Z G) sz)) (F0 m 13 ls []) := by
    intro nx1
    induction nx1 with
    | zero => intro ix1 hix1 hi2; exact absurd hi2 (by omega)
    | succ nx1 ihx1 =>
      intro ix1 hix1 hi2 x1 exx1 mnx1 hsp3 H locs ls w hl
      refine lv_iload hx hb dX8_compiledMethods_13 (lv_at hl 0 rfl) ?_
      refine lv_iload_n hx hb dX8_compiledMethods_15 rfl (lv_at hl 2 rfl) ?_
      refine lv_icmp_ge (tgt := 47) hx hb dX8_compiledMethods_16 (by decide) (fun c_16 => ?_) (fun c_16 => ?_)
      · refine lv_iload_n hx hb dX8_compiledMethods_47 rfl (lv_at hl 1 rfl) ?_
        exact g_iret hx hb hr hlk w (Nat.le_of_ble_eq_true rfl) (Nat.le_of_ble_eq_true rfl) dX8_compiledMethods_48 ⟨(((hsp3).trans ((LX8_compiledMethods_13_u x nx1 x1 mnx1 Z).trans (if_pos c_16)))).symm, rfl⟩
      · refine lv_aload_n hx hb dX8_compiledMethods_19 rfl (lv_at hl 3 rfl) ?_
        refine lv_iload hx hb dX8_compiledMethods_20 (lv_at hl 0 rfl) ?_
        refine va_aldq hx hb hE.1 (g_1 w.1 (ov_r (t := .me) (hk.e (.me) rfl))) 0 7 rfl rfl (in_lt (n := 192) rfl exx1 hix1 (by decide) (by decide) c_16) dX8_compiledMethods_22 ?_
        show W p l e _ s m _ below meth c _ _ _ _ _ (F0 m 23 ls [va_rf ((Z.me (Int32.toNatClampNeg x1)).map (fun k9 => x.f (.to k9)))])
        refine lv_astoreQ (lv' := [(5, va_rf ((Z.me (Int32.toNatClampNeg x1)).map (fun k9 => x.f (.to k9)))), (4, .int x1), (1, .int mnx1), (3, .int 192), (2, .ref (x.f .me)), (0, .ref (x.f .ho))]) hx hb dX8_compiledMethods_23 hl (by decide) rfl (fun ls hl => ?_)
        refine lv_aloadQ hx hb dX8_compiledMethods_25 (lv_at hl 0 rfl) ?_
        rcases he6 : Z.me (Int32.toNatClampNeg x1) with _ | k5
        · have hl : lv_has ls 6 [(5, .null), (4, .int x1), (1, .int mnx1), (3, .int 192), (2, .ref (x.f .me)), (0, .ref (x.f .ho))] := by rw [he6] at hl; exact hl
          show W p l e _ s m _ below meth c _ _ _ _ _ (F0 m 27 ls [.null])
          refine lv_ifnullN (tgt := 41) hx hb dX8_compiledMethods_27 (by decide) ?_
          refine lv_iinc (v := x1 + 1) (lv' := [(4, .int (x1 + 1)), (5, .null), (1, .int mnx1), (3, .int 192), (2, .ref (x.f .me)), (0, .ref (x.f .ho))]) hx hb dX8_compiledMethods_41 hl (k := 1) rfl rfl (by decide) rfl (fun ls hl => ?_)
          refine lv_goto (tgt := 13) hx hb dX8_compiledMethods_44 (by decide) ?_
          exact ihx1 (ix1 + 1) (lp_up (n := 192) rfl exx1 hix1 (by decide) (by decide) (by decide) c_16) (by omega) (x1 + 1) (by rw [exx1]; exact nI_1 ix1) mnx1 ((hsp3).trans ((LX8_compiledMethods_13_u x nx1 x1 mnx1 Z).trans ((if_neg c_16).trans (oc_n he6)))) H _ ls w (lv_sub hl [0, 2, 3, 4, 5] rfl)
        · have hl : lv_has ls 6 [(5, .ref (x.f (.to k5))), (4, .int x1), (1, .int mnx1), (3, .int 192), (2, .ref (x.f .me)), (0, .ref (x.f .ho))] := by rw [he6] at hl; exact hl
          show W p l e _ s m _ below meth c _ _ _ _ _ (F0 m 27 ls [.ref (x.f (.to k5))])
          refine lv_ifnull hx hb dX8_compiledMethods_27 ?_
          refine lv_aload hx hb dX8_compiledMethods_30 (lv_at hl 0 rfl) ?_
          refine gf_RX8_187_12 (v := .int (x.cm k5)) S hE w (ov_r (t := .to k5) (hk.e_to (hk.m he6))) rfl dX8_compiledMethods_32 ?_
          refine lv_if_eq (tgt := 41) hx hb dX8_compiledMethods_35 (by decide) (fun c_35 => ?_) (fun c_35 => ?_)
          · refine lv_iinc (v := x1 + 1) (lv' := [(4, .int (x1 + 1)), (5, .ref (x.f (.to k5))), (1, .int mnx1), (3, .int 192), (2, .ref (x.f .me)), (0, .ref (x.f .ho))]) hx hb dX8_compiledMethods_41 hl (k := 1) rfl rfl (by decide) rfl (fun ls hl => ?_)
            refine lv_goto (tgt := 13) hx hb dX8_compiledMethods_44 (by decide) ?_
            exact ihx1 (ix1 + 1) (lp_up (n := 192) rfl exx1 hix1 (by decide) (by decide) (by decide) c_16) (by omega) (x1 + 1) (by rw [exx1]; exact nI_1 ix1) mnx1 ((hsp3).trans ((LX8_compiledMethods_13_u x nx1 x1 mnx1 Z).trans ((if_neg c_16).trans ((oc_s he6).trans (if_pos c_35))))) H _ ls w (lv_sub hl [0, 2, 3, 4, 5] rfl)
          · refine lv_iinc (v := mnx1 + 1) (lv' := [(1, .int (mnx1 + 1)), (5, .ref (x.f (.to k5))), (4, .int x1), (3, .int 192), (2, .ref (x.f .me)), (0, .ref (x.f .ho))]) hx hb dX8_compiledMethods_38 hl (k := 2) rfl rfl (by decide) rfl (fun ls hl => ?_)
            refine lv_iinc (v := x1 + 1) (lv' := [(4, .int (x1 + 1)), (1, .int (mnx1 + 1)), (5, .ref (x.f (.to k5))), (3, .int 192), (2, .ref (x.f .me)), (0, .ref (x.f .ho))]) hx hb dX8_compiledMethods_41 hl (k := 2) rfl rfl (by decide) rfl (fun ls hl => ?_)
            refine lv_goto (tgt := 13) hx hb dX8_compiledMethods_44 (by decide) ?_
            exact ihx1 (ix1 + 1) (lp_up (n := 192) rfl exx1 hix1 (by decide) (by decide) (by decide) c_16) (by omega) (x1 + 1) (by rw [exx1]; exact nI_1 ix1) (mnx1 + 1) ((hsp3).trans ((LX8_compiledMethods_13_u x nx1 x1 mnx1 Z).trans ((if_neg c_16).trans ((oc_s he6).trans (if_neg c_35))))) H _ ls w (lv_sub hl [0, 1, 3, 4, 5] rfl)
  exact key4 193 0 (Nat.zero_le _) (by decide) 0 rfl 0 (sX8_compiledMethods_u x Z) _ _ _ w (lv_sub hl [0, 3, 1, 2, 4] rfl)
def sX8_compile (x : Xo) (Z : Ho) (i0 : Int32) (j0 : Int32) : Rs Int32 := rc (sX8_checkedMethod Z i0 j0) (fun r8 T5 => .inl (sX8_compiledMethods (x.pgs (x.zcm (updN x.cm r8 1))) (T5.toS r8 (T5.to r8)), (T5.toS r8 (T5.to r8)))) (fun E9 T9 => .inr (E9, T9))
theorem sX8_compile_u (x : Xo) (Z : Ho) (i0 : Int32) (j0 : Int32) : sX8_compile x Z i0 j0 = rc (sX8_checkedMethod Z i0 j0) (fun r8 T5 => .inl (sX8_compiledMethods (x.pgs (x.zcm (updN x.cm r8 1))) (T5.toS r8 (T5.to r8)), (T5.toS r8 (T5.to r8)))) (fun E9 T9 => .inr (E9, T9)) := rfl
set_option maxHeartbeats 4000000 in
set_option maxRecDepth 100000 in
theorem hX8_compile (l : Launch) (D : va_G) (ar : Nat → ClassId) (κ : Nat → Nat) (G : gW) (x : Xo) (Z : Ho) (sz : Nat) (i0 : Int32) (j0 : Int32) (hk : OK x Z) (hlt : l.stackTraces = false) : vx_Met l yX8_compile (lwC yX8_compile cX8_compile 3 (some .int)) (rD 11 2 12) (g_Pc D vwCl (gT ar) (EX1 κ) (ov κ ar x Z G) sz [.ref (x.f .ho), .int i0, .int j0]) (g_Qi D vwCl (g_A (ov κ ar x Z G) sz) (fun r u => ∃ z9 : Zo, ∃ T9 : Ho, sX8_compile x Z i0 j0 = .inl (r, T9) ∧ u.1 = ov κ ar (x.pgs z9) T9 G ∧ OK (x.pgs z9) T9 ∧ BX x z9 sz ∧ SZ T9 Z)) (gX D (g_A (ov κ ar x Z G) sz) (fun E u => ∃ z9 : Zo, ∃ T9 : Ho, sX8_compile x Z i0 j0 = .inr (E, T9) ∧ u.1 = ov κ ar (x.pgs z9) T9 G ∧ OK (x.pgs z9) T9 ∧ BX x z9 sz ∧ SZ T9 Z)) 2 12 (g_A (ov κ ar x Z G) sz) := by
  refine gx_ofW (by decide +kernel) (Nat.le_of_ble_eq_true rfl) ?_
  intro p e s m below meth c ls S hr hlk ht hE w hl
  have hx := S.1
  have hb := S.2.1
  have hl : lv_has ls 3 [(0, .ref (x.f .ho)), (1, .int i0), (2, .int j0)] := hl
  refine lv_aload_n hx hb dX8_compile_0 rfl (lv_at hl 0 rfl) ?_
  refine lv_iload_n hx hb dX8_compile_1 rfl (lv_at hl 1 rfl) ?_
  refine lv_iload_n hx hb dX8_compile_2 rfl (lv_at hl 2 rfl) ?_
  refine gx_callq w (gx_runV (As := [.int i0, .int j0]) (rest := []) S hE w hl (hX8_checkedMethod l D ar κ G x Z sz i0 j0 hk  hlt) (k_RX8_159 S.2.2.2.2 ⟨Nat.le_of_ble_eq_true rfl, Nat.le_of_ble_eq_true rfl⟩) (ov_r (t := .ho) (hk.e (.ho) rfl)) rfl rfl rfl rfl (Nat.le_of_ble_eq_true rfl) dX8_compile_3 ⟨Nat.le_of_ble_eq_true rfl, Nat.le_of_ble_eq_true rfl⟩) (fun E ce q9 u H locs hp hnz w hce hv hcl => by obtain ⟨T1, e2, hu9, hk3, sq4⟩ := hp; exact g_pass ht hlk w hce hv hcl ⟨x.z, _, ((sX8_compile_u x Z i0 j0).trans (rc_x e2)), hu9, hk3, (fun a9 t9 h9 => Or.inl h9), (SZ.t sq4 ⟨rfl, rfl, rfl, rfl⟩)⟩ (Nat.le_of_ble_eq_true rfl) (Nat.le_of_ble_eq_true rfl)) (fun r u H locs hp hnz w => ?_)
  obtain ⟨r8, T5, e6, hr9, hu9, hk7, sq9, hv10⟩ := hp
  subst hr9
  subst hu9
  dsimp only at w
  show W p l e _ s m _ below meth c _ _ _ _ _ (F0 m 6 ls [.ref (x.f (.to r8))])
  refine lv_iconst (v := 1) hx hb dX8_compile_6 (by decide) ?_
  refine pf_RX8_187_12 (fs1 := [.int ((T5.to r8).c), .int ((T5.to r8).s), .int ((T5.to r8).a), .int ((T5.to r8).t), .ref (x.f (.ro ((T5.to r8).q))), .int ((T5.to r8).n), .int 1]) S hE w (ov_r (t := .to r8) (hk7.e_to hv10)) rfl rfl (Nat.le_of_ble_eq_true rfl) rfl dX8_compile_7 (fun H locs w => ?_)
  have w := g_eqw w (congrArg (fun Z9 => g_up (ov κ ar x Z9 G) (x.f (.to r8)) (.inr (12, [.int ((T5.to r8).c), .int ((T5.to r8).s), .int ((T5.to r8).a), .int ((T5.to r8).t), .ref (x.f (.ro ((T5.to r8).q))), .int ((T5.to r8).n), .int 1]))) (toS_id (S := T5) (i := r8)).symm)
  have w := g_eqw w (ov_wcm (S := T5) (v := (T5.to r8)) hk7.v (hk7.e_to hv10) rfl)
  refine lv_aload_n hx hb dX8_compile_10 rfl (lv_at hl 0 rfl) ?_
  refine g_calli w (g_runV (As := []) (rest := []) S hE w hl (hX8_compiledMethods l D ar κ G (x.pgs (x.zcm (updN x.cm r8 1))) (T5.toS r8 (T5.to r8)) sz  (OK.toS (S := T5) (i := r8) hk7 rfl) ) (k_RX8_191 S.2.2.2.2 ⟨Nat.le_of_ble_eq_true rfl, Nat.le_of_ble_eq_true rfl⟩) (ov_r (t := .ho) (hk7.e (.ho) rfl)) rfl rfl rfl rfl (Nat.le_of_ble_eq_true rfl) dX8_compile_11 ⟨Nat.le_of_ble_eq_true rfl, Nat.le_of_ble_eq_true rfl⟩) (fun r u H locs hp hnz w => ?_)
  obtain ⟨rfl, rfl⟩ := hp
  dsimp only at w
  exact vx_ret (g_iret hx hb hr hlk w (Nat.le_of_ble_eq_true rfl) (Nat.le_of_ble_eq_true rfl) dX8_compile_14 ⟨(x.zcm (updN x.cm r8 1)), _, ((sX8_compile_u x Z i0 j0).trans (rc_v e6)), rfl, (OK.toS (S := T5) (i := r8) hk7 rfl), (fun a9 t9 h9 => Or.inl h9), (SZ.t sq9 ⟨rfl, rfl, rfl, rfl⟩)⟩)
def sX8_hot (x : Xo) (Z : Ho) (i0 : Int32) : Rs Int32 := if isB i0 100 = 0 then (.inr ("java/lang/IllegalArgumentException", Z)) else (.inl (x.ht, Z))
theorem sX8_hot_u (x : Xo) (Z : Ho) (i0 : Int32) : sX8_hot x Z i0 = if isB i0 100 = 0 then (.inr ("java/lang/IllegalArgumentException", Z)) else (.inl (x.ht, Z)) := rfl
set_option maxHeartbeats 4000000 in
set_option maxRecDepth 100000 in
theorem hX8_hot (l : Launch) (D : va_G) (ar : Nat → ClassId) (κ : Nat → Nat) (G : gW) (x : Xo) (Z : Ho) (sz : Nat) (i0 : Int32) (hk : OK x Z) (hlt : l.stackTraces = false) : vx_Met l yX8_hot (lwC yX8_hot cX8_hot 3 (some .int)) (rD 8 1 6) (g_Pc D vwCl (gT ar) (EX1 κ) (ov κ ar x Z G) sz [.ref (x.f .ho), .int i0]) (g_Qi D vwCl (g_A (ov κ ar x Z G) sz) (fun r u => ∃ T9 : Ho, sX8_hot x Z i0 = .inl (r, T9) ∧ u = (ov κ ar (x.sht i0) T9 G, sz) ∧ OK (x.sht i0) T9 ∧ SZ T9 Z)) (gX D (g_A (ov κ ar x Z G) sz) (fun E u => ∃ T9 : Ho, sX8_hot x Z i0 = .inr (E, T9) ∧ u.1 = ov κ ar x T9 G ∧ OK x T9 ∧ SZ T9 Z)) 1 6 (g_A (ov κ ar x Z G) sz) := by
  refine gx_ofW (by decide +kernel) (Nat.le_of_ble_eq_true rfl) ?_
  intro p e s m below meth c ls S hr hlk ht hE w hl
  have hx := S.1
  have hb := S.2.1
  have hl : lv_has ls 3 [(0, .ref (x.f .ho)), (1, .int i0)] := hl
  refine lv_iload_n hx hb dX8_hot_0 rfl (lv_at hl 1 rfl) ?_
  refine lv_bipush (v := 100) hx hb dX8_hot_1 (by decide) ?_
  refine g_calli w (g_runS (As := [.int i0, .int 100]) (rest := []) S hE w hl (c_X8_isBelow l D ar κ (ov κ ar x Z G) sz i0 100) (k_RX8_97 S.2.2.2.2 ⟨Nat.le_of_ble_eq_true rfl, Nat.le_of_ble_eq_true rfl⟩) rfl rfl (Nat.le_of_ble_eq_true rfl) dX8_hot_3 ⟨Nat.le_of_ble_eq_true rfl, Nat.le_of_ble_eq_true rfl⟩) (fun r u H locs hp hnz w => ?_)
  obtain ⟨rfl, rfl⟩ := hp
  dsimp only at w
  refine lv_if_ne (tgt := 19) hx hb dX8_hot_6 (by decide) (fun c_6 => ?_) (fun c_6 => ?_)
  · refine lv_aload_n hx hb dX8_hot_19 rfl (lv_at hl 0 rfl) ?_
    refine gf_RX8_29_14 (v := .int x.ht) S hE w (ov_r (t := .ho) (hk.e (.ho) rfl)) rfl dX8_hot_20 ?_
    refine lv_istore_n (lv' := [(2, .int x.ht), (0, .ref (x.f .ho)), (1, .int i0)]) hx hb dX8_hot_23 rfl hl (by decide) rfl (fun ls hl => ?_)
    refine lv_aload_n hx hb dX8_hot_24 rfl (lv_at hl 1 rfl) ?_
    refine lv_iload_n hx hb dX8_hot_25 rfl (lv_at hl 2 rfl) ?_
    refine pf_RX8_29_14 (fs1 := [.ref (x.f .cl), .ref (x.f .me), .ref (x.f (.ro Z.ty)), .int i0, .ref (x.f .gl), .ref (x.f .ts), .ref (x.f .fs), .int Z.fn, .int Z.st, .int Z.rs, .long Z.an, .int Z.sp, .ref (x.f .wr)]) S hE w (ov_r (t := .ho) (hk.e (.ho) rfl)) rfl rfl (Nat.le_of_ble_eq_true rfl) rfl dX8_hot_26 (fun H locs w => ?_)
    have w := g_eqw w (ov_wht (S := Z) hk.v (hk.e (.ho) rfl) rfl)
    refine lv_iload_n hx hb dX8_hot_29 rfl (lv_at hl 0 rfl) ?_
    exact vx_ret (g_iret hx hb hr hlk w (Nat.le_of_ble_eq_true rfl) (Nat.le_of_ble_eq_true rfl) dX8_hot_30 ⟨_, ((sX8_hot_u x Z i0).trans (if_neg c_6)), rfl, (OK.sht hk), ⟨rfl, rfl, rfl, rfl⟩⟩)
  · exact g_throwS (names := ["java/lang/RuntimeException", "java/lang/Exception"]) hlt S hE w hl ht hlk (by decide +kernel) (by decide +kernel) m_3_42 m_1_18 (List.mem_of_getElem? (i := 3) rfl) th_RX8_105_109_1 th_RX8_105_109_2 th_RX8_105_109_3 dX8_hot_9 dX8_hot_12 dX8_hot_13 dX8_hot_15 dX8_hot_18 (Nat.le_of_ble_eq_true rfl) (Nat.le_of_ble_eq_true rfl) (Nat.le_of_ble_eq_true rfl) (Nat.le_of_ble_eq_true rfl) (Nat.le_of_ble_eq_true rfl) (Nat.le_of_ble_eq_true rfl) (fun n9 hn9 => ⟨_, ((sX8_hot_u x Z i0).trans (if_pos c_6)), rfl, hk, ⟨rfl, rfl, rfl, rfl⟩⟩)
