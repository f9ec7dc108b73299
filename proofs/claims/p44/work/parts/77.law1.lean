section SITES
variable {p : Program} {l : Launch} {e : Env} {R : Room} {s : State} {m : MethodId} {args : Array Value} {below : List Frame} {meth : Method} {c : Code} {H : Heap} {locs : List Loc} {cells slots : Nat} {Q : State → Prop}
variable {pc : Nat} {ls : Array Slot} {rest : List Value} {D : va_G} {ar : Nat → ClassId} {κ : Nat → Nat} {A : Nat → Prop} {a : Nat} {H0 : Heap} {G : gW} {nz nL : Nat} {cc : ByteArray}
theorem m_7_98 : (Cond.code yL_globals cL_globals 3 none) ∈ lwA := lwA_mk (ck_7 _ (List.mem_of_getElem? (i := 98) rfl)) rfl
theorem m_7_96 : (Cond.methodLink RL 316 yL_globals) ∈ lwA := lwA_mk (ck_7 _ (List.mem_of_getElem? (i := 96) rfl)) rfl
theorem m_7_97 : (Cond.static yL_globals) ∈ lwA := lwA_mk (ck_7 _ (List.mem_of_getElem? (i := 97) rfl)) rfl
theorem k_RL_316 {args : Array Value} {s : State} {R rm : Room} (hts : ∀ w ∈ lwA, w.before args s = true) (hR : rm.frames + 1 ≤ R.frames ∧ 8 + (3 + 11) + rm.locals ≤ R.locals) : CallB R s args RL 316 yL_globals cL_globals 3 none (lwC yL_globals cL_globals 3 none) rm rm.cells rm.slots 2 ∧ (Cond.static yL_globals).before args s = true := cwS 2 hts (gdS m_7_96 m_7_97 m_1_0 m_7_98) rfl rfl rfl (by decide +kernel) hR
end SITES
set_option maxHeartbeats 8000000 in
set_option maxRecDepth 100000 in
theorem law_1 {p : Program} {e : Env} {s : State} {m : MethodId} {below : List Frame} {meth : Method} {c : Code} (l : Launch) (hlt : l.stackTraces = false) (D : va_G) (ar : Nat → ClassId) (κ : Nat → Nat) (b L : Nat) (xs : Nat → Int32) (hL : L ≤ 260) (a1 a2 : Nat) (S : CallFix p m c cL_law 10 s #[.ref b] lwA RL) (hr : meth.sig.returnType = ret) (hlk : meth.locks = false) (hE : g_E D vwCl (gT ar) (EX1 κ) (fun q => s.heap.size ≤ q) s s.heap) (hEs : g_E D vwCl (gT ar) (EXs κ b L xs) (fun q => s.heap.size ≤ q) s s.heap) :
    ∀ (n9 k : Nat), k ≤ 16 → 17 ≤ k + n9 → ∀ (x1 x2 : Xo) (Z : Ho) (G : gW) (n1 : Nat) (H : Heap) (locs : List Loc) (ls : Array Slot), x1.f .ho = a1 → x2.f .ho = a2 → OK x1 Z → OK x2 Z → DJ x1 x2 → LI Z 0 0 → g_S D vwCl (fun q => s.heap.size ≤ q) s.heap (ov κ ar x1 Z (ov κ ar x2 Z G)) H locs n1 → lv_has ls 10 [(3, .int (nI k)), (2, .ref a2), (1, .ref a1), (0, .ref b)] → W p l e room_1 s m #[Value.ref b] below meth c H locs (500 + 330 * k) (4000 + 13300 * k) (lw_Z below #[Value.ref b] s) (F0 m 26 ls []) := by
  have hx := S.1
  have hb := S.2.1
  intro n9
  induction n9 with
  | zero => intro k h1 h2; omega
  | succ n9 ih =>
    intro k hk30 hk31
    intro x1 x2 Z G n1 H locs ls hf1 hf2 hk1 hk2 hdj hLI w hl
    refine lv_iload_n hx hb dL_law_26 rfl (lv_at hl 0 rfl) ?_
    refine lv_bipush (v := 16) hx hb dL_law_27 (by decide) ?_
    refine lv_icmp_ge (tgt := 96) hx hb dL_law_29 (by decide) (fun c_29 => ?_) (fun c_29 => ?_)
    · refine lv_iconst (v := 0) hx hb dL_law_96 (by decide) ?_
      refine lv_istore_n (lv' := [(3, .int 0), (2, .ref a2), (1, .ref a1), (0, .ref b)]) hx hb dL_law_97 rfl hl (by decide) rfl (fun ls hl => ?_)
      refine W.widen (k := 6000 + 16450 * 0) (n := 220000 + 104200 * 0) (by omega) (by omega) ?_
      exact law_2 l hlt D ar κ b L xs hL a1 a2 S hr hlk hE hEs 31 0 (by omega) (by omega) x1 x2 Z G n1 H locs ls hf1 hf2 hk1 hk2 hdj hLI w (lv_sub hl [0, 1, 2, 3] rfl)
    · have hkk : k < 16 := nI_nle9 (a := 16) c_29 (by omega)
      refine lv_aload_n hx hb dL_law_32 rfl (lv_at hl 3 rfl) ?_
      refine lv_iload_n hx hb dL_law_33 rfl (lv_at hl 0 rfl) ?_
      refine g_calli w (g_runSE (As := [.ref b, .int (nI k)]) (rest := []) (EXs_cl κ b L xs) S hEs w hl (hL_cell l D ar κ (ov κ ar x1 Z (ov κ ar x2 Z G)) n1 b L xs k hL (by omega)) (k_RL_304 S.2.2.2.2 ⟨Nat.le_of_ble_eq_true rfl, Nat.le_of_ble_eq_true rfl⟩) rfl rfl (Nat.le_of_ble_eq_true rfl) dL_law_34 ⟨(by (try dsimp only [room_1]); omega), (by (try dsimp only [room_1]); omega)⟩) (fun r1 u H locs hp hnz w => ?_)
      obtain rfl := hp
      try dsimp only at w
      refine lv_sipush (v := 7919) hx hb dL_law_37 (by decide) ?_
      refine lv_iload_n hx hb dL_law_40 rfl (lv_at hl 0 rfl) ?_
      refine lv_imul hx hb dL_law_41 ?_
      generalize (7919 * (nI k) : Int32) = v1
      refine lv_iadd hx hb dL_law_42 ?_
      generalize (r1 + v1 : Int32) = v2
      refine lv_ldcw hx hb S.2.2.2.1 (S.2.2.2.2 _ m_8_83) dL_law_43 ?_
      refine g_calli w (g_runS (As := [.int v2, .int 10000000]) (rest := []) S hE w hl (hL_chosen l D ar κ (ov κ ar x1 Z (ov κ ar x2 Z G)) n1 v2) (k_RL_309 S.2.2.2.2 ⟨Nat.le_of_ble_eq_true rfl, Nat.le_of_ble_eq_true rfl⟩) rfl rfl (Nat.le_of_ble_eq_true rfl) dL_law_46 ⟨(by (try dsimp only [room_1]); omega), (by (try dsimp only [room_1]); omega)⟩) (fun r2 u H locs hp hnz w => ?_)
      obtain ⟨⟨j, hj, rfl⟩, rfl⟩ := hp
      try dsimp only at w
      refine lv_istore (lv' := [(4, .int (nI j)), (3, .int (nI k)), (2, .ref a2), (1, .ref a1), (0, .ref b)]) hx hb dL_law_49 hl (by decide) rfl (fun ls hl => ?_)
      refine lv_aload_n hx hb dL_law_51 rfl (lv_at hl 3 rfl) ?_
      refine lv_iload hx hb dL_law_52 (lv_at hl 0 rfl) ?_
      rw [← hf1]
      have hw3 : ∀ q, n1 ≤ q → (ov κ ar x1 Z (ov κ ar x2 Z G)) q = none := fun q z => g_free w z
      refine g_callv w (g_runS (As := [.ref (x1.f .ho), .int (nI j)]) (rest := []) S hE w hl (hL_tellsOne l D ar κ (ov κ ar x2 Z G) x1 Z n1 j hk1 hlt (by omega)) (k_RL_312 S.2.2.2.2 ⟨Nat.le_of_ble_eq_true rfl, Nat.le_of_ble_eq_true rfl⟩) rfl rfl (Nat.le_of_ble_eq_true rfl) dL_law_54 ⟨(by (try dsimp only [room_1]); omega), (by (try dsimp only [room_1]); omega)⟩) (fun u H locs hp hnz w => ?_)
      obtain ⟨y3, T3, G3, e3, hu3, hk3, by3, gl3⟩ := hp
      obtain ⟨v3, m3⟩ := u
      dsimp only at hu3 w hnz
      subst hu3
      have hG3 := ov_gv hdj gl3
      have w := g_eqw w (congrArg (fun z => ov κ ar y3 T3 z) hG3)
      try dsimp only at w
      have hf3 : y3.f .ho = a1 := by3.1.trans hf1
      have hdj3 : DJ y3 x2 := dj_step hdj by3 hw3
      refine lv_aload_n hx hb dL_law_57 rfl (lv_at hl 2 rfl) ?_
      refine lv_iload hx hb dL_law_58 (lv_at hl 0 rfl) ?_
      have w := g_eqw w (ov_swap hdj3)
      rw [← hf2]
      have hw4 : ∀ q, m3 ≤ q → (ov κ ar x2 Z (ov κ ar y3 T3 G3)) q = none := fun q z => g_free w z
      refine g_callv w (g_runS (As := [.ref (x2.f .ho), .int (nI j)]) (rest := []) S hE w hl (hL_tellsOne l D ar κ (ov κ ar y3 T3 G3) x2 Z m3 j hk2 hlt (by omega)) (k_RL_312 S.2.2.2.2 ⟨Nat.le_of_ble_eq_true rfl, Nat.le_of_ble_eq_true rfl⟩) rfl rfl (Nat.le_of_ble_eq_true rfl) dL_law_60 ⟨(by (try dsimp only [room_1]); omega), (by (try dsimp only [room_1]); omega)⟩) (fun u H locs hp hnz w => ?_)
      obtain ⟨y4, T4, G4, e4, hu4, hk4, by4, gl4⟩ := hp
      obtain ⟨v4, m4⟩ := u
      dsimp only at hu4 w hnz
      subst hu4
      have hG4 := ov_gv (hdj3).s gl4
      have w := g_eqw w (congrArg (fun z => ov κ ar y4 T4 z) hG4)
      try dsimp only at w
      have hf4 : y4.f .ho = a2 := by4.1.trans hf2
      have hdj4 : DJ y3 y4 := (dj_step (hdj3).s by4 hw4).s
      have hT4 : T4 = T3 := e4.symm.trans e3
      rw [hT4] at w hk4
      have hLI := li_v (li_tlS hLI) e3
      refine lv_aload_n hx hb dL_law_63 rfl (lv_at hl 3 rfl) ?_
      refine lv_iload hx hb dL_law_64 (lv_at hl 0 rfl) ?_
      refine lv_bipush (v := 7) hx hb dL_law_66 (by decide) ?_
      refine lv_idiv hx hb dL_law_68 (by decide) ?_
      rw [show ((nI j) / 7 : Int32) = nI (j / 7) from nI_div (m := 7) (by omega) (by decide) (by decide)]
      have w := g_eqw w (ov_swap (hdj4).s)
      rw [← hf3]
      refine g_callv w (g_runS (As := [.ref (y3.f .ho), .int (nI (j / 7))]) (rest := []) S hE w hl (hL_globals l D ar κ (ov κ ar y4 T3 G4) y3 T3 m4 (nI (j / 7)) hk3 hlt) (k_RL_316 S.2.2.2.2 ⟨Nat.le_of_ble_eq_true rfl, Nat.le_of_ble_eq_true rfl⟩) rfl rfl (Nat.le_of_ble_eq_true rfl) dL_law_69 ⟨(by (try dsimp only [room_1]); omega), (by (try dsimp only [room_1]); omega)⟩) (fun u H locs hp hnz w => ?_)
      obtain ⟨T5, e5, hu5, hk5, sq5⟩ := hp
      obtain ⟨v5, m5⟩ := u
      dsimp only at hu5 w hnz
      subst hu5
      refine lv_aload_n hx hb dL_law_72 rfl (lv_at hl 2 rfl) ?_
      refine lv_iload hx hb dL_law_73 (lv_at hl 0 rfl) ?_
      refine lv_bipush (v := 7) hx hb dL_law_75 (by decide) ?_
      refine lv_idiv hx hb dL_law_77 (by decide) ?_
      rw [show ((nI j) / 7 : Int32) = nI (j / 7) from nI_div (m := 7) (by omega) (by decide) (by decide)]
      have w := g_eqw w (ov_swap hdj4)
      rw [← hf4]
      refine g_callv w (g_runS (As := [.ref (y4.f .ho), .int (nI (j / 7))]) (rest := []) S hE w hl (hL_globals l D ar κ (ov κ ar y3 T5 G4) y4 T3 m5 (nI (j / 7)) hk4 hlt) (k_RL_316 S.2.2.2.2 ⟨Nat.le_of_ble_eq_true rfl, Nat.le_of_ble_eq_true rfl⟩) rfl rfl (Nat.le_of_ble_eq_true rfl) dL_law_78 ⟨(by (try dsimp only [room_1]); omega), (by (try dsimp only [room_1]); omega)⟩) (fun u H locs hp hnz w => ?_)
      obtain ⟨T6, e6, hu6, hk6, sq6⟩ := hp
      obtain ⟨v6, m6⟩ := u
      dsimp only at hu6 w hnz
      subst hu6
      have hT6 : T6 = T5 := e6.symm.trans e5
      rw [hT6] at w hk6
      have hLI := li_v (li_globals hLI (by omega)) e5
      refine lv_aload_n hx hb dL_law_81 rfl (lv_at hl 3 rfl) ?_
      refine lv_iload hx hb dL_law_82 (lv_at hl 0 rfl) ?_
      refine lv_bipush (v := 11) hx hb dL_law_84 (by decide) ?_
      refine lv_idiv hx hb dL_law_86 (by decide) ?_
      rw [show ((nI j) / 11 : Int32) = nI (j / 11) from nI_div (m := 11) (by omega) (by decide) (by decide)]
      have w := g_eqw w (ov_swap (hdj4).s)
      rw [← hf3]
      have hw7 : ∀ q, m6 ≤ q → (ov κ ar y3 T5 (ov κ ar y4 T5 G4)) q = none := fun q z => g_free w z
      refine g_callv w (g_runS (As := [.ref (y3.f .ho), .int (nI (j / 11))]) (rest := []) S hE w hl (hL_compiles l D ar κ (ov κ ar y4 T5 G4) y3 T5 m6 (j / 11) hk5 hlt (by omega)) (k_RL_319 S.2.2.2.2 ⟨Nat.le_of_ble_eq_true rfl, Nat.le_of_ble_eq_true rfl⟩) rfl rfl (Nat.le_of_ble_eq_true rfl) dL_law_87 ⟨(by (try dsimp only [room_1]); omega), (by (try dsimp only [room_1]); omega)⟩) (fun u H locs hp hnz w => ?_)
      obtain ⟨y7, hu7, hk7, by7⟩ := hp
      obtain ⟨v7, m7⟩ := u
      dsimp only at hu7 w hnz
      subst hu7
      have hf7 : y7.f .ho = a1 := by7.1.trans hf3
      have hdj7 : DJ y7 y4 := dj_step hdj4 by7 hw7
      refine lv_iinc (v := (nI k) + 1) (lv' := [(3, .int ((nI k) + 1)), (4, .int (nI j)), (2, .ref a2), (1, .ref a1), (0, .ref b)]) hx hb dL_law_90 hl (k := 1) rfl rfl (by decide) rfl (fun ls hl => ?_)
      rw [nI_1 k] at hl
      refine lv_goto (tgt := 26) hx hb dL_law_93 (by decide) ?_
      refine W.widen (k := 500 + 330 * (k + 1)) (n := 4000 + 13300 * (k + 1)) (by omega) (by omega) ?_
      exact ih (k + 1) (by omega) (by omega) y7 y4 T5 G4 _ _ _ _ hf7 hf4 hk7 hk6 hdj7 hLI w (lv_sub hl [0, 2, 3, 4] rfl)
