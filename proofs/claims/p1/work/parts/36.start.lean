section SITES
variable {p : Program} {l : Launch} {e : Env} {R : Room} {s : State} {m : MethodId} {args : Array Value} {below : List Frame} {meth : Method} {c : Code} {H : Heap} {locs : List Loc} {cells slots : Nat} {Q : State → Prop}
variable {pc : Nat} {ls : Array Slot} {rest : List Value} {D : va_G} {ar : Nat → ClassId} {κ : Nat → Nat} {A : Nat → Prop} {a : Nat} {H0 : Heap} {G : gW} {nz nL : Nat} {cc : ByteArray}
theorem m_1_41 : (Cond.classLink RL 8 RX8) ∈ lwA := lwA_mk (ck_1 _ (List.mem_of_getElem? (i := 41) rfl)) rfl
theorem m_1_42 : (Cond.instantiable RX8 13) ∈ lwA := lwA_mk (ck_1 _ (List.mem_of_getElem? (i := 42) rfl)) rfl
theorem nw_RL_8 {A9 : Nat → Prop} {H9 : Heap} (S : CallFix p m c cc nL s args lwA RL) (hE : g_E D vwCl (gT ar) (EX1 κ) A9 s H9) (w : g_S D vwCl A H0 G H locs nz) (hcells : cells + 1 ≤ R.cells) (hslots : slots + 13 ≤ R.slots) (hdg : decode cc pc = .ok (.new 8, 3)) (kk : ∀ (H1 : Heap), g_S D vwCl A H0 (g_up G nz (.inr (12, [.null, .null, .null, .int 0, .null, .null, .null, .int 0, .int 0, .int 0, .long 0, .int 0, .null]))) H1 locs (nz + 1) → W p l e R s m args below meth c H1 locs (cells + 1) (slots + 13) Q (F0 m (pc + 3) ls (.ref nz :: rest))) : W p l e R s m args below meth c H locs cells slots Q (F0 m pc ls rest) :=
  g_new (ci := 12) (fs := [.null, .null, .null, .int 0, .null, .null, .null, .int 0, .int 0, .int 0, .long 0, .int 0, .null]) (C := RX8) (T := TX8) (N := 13) S.1 S.2.1 S.2.2.2.2 inA_RX8 tyX8 tyX8_ok S.2.2.2.1 (S.2.2.2.2 _ m_1_41) (S.2.2.2.2 _ m_1_42) (S.2.2.2.2 _ m_1_1) hE.1 w rfl (fun j hj => by rcases (show j = 0 ∨ j = 1 ∨ j = 2 ∨ j = 3 ∨ j = 4 ∨ j = 5 ∨ j = 6 ∨ j = 7 ∨ j = 8 ∨ j = 9 ∨ j = 10 ∨ j = 11 ∨ j = 12 by omega) with rfl | rfl | rfl | rfl | rfl | rfl | rfl | rfl | rfl | rfl | rfl | rfl | rfl <;> rfl) hcells hslots hdg kk
theorem m_1_45 : (Cond.code yX8_init cX8_init 2 none) ∈ lwA := lwA_mk (ck_1 _ (List.mem_of_getElem? (i := 45) rfl)) rfl
theorem m_1_43 : (Cond.methodLink RL 129 yX8_init) ∈ lwA := lwA_mk (ck_1 _ (List.mem_of_getElem? (i := 43) rfl)) rfl
theorem m_1_44 : (Cond.instanceMethod yX8_init) ∈ lwA := lwA_mk (ck_1 _ (List.mem_of_getElem? (i := 44) rfl)) rfl
theorem k_RL_129 {args : Array Value} {s : State} {R rm : Room} (hts : ∀ w ∈ lwA, w.before args s = true) (hR : rm.frames + 1 ≤ R.frames ∧ 8 + (2 + 11) + rm.locals ≤ R.locals) : CallB R s args RL 129 yX8_init cX8_init 2 none (lwC yX8_init cX8_init 2 none) rm rm.cells rm.slots 0 ∧ yX8_init.name = "<init>" ∧ (Cond.instanceMethod yX8_init).before args s = true := cwI 0 hts (gd m_1_45) rfl rfl rfl (hts _ m_1_1) (hts _ m_1_43) (hts _ m_1_44) rfl (by decide +kernel) hR
theorem m_6_99 : (Cond.classLink RL 130 RX15) ∈ lwA := lwA_mk (ck_6 _ (List.mem_of_getElem? (i := 99) rfl)) rfl
theorem m_6_100 : (Cond.instantiable RX15 14) ∈ lwA := lwA_mk (ck_6 _ (List.mem_of_getElem? (i := 100) rfl)) rfl
theorem nw_RL_130 {A9 : Nat → Prop} {H9 : Heap} (S : CallFix p m c cc nL s args lwA RL) (hE : g_E D vwCl (gT ar) (EX1 κ) A9 s H9) (w : g_S D vwCl A H0 G H locs nz) (hcells : cells + 1 ≤ R.cells) (hslots : slots + 14 ≤ R.slots) (hdg : decode cc pc = .ok (.new 130, 3)) (kk : ∀ (H1 : Heap), g_S D vwCl A H0 (g_up G nz (.inr (19, [.null, .null, .null, .null, .null, .null, .null, .int 0, .int 0, .int 0, .int 0, .int 0, .int 0, .null]))) H1 locs (nz + 1) → W p l e R s m args below meth c H1 locs (cells + 1) (slots + 14) Q (F0 m (pc + 3) ls (.ref nz :: rest))) : W p l e R s m args below meth c H locs cells slots Q (F0 m pc ls rest) :=
  g_new (ci := 19) (fs := [.null, .null, .null, .null, .null, .null, .null, .int 0, .int 0, .int 0, .int 0, .int 0, .int 0, .null]) (C := RX15) (T := TX15) (N := 14) S.1 S.2.1 S.2.2.2.2 inA_RX15 tyX15 tyX15_ok S.2.2.2.1 (S.2.2.2.2 _ m_6_99) (S.2.2.2.2 _ m_6_100) (S.2.2.2.2 _ m_1_12) hE.1 w rfl (fun j hj => by rcases (show j = 0 ∨ j = 1 ∨ j = 2 ∨ j = 3 ∨ j = 4 ∨ j = 5 ∨ j = 6 ∨ j = 7 ∨ j = 8 ∨ j = 9 ∨ j = 10 ∨ j = 11 ∨ j = 12 ∨ j = 13 by omega) with rfl | rfl | rfl | rfl | rfl | rfl | rfl | rfl | rfl | rfl | rfl | rfl | rfl | rfl <;> rfl) hcells hslots hdg kk
theorem m_6_103 : (Cond.code yX15_init cX15_init 2 none) ∈ lwA := lwA_mk (ck_6 _ (List.mem_of_getElem? (i := 103) rfl)) rfl
theorem m_6_101 : (Cond.methodLink RL 132 yX15_init) ∈ lwA := lwA_mk (ck_6 _ (List.mem_of_getElem? (i := 101) rfl)) rfl
theorem m_6_102 : (Cond.instanceMethod yX15_init) ∈ lwA := lwA_mk (ck_6 _ (List.mem_of_getElem? (i := 102) rfl)) rfl
theorem k_RL_132 {args : Array Value} {s : State} {R rm : Room} (hts : ∀ w ∈ lwA, w.before args s = true) (hR : rm.frames + 1 ≤ R.frames ∧ 8 + (2 + 11) + rm.locals ≤ R.locals) : CallB R s args RL 132 yX15_init cX15_init 2 none (lwC yX15_init cX15_init 2 none) rm rm.cells rm.slots 0 ∧ yX15_init.name = "<init>" ∧ (Cond.instanceMethod yX15_init).before args s = true := cwI 0 hts (gd m_6_103) rfl rfl rfl (hts _ m_1_12) (hts _ m_6_101) (hts _ m_6_102) rfl (by decide +kernel) hR
theorem m_9_91 : (Cond.arrayClass .double) ∈ lwA := lwA_mk (ck_9 _ (List.mem_of_getElem? (i := 91) rfl)) rfl
end SITES
theorem and63 (x : Int32) : ∃ k : Nat, k < 64 ∧ x &&& 63 = nI k := by
  have h0 : ¬ (x &&& 63) < 0 := by
    rw [Int32.lt_iff_toInt_lt]
    have e0 : (0 : Int32).toInt = 0 := by decide
    rw [e0]
    have h : (x &&& 63).toInt = (((x.toBitVec &&& 63#32).toNat : Nat) : Int) := by
      show (x.toBitVec &&& 63#32).toInt = _
      have hl : (x.toBitVec &&& 63#32).toNat ≤ 63 := by
        rw [BitVec.toNat_and]
        exact Nat.and_le_right
      rw [BitVec.toInt_eq_toNat_of_lt (by omega)]
    rw [h]
    omega
  obtain ⟨j, hj, e⟩ := nI_of h0
  refine ⟨j, ?_, e⟩
  have h : (x &&& 63).toInt = (((x.toBitVec &&& 63#32).toNat : Nat) : Int) := by
    show (x.toBitVec &&& 63#32).toInt = _
    have hl : (x.toBitVec &&& 63#32).toNat ≤ 63 := by
      rw [BitVec.toNat_and]
      exact Nat.and_le_right
    rw [BitVec.toInt_eq_toNat_of_lt (by omega)]
  have hl : (x.toBitVec &&& 63#32).toNat ≤ 63 := by
    rw [BitVec.toNat_and]
    exact Nat.and_le_right
  rw [e, nI_toInt hj] at h
  omega
set_option maxHeartbeats 8000000 in
set_option maxRecDepth 100000 in
theorem whole_start {p : Program} {e : Env} {s : State} {m : MethodId} {below : List Frame} {meth : Method} {c : Code} (l : Launch) (hflags : l.flags = flags0) {b L : Nat} {xs : Nat → Int32} (hL : L ≤ 6) (C0 : lw_At p s m meth c b L xs) : W p l e room_1 s m #[Value.ref b] below meth c s.heap [] 0 0 (lw_Z below #[Value.ref b] s) (entryFrame m ([Value.ref b] : List Value).toArray 9) := by
  obtain ⟨hx, hb, hr, hml, hown, hts, hX, hbl, hlocks, hgv⟩ := id C0
  have hlt : l.stackTraces = false := by unfold Launch.stackTraces; rw [hflags]; decide +kernel
  obtain ⟨D, ar, hK⟩ := K_0 hts
  obtain ⟨κ, hEX⟩ := EX1_0 hts hgv
  have hE : g_E D vwCl (gT ar) (EX1 κ) (fun q => s.heap.size ≤ q) s s.heap := ⟨hK, hEX⟩
  have S : CallFix p m c cL_law 9 s #[.ref b] lwA RL := ⟨hx, hb, hml, hown, fun w h => hts w (lwA_in w h)⟩
  have w : g_S D vwCl (fun q => s.heap.size ≤ q) s.heap (fun _ => none) s.heap [] s.heap.size := ⟨fun a e h => (by cases h), fun a e h => (by cases h), va_S.rf, fun q h => h, rfl⟩
  have hl := lv_entry ([.ref b]) (n := 9) (Nat.le_of_ble_eq_true rfl)
  rw [lg_entry_eq]
  generalize (lg_sl ([.ref b]) ++ List.replicate (9 - (lg_sl ([.ref b])).length) Slot.unset).toArray = ls at hl ⊢
  have hl : lv_has ls 9 [(0, .ref b)] := hl
  refine nw_RL_8 S hE w (Nat.le_of_ble_eq_true rfl) (Nat.le_of_ble_eq_true rfl) dL_law_0 (fun H w => ?_)
  refine lv_dup hx hb dL_law_3 rfl ?_
  refine g_callv w (g_runI (As := []) (rest := [.ref s.heap.size]) S hE w hl (c_X8_init l D ar κ (g_up (fun _ => none) s.heap.size (.inr (12, [.null, .null, .null, .int 0, .null, .null, .null, .int 0, .int 0, .int 0, .long 0, .int 0, .null]))) (s.heap.size + 1) (s.heap.size) g_up_s) (k_RL_129 S.2.2.2.2 ⟨Nat.le_of_ble_eq_true rfl, Nat.le_of_ble_eq_true rfl⟩) rfl rfl (Nat.le_of_ble_eq_true rfl) dL_law_4 ⟨Nat.le_of_ble_eq_true rfl, Nat.le_of_ble_eq_true rfl⟩) (fun u H locs hp hnz w => ?_)
  have hF0 : FH ar κ u.1 (s.heap.size) (s.heap.size + 1) := by rw [hp]; exact FH_init ar κ _ _ _ (by omega)
  have hu2 : u.2 = s.heap.size + 1 + 185 := by rw [hp]
  clear hp
  obtain ⟨G1, n1⟩ := u
  dsimp only at hF0 hu2 w hnz
  refine lv_astore_n (lv' := [(1, .ref s.heap.size), (0, .ref b)]) hx hb dL_law_7 rfl hl (by decide) rfl (fun ls hl => ?_)
  refine nw_RL_130 S hE w (Nat.le_of_ble_eq_true rfl) (Nat.le_of_ble_eq_true rfl) dL_law_8 (fun H w => ?_)
  refine lv_dup hx hb dL_law_11 rfl ?_
  refine g_callv w (g_runI (As := []) (rest := [.ref n1]) S hE w hl (c_X15_init l D ar κ (g_up G1 n1 (.inr (19, [.null, .null, .null, .null, .null, .null, .null, .int 0, .int 0, .int 0, .int 0, .int 0, .int 0, .null]))) (n1 + 1) n1 g_up_s) (k_RL_132 S.2.2.2.2 ⟨Nat.le_of_ble_eq_true rfl, Nat.le_of_ble_eq_true rfl⟩) rfl rfl (Nat.le_of_ble_eq_true rfl) dL_law_12 ⟨Nat.le_of_ble_eq_true rfl, Nat.le_of_ble_eq_true rfl⟩) (fun u H locs hp hnz w => ?_)
  have hM0 : FM ar κ u.1 n1 (n1 + 1) 0 := by rw [hp]; exact FM_init ar κ _ _ _ (by omega)
  have hF1 : FH ar κ u.1 (s.heap.size) (s.heap.size + 1) := by rw [hp]; exact FH_mono hF0 (fun a9 c9 h1 h2 => (g_up_o (show a9 ≠ n1 + 14 by omega) (g_up_o (show a9 ≠ n1 + 13 by omega) (g_up_o (show a9 ≠ n1 + 12 by omega) (g_up_o (show a9 ≠ n1 + 11 by omega) (g_up_o (show a9 ≠ n1 + 10 by omega) (g_up_o (show a9 ≠ n1 + 9 by omega) (g_up_o (show a9 ≠ n1 + 8 by omega) (g_up_o (show a9 ≠ n1 + 7 by omega) (g_up_o (show a9 ≠ n1 + 6 by omega) (g_up_o (show a9 ≠ n1 + 5 by omega) (g_up_o (show a9 ≠ n1 + 4 by omega) (g_up_o (show a9 ≠ n1 + 3 by omega) (g_up_o (show a9 ≠ n1 + 2 by omega) (g_up_o (show a9 ≠ n1 by omega) (g_up_o (show a9 ≠ n1 + 1 by omega) (g_up_o (show a9 ≠ n1 by omega) h2)))))))))))))))))
  have hu3 : u.2 = n1 + 15 := by rw [hp]
  clear hp
  obtain ⟨G2, n2⟩ := u
  dsimp only at hF1 hM0 hu3 w hnz
  refine lv_astore_n (lv' := [(2, .ref n1), (1, .ref s.heap.size), (0, .ref b)]) hx hb dL_law_15 rfl hl (by decide) rfl (fun ls hl => ?_)
  refine lv_iconst (v := 1) hx hb dL_law_16 (by decide) ?_
  refine g_newa (atype := .long) (a0 := (1, .inr (.inl (fun _ => 0)))) hx hb (S.2.2.2.2 _ m_1_138) rfl hE.1 w 1 rfl rfl (by decide) rfl (Nat.le_of_ble_eq_true rfl) (Nat.le_of_ble_eq_true rfl) (Nat.le_of_ble_eq_true rfl) dL_law_17 (fun H w => ?_)
  refine lv_astore_n (lv' := [(3, .ref n2), (2, .ref n1), (1, .ref s.heap.size), (0, .ref b)]) hx hb dL_law_19 rfl hl (by decide) rfl (fun ls hl => ?_)
  refine lv_iconst (v := 1) hx hb dL_law_20 (by decide) ?_
  refine g_newa (atype := .double) (a0 := (1, .inr (.inr (.inr (.inl (fun _ => 0)))))) hx hb (S.2.2.2.2 _ m_9_91) rfl hE.1 w 5 rfl rfl (by decide) rfl (Nat.le_of_ble_eq_true rfl) (Nat.le_of_ble_eq_true rfl) (Nat.le_of_ble_eq_true rfl) dL_law_21 (fun H w => ?_)
  refine lv_astore (lv' := [(4, .ref (n2 + 1)), (3, .ref n2), (2, .ref n1), (1, .ref s.heap.size), (0, .ref b)]) hx hb dL_law_23 hl (by decide) rfl (fun ls hl => ?_)
  refine lv_iconst (v := 0) hx hb dL_law_25 (by decide) ?_
  refine lv_istore (lv' := [(5, .int 0), (4, .ref (n2 + 1)), (3, .ref n2), (2, .ref n1), (1, .ref s.heap.size), (0, .ref b)]) hx hb dL_law_26 hl (by decide) rfl (fun ls hl => ?_)
  have hw : LWs ar κ (g_up (g_up G2 n2 (.inl (ar 1, 1, .inr (.inl (fun _ => 0))))) (n2 + 1) (.inl (ar 5, 1, .inr (.inr (.inr (.inl (fun _ => 0))))))) (s.heap.size) (s.heap.size + 1) n1 (n1 + 1) n2 (n2 + 1) := ⟨FH_mono hF1 (fun a9 c9 h1 h2 => g_up_o (show a9 ≠ n2 + 1 by omega) (g_up_o (show a9 ≠ n2 by omega) h2)), FM_mono hM0 (fun a9 c9 h1 h2 h3 => g_up_o (show a9 ≠ n2 + 1 by omega) (g_up_o (show a9 ≠ n2 by omega) h3)), g_up_o (show n2 ≠ n2 + 1 by omega) g_up_s, g_up_s, by omega, by omega, by omega⟩
  refine W.widen (k := 203) (n := 5000) (Nat.le_of_ble_eq_true rfl) (Nat.le_of_ble_eq_true rfl) ?_
  have hbA : ¬ s.heap.size ≤ b := Nat.not_le.mpr hbl
  rcases (show L = 0 ∨ L = 1 ∨ L = 2 ∨ L = 3 ∨ L = 4 ∨ L = 5 ∨ L = 6 by omega) with rfl | rfl | rfl | rfl | rfl | rfl | rfl
  · refine lv_iload hx hb dL_law_28 (lv_at hl 0 rfl) ?_
    refine lv_aload_n hx hb dL_law_30 rfl (lv_at hl 5 rfl) ?_
    refine va_slen hx hb hX hbl hbA w.2.2.1 dL_law_31 ?_
    rw [show Int32.ofNat 0 = 0 from rfl]
    refine lv_bipush (v := 6) hx hb dL_law_32 (by decide) ?_
    refine lv_isub hx hb dL_law_34 ?_
    rw [show (0 - 6 : Int32) = (-6) by decide +kernel]
    refine lv_icmp_gt (tgt := 2371) hx hb dL_law_35 (by decide) (fun _ => ?_) (fun c => absurd (by decide) c)
    refine lv_iconst (v := 1) hx hb dL_law_2371 (by decide) ?_
    exact lw_end S hr hlocks w (Nat.le_of_ble_eq_true rfl) (Nat.le_of_ble_eq_true rfl) dL_law_2372
  · refine lv_iload hx hb dL_law_28 (lv_at hl 0 rfl) ?_
    refine lv_aload_n hx hb dL_law_30 rfl (lv_at hl 5 rfl) ?_
    refine va_slen hx hb hX hbl hbA w.2.2.1 dL_law_31 ?_
    rw [show Int32.ofNat 1 = 1 from rfl]
    refine lv_bipush (v := 6) hx hb dL_law_32 (by decide) ?_
    refine lv_isub hx hb dL_law_34 ?_
    rw [show (1 - 6 : Int32) = (-5) by decide +kernel]
    refine lv_icmp_gt (tgt := 2371) hx hb dL_law_35 (by decide) (fun _ => ?_) (fun c => absurd (by decide) c)
    refine lv_iconst (v := 1) hx hb dL_law_2371 (by decide) ?_
    exact lw_end S hr hlocks w (Nat.le_of_ble_eq_true rfl) (Nat.le_of_ble_eq_true rfl) dL_law_2372
  · refine lv_iload hx hb dL_law_28 (lv_at hl 0 rfl) ?_
    refine lv_aload_n hx hb dL_law_30 rfl (lv_at hl 5 rfl) ?_
    refine va_slen hx hb hX hbl hbA w.2.2.1 dL_law_31 ?_
    rw [show Int32.ofNat 2 = 2 from rfl]
    refine lv_bipush (v := 6) hx hb dL_law_32 (by decide) ?_
    refine lv_isub hx hb dL_law_34 ?_
    rw [show (2 - 6 : Int32) = (-4) by decide +kernel]
    refine lv_icmp_gt (tgt := 2371) hx hb dL_law_35 (by decide) (fun _ => ?_) (fun c => absurd (by decide) c)
    refine lv_iconst (v := 1) hx hb dL_law_2371 (by decide) ?_
    exact lw_end S hr hlocks w (Nat.le_of_ble_eq_true rfl) (Nat.le_of_ble_eq_true rfl) dL_law_2372
  · refine lv_iload hx hb dL_law_28 (lv_at hl 0 rfl) ?_
    refine lv_aload_n hx hb dL_law_30 rfl (lv_at hl 5 rfl) ?_
    refine va_slen hx hb hX hbl hbA w.2.2.1 dL_law_31 ?_
    rw [show Int32.ofNat 3 = 3 from rfl]
    refine lv_bipush (v := 6) hx hb dL_law_32 (by decide) ?_
    refine lv_isub hx hb dL_law_34 ?_
    rw [show (3 - 6 : Int32) = (-3) by decide +kernel]
    refine lv_icmp_gt (tgt := 2371) hx hb dL_law_35 (by decide) (fun _ => ?_) (fun c => absurd (by decide) c)
    refine lv_iconst (v := 1) hx hb dL_law_2371 (by decide) ?_
    exact lw_end S hr hlocks w (Nat.le_of_ble_eq_true rfl) (Nat.le_of_ble_eq_true rfl) dL_law_2372
  · refine lv_iload hx hb dL_law_28 (lv_at hl 0 rfl) ?_
    refine lv_aload_n hx hb dL_law_30 rfl (lv_at hl 5 rfl) ?_
    refine va_slen hx hb hX hbl hbA w.2.2.1 dL_law_31 ?_
    rw [show Int32.ofNat 4 = 4 from rfl]
    refine lv_bipush (v := 6) hx hb dL_law_32 (by decide) ?_
    refine lv_isub hx hb dL_law_34 ?_
    rw [show (4 - 6 : Int32) = (-2) by decide +kernel]
    refine lv_icmp_gt (tgt := 2371) hx hb dL_law_35 (by decide) (fun _ => ?_) (fun c => absurd (by decide) c)
    refine lv_iconst (v := 1) hx hb dL_law_2371 (by decide) ?_
    exact lw_end S hr hlocks w (Nat.le_of_ble_eq_true rfl) (Nat.le_of_ble_eq_true rfl) dL_law_2372
  · refine lv_iload hx hb dL_law_28 (lv_at hl 0 rfl) ?_
    refine lv_aload_n hx hb dL_law_30 rfl (lv_at hl 5 rfl) ?_
    refine va_slen hx hb hX hbl hbA w.2.2.1 dL_law_31 ?_
    rw [show Int32.ofNat 5 = 5 from rfl]
    refine lv_bipush (v := 6) hx hb dL_law_32 (by decide) ?_
    refine lv_isub hx hb dL_law_34 ?_
    rw [show (5 - 6 : Int32) = (-1) by decide +kernel]
    refine lv_icmp_gt (tgt := 2371) hx hb dL_law_35 (by decide) (fun _ => ?_) (fun c => absurd (by decide) c)
    refine lv_iconst (v := 1) hx hb dL_law_2371 (by decide) ?_
    exact lw_end S hr hlocks w (Nat.le_of_ble_eq_true rfl) (Nat.le_of_ble_eq_true rfl) dL_law_2372
  · have hend : ∀ (H : Heap) (locs : List Loc) (ls : Array Slot) (G : gW) (nz : Nat), g_S D vwCl (fun q => s.heap.size ≤ q) s.heap G H locs nz → lv_has ls 9 [(5, .int 0), (0, .ref b)] → W p l e room_1 s m #[Value.ref b] below meth c H locs 400 9000 (lw_Z below #[Value.ref b] s) (F0 m 2365 ls []) := by
      intro H locs ls G nz w hl
      refine lv_iinc (v := 6) (lv' := [(5, .int 6), (0, .ref b)]) hx hb dL_law_2365 hl (k := 0) rfl (by decide) (by decide) rfl (fun ls hl => ?_)
      refine lv_goto (tgt := 28) hx hb dL_law_2368 (by decide) ?_
      refine lv_iload hx hb dL_law_28 (lv_at hl 0 rfl) ?_
      refine lv_aload_n hx hb dL_law_30 rfl (lv_at hl 1 rfl) ?_
      refine va_slen hx hb hX hbl hbA w.2.2.1 dL_law_31 ?_
      rw [show Int32.ofNat 6 = 6 from rfl]
      refine lv_bipush (v := 6) hx hb dL_law_32 (by decide) ?_
      refine lv_isub hx hb dL_law_34 ?_
      rw [show (6 - 6 : Int32) = 0 by decide +kernel]
      refine lv_icmp_gt (tgt := 2371) hx hb dL_law_35 (by decide) (fun _ => ?_) (fun c => absurd (by decide) c)
      refine lv_iconst (v := 1) hx hb dL_law_2371 (by decide) ?_
      exact lw_end S hr hlocks w (Nat.le_of_ble_eq_true rfl) (Nat.le_of_ble_eq_true rfl) dL_law_2372
    refine lv_iload hx hb dL_law_28 (lv_at hl 0 rfl) ?_
    refine lv_aload_n hx hb dL_law_30 rfl (lv_at hl 5 rfl) ?_
    refine va_slen hx hb hX hbl hbA w.2.2.1 dL_law_31 ?_
    rw [show Int32.ofNat 6 = 6 from rfl]
    refine lv_bipush (v := 6) hx hb dL_law_32 (by decide) ?_
    refine lv_isub hx hb dL_law_34 ?_
    rw [show (6 - 6 : Int32) = 0 by decide +kernel]
    refine lv_icmp_gt (tgt := 2371) hx hb dL_law_35 (by decide) (fun c => absurd c (by decide)) (fun _ => ?_)
    refine lv_aload_n hx hb dL_law_38 rfl (lv_at hl 5 rfl) ?_
    refine lv_iload hx hb dL_law_39 (lv_at hl 0 rfl) ?_
    refine va_sld hx hb hX hbl hbA w.2.2.1 (vp_in_nI (n := 0) (by decide) (by decide)) dL_law_41 ?_
    refine lv_bipush (v := 63) hx hb dL_law_42 (by decide) ?_
    refine lv_iand hx hb dL_law_44 ?_
    obtain ⟨k, hk, ek⟩ := and63 (xs (Int32.toNatClampNeg 0))
    rw [ek]
    by_cases h40 : 40 < k
    · exact lv_tableOut (tgt := 2365) hx hb dL_law_45 (Or.inr (by rw [nI_toInt (by omega)]; omega)) (by decide) (W.widen (Nat.le_of_ble_eq_true rfl) (Nat.le_of_ble_eq_true rfl) (hend _ _ _ _ _ w (lv_sub hl [0, 5] rfl)))
    rcases (show k = 0 ∨ k = 1 ∨ k = 2 ∨ k = 3 ∨ k = 4 ∨ k = 5 ∨ k = 6 ∨ k = 7 ∨ k = 8 ∨ k = 9 ∨ k = 10 ∨ k = 11 ∨ k = 12 ∨ k = 13 ∨ k = 14 ∨ k = 15 ∨ k = 16 ∨ k = 17 ∨ k = 18 ∨ k = 19 ∨ k = 20 ∨ k = 21 ∨ k = 22 ∨ k = 23 ∨ k = 24 ∨ k = 25 ∨ k = 26 ∨ k = 27 ∨ k = 28 ∨ k = 29 ∨ k = 30 ∨ k = 31 ∨ k = 32 ∨ k = 33 ∨ k = 34 ∨ k = 35 ∨ k = 36 ∨ k = 37 ∨ k = 38 ∨ k = 39 ∨ k = 40 by omega) with rfl | rfl | rfl | rfl | rfl | rfl | rfl | rfl | rfl | rfl | rfl | rfl | rfl | rfl | rfl | rfl | rfl | rfl | rfl | rfl | rfl | rfl | rfl | rfl | rfl | rfl | rfl | rfl | rfl | rfl | rfl | rfl | rfl | rfl | rfl | rfl | rfl | rfl | rfl | rfl | rfl
    · exact lv_tableIn (off := 179) (tgt := 224) hx hb dL_law_45 (by decide) (by decide) rfl (by decide) (lc_0 hlt S hE hX hbl w hw hl hend)
    · exact lv_tableIn (off := 247) (tgt := 292) hx hb dL_law_45 (by decide) (by decide) rfl (by decide) (lc_1 hlt S hE hX hbl w hw hl hend)
    · exact lv_tableIn (off := 260) (tgt := 305) hx hb dL_law_45 (by decide) (by decide) rfl (by decide) (lc_2 hlt S hE hX hbl w hw hl hend)
    · exact lv_tableIn (off := 316) (tgt := 361) hx hb dL_law_45 (by decide) (by decide) rfl (by decide) (lc_3 hlt S hE hX hbl w hw hl hend)
    · exact lv_tableIn (off := 398) (tgt := 443) hx hb dL_law_45 (by decide) (by decide) rfl (by decide) (lc_4 hlt S hE hX hbl w hw hl hend)
    · exact lv_tableIn (off := 411) (tgt := 456) hx hb dL_law_45 (by decide) (by decide) rfl (by decide) (lc_5 hlt S hE hX hbl w hw hl hend)
    · exact lv_tableIn (off := 503) (tgt := 548) hx hb dL_law_45 (by decide) (by decide) rfl (by decide) (lc_6 hlt S hE hX hbl w hw hl hend)
    · exact lv_tableIn (off := 571) (tgt := 616) hx hb dL_law_45 (by decide) (by decide) rfl (by decide) (lc_7 hlt S hE hX hbl w hw hl hend)
    · exact lv_tableIn (off := 639) (tgt := 684) hx hb dL_law_45 (by decide) (by decide) rfl (by decide) (lc_8 hlt S hE hX hbl w hw hl hend)
    · exact lv_tableIn (off := 707) (tgt := 752) hx hb dL_law_45 (by decide) (by decide) rfl (by decide) (lc_9 hlt S hE hX hbl w hw hl hend)
    · exact lv_tableIn (off := 775) (tgt := 820) hx hb dL_law_45 (by decide) (by decide) rfl (by decide) (lc_10 hlt S hE hX hbl w hw hl hend)
    · exact lv_tableIn (off := 850) (tgt := 895) hx hb dL_law_45 (by decide) (by decide) rfl (by decide) (lc_11 hlt S hE hX hbl w hw hl hend)
    · exact lv_tableIn (off := 906) (tgt := 951) hx hb dL_law_45 (by decide) (by decide) rfl (by decide) (lc_12 hlt S hE hX hbl w hw hl hend)
    · exact lv_tableIn (off := 974) (tgt := 1019) hx hb dL_law_45 (by decide) (by decide) rfl (by decide) (lc_13 hlt S hE hX hbl w hw hl hend)
    · exact lv_tableIn (off := 1030) (tgt := 1075) hx hb dL_law_45 (by decide) (by decide) rfl (by decide) (lc_14 hlt S hE hX hbl w hw hl hend)
    · exact lv_tableIn (off := 1098) (tgt := 1143) hx hb dL_law_45 (by decide) (by decide) rfl (by decide) (lc_15 hlt S hE hX hbl w hw hl hend)
    · exact lv_tableIn (off := 1154) (tgt := 1199) hx hb dL_law_45 (by decide) (by decide) rfl (by decide) (lc_16 hlt S hE hX hbl w hw hl hend)
    · exact lv_tableIn (off := 1210) (tgt := 1255) hx hb dL_law_45 (by decide) (by decide) rfl (by decide) (lc_17 hlt S hE hX hbl w hw hl hend)
    · exact lv_tableIn (off := 1266) (tgt := 1311) hx hb dL_law_45 (by decide) (by decide) rfl (by decide) (lc_18 hlt S hE hX hbl w hw hl hend)
    · exact lv_tableIn (off := 1334) (tgt := 1379) hx hb dL_law_45 (by decide) (by decide) rfl (by decide) (lc_19 hlt S hE hX hbl w hw hl hend)
    · exact lv_tableIn (off := 1402) (tgt := 1447) hx hb dL_law_45 (by decide) (by decide) rfl (by decide) (lc_20 hlt S hE hX hbl w hw hl hend)
    · exact lv_tableIn (off := 1415) (tgt := 1460) hx hb dL_law_45 (by decide) (by decide) rfl (by decide) (lc_21 hlt S hE hX hbl w hw hl hend)
    · exact lv_tableIn (off := 1428) (tgt := 1473) hx hb dL_law_45 (by decide) (by decide) rfl (by decide) (lc_22 hlt S hE hX hbl w hw hl hend)
    · exact lv_tableIn (off := 1532) (tgt := 1577) hx hb dL_law_45 (by decide) (by decide) rfl (by decide) (lc_23 hlt S hE hX hbl w hw hl hend)
    · exact lv_tableIn (off := 1588) (tgt := 1633) hx hb dL_law_45 (by decide) (by decide) rfl (by decide) (lc_24 hlt S hE hX hbl w hw hl hend)
    · exact lv_tableIn (off := 1632) (tgt := 1677) hx hb dL_law_45 (by decide) (by decide) rfl (by decide) (lc_25 hlt S hE hX hbl w hw hl hend)
    · exact lv_tableIn (off := 1645) (tgt := 1690) hx hb dL_law_45 (by decide) (by decide) rfl (by decide) (lc_26 hlt S hE hX hbl w hw hl hend)
    · exact lv_tableIn (off := 1689) (tgt := 1734) hx hb dL_law_45 (by decide) (by decide) rfl (by decide) (lc_27 hlt S hE hX hbl w hw hl hend)
    · exact lv_tableIn (off := 1733) (tgt := 1778) hx hb dL_law_45 (by decide) (by decide) rfl (by decide) (lc_28 hlt S hE hX hbl w hw hl hend)
    · exact lv_tableIn (off := 1777) (tgt := 1822) hx hb dL_law_45 (by decide) (by decide) rfl (by decide) (lc_29 hlt S hE hX hbl w hw hl hend)
    · exact lv_tableIn (off := 1790) (tgt := 1835) hx hb dL_law_45 (by decide) (by decide) rfl (by decide) (lc_30 hlt S hE hX hbl w hw hl hend)
    · exact lv_tableIn (off := 1803) (tgt := 1848) hx hb dL_law_45 (by decide) (by decide) rfl (by decide) (lc_31 hlt S hE hX hbl w hw hl hend)
    · exact lv_tableIn (off := 1873) (tgt := 1918) hx hb dL_law_45 (by decide) (by decide) rfl (by decide) (lc_32 hlt S hE hX hbl w hw hl hend)
    · exact lv_tableIn (off := 1955) (tgt := 2000) hx hb dL_law_45 (by decide) (by decide) rfl (by decide) (lc_33 hlt S hE hX hbl w hw hl hend)
    · exact lv_tableIn (off := 2037) (tgt := 2082) hx hb dL_law_45 (by decide) (by decide) rfl (by decide) (lc_34 hlt S hE hX hbl w hw hl hend)
    · exact lv_tableIn (off := 2050) (tgt := 2095) hx hb dL_law_45 (by decide) (by decide) rfl (by decide) (lc_35 hlt S hE hX hbl w hw hl hend)
    · exact lv_tableIn (off := 2106) (tgt := 2151) hx hb dL_law_45 (by decide) (by decide) rfl (by decide) (lc_36 hlt S hE hX hbl w hw hl hend)
    · exact lv_tableIn (off := 2162) (tgt := 2207) hx hb dL_law_45 (by decide) (by decide) rfl (by decide) (lc_37 hlt S hE hX hbl w hw hl hend)
    · exact lv_tableIn (off := 2228) (tgt := 2273) hx hb dL_law_45 (by decide) (by decide) rfl (by decide) (lc_38 hlt S hE hX hbl w hw hl hend)
    · exact lv_tableIn (off := 2293) (tgt := 2338) hx hb dL_law_45 (by decide) (by decide) rfl (by decide) (lc_39 hlt S hE hX hbl w hw hl hend)
    · exact lv_tableIn (off := 2307) (tgt := 2352) hx hb dL_law_45 (by decide) (by decide) rfl (by decide) (lc_40 hlt S hE hX hbl w hw hl hend)
-- ===== YOUR PART ENDS =====
set_option maxHeartbeats 4000000 in
theorem lw_walk (l : Launch) (hflags : l.flags = flags0) (b : Addr) (xs : List Int32) : MetFree l x (headSpec (Jvm.Cond.code x code maxLocals ret :: tables_1) room_1) (lw_P b xs) (fun _ _ _ _ _ => True) lw_Q := by
  refine MetFree.of_bodyS (code := code) (maxLocals := maxLocals) (ret := ret) (by decide) ?_ ?_
  · intro args s m h hn
    obtain ⟨meth, c, h1, h2, h3, h4, h5, h6, -, -⟩ := Cond.code_spec hn (atoms_spec (ws := Jvm.Cond.code x code maxLocals ret :: tables_1) h _ List.mem_cons_self)
    exact ⟨meth, c, h1, h2, h3, h4, h5, h6⟩
  · intro p e s m args below meth c s₁ B hml0 hP _
    obtain ⟨rfl, hx, hbd, hgv⟩ := hP
    obtain ⟨scr, harrAt, hlist, hof, hsmall⟩ := hx
    obtain ⟨hcb, hkn, -, -⟩ := State.arrayAt?_spec harrAt
    have hown : s.vm.findClass R_law = some m.cls := findClass_of_methodNamed B.named
    have hts0 : ∀ c ∈ (Jvm.Cond.code x code maxLocals ret :: tables_1), c.before #[Value.ref b] s = true := atoms_spec (ws := Jvm.Cond.code x code maxLocals ret :: tables_1) B.pre
    have hts : ∀ w ∈ lw_tbl, w.before #[Value.ref b] s = true := k2_hts_sels lw_privs (fun w hw => hts0 w (List.mem_cons_of_mem _ hw)) lw_privs_ok
    have hml : c.maxLocals = 9 := B.maxLocals_eq (hts0 _ List.mem_cons_self)
    have X₀ : Stand p l e room_1 s m #[Value.ref b] below meth c s₁ [] 0 0 := Stand.of_body B
    have hh0 : s₁.heap = s.heap := by rw [B.state]; rfl
    have hsz : scr.slots.size = xs.length := by rw [← Array.length_toList, hlist, List.length_map]
    have hval : ∀ j : Nat, j < xs.length → scr.slots[j]? = some (.int (xs.getD j 0)) := fun j hj => by
      rw [← Array.getElem?_toList, hlist]
      simp [hj]
    have hbl : b < s.heap.size := (Array.getElem?_eq_some_iff.mp hcb).1
    have hX : va_X b xs.length (fun j => xs.getD j 0) s s.heap := ⟨scr, hcb, hof, hkn, hsz, hval⟩
    have K : W p l e room_1 s m #[Value.ref b] below meth c s₁.heap [] 0 0 (lw_Z below #[Value.ref b] s) (entryFrame m ([Value.ref b] : List Value).toArray 9) := by
      rw [hh0]
      exact whole_start l hflags hbd ⟨B.exec, B.bytes, B.returns, hml, hown, hts, hX, hbl, B.notSynchronized, hgv⟩
    obtain ⟨t, a1, o, b1, b2, b3⟩ := K s₁ rfl X₀
    exact ⟨t, o, a1, b1, b2, b3⟩
theorem lw_pre_spec {args : Array Value} {s : State} (h : (Jvm.Cond.and given_1 narrow_1).before args s = true) (hr : rest_1_c.before args s = true) : ∃ (b : Addr) (xs : List Int32), lw_P b xs args s := by
  have hs := flat_of_before _ h
  have hq := flat_of_before _ hr
  have hc : (Cond.count 1).before args s = true := hs _ (by decide +kernel)
  have harr : (Cond.arrayOf (.arg 0) .int).before args s = true := hs _ (by decide +kernel)
  have hle : (Cond.le (.length (.arg 0)) (.int 6)).before args s = true := hs _ (by decide +kernel)
  have hlen : (Cond.isInt (.length (.arg 0))).before args s = true := hq _ (by decide +kernel)
  have hall : (Cond.all (.arg 0) (.isInt (.elem (.arg 0) (.index 0)))).before args s = true := hq _ (by decide +kernel)
  obtain ⟨b, xs, hb, hx⟩ := State.ints_of_pre rfl harr hlen hall
  have hsm : xs.length < 2 ^ 31 := hx.choose_spec.2.2.2
  have hev : (Term.length (.arg 0)).eval args s none [] s = some (.int xs.length.toInt32) := hx.length_eval hb
  have hv := Cond.le_ints hev (show (Term.int 6).eval args s none [] s = some (.int 6) from rfl)
  have hd : xs.length.toInt32 ≤ 6 := by
    simpa [Cond.before, Cond.holds, hv] using hle
  have hN : xs.length ≤ 6 := (Int32.ofNat_le_ofNat hsm (by decide)).mp (show Int32.ofNat xs.length ≤ Int32.ofNat 6 from hd)
  exact ⟨b, xs, Cond.one_arg hc (show args[0]? = some (.ref b) from hb), hx, hN, h⟩
theorem lw_comes (l : Launch) (hflags : l.flags = flags0) : Comes l x (Jvm.Cond.code x code maxLocals ret :: tables_1) room_1 (fun tb e args s => Calls_1 tb e args s ∧ rest_1 tb e args s ∧ Pre_1 tb e args s)
    (fun _ _ args s o t => lw_Q args s o t) := by
  intro p e ha hc hk s m args below hf hfit hheap happ hpre
  obtain ⟨b, xs, hP⟩ := lw_pre_spec hpre.2.2 hpre.2.1
  obtain ⟨k, o, h1, h2, h3, hQ⟩ := lw_walk l hflags b xs p e ha hc hk s m args below hf ((Spec.applies_iff_loose hf).mp happ).1 hP trivial
  exact ⟨k, o, h1, h2, h3, hQ⟩
theorem lw_frame {s t : State} {o : Outcome} {args : Array Value} (h : State.butDraws s t lw_cs (fun t1 => Framed s o t1 [] 600006 7302056)) :
    State.butDraws s t [Jvm.Choice.named "NaN.bits"] (fun t1 => Framed s o t1 (fieldLocs frame_1_writes args s ++ arrayLocs frame_1_arrays args s ++ staticLocs frame_1_statics s) 600006 7302056) := h
theorem lw_limb (L : Cond) (hL : ∀ (args : Array Value) (s t : State), L.after args s (.returned (some (.int 1))) t = true) :
    ArmFor flags0 classFile x code maxLocals ret World_1 tables_1 room_1 Calls_1 rest_1 Pre_1
      (fun tb e a s o t => postC L tb e a s o t ∧ State.butDraws s t [Jvm.Choice.named "NaN.bits"] (fun t1 => Framed s o t1 (fieldLocs frame_1_writes a s ++ arrayLocs frame_1_arrays a s ++ staticLocs frame_1_statics s) 600006 7302056)) := by
  intro l hflags _ _ p e ha hc hk s m args below hf hfit hheap happ hpre
  obtain ⟨k, o, h1, h2, h3, rfl, hF⟩ := lw_comes l hflags p e ha hc hk s m args below hf hfit hheap happ hpre
  exact ⟨k, _, h1, h2, h3, hL args s _, lw_frame hF⟩
theorem i_vc : Claimed_1_1 ∧ Claimed_1_2 := ⟨lw_limb limb_1_1 (fun args s t => by simp [limb_1_1, Cond.after, Cond.holds, Cond.value]), lw_limb limb_1_2 (fun args s t => Cond.after_iff.mpr (by
  first | (rw [show limb_1_2 = Cond.eq .result (.int 1) from rfl, Cond.eq_ints (x := 1) (y := 1) rfl rfl]; simp; done) | (simp [limb_1_2, Cond.value, Term.eval]; done)))⟩

