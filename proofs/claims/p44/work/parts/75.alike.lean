theorem dL_areAlike_0 : decode cL_areAlike 0 = .ok (.aload_n 0, 1) := by decide +kernel
theorem dL_areAlike_1 : decode cL_areAlike 1 = .ok (.invokestatic 289, 3) := by decide +kernel
theorem dL_areAlike_4 : decode cL_areAlike 4 = .ok (.aload_n 1, 1) := by decide +kernel
theorem dL_areAlike_5 : decode cL_areAlike 5 = .ok (.invokestatic 289, 3) := by decide +kernel
theorem dL_areAlike_8 : decode cL_areAlike 8 = .ok (.lcmp, 1) := by decide +kernel
theorem dL_areAlike_9 : decode cL_areAlike 9 = .ok (.ifCond .ne 76, 3) := by decide +kernel
theorem dL_areAlike_12 : decode cL_areAlike 12 = .ok (.aload_n 0, 1) := by decide +kernel
theorem dL_areAlike_13 : decode cL_areAlike 13 = .ok (.invokestatic 291, 3) := by decide +kernel
theorem dL_areAlike_16 : decode cL_areAlike 16 = .ok (.aload_n 1, 1) := by decide +kernel
theorem dL_areAlike_17 : decode cL_areAlike 17 = .ok (.invokestatic 291, 3) := by decide +kernel
theorem dL_areAlike_20 : decode cL_areAlike 20 = .ok (.lcmp, 1) := by decide +kernel
theorem dL_areAlike_21 : decode cL_areAlike 21 = .ok (.ifCond .ne 64, 3) := by decide +kernel
theorem dL_areAlike_24 : decode cL_areAlike 24 = .ok (.aload_n 0, 1) := by decide +kernel
theorem dL_areAlike_25 : decode cL_areAlike 25 = .ok (.invokestatic 276, 3) := by decide +kernel
theorem dL_areAlike_28 : decode cL_areAlike 28 = .ok (.aload_n 1, 1) := by decide +kernel
theorem dL_areAlike_29 : decode cL_areAlike 29 = .ok (.invokestatic 276, 3) := by decide +kernel
theorem dL_areAlike_32 : decode cL_areAlike 32 = .ok (.lcmp, 1) := by decide +kernel
theorem dL_areAlike_33 : decode cL_areAlike 33 = .ok (.ifCond .ne 52, 3) := by decide +kernel
theorem dL_areAlike_36 : decode cL_areAlike 36 = .ok (.aload_n 0, 1) := by decide +kernel
theorem dL_areAlike_37 : decode cL_areAlike 37 = .ok (.invokestatic 274, 3) := by decide +kernel
theorem dL_areAlike_40 : decode cL_areAlike 40 = .ok (.aload_n 1, 1) := by decide +kernel
theorem dL_areAlike_41 : decode cL_areAlike 41 = .ok (.invokestatic 274, 3) := by decide +kernel
theorem dL_areAlike_44 : decode cL_areAlike 44 = .ok (.lcmp, 1) := by decide +kernel
theorem dL_areAlike_45 : decode cL_areAlike 45 = .ok (.ifCond .ne 40, 3) := by decide +kernel
theorem dL_areAlike_48 : decode cL_areAlike 48 = .ok (.aload_n 0, 1) := by decide +kernel
theorem dL_areAlike_49 : decode cL_areAlike 49 = .ok (.invokestatic 293, 3) := by decide +kernel
theorem dL_areAlike_52 : decode cL_areAlike 52 = .ok (.aload_n 1, 1) := by decide +kernel
theorem dL_areAlike_53 : decode cL_areAlike 53 = .ok (.invokestatic 293, 3) := by decide +kernel
theorem dL_areAlike_56 : decode cL_areAlike 56 = .ok (.lcmp, 1) := by decide +kernel
theorem dL_areAlike_57 : decode cL_areAlike 57 = .ok (.ifCond .ne 28, 3) := by decide +kernel
theorem dL_areAlike_60 : decode cL_areAlike 60 = .ok (.aload_n 0, 1) := by decide +kernel
theorem dL_areAlike_61 : decode cL_areAlike 61 = .ok (.invokestatic 295, 3) := by decide +kernel
theorem dL_areAlike_64 : decode cL_areAlike 64 = .ok (.aload_n 1, 1) := by decide +kernel
theorem dL_areAlike_65 : decode cL_areAlike 65 = .ok (.invokestatic 295, 3) := by decide +kernel
theorem dL_areAlike_68 : decode cL_areAlike 68 = .ok (.lcmp, 1) := by decide +kernel
theorem dL_areAlike_69 : decode cL_areAlike 69 = .ok (.ifCond .ne 16, 3) := by decide +kernel
theorem dL_areAlike_72 : decode cL_areAlike 72 = .ok (.aload_n 0, 1) := by decide +kernel
theorem dL_areAlike_73 : decode cL_areAlike 73 = .ok (.invokestatic 297, 3) := by decide +kernel
theorem dL_areAlike_76 : decode cL_areAlike 76 = .ok (.lconst 1, 1) := by decide +kernel
theorem dL_areAlike_77 : decode cL_areAlike 77 = .ok (.lcmp, 1) := by decide +kernel
theorem dL_areAlike_78 : decode cL_areAlike 78 = .ok (.ifCond .ne 7, 3) := by decide +kernel
theorem dL_areAlike_81 : decode cL_areAlike 81 = .ok (.iconst 1, 1) := by decide +kernel
theorem dL_areAlike_82 : decode cL_areAlike 82 = .ok (.goto 4, 3) := by decide +kernel
theorem dL_areAlike_85 : decode cL_areAlike 85 = .ok (.iconst 0, 1) := by decide +kernel
theorem dL_areAlike_86 : decode cL_areAlike 86 = .ok (.ireturn, 1) := by decide +kernel
section SITES
variable {p : Program} {l : Launch} {e : Env} {R : Room} {s : State} {m : MethodId} {args : Array Value} {below : List Frame} {meth : Method} {c : Code} {H : Heap} {locs : List Loc} {cells slots : Nat} {Q : State → Prop}
variable {pc : Nat} {ls : Array Slot} {rest : List Value} {D : va_G} {ar : Nat → ClassId} {κ : Nat → Nat} {A : Nat → Prop} {a : Nat} {H0 : Heap} {G : gW} {nz nL : Nat} {cc : ByteArray}
theorem m_8_5 : (Cond.code yL_checksum cL_checksum 1 (some .long)) ∈ lwA := lwA_mk (ck_8 _ (List.mem_of_getElem? (i := 5) rfl)) rfl
theorem m_8_3 : (Cond.methodLink RL 289 yL_checksum) ∈ lwA := lwA_mk (ck_8 _ (List.mem_of_getElem? (i := 3) rfl)) rfl
theorem m_8_4 : (Cond.static yL_checksum) ∈ lwA := lwA_mk (ck_8 _ (List.mem_of_getElem? (i := 4) rfl)) rfl
theorem k_RL_289 {args : Array Value} {s : State} {R rm : Room} (hts : ∀ w ∈ lwA, w.before args s = true) (hR : rm.frames + 1 ≤ R.frames ∧ 8 + (1 + 11) + rm.locals ≤ R.locals) : CallB R s args RL 289 yL_checksum cL_checksum 1 (some .long) (lwC yL_checksum cL_checksum 1 (some .long)) rm rm.cells rm.slots 1 ∧ (Cond.static yL_checksum).before args s = true := cwS 1 hts (gdS m_8_3 m_8_4 m_1_0 m_8_5) rfl rfl rfl (by decide +kernel) hR
theorem m_8_28 : (Cond.code yL_state cL_state 1 (some .long)) ∈ lwA := lwA_mk (ck_8 _ (List.mem_of_getElem? (i := 28) rfl)) rfl
theorem m_8_26 : (Cond.methodLink RL 291 yL_state) ∈ lwA := lwA_mk (ck_8 _ (List.mem_of_getElem? (i := 26) rfl)) rfl
theorem m_8_27 : (Cond.static yL_state) ∈ lwA := lwA_mk (ck_8 _ (List.mem_of_getElem? (i := 27) rfl)) rfl
theorem k_RL_291 {args : Array Value} {s : State} {R rm : Room} (hts : ∀ w ∈ lwA, w.before args s = true) (hR : rm.frames + 1 ≤ R.frames ∧ 8 + (1 + 11) + rm.locals ≤ R.locals) : CallB R s args RL 291 yL_state cL_state 1 (some .long) (lwC yL_state cL_state 1 (some .long)) rm rm.cells rm.slots 1 ∧ (Cond.static yL_state).before args s = true := cwS 1 hts (gdS m_8_26 m_8_27 m_1_0 m_8_28) rfl rfl rfl (by decide +kernel) hR
theorem m_8_35 : (Cond.codeWith yL_reason cL_reason 2 (some .long) [(0, 5, 6, 52)]) ∈ lwA := lwA_mk (ck_8 _ (List.mem_of_getElem? (i := 35) rfl)) rfl
theorem m_8_33 : (Cond.methodLink RL 293 yL_reason) ∈ lwA := lwA_mk (ck_8 _ (List.mem_of_getElem? (i := 33) rfl)) rfl
theorem m_8_34 : (Cond.static yL_reason) ∈ lwA := lwA_mk (ck_8 _ (List.mem_of_getElem? (i := 34) rfl)) rfl
theorem kW_293 {args : Array Value} {s : State} {R rm : Room} (hts : ∀ w ∈ lwA, w.before args s = true) (hR : rm.frames + 1 ≤ R.frames ∧ 8 + (2 + 11) + rm.locals ≤ R.locals) : vx_CSW R s args RL 293 yL_reason cL_reason 2 (some .long) [(0, 5, 6, 52)] (lwCW yL_reason cL_reason 2 (some .long) [(0, 5, 6, 52)]) rm rm.cells rm.slots 1 := vx_cwSW 1 hts (gdT m_8_33 m_8_34 m_1_0 m_8_35) rfl rfl rfl (by decide +kernel) hR
theorem m_2_200 : (Cond.code yL_things cL_things 1 (some .long)) ∈ lwA := lwA_mk (ck_2 _ (List.mem_of_getElem? (i := 200) rfl)) rfl
theorem m_2_198 : (Cond.methodLink RL 295 yL_things) ∈ lwA := lwA_mk (ck_2 _ (List.mem_of_getElem? (i := 198) rfl)) rfl
theorem m_2_199 : (Cond.static yL_things) ∈ lwA := lwA_mk (ck_2 _ (List.mem_of_getElem? (i := 199) rfl)) rfl
theorem k_RL_295 {args : Array Value} {s : State} {R rm : Room} (hts : ∀ w ∈ lwA, w.before args s = true) (hR : rm.frames + 1 ≤ R.frames ∧ 8 + (1 + 11) + rm.locals ≤ R.locals) : CallB R s args RL 295 yL_things cL_things 1 (some .long) (lwC yL_things cL_things 1 (some .long)) rm rm.cells rm.slots 1 ∧ (Cond.static yL_things).before args s = true := cwS 1 hts (gdS m_2_198 m_2_199 m_1_0 m_2_200) rfl rfl rfl (by decide +kernel) hR
theorem m_8_43 : (Cond.code yL_isSound cL_isSound 1 (some .long)) ∈ lwA := lwA_mk (ck_8 _ (List.mem_of_getElem? (i := 43) rfl)) rfl
theorem m_8_41 : (Cond.methodLink RL 297 yL_isSound) ∈ lwA := lwA_mk (ck_8 _ (List.mem_of_getElem? (i := 41) rfl)) rfl
theorem m_8_42 : (Cond.static yL_isSound) ∈ lwA := lwA_mk (ck_8 _ (List.mem_of_getElem? (i := 42) rfl)) rfl
theorem k_RL_297 {args : Array Value} {s : State} {R rm : Room} (hts : ∀ w ∈ lwA, w.before args s = true) (hR : rm.frames + 1 ≤ R.frames ∧ 8 + (1 + 11) + rm.locals ≤ R.locals) : CallB R s args RL 297 yL_isSound cL_isSound 1 (some .long) (lwC yL_isSound cL_isSound 1 (some .long)) rm rm.cells rm.slots 1 ∧ (Cond.static yL_isSound).before args s = true := cwS 1 hts (gdS m_8_41 m_8_42 m_1_0 m_8_43) rfl rfl rfl (by decide +kernel) hR
end SITES
def R_law : String := "SendhouseLaw"
def lw_P (b : Addr) (xs : List Int32) (args : Array Value) (s : State) : Prop := args = #[.ref b] ∧ s.IntsAt b xs ∧ xs.length ≤ 260 ∧ (Jvm.Cond.and given_1 narrow_1).before args s = true
def lw_Q (_ : Array Value) (s : State) (o : Outcome) (t : State) : Prop := o = .returned (some (.int 1)) ∧ Framed s o t [] 600258 7293482
def lw_Z (below : List Frame) (a : Array Value) (s : State) : State → Prop := fun t => ∃ o, t.status = .running ∧ Ended t below o ∧ lw_Q a s o t
/-- the law's own end, with 1 on the stack, nothing written that was there before, its room as the claim has it -/
theorem lw_ret {p : Program} {l : Launch} {e : Env} {s : State} {m : MethodId} {below : List Frame} {meth : Method} {c : Code} {b : Nat} (hx : p.tables.exec = Jvm.exec) (hb : c.code = code) (hr : meth.sig.returnType = ret) (hlocks : meth.locks = false) {pc : Nat} {H : Heap} {ls : Array Slot} (hdg : decode code pc = .ok (.ireturn, 1)) : W p l e room_1 s m #[Value.ref b] below meth c H [] 600258 7293482 (lw_Z below #[Value.ref b] s) (F0 m pc ls [.int 1]) := by
  intro T hT X
  obtain ⟨fs, hret, hrun, hended, hW, hframe⟩ := X.leave (v := some (.int 1)) (hlocks := hlocks) (fun h => by rw [hr] at h; cases h)
  have hmeth' : T.vm.method? m = some meth := X.method'
  refine ⟨T.setFrames fs, ?_, .returned (some (.int 1)), hrun, hended, rfl, ⟨_, rfl⟩, hW, hframe⟩
  jvm_step X.here [X.here.top, hx, hb, hdg, hmeth', hr, ret, narrow_b1]
  (try refine ⟨rfl, ?_⟩); (try refine ⟨rfl, ?_⟩)
  first | (intro acts; rw [hret _ acts rfl rfl rfl]) | rw [hret _ _ rfl rfl rfl]
  exact Steps.refl _
/-- what holds at the law's entry: the machine, the code, the tables' words (any of lw_tbl by 'hts w (by decide +kernel)'), the script of L ints xs at the cell b, what the Statement gives of the start (any of its parts by flat_of_before) -/
def lw_At (p : Program) (s : State) (m : MethodId) (meth : Method) (c : Code) (b L : Nat) (xs : Nat → Int32) : Prop :=
  p.tables.exec = Jvm.exec ∧ c.code = code ∧ meth.sig.returnType = ret ∧ c.maxLocals = 10 ∧ s.vm.findClass R_law = some m.cls ∧ (∀ w ∈ lw_tbl, w.before #[Value.ref b] s = true) ∧ va_X b L xs s s.heap ∧ b < s.heap.size ∧ meth.locks = false ∧ (Jvm.Cond.and given_1 narrow_1).before #[Value.ref b] s = true
theorem li_v {Z T : Ho} {A B : Nat} (h : LI Z A B) (e : Z = T) : LI T A B := e ▸ h
section LWE
variable {p : Program} {l : Launch} {e : Env} {s : State} {m : MethodId} {below : List Frame} {meth : Method} {c : Code} {H : Heap} {locs : List Loc} {cells slots pc nz b : Nat} {ls : Array Slot} {D : va_G} {G : gW}
theorem lw_end (S : CallFix p m c cL_law 10 s #[.ref b] lwA RL) (hr : meth.sig.returnType = ret) (hlk : meth.locks = false) (w : g_S D vwCl (fun q => s.heap.size ≤ q) s.heap G H locs nz) (hc : cells ≤ 600258) (hs : slots ≤ 7293482) (hdg : decode cL_law pc = .ok (.ireturn, 1)) : W p l e room_1 s m #[Value.ref b] below meth c H locs cells slots (lw_Z below #[Value.ref b] s) (F0 m pc ls [.int 1]) :=
  va_forget (fun q hq => w.2.2.1.2.2 q hq) (W.widen hc hs (lw_ret S.1 S.2.1 hr hlk hdg))
end LWE
set_option maxHeartbeats 4000000 in
set_option maxRecDepth 100000 in
theorem hL_areAlike (l : Launch) (D : va_G) (ar : Nat → ClassId) (κ : Nat → Nat) (G : gW) (x1 x2 : Xo) (Z : Ho) (sz : Nat) (hk1 : OK x1 Z) (hk2 : OK x2 Z) (hdj : DJ x1 x2) (hs : sL_isSound Z = 1) (hlt : l.stackTraces = false) : Met l yL_areAlike (lwC yL_areAlike cL_areAlike 2 (some .boolean)) (rD 12 6 36) (g_Pc D vwCl (gT ar) (EX1 κ) (ov κ ar x1 Z (ov κ ar x2 Z G)) sz [.ref (x1.f .ho), .ref (x2.f .ho)]) (g_Qi D vwCl (g_A (ov κ ar x1 Z (ov κ ar x2 Z G)) sz) (fun r u => r = 1 ∧ u.1 = ov κ ar x1 Z (ov κ ar x2 Z G))) 6 36 (g_A (ov κ ar x1 Z (ov κ ar x2 Z G)) sz) := by
  refine g_ofW (by decide +kernel) (Nat.le_of_ble_eq_true rfl) ?_
  intro p e s m below meth c ls S hr hlk hin hE w hl
  have hx := S.1
  have hb := S.2.1
  have hl : lv_has ls 2 [(0, .ref (x1.f .ho)), (1, .ref (x2.f .ho))] := hl
  refine lv_aload_n hx hb dL_areAlike_0 rfl (lv_at hl 0 rfl) ?_
  refine g_calll w (g_runS (As := [.ref (x1.f .ho)]) (rest := []) S hE w hl (hL_checksum l D ar κ (ov κ ar x2 Z G) x1 Z sz hk1) (k_RL_289 S.2.2.2.2 ⟨Nat.le_of_ble_eq_true rfl, Nat.le_of_ble_eq_true rfl⟩) rfl rfl (Nat.le_of_ble_eq_true rfl) dL_areAlike_1 ⟨Nat.le_of_ble_eq_true rfl, Nat.le_of_ble_eq_true rfl⟩) (fun r1 u H locs hp hnz w => ?_)
  obtain ⟨rfl, rfl⟩ := hp
  try dsimp only at w
  refine lv_aload_n hx hb dL_areAlike_4 rfl (lv_at hl 1 rfl) ?_
  have w := g_eqw w (ov_swap hdj)
  refine g_calll w (g_runS (As := [.ref (x2.f .ho)]) (rest := [.long (sL_checksum Z)]) S hE w hl (hL_checksum l D ar κ (ov κ ar x1 Z G) x2 Z sz hk2) (k_RL_289 S.2.2.2.2 ⟨Nat.le_of_ble_eq_true rfl, Nat.le_of_ble_eq_true rfl⟩) rfl rfl (Nat.le_of_ble_eq_true rfl) dL_areAlike_5 ⟨Nat.le_of_ble_eq_true rfl, Nat.le_of_ble_eq_true rfl⟩) (fun r2 u H locs hp hnz w => ?_)
  obtain ⟨rfl, rfl⟩ := hp
  try dsimp only at w
  refine W.lcmp hx hb dL_areAlike_8 ?_
  rw [show lg_cmp (sL_checksum Z) (sL_checksum Z) = 0 from lc_self (sL_checksum Z)]
  refine lv_if_ne (tgt := 85) hx hb dL_areAlike_9 (by decide) (fun c => absurd (by decide) c) (fun _ => ?_)
  refine lv_aload_n hx hb dL_areAlike_12 rfl (lv_at hl 0 rfl) ?_
  have w := g_eqw w (ov_swap (hdj).s)
  refine g_calll w (g_runS (As := [.ref (x1.f .ho)]) (rest := []) S hE w hl (hL_state l D ar κ (ov κ ar x2 Z G) x1 Z sz hk1) (k_RL_291 S.2.2.2.2 ⟨Nat.le_of_ble_eq_true rfl, Nat.le_of_ble_eq_true rfl⟩) rfl rfl (Nat.le_of_ble_eq_true rfl) dL_areAlike_13 ⟨Nat.le_of_ble_eq_true rfl, Nat.le_of_ble_eq_true rfl⟩) (fun r3 u H locs hp hnz w => ?_)
  obtain ⟨rfl, rfl⟩ := hp
  try dsimp only at w
  refine lv_aload_n hx hb dL_areAlike_16 rfl (lv_at hl 1 rfl) ?_
  have w := g_eqw w (ov_swap hdj)
  refine g_calll w (g_runS (As := [.ref (x2.f .ho)]) (rest := [.long (sL_state Z)]) S hE w hl (hL_state l D ar κ (ov κ ar x1 Z G) x2 Z sz hk2) (k_RL_291 S.2.2.2.2 ⟨Nat.le_of_ble_eq_true rfl, Nat.le_of_ble_eq_true rfl⟩) rfl rfl (Nat.le_of_ble_eq_true rfl) dL_areAlike_17 ⟨Nat.le_of_ble_eq_true rfl, Nat.le_of_ble_eq_true rfl⟩) (fun r4 u H locs hp hnz w => ?_)
  obtain ⟨rfl, rfl⟩ := hp
  try dsimp only at w
  refine W.lcmp hx hb dL_areAlike_20 ?_
  rw [show lg_cmp (sL_state Z) (sL_state Z) = 0 from lc_self (sL_state Z)]
  refine lv_if_ne (tgt := 85) hx hb dL_areAlike_21 (by decide) (fun c => absurd (by decide) c) (fun _ => ?_)
  refine lv_aload_n hx hb dL_areAlike_24 rfl (lv_at hl 0 rfl) ?_
  have w := g_eqw w (ov_swap (hdj).s)
  refine g_calll w (g_runSW (As := [.ref (x1.f .ho)]) (rest := []) S hE w hl (hL_answer l D ar κ (ov κ ar x2 Z G) x1 Z sz hk1 hlt) (kW_276 S.2.2.2.2 ⟨Nat.le_of_ble_eq_true rfl, Nat.le_of_ble_eq_true rfl⟩) rfl rfl (Nat.le_of_ble_eq_true rfl) dL_areAlike_25 ⟨Nat.le_of_ble_eq_true rfl, Nat.le_of_ble_eq_true rfl⟩) (fun r5 u H locs hp hnz w => ?_)
  obtain ⟨rfl, hu5⟩ := hp
  obtain ⟨v5, m5⟩ := u
  dsimp only at hu5 w hnz
  subst hu5
  refine lv_aload_n hx hb dL_areAlike_28 rfl (lv_at hl 1 rfl) ?_
  have w := g_eqw w (ov_swap hdj)
  refine g_calll w (g_runSW (As := [.ref (x2.f .ho)]) (rest := [.long (vL_answer Z)]) S hE w hl (hL_answer l D ar κ (ov κ ar x1 Z G) x2 Z m5 hk2 hlt) (kW_276 S.2.2.2.2 ⟨Nat.le_of_ble_eq_true rfl, Nat.le_of_ble_eq_true rfl⟩) rfl rfl (Nat.le_of_ble_eq_true rfl) dL_areAlike_29 ⟨Nat.le_of_ble_eq_true rfl, Nat.le_of_ble_eq_true rfl⟩) (fun r6 u H locs hp hnz w => ?_)
  obtain ⟨rfl, hu6⟩ := hp
  obtain ⟨v6, m6⟩ := u
  dsimp only at hu6 w hnz
  subst hu6
  refine W.lcmp hx hb dL_areAlike_32 ?_
  rw [show lg_cmp (vL_answer Z) (vL_answer Z) = 0 from lc_self (vL_answer Z)]
  refine lv_if_ne (tgt := 85) hx hb dL_areAlike_33 (by decide) (fun c => absurd (by decide) c) (fun _ => ?_)
  refine lv_aload_n hx hb dL_areAlike_36 rfl (lv_at hl 0 rfl) ?_
  have w := g_eqw w (ov_swap (hdj).s)
  refine g_calll w (g_runSW (As := [.ref (x1.f .ho)]) (rest := []) S hE w hl (hL_answerKind l D ar κ (ov κ ar x2 Z G) x1 Z m6 hk1 hlt) (kW_274 S.2.2.2.2 ⟨Nat.le_of_ble_eq_true rfl, Nat.le_of_ble_eq_true rfl⟩) rfl rfl (Nat.le_of_ble_eq_true rfl) dL_areAlike_37 ⟨Nat.le_of_ble_eq_true rfl, Nat.le_of_ble_eq_true rfl⟩) (fun r7 u H locs hp hnz w => ?_)
  obtain ⟨rfl, hu7⟩ := hp
  obtain ⟨v7, m7⟩ := u
  dsimp only at hu7 w hnz
  subst hu7
  refine lv_aload_n hx hb dL_areAlike_40 rfl (lv_at hl 1 rfl) ?_
  have w := g_eqw w (ov_swap hdj)
  refine g_calll w (g_runSW (As := [.ref (x2.f .ho)]) (rest := [.long (vL_answerKind Z)]) S hE w hl (hL_answerKind l D ar κ (ov κ ar x1 Z G) x2 Z m7 hk2 hlt) (kW_274 S.2.2.2.2 ⟨Nat.le_of_ble_eq_true rfl, Nat.le_of_ble_eq_true rfl⟩) rfl rfl (Nat.le_of_ble_eq_true rfl) dL_areAlike_41 ⟨Nat.le_of_ble_eq_true rfl, Nat.le_of_ble_eq_true rfl⟩) (fun r8 u H locs hp hnz w => ?_)
  obtain ⟨rfl, hu8⟩ := hp
  obtain ⟨v8, m8⟩ := u
  dsimp only at hu8 w hnz
  subst hu8
  refine W.lcmp hx hb dL_areAlike_44 ?_
  rw [show lg_cmp (vL_answerKind Z) (vL_answerKind Z) = 0 from lc_self (vL_answerKind Z)]
  refine lv_if_ne (tgt := 85) hx hb dL_areAlike_45 (by decide) (fun c => absurd (by decide) c) (fun _ => ?_)
  refine lv_aload_n hx hb dL_areAlike_48 rfl (lv_at hl 0 rfl) ?_
  have w := g_eqw w (ov_swap (hdj).s)
  refine g_calll w (g_runSW (As := [.ref (x1.f .ho)]) (rest := []) S hE w hl (hL_reason l D ar κ (ov κ ar x2 Z G) x1 Z m8 hk1 hlt) (kW_293 S.2.2.2.2 ⟨Nat.le_of_ble_eq_true rfl, Nat.le_of_ble_eq_true rfl⟩) rfl rfl (Nat.le_of_ble_eq_true rfl) dL_areAlike_49 ⟨Nat.le_of_ble_eq_true rfl, Nat.le_of_ble_eq_true rfl⟩) (fun r9 u H locs hp hnz w => ?_)
  obtain ⟨rfl, hu9⟩ := hp
  obtain ⟨v9, m9⟩ := u
  dsimp only at hu9 w hnz
  subst hu9
  refine lv_aload_n hx hb dL_areAlike_52 rfl (lv_at hl 1 rfl) ?_
  have w := g_eqw w (ov_swap hdj)
  refine g_calll w (g_runSW (As := [.ref (x2.f .ho)]) (rest := [.long (vL_reason Z)]) S hE w hl (hL_reason l D ar κ (ov κ ar x1 Z G) x2 Z m9 hk2 hlt) (kW_293 S.2.2.2.2 ⟨Nat.le_of_ble_eq_true rfl, Nat.le_of_ble_eq_true rfl⟩) rfl rfl (Nat.le_of_ble_eq_true rfl) dL_areAlike_53 ⟨Nat.le_of_ble_eq_true rfl, Nat.le_of_ble_eq_true rfl⟩) (fun r10 u H locs hp hnz w => ?_)
  obtain ⟨rfl, hu10⟩ := hp
  obtain ⟨v10, m10⟩ := u
  dsimp only at hu10 w hnz
  subst hu10
  refine W.lcmp hx hb dL_areAlike_56 ?_
  rw [show lg_cmp (vL_reason Z) (vL_reason Z) = 0 from lc_self (vL_reason Z)]
  refine lv_if_ne (tgt := 85) hx hb dL_areAlike_57 (by decide) (fun c => absurd (by decide) c) (fun _ => ?_)
  refine lv_aload_n hx hb dL_areAlike_60 rfl (lv_at hl 0 rfl) ?_
  have w := g_eqw w (ov_swap (hdj).s)
  refine g_calll w (g_runS (As := [.ref (x1.f .ho)]) (rest := []) S hE w hl (hL_things l D ar κ (ov κ ar x2 Z G) x1 Z m10 hk1) (k_RL_295 S.2.2.2.2 ⟨Nat.le_of_ble_eq_true rfl, Nat.le_of_ble_eq_true rfl⟩) rfl rfl (Nat.le_of_ble_eq_true rfl) dL_areAlike_61 ⟨Nat.le_of_ble_eq_true rfl, Nat.le_of_ble_eq_true rfl⟩) (fun r11 u H locs hp hnz w => ?_)
  obtain ⟨rfl, rfl⟩ := hp
  try dsimp only at w
  refine lv_aload_n hx hb dL_areAlike_64 rfl (lv_at hl 1 rfl) ?_
  have w := g_eqw w (ov_swap hdj)
  refine g_calll w (g_runS (As := [.ref (x2.f .ho)]) (rest := [.long (sL_things Z)]) S hE w hl (hL_things l D ar κ (ov κ ar x1 Z G) x2 Z m10 hk2) (k_RL_295 S.2.2.2.2 ⟨Nat.le_of_ble_eq_true rfl, Nat.le_of_ble_eq_true rfl⟩) rfl rfl (Nat.le_of_ble_eq_true rfl) dL_areAlike_65 ⟨Nat.le_of_ble_eq_true rfl, Nat.le_of_ble_eq_true rfl⟩) (fun r12 u H locs hp hnz w => ?_)
  obtain ⟨rfl, rfl⟩ := hp
  try dsimp only at w
  refine W.lcmp hx hb dL_areAlike_68 ?_
  rw [show lg_cmp (sL_things Z) (sL_things Z) = 0 from lc_self (sL_things Z)]
  refine lv_if_ne (tgt := 85) hx hb dL_areAlike_69 (by decide) (fun c => absurd (by decide) c) (fun _ => ?_)
  refine lv_aload_n hx hb dL_areAlike_72 rfl (lv_at hl 0 rfl) ?_
  have w := g_eqw w (ov_swap (hdj).s)
  refine g_calll w (g_runS (As := [.ref (x1.f .ho)]) (rest := []) S hE w hl (hL_isSound l D ar κ (ov κ ar x2 Z G) x1 Z m10 hk1) (k_RL_297 S.2.2.2.2 ⟨Nat.le_of_ble_eq_true rfl, Nat.le_of_ble_eq_true rfl⟩) rfl rfl (Nat.le_of_ble_eq_true rfl) dL_areAlike_73 ⟨Nat.le_of_ble_eq_true rfl, Nat.le_of_ble_eq_true rfl⟩) (fun r13 u H locs hp hnz w => ?_)
  obtain ⟨rfl, rfl⟩ := hp
  try dsimp only at w
  refine lv_lconst (v := 1) hx hb dL_areAlike_76 (by decide) ?_
  refine W.lcmp hx hb dL_areAlike_77 ?_
  rw [show lg_cmp (sL_isSound Z) 1 = 0 from lc_eq hs]
  refine lv_if_ne (tgt := 85) hx hb dL_areAlike_78 (by decide) (fun c => absurd (by decide) c) (fun _ => ?_)
  refine lv_iconst (v := 1) hx hb dL_areAlike_81 (by decide) ?_
  refine lv_goto (tgt := 86) hx hb dL_areAlike_82 (by decide) ?_
  exact g_zret hx hb hr hlk w (Nat.le_of_ble_eq_true rfl) (Nat.le_of_ble_eq_true rfl) dL_areAlike_86 rfl ⟨rfl, rfl⟩
