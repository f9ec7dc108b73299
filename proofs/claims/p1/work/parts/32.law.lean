def R_law : String := "SendhouseLaw"
def lw_P (b : Addr) (xs : List Int32) (args : Array Value) (s : State) : Prop := args = #[.ref b] ∧ s.IntsAt b xs ∧ xs.length ≤ 6 ∧ (Jvm.Cond.and given_1 narrow_1).before args s = true
/-- what a walk over the start with the record d0 says of its end, said of the start itself -/
theorem lw_closed {s t : State} {o : Outcome} {d0 : Drawn} {L : List Loc} {k n : Nat} (hd0 : s.drawn.sameBut d0 lw_cs) (hv : ∃ v, o = .returned v) (hW : (s.setDrawn d0).WarmedH t.vm) (hs : (s.setDrawn d0).sameButNew ({ t with vm := s.vm } : State) L k n) : State.butDraws s t lw_cs (fun t1 => Framed s o t1 L k n) := by
  have h2 : t.drawn = d0 := congrArg State.drawn hs.1
  refine ⟨⟨hv, hW, State.sameButNew.setDrawn hs s.drawn⟩, ?_, by decide⟩
  rw [h2]
  exact hd0
def lw_Q (_ : Array Value) (s : State) (o : Outcome) (t : State) : Prop := o = .returned (some (.int 1)) ∧ State.butDraws s t lw_cs (fun t1 => Framed s o t1 [] 600006 7302056)
def lw_Z (below : List Frame) (a : Array Value) (s : State) : State → Prop := fun t => ∃ o, t.status = .running ∧ Ended t below o ∧ lw_Q a s o t
/-- the law's own end, with 1 on the stack, nothing written that was there before, its room as the claim has it; d0: the record of draws at this point (at the entry s.drawn: begin with 'refine W.base ?_' and 'have hd0 := Drawn.sameBut.refl s.drawn lw_cs') -/
theorem lw_ret {p : Program} {l : Launch} {e : Env} {s : State} {m : MethodId} {below : List Frame} {meth : Method} {c : Code} {b : Nat} {d0 : Drawn} (hd0 : s.drawn.sameBut d0 lw_cs) (hx : p.tables.exec = Jvm.exec) (hb : c.code = code) (hr : meth.sig.returnType = ret) (hlocks : meth.locks = false) {pc : Nat} {H : Heap} {ls : Array Slot} (hdg : decode code pc = .ok (.ireturn, 1)) : W p l e room_1 (s.setDrawn d0) m #[Value.ref b] below meth c H [] 600006 7302056 (lw_Z below #[Value.ref b] s) (F0 m pc ls [.int 1]) := by
  intro T hT X
  obtain ⟨fs, hret, hrun, hended, hW, hframe⟩ := X.leave (v := some (.int 1)) (hlocks := hlocks) (fun h => by rw [hr] at h; cases h)
  have hmeth' : T.vm.method? m = some meth := X.method'
  refine ⟨T.setFrames fs, ?_, .returned (some (.int 1)), hrun, hended, rfl, lw_closed hd0 ⟨_, rfl⟩ hW hframe⟩
  jvm_step X.here [X.here.top, hx, hb, hdg, hmeth', hr, ret, narrow_b1]
  (try refine ⟨rfl, ?_⟩); (try refine ⟨rfl, ?_⟩)
  first | (intro acts; rw [hret _ acts rfl rfl rfl]) | rw [hret _ _ rfl rfl rfl]
  exact Steps.refl _
/-- what holds at the law's entry: the machine, the code, the tables' words (any of lw_tbl by 'hts w (by decide +kernel)'), the script of L ints xs at the cell b, what the Statement gives of the start (any of its parts by flat_of_before) -/
def lw_At (p : Program) (s : State) (m : MethodId) (meth : Method) (c : Code) (b L : Nat) (xs : Nat → Int32) : Prop :=
  p.tables.exec = Jvm.exec ∧ c.code = code ∧ meth.sig.returnType = ret ∧ c.maxLocals = 9 ∧ s.vm.findClass R_law = some m.cls ∧ (∀ w ∈ lw_tbl, w.before #[Value.ref b] s = true) ∧ va_X b L xs s s.heap ∧ b < s.heap.size ∧ meth.locks = false ∧ (Jvm.Cond.and given_1 narrow_1).before #[Value.ref b] s = true
section SITES
variable {p : Program} {l : Launch} {e : Env} {R : Room} {s : State} {m : MethodId} {args : Array Value} {below : List Frame} {meth : Method} {c : Code} {H : Heap} {locs : List Loc} {cells slots : Nat} {Q : State → Prop}
variable {pc : Nat} {ls : Array Slot} {rest : List Value} {D : va_G} {ar : Nat → ClassId} {κ : Nat → Nat} {A : Nat → Prop} {a : Nat} {H0 : Heap} {G : gW} {nz nL : Nat} {cc : ByteArray}
theorem m_2_217 : (Cond.codeWith yL_add cL_add 5 (some .int) [(0, 10, 13, 13), (0, 10, 17, 15), (0, 10, 21, 17)]) ∈ lwA := lwA_mk (ck_2 _ (List.mem_of_getElem? (i := 217) rfl)) rfl
theorem m_1_0 : (Cond.initialized RL) ∈ lwA := lwA_mk (ck_1 _ (List.mem_of_getElem? (i := 0) rfl)) rfl
theorem m_2_215 : (Cond.methodLink RL 133 yL_add) ∈ lwA := lwA_mk (ck_2 _ (List.mem_of_getElem? (i := 215) rfl)) rfl
theorem m_2_216 : (Cond.static yL_add) ∈ lwA := lwA_mk (ck_2 _ (List.mem_of_getElem? (i := 216) rfl)) rfl
theorem kW_133 {args : Array Value} {s : State} {R rm : Room} (hts : ∀ w ∈ lwA, w.before args s = true) (hR : rm.frames + 1 ≤ R.frames ∧ 8 + (5 + 11) + rm.locals ≤ R.locals) : vx_CSW R s args RL 133 yL_add cL_add 5 (some .int) [(0, 10, 13, 13), (0, 10, 17, 15), (0, 10, 21, 17)] (lwCW yL_add cL_add 5 (some .int) [(0, 10, 13, 13), (0, 10, 17, 15), (0, 10, 21, 17)]) rm rm.cells rm.slots 4 := vx_cwSW 4 hts (gdT m_2_215 m_2_216 m_1_0 m_2_217) rfl rfl rfl (by decide +kernel) hR
theorem m_6_195 : (Cond.code yX15_add cX15_add 4 (some .int)) ∈ lwA := lwA_mk (ck_6 _ (List.mem_of_getElem? (i := 195) rfl)) rfl
theorem m_6_192 : (Cond.methodLink RL 138 yX15_add) ∈ lwA := lwA_mk (ck_6 _ (List.mem_of_getElem? (i := 192) rfl)) rfl
theorem m_6_193 : (Cond.instanceMethod yX15_add) ∈ lwA := lwA_mk (ck_6 _ (List.mem_of_getElem? (i := 193) rfl)) rfl
theorem m_6_194 : (Cond.selects RX15 yX15_add yX15_add) ∈ lwA := lwA_mk (ck_6 _ (List.mem_of_getElem? (i := 194) rfl)) rfl
theorem k_RL_138 {args : Array Value} {s : State} {R rm : Room} (hts : ∀ w ∈ lwA, w.before args s = true) (hR : rm.frames + 1 ≤ R.frames ∧ 8 + (4 + 11) + rm.locals ≤ R.locals) : CallW R s args RL RX15 138 yX15_add cX15_add 4 (some .int) (lwC yX15_add cX15_add 4 (some .int)) rm rm.cells rm.slots 2 := cwV 2 hts (gdV m_6_192 m_6_193 m_6_194 m_1_12 m_6_195) rfl rfl rfl (by decide +kernel) hR
theorem m_6_191 : (Cond.code yX15_thrown cX15_thrown 1 (some .int)) ∈ lwA := lwA_mk (ck_6 _ (List.mem_of_getElem? (i := 191) rfl)) rfl
theorem m_6_188 : (Cond.methodLink RL 139 yX15_thrown) ∈ lwA := lwA_mk (ck_6 _ (List.mem_of_getElem? (i := 188) rfl)) rfl
theorem m_6_189 : (Cond.instanceMethod yX15_thrown) ∈ lwA := lwA_mk (ck_6 _ (List.mem_of_getElem? (i := 189) rfl)) rfl
theorem m_6_190 : (Cond.selects RX15 yX15_thrown yX15_thrown) ∈ lwA := lwA_mk (ck_6 _ (List.mem_of_getElem? (i := 190) rfl)) rfl
theorem k_RL_139 {args : Array Value} {s : State} {R rm : Room} (hts : ∀ w ∈ lwA, w.before args s = true) (hR : rm.frames + 1 ≤ R.frames ∧ 8 + (1 + 11) + rm.locals ≤ R.locals) : CallW R s args RL RX15 139 yX15_thrown cX15_thrown 1 (some .int) (lwC yX15_thrown cX15_thrown 1 (some .int)) rm rm.cells rm.slots 0 := cwV 0 hts (gdV m_6_188 m_6_189 m_6_190 m_1_12 m_6_191) rfl rfl rfl (by decide +kernel) hR
theorem m_2_49 : (Cond.code yX8_classes cX8_classes 1 (some .int)) ∈ lwA := lwA_mk (ck_2 _ (List.mem_of_getElem? (i := 49) rfl)) rfl
theorem m_2_46 : (Cond.methodLink RL 142 yX8_classes) ∈ lwA := lwA_mk (ck_2 _ (List.mem_of_getElem? (i := 46) rfl)) rfl
theorem m_2_47 : (Cond.instanceMethod yX8_classes) ∈ lwA := lwA_mk (ck_2 _ (List.mem_of_getElem? (i := 47) rfl)) rfl
theorem m_2_48 : (Cond.selects RX8 yX8_classes yX8_classes) ∈ lwA := lwA_mk (ck_2 _ (List.mem_of_getElem? (i := 48) rfl)) rfl
theorem k_RL_142 {args : Array Value} {s : State} {R rm : Room} (hts : ∀ w ∈ lwA, w.before args s = true) (hR : rm.frames + 1 ≤ R.frames ∧ 8 + (1 + 11) + rm.locals ≤ R.locals) : CallW R s args RL RX8 142 yX8_classes cX8_classes 1 (some .int) (lwC yX8_classes cX8_classes 1 (some .int)) rm rm.cells rm.slots 0 := cwV 0 hts (gdV m_2_46 m_2_47 m_2_48 m_1_1 m_2_49) rfl rfl rfl (by decide +kernel) hR
theorem m_6_212 : (Cond.code yX15_classes cX15_classes 1 (some .int)) ∈ lwA := lwA_mk (ck_6 _ (List.mem_of_getElem? (i := 212) rfl)) rfl
theorem m_6_209 : (Cond.methodLink RL 145 yX15_classes) ∈ lwA := lwA_mk (ck_6 _ (List.mem_of_getElem? (i := 209) rfl)) rfl
theorem m_6_210 : (Cond.instanceMethod yX15_classes) ∈ lwA := lwA_mk (ck_6 _ (List.mem_of_getElem? (i := 210) rfl)) rfl
theorem m_6_211 : (Cond.selects RX15 yX15_classes yX15_classes) ∈ lwA := lwA_mk (ck_6 _ (List.mem_of_getElem? (i := 211) rfl)) rfl
theorem k_RL_145 {args : Array Value} {s : State} {R rm : Room} (hts : ∀ w ∈ lwA, w.before args s = true) (hR : rm.frames + 1 ≤ R.frames ∧ 8 + (1 + 11) + rm.locals ≤ R.locals) : CallW R s args RL RX15 145 yX15_classes cX15_classes 1 (some .int) (lwC yX15_classes cX15_classes 1 (some .int)) rm rm.cells rm.slots 0 := cwV 0 hts (gdV m_6_209 m_6_210 m_6_211 m_1_12 m_6_212) rfl rfl rfl (by decide +kernel) hR
theorem m_3_128 : (Cond.codeWith yL_fields cL_fields 4 (some .int) [(0, 9, 12, 13)]) ∈ lwA := lwA_mk (ck_3 _ (List.mem_of_getElem? (i := 128) rfl)) rfl
theorem m_3_126 : (Cond.methodLink RL 146 yL_fields) ∈ lwA := lwA_mk (ck_3 _ (List.mem_of_getElem? (i := 126) rfl)) rfl
theorem m_3_127 : (Cond.static yL_fields) ∈ lwA := lwA_mk (ck_3 _ (List.mem_of_getElem? (i := 127) rfl)) rfl
theorem kW_146 {args : Array Value} {s : State} {R rm : Room} (hts : ∀ w ∈ lwA, w.before args s = true) (hR : rm.frames + 1 ≤ R.frames ∧ 8 + (4 + 11) + rm.locals ≤ R.locals) : vx_CSW R s args RL 146 yL_fields cL_fields 4 (some .int) [(0, 9, 12, 13)] (lwCW yL_fields cL_fields 4 (some .int) [(0, 9, 12, 13)]) rm rm.cells rm.slots 3 := vx_cwSW 3 hts (gdT m_3_126 m_3_127 m_1_0 m_3_128) rfl rfl rfl (by decide +kernel) hR
theorem m_6_216 : (Cond.code yX15_fields cX15_fields 2 (some .int)) ∈ lwA := lwA_mk (ck_6 _ (List.mem_of_getElem? (i := 216) rfl)) rfl
theorem m_6_213 : (Cond.methodLink RL 149 yX15_fields) ∈ lwA := lwA_mk (ck_6 _ (List.mem_of_getElem? (i := 213) rfl)) rfl
theorem m_6_214 : (Cond.instanceMethod yX15_fields) ∈ lwA := lwA_mk (ck_6 _ (List.mem_of_getElem? (i := 214) rfl)) rfl
theorem m_6_215 : (Cond.selects RX15 yX15_fields yX15_fields) ∈ lwA := lwA_mk (ck_6 _ (List.mem_of_getElem? (i := 215) rfl)) rfl
theorem k_RL_149 {args : Array Value} {s : State} {R rm : Room} (hts : ∀ w ∈ lwA, w.before args s = true) (hR : rm.frames + 1 ≤ R.frames ∧ 8 + (2 + 11) + rm.locals ≤ R.locals) : CallW R s args RL RX15 149 yX15_fields cX15_fields 2 (some .int) (lwC yX15_fields cX15_fields 2 (some .int)) rm rm.cells rm.slots 1 := cwV 1 hts (gdV m_6_213 m_6_214 m_6_215 m_1_12 m_6_216) rfl rfl rfl (by decide +kernel) hR
theorem m_3_135 : (Cond.codeWith yL_row cL_row 6 (some .int) [(0, 12, 15, 15), (0, 12, 19, 17)]) ∈ lwA := lwA_mk (ck_3 _ (List.mem_of_getElem? (i := 135) rfl)) rfl
theorem m_3_133 : (Cond.methodLink RL 150 yL_row) ∈ lwA := lwA_mk (ck_3 _ (List.mem_of_getElem? (i := 133) rfl)) rfl
theorem m_3_134 : (Cond.static yL_row) ∈ lwA := lwA_mk (ck_3 _ (List.mem_of_getElem? (i := 134) rfl)) rfl
theorem kW_150 {args : Array Value} {s : State} {R rm : Room} (hts : ∀ w ∈ lwA, w.before args s = true) (hR : rm.frames + 1 ≤ R.frames ∧ 8 + (6 + 11) + rm.locals ≤ R.locals) : vx_CSW R s args RL 150 yL_row cL_row 6 (some .int) [(0, 12, 15, 15), (0, 12, 19, 17)] (lwCW yL_row cL_row 6 (some .int) [(0, 12, 15, 15), (0, 12, 19, 17)]) rm rm.cells rm.slots 5 := vx_cwSW 5 hts (gdT m_3_133 m_3_134 m_1_0 m_3_135) rfl rfl rfl (by decide +kernel) hR
theorem m_6_220 : (Cond.code yX15_row cX15_row 4 (some .int)) ∈ lwA := lwA_mk (ck_6 _ (List.mem_of_getElem? (i := 220) rfl)) rfl
theorem m_6_217 : (Cond.methodLink RL 153 yX15_row) ∈ lwA := lwA_mk (ck_6 _ (List.mem_of_getElem? (i := 217) rfl)) rfl
theorem m_6_218 : (Cond.instanceMethod yX15_row) ∈ lwA := lwA_mk (ck_6 _ (List.mem_of_getElem? (i := 218) rfl)) rfl
theorem m_6_219 : (Cond.selects RX15 yX15_row yX15_row) ∈ lwA := lwA_mk (ck_6 _ (List.mem_of_getElem? (i := 219) rfl)) rfl
theorem k_RL_153 {args : Array Value} {s : State} {R rm : Room} (hts : ∀ w ∈ lwA, w.before args s = true) (hR : rm.frames + 1 ≤ R.frames ∧ 8 + (4 + 11) + rm.locals ≤ R.locals) : CallW R s args RL RX15 153 yX15_row cX15_row 4 (some .int) (lwC yX15_row cX15_row 4 (some .int)) rm rm.cells rm.slots 3 := cwV 3 hts (gdV m_6_217 m_6_218 m_6_219 m_1_12 m_6_220) rfl rfl rfl (by decide +kernel) hR
theorem m_2_53 : (Cond.code yX8_wipe cX8_wipe 2 (some .int)) ∈ lwA := lwA_mk (ck_2 _ (List.mem_of_getElem? (i := 53) rfl)) rfl
theorem m_2_50 : (Cond.methodLink RL 154 yX8_wipe) ∈ lwA := lwA_mk (ck_2 _ (List.mem_of_getElem? (i := 50) rfl)) rfl
theorem m_2_51 : (Cond.instanceMethod yX8_wipe) ∈ lwA := lwA_mk (ck_2 _ (List.mem_of_getElem? (i := 51) rfl)) rfl
theorem m_2_52 : (Cond.selects RX8 yX8_wipe yX8_wipe) ∈ lwA := lwA_mk (ck_2 _ (List.mem_of_getElem? (i := 52) rfl)) rfl
theorem k_RL_154 {args : Array Value} {s : State} {R rm : Room} (hts : ∀ w ∈ lwA, w.before args s = true) (hR : rm.frames + 1 ≤ R.frames ∧ 8 + (2 + 11) + rm.locals ≤ R.locals) : CallW R s args RL RX8 154 yX8_wipe cX8_wipe 2 (some .int) (lwC yX8_wipe cX8_wipe 2 (some .int)) rm rm.cells rm.slots 0 := cwV 0 hts (gdV m_2_50 m_2_51 m_2_52 m_1_1 m_2_53) rfl rfl rfl (by decide +kernel) hR
theorem m_7_86 : (Cond.code yX15_wipe cX15_wipe 2 (some .int)) ∈ lwA := lwA_mk (ck_7 _ (List.mem_of_getElem? (i := 86) rfl)) rfl
theorem m_7_83 : (Cond.methodLink RL 157 yX15_wipe) ∈ lwA := lwA_mk (ck_7 _ (List.mem_of_getElem? (i := 83) rfl)) rfl
theorem m_7_84 : (Cond.instanceMethod yX15_wipe) ∈ lwA := lwA_mk (ck_7 _ (List.mem_of_getElem? (i := 84) rfl)) rfl
theorem m_7_85 : (Cond.selects RX15 yX15_wipe yX15_wipe) ∈ lwA := lwA_mk (ck_7 _ (List.mem_of_getElem? (i := 85) rfl)) rfl
theorem k_RL_157 {args : Array Value} {s : State} {R rm : Room} (hts : ∀ w ∈ lwA, w.before args s = true) (hR : rm.frames + 1 ≤ R.frames ∧ 8 + (2 + 11) + rm.locals ≤ R.locals) : CallW R s args RL RX15 157 yX15_wipe cX15_wipe 2 (some .int) (lwC yX15_wipe cX15_wipe 2 (some .int)) rm rm.cells rm.slots 0 := cwV 0 hts (gdV m_7_83 m_7_84 m_7_85 m_1_12 m_7_86) rfl rfl rfl (by decide +kernel) hR
theorem m_3_151 : (Cond.codeWith yL_method cL_method 7 (some .int) [(0, 14, 17, 13), (0, 14, 21, 15), (0, 14, 25, 31)]) ∈ lwA := lwA_mk (ck_3 _ (List.mem_of_getElem? (i := 151) rfl)) rfl
theorem m_3_149 : (Cond.methodLink RL 158 yL_method) ∈ lwA := lwA_mk (ck_3 _ (List.mem_of_getElem? (i := 149) rfl)) rfl
theorem m_3_150 : (Cond.static yL_method) ∈ lwA := lwA_mk (ck_3 _ (List.mem_of_getElem? (i := 150) rfl)) rfl
theorem kW_158 {args : Array Value} {s : State} {R rm : Room} (hts : ∀ w ∈ lwA, w.before args s = true) (hR : rm.frames + 1 ≤ R.frames ∧ 8 + (7 + 11) + rm.locals ≤ R.locals) : vx_CSW R s args RL 158 yL_method cL_method 7 (some .int) [(0, 14, 17, 13), (0, 14, 21, 15), (0, 14, 25, 31)] (lwCW yL_method cL_method 7 (some .int) [(0, 14, 17, 13), (0, 14, 21, 15), (0, 14, 25, 31)]) rm rm.cells rm.slots 6 := vx_cwSW 6 hts (gdT m_3_149 m_3_150 m_1_0 m_3_151) rfl rfl rfl (by decide +kernel) hR
theorem m_7_94 : (Cond.code yX15_method cX15_method 6 (some .int)) ∈ lwA := lwA_mk (ck_7 _ (List.mem_of_getElem? (i := 94) rfl)) rfl
theorem m_7_91 : (Cond.methodLink RL 161 yX15_method) ∈ lwA := lwA_mk (ck_7 _ (List.mem_of_getElem? (i := 91) rfl)) rfl
theorem m_7_92 : (Cond.instanceMethod yX15_method) ∈ lwA := lwA_mk (ck_7 _ (List.mem_of_getElem? (i := 92) rfl)) rfl
theorem m_7_93 : (Cond.selects RX15 yX15_method yX15_method) ∈ lwA := lwA_mk (ck_7 _ (List.mem_of_getElem? (i := 93) rfl)) rfl
theorem k_RL_161 {args : Array Value} {s : State} {R rm : Room} (hts : ∀ w ∈ lwA, w.before args s = true) (hR : rm.frames + 1 ≤ R.frames ∧ 8 + (6 + 11) + rm.locals ≤ R.locals) : CallW R s args RL RX15 161 yX15_method cX15_method 6 (some .int) (lwC yX15_method cX15_method 6 (some .int)) rm rm.cells rm.slots 4 := cwV 4 hts (gdV m_7_91 m_7_92 m_7_93 m_1_12 m_7_94) rfl rfl rfl (by decide +kernel) hR
theorem m_4_35 : (Cond.codeWith yL_remove cL_remove 5 (some .int) [(0, 10, 13, 13), (0, 10, 17, 36)]) ∈ lwA := lwA_mk (ck_4 _ (List.mem_of_getElem? (i := 35) rfl)) rfl
theorem m_4_33 : (Cond.methodLink RL 162 yL_remove) ∈ lwA := lwA_mk (ck_4 _ (List.mem_of_getElem? (i := 33) rfl)) rfl
theorem m_4_34 : (Cond.static yL_remove) ∈ lwA := lwA_mk (ck_4 _ (List.mem_of_getElem? (i := 34) rfl)) rfl
theorem kW_162 {args : Array Value} {s : State} {R rm : Room} (hts : ∀ w ∈ lwA, w.before args s = true) (hR : rm.frames + 1 ≤ R.frames ∧ 8 + (5 + 11) + rm.locals ≤ R.locals) : vx_CSW R s args RL 162 yL_remove cL_remove 5 (some .int) [(0, 10, 13, 13), (0, 10, 17, 36)] (lwCW yL_remove cL_remove 5 (some .int) [(0, 10, 13, 13), (0, 10, 17, 36)]) rm rm.cells rm.slots 4 := vx_cwSW 4 hts (gdT m_4_33 m_4_34 m_1_0 m_4_35) rfl rfl rfl (by decide +kernel) hR
theorem m_7_183 : (Cond.code yX15_remove cX15_remove 4 (some .int)) ∈ lwA := lwA_mk (ck_7 _ (List.mem_of_getElem? (i := 183) rfl)) rfl
theorem m_7_180 : (Cond.methodLink RL 164 yX15_remove) ∈ lwA := lwA_mk (ck_7 _ (List.mem_of_getElem? (i := 180) rfl)) rfl
theorem m_7_181 : (Cond.instanceMethod yX15_remove) ∈ lwA := lwA_mk (ck_7 _ (List.mem_of_getElem? (i := 181) rfl)) rfl
theorem m_7_182 : (Cond.selects RX15 yX15_remove yX15_remove) ∈ lwA := lwA_mk (ck_7 _ (List.mem_of_getElem? (i := 182) rfl)) rfl
theorem k_RL_164 {args : Array Value} {s : State} {R rm : Room} (hts : ∀ w ∈ lwA, w.before args s = true) (hR : rm.frames + 1 ≤ R.frames ∧ 8 + (4 + 11) + rm.locals ≤ R.locals) : CallW R s args RL RX15 164 yX15_remove cX15_remove 4 (some .int) (lwC yX15_remove cX15_remove 4 (some .int)) rm rm.cells rm.slots 2 := cwV 2 hts (gdV m_7_180 m_7_181 m_7_182 m_1_12 m_7_183) rfl rfl rfl (by decide +kernel) hR
theorem m_4_67 : (Cond.codeWith yL_find cL_find 5 (some .int) [(0, 10, 13, 13), (0, 10, 17, 36)]) ∈ lwA := lwA_mk (ck_4 _ (List.mem_of_getElem? (i := 67) rfl)) rfl
theorem m_4_65 : (Cond.methodLink RL 165 yL_find) ∈ lwA := lwA_mk (ck_4 _ (List.mem_of_getElem? (i := 65) rfl)) rfl
theorem m_4_66 : (Cond.static yL_find) ∈ lwA := lwA_mk (ck_4 _ (List.mem_of_getElem? (i := 66) rfl)) rfl
theorem kW_165 {args : Array Value} {s : State} {R rm : Room} (hts : ∀ w ∈ lwA, w.before args s = true) (hR : rm.frames + 1 ≤ R.frames ∧ 8 + (5 + 11) + rm.locals ≤ R.locals) : vx_CSW R s args RL 165 yL_find cL_find 5 (some .int) [(0, 10, 13, 13), (0, 10, 17, 36)] (lwCW yL_find cL_find 5 (some .int) [(0, 10, 13, 13), (0, 10, 17, 36)]) rm rm.cells rm.slots 4 := vx_cwSW 4 hts (gdT m_4_65 m_4_66 m_1_0 m_4_67) rfl rfl rfl (by decide +kernel) hR
theorem m_7_195 : (Cond.code yX15_find cX15_find 3 (some .int)) ∈ lwA := lwA_mk (ck_7 _ (List.mem_of_getElem? (i := 195) rfl)) rfl
theorem m_7_192 : (Cond.methodLink RL 167 yX15_find) ∈ lwA := lwA_mk (ck_7 _ (List.mem_of_getElem? (i := 192) rfl)) rfl
theorem m_7_193 : (Cond.instanceMethod yX15_find) ∈ lwA := lwA_mk (ck_7 _ (List.mem_of_getElem? (i := 193) rfl)) rfl
theorem m_7_194 : (Cond.selects RX15 yX15_find yX15_find) ∈ lwA := lwA_mk (ck_7 _ (List.mem_of_getElem? (i := 194) rfl)) rfl
theorem k_RL_167 {args : Array Value} {s : State} {R rm : Room} (hts : ∀ w ∈ lwA, w.before args s = true) (hR : rm.frames + 1 ≤ R.frames ∧ 8 + (3 + 11) + rm.locals ≤ R.locals) : CallW R s args RL RX15 167 yX15_find cX15_find 3 (some .int) (lwC yX15_find cX15_find 3 (some .int)) rm rm.cells rm.slots 2 := cwV 2 hts (gdV m_7_192 m_7_193 m_7_194 m_1_12 m_7_195) rfl rfl rfl (by decide +kernel) hR
theorem m_4_83 : (Cond.codeWith yL_calls cL_calls 5 (some .int) [(0, 10, 13, 13), (0, 10, 17, 36)]) ∈ lwA := lwA_mk (ck_4 _ (List.mem_of_getElem? (i := 83) rfl)) rfl
theorem m_4_81 : (Cond.methodLink RL 168 yL_calls) ∈ lwA := lwA_mk (ck_4 _ (List.mem_of_getElem? (i := 81) rfl)) rfl
theorem m_4_82 : (Cond.static yL_calls) ∈ lwA := lwA_mk (ck_4 _ (List.mem_of_getElem? (i := 82) rfl)) rfl
theorem kW_168 {args : Array Value} {s : State} {R rm : Room} (hts : ∀ w ∈ lwA, w.before args s = true) (hR : rm.frames + 1 ≤ R.frames ∧ 8 + (5 + 11) + rm.locals ≤ R.locals) : vx_CSW R s args RL 168 yL_calls cL_calls 5 (some .int) [(0, 10, 13, 13), (0, 10, 17, 36)] (lwCW yL_calls cL_calls 5 (some .int) [(0, 10, 13, 13), (0, 10, 17, 36)]) rm rm.cells rm.slots 4 := vx_cwSW 4 hts (gdT m_4_81 m_4_82 m_1_0 m_4_83) rfl rfl rfl (by decide +kernel) hR
theorem m_7_203 : (Cond.code yX15_calls cX15_calls 3 (some .int)) ∈ lwA := lwA_mk (ck_7 _ (List.mem_of_getElem? (i := 203) rfl)) rfl
theorem m_7_200 : (Cond.methodLink RL 170 yX15_calls) ∈ lwA := lwA_mk (ck_7 _ (List.mem_of_getElem? (i := 200) rfl)) rfl
theorem m_7_201 : (Cond.instanceMethod yX15_calls) ∈ lwA := lwA_mk (ck_7 _ (List.mem_of_getElem? (i := 201) rfl)) rfl
theorem m_7_202 : (Cond.selects RX15 yX15_calls yX15_calls) ∈ lwA := lwA_mk (ck_7 _ (List.mem_of_getElem? (i := 202) rfl)) rfl
theorem k_RL_170 {args : Array Value} {s : State} {R rm : Room} (hts : ∀ w ∈ lwA, w.before args s = true) (hR : rm.frames + 1 ≤ R.frames ∧ 8 + (3 + 11) + rm.locals ≤ R.locals) : CallW R s args RL RX15 170 yX15_calls cX15_calls 3 (some .int) (lwC yX15_calls cX15_calls 3 (some .int)) rm rm.cells rm.slots 2 := cwV 2 hts (gdV m_7_200 m_7_201 m_7_202 m_1_12 m_7_203) rfl rfl rfl (by decide +kernel) hR
theorem m_4_90 : (Cond.codeWith yL_compile cL_compile 5 (some .int) [(0, 10, 13, 13), (0, 10, 17, 36)]) ∈ lwA := lwA_mk (ck_4 _ (List.mem_of_getElem? (i := 90) rfl)) rfl
theorem m_4_88 : (Cond.methodLink RL 171 yL_compile) ∈ lwA := lwA_mk (ck_4 _ (List.mem_of_getElem? (i := 88) rfl)) rfl
theorem m_4_89 : (Cond.static yL_compile) ∈ lwA := lwA_mk (ck_4 _ (List.mem_of_getElem? (i := 89) rfl)) rfl
theorem kW_171 {args : Array Value} {s : State} {R rm : Room} (hts : ∀ w ∈ lwA, w.before args s = true) (hR : rm.frames + 1 ≤ R.frames ∧ 8 + (5 + 11) + rm.locals ≤ R.locals) : vx_CSW R s args RL 171 yL_compile cL_compile 5 (some .int) [(0, 10, 13, 13), (0, 10, 17, 36)] (lwCW yL_compile cL_compile 5 (some .int) [(0, 10, 13, 13), (0, 10, 17, 36)]) rm rm.cells rm.slots 4 := vx_cwSW 4 hts (gdT m_4_88 m_4_89 m_1_0 m_4_90) rfl rfl rfl (by decide +kernel) hR
theorem m_7_207 : (Cond.code yX15_compile cX15_compile 3 (some .int)) ∈ lwA := lwA_mk (ck_7 _ (List.mem_of_getElem? (i := 207) rfl)) rfl
theorem m_7_204 : (Cond.methodLink RL 173 yX15_compile) ∈ lwA := lwA_mk (ck_7 _ (List.mem_of_getElem? (i := 204) rfl)) rfl
theorem m_7_205 : (Cond.instanceMethod yX15_compile) ∈ lwA := lwA_mk (ck_7 _ (List.mem_of_getElem? (i := 205) rfl)) rfl
theorem m_7_206 : (Cond.selects RX15 yX15_compile yX15_compile) ∈ lwA := lwA_mk (ck_7 _ (List.mem_of_getElem? (i := 206) rfl)) rfl
theorem k_RL_173 {args : Array Value} {s : State} {R rm : Room} (hts : ∀ w ∈ lwA, w.before args s = true) (hR : rm.frames + 1 ≤ R.frames ∧ 8 + (3 + 11) + rm.locals ≤ R.locals) : CallW R s args RL RX15 173 yX15_compile cX15_compile 3 (some .int) (lwC yX15_compile cX15_compile 3 (some .int)) rm rm.cells rm.slots 2 := cwV 2 hts (gdV m_7_204 m_7_205 m_7_206 m_1_12 m_7_207) rfl rfl rfl (by decide +kernel) hR
theorem m_4_101 : (Cond.codeWith yL_isCompiled cL_isCompiled 5 (some .int) [(0, 17, 20, 13), (0, 17, 24, 36)]) ∈ lwA := lwA_mk (ck_4 _ (List.mem_of_getElem? (i := 101) rfl)) rfl
theorem m_4_99 : (Cond.methodLink RL 174 yL_isCompiled) ∈ lwA := lwA_mk (ck_4 _ (List.mem_of_getElem? (i := 99) rfl)) rfl
theorem m_4_100 : (Cond.static yL_isCompiled) ∈ lwA := lwA_mk (ck_4 _ (List.mem_of_getElem? (i := 100) rfl)) rfl
theorem kW_174 {args : Array Value} {s : State} {R rm : Room} (hts : ∀ w ∈ lwA, w.before args s = true) (hR : rm.frames + 1 ≤ R.frames ∧ 8 + (5 + 11) + rm.locals ≤ R.locals) : vx_CSW R s args RL 174 yL_isCompiled cL_isCompiled 5 (some .int) [(0, 17, 20, 13), (0, 17, 24, 36)] (lwCW yL_isCompiled cL_isCompiled 5 (some .int) [(0, 17, 20, 13), (0, 17, 24, 36)]) rm rm.cells rm.slots 4 := vx_cwSW 4 hts (gdT m_4_99 m_4_100 m_1_0 m_4_101) rfl rfl rfl (by decide +kernel) hR
theorem m_8_32 : (Cond.code yX15_isCompiled cX15_isCompiled 3 (some .boolean)) ∈ lwA := lwA_mk (ck_8 _ (List.mem_of_getElem? (i := 32) rfl)) rfl
theorem m_8_29 : (Cond.methodLink RL 176 yX15_isCompiled) ∈ lwA := lwA_mk (ck_8 _ (List.mem_of_getElem? (i := 29) rfl)) rfl
theorem m_8_30 : (Cond.instanceMethod yX15_isCompiled) ∈ lwA := lwA_mk (ck_8 _ (List.mem_of_getElem? (i := 30) rfl)) rfl
theorem m_8_31 : (Cond.selects RX15 yX15_isCompiled yX15_isCompiled) ∈ lwA := lwA_mk (ck_8 _ (List.mem_of_getElem? (i := 31) rfl)) rfl
theorem k_RL_176 {args : Array Value} {s : State} {R rm : Room} (hts : ∀ w ∈ lwA, w.before args s = true) (hR : rm.frames + 1 ≤ R.frames ∧ 8 + (3 + 11) + rm.locals ≤ R.locals) : CallW R s args RL RX15 176 yX15_isCompiled cX15_isCompiled 3 (some .boolean) (lwC yX15_isCompiled cX15_isCompiled 3 (some .boolean)) rm rm.cells rm.slots 2 := cwV 2 hts (gdV m_8_29 m_8_30 m_8_31 m_1_12 m_8_32) rfl rfl rfl (by decide +kernel) hR
theorem m_4_108 : (Cond.codeWith yL_hot cL_hot 4 (some .int) [(0, 9, 12, 15)]) ∈ lwA := lwA_mk (ck_4 _ (List.mem_of_getElem? (i := 108) rfl)) rfl
theorem m_4_106 : (Cond.methodLink RL 177 yL_hot) ∈ lwA := lwA_mk (ck_4 _ (List.mem_of_getElem? (i := 106) rfl)) rfl
theorem m_4_107 : (Cond.static yL_hot) ∈ lwA := lwA_mk (ck_4 _ (List.mem_of_getElem? (i := 107) rfl)) rfl
theorem kW_177 {args : Array Value} {s : State} {R rm : Room} (hts : ∀ w ∈ lwA, w.before args s = true) (hR : rm.frames + 1 ≤ R.frames ∧ 8 + (4 + 11) + rm.locals ≤ R.locals) : vx_CSW R s args RL 177 yL_hot cL_hot 4 (some .int) [(0, 9, 12, 15)] (lwCW yL_hot cL_hot 4 (some .int) [(0, 9, 12, 15)]) rm rm.cells rm.slots 3 := vx_cwSW 3 hts (gdT m_4_106 m_4_107 m_1_0 m_4_108) rfl rfl rfl (by decide +kernel) hR
theorem m_8_36 : (Cond.code yX15_hot cX15_hot 3 (some .int)) ∈ lwA := lwA_mk (ck_8 _ (List.mem_of_getElem? (i := 36) rfl)) rfl
theorem m_8_33 : (Cond.methodLink RL 179 yX15_hot) ∈ lwA := lwA_mk (ck_8 _ (List.mem_of_getElem? (i := 33) rfl)) rfl
theorem m_8_34 : (Cond.instanceMethod yX15_hot) ∈ lwA := lwA_mk (ck_8 _ (List.mem_of_getElem? (i := 34) rfl)) rfl
theorem m_8_35 : (Cond.selects RX15 yX15_hot yX15_hot) ∈ lwA := lwA_mk (ck_8 _ (List.mem_of_getElem? (i := 35) rfl)) rfl
theorem k_RL_179 {args : Array Value} {s : State} {R rm : Room} (hts : ∀ w ∈ lwA, w.before args s = true) (hR : rm.frames + 1 ≤ R.frames ∧ 8 + (3 + 11) + rm.locals ≤ R.locals) : CallW R s args RL RX15 179 yX15_hot cX15_hot 3 (some .int) (lwC yX15_hot cX15_hot 3 (some .int)) rm rm.cells rm.slots 1 := cwV 1 hts (gdV m_8_33 m_8_34 m_8_35 m_1_12 m_8_36) rfl rfl rfl (by decide +kernel) hR
theorem m_4_115 : (Cond.codeWith yL_number cL_number 5 (some .int) [(0, 10, 13, 13)]) ∈ lwA := lwA_mk (ck_4 _ (List.mem_of_getElem? (i := 115) rfl)) rfl
theorem m_4_113 : (Cond.methodLink RL 180 yL_number) ∈ lwA := lwA_mk (ck_4 _ (List.mem_of_getElem? (i := 113) rfl)) rfl
theorem m_4_114 : (Cond.static yL_number) ∈ lwA := lwA_mk (ck_4 _ (List.mem_of_getElem? (i := 114) rfl)) rfl
theorem kW_180 {args : Array Value} {s : State} {R rm : Room} (hts : ∀ w ∈ lwA, w.before args s = true) (hR : rm.frames + 1 ≤ R.frames ∧ 8 + (5 + 11) + rm.locals ≤ R.locals) : vx_CSW R s args RL 180 yL_number cL_number 5 (some .int) [(0, 10, 13, 13)] (lwCW yL_number cL_number 5 (some .int) [(0, 10, 13, 13)]) rm rm.cells rm.slots 4 := vx_cwSW 4 hts (gdT m_4_113 m_4_114 m_1_0 m_4_115) rfl rfl rfl (by decide +kernel) hR
theorem m_8_40 : (Cond.code yX15_number cX15_number 3 (some .int)) ∈ lwA := lwA_mk (ck_8 _ (List.mem_of_getElem? (i := 40) rfl)) rfl
theorem m_8_37 : (Cond.methodLink RL 182 yX15_number) ∈ lwA := lwA_mk (ck_8 _ (List.mem_of_getElem? (i := 37) rfl)) rfl
theorem m_8_38 : (Cond.instanceMethod yX15_number) ∈ lwA := lwA_mk (ck_8 _ (List.mem_of_getElem? (i := 38) rfl)) rfl
theorem m_8_39 : (Cond.selects RX15 yX15_number yX15_number) ∈ lwA := lwA_mk (ck_8 _ (List.mem_of_getElem? (i := 39) rfl)) rfl
theorem k_RL_182 {args : Array Value} {s : State} {R rm : Room} (hts : ∀ w ∈ lwA, w.before args s = true) (hR : rm.frames + 1 ≤ R.frames ∧ 8 + (3 + 11) + rm.locals ≤ R.locals) : CallW R s args RL RX15 182 yX15_number cX15_number 3 (some .int) (lwC yX15_number cX15_number 3 (some .int)) rm rm.cells rm.slots 2 := cwV 2 hts (gdV m_8_37 m_8_38 m_8_39 m_1_12 m_8_40) rfl rfl rfl (by decide +kernel) hR
theorem m_4_135 : (Cond.codeWith yL_nothing cL_nothing 4 (some .int) [(0, 9, 12, 13)]) ∈ lwA := lwA_mk (ck_4 _ (List.mem_of_getElem? (i := 135) rfl)) rfl
theorem m_4_133 : (Cond.methodLink RL 183 yL_nothing) ∈ lwA := lwA_mk (ck_4 _ (List.mem_of_getElem? (i := 133) rfl)) rfl
theorem m_4_134 : (Cond.static yL_nothing) ∈ lwA := lwA_mk (ck_4 _ (List.mem_of_getElem? (i := 134) rfl)) rfl
theorem kW_183 {args : Array Value} {s : State} {R rm : Room} (hts : ∀ w ∈ lwA, w.before args s = true) (hR : rm.frames + 1 ≤ R.frames ∧ 8 + (4 + 11) + rm.locals ≤ R.locals) : vx_CSW R s args RL 183 yL_nothing cL_nothing 4 (some .int) [(0, 9, 12, 13)] (lwCW yL_nothing cL_nothing 4 (some .int) [(0, 9, 12, 13)]) rm rm.cells rm.slots 3 := vx_cwSW 3 hts (gdT m_4_133 m_4_134 m_1_0 m_4_135) rfl rfl rfl (by decide +kernel) hR
theorem m_8_51 : (Cond.code yX15_nothing cX15_nothing 2 (some .int)) ∈ lwA := lwA_mk (ck_8 _ (List.mem_of_getElem? (i := 51) rfl)) rfl
theorem m_8_48 : (Cond.methodLink RL 185 yX15_nothing) ∈ lwA := lwA_mk (ck_8 _ (List.mem_of_getElem? (i := 48) rfl)) rfl
theorem m_8_49 : (Cond.instanceMethod yX15_nothing) ∈ lwA := lwA_mk (ck_8 _ (List.mem_of_getElem? (i := 49) rfl)) rfl
theorem m_8_50 : (Cond.selects RX15 yX15_nothing yX15_nothing) ∈ lwA := lwA_mk (ck_8 _ (List.mem_of_getElem? (i := 50) rfl)) rfl
theorem k_RL_185 {args : Array Value} {s : State} {R rm : Room} (hts : ∀ w ∈ lwA, w.before args s = true) (hR : rm.frames + 1 ≤ R.frames ∧ 8 + (2 + 11) + rm.locals ≤ R.locals) : CallW R s args RL RX15 185 yX15_nothing cX15_nothing 2 (some .int) (lwC yX15_nothing cX15_nothing 2 (some .int)) rm rm.cells rm.slots 1 := cwV 1 hts (gdV m_8_48 m_8_49 m_8_50 m_1_12 m_8_51) rfl rfl rfl (by decide +kernel) hR
theorem m_4_142 : (Cond.codeWith yL_make cL_make 5 (some .int) [(0, 10, 13, 13), (0, 10, 17, 15), (0, 10, 21, 17)]) ∈ lwA := lwA_mk (ck_4 _ (List.mem_of_getElem? (i := 142) rfl)) rfl
theorem m_4_140 : (Cond.methodLink RL 186 yL_make) ∈ lwA := lwA_mk (ck_4 _ (List.mem_of_getElem? (i := 140) rfl)) rfl
theorem m_4_141 : (Cond.static yL_make) ∈ lwA := lwA_mk (ck_4 _ (List.mem_of_getElem? (i := 141) rfl)) rfl
theorem kW_186 {args : Array Value} {s : State} {R rm : Room} (hts : ∀ w ∈ lwA, w.before args s = true) (hR : rm.frames + 1 ≤ R.frames ∧ 8 + (5 + 11) + rm.locals ≤ R.locals) : vx_CSW R s args RL 186 yL_make cL_make 5 (some .int) [(0, 10, 13, 13), (0, 10, 17, 15), (0, 10, 21, 17)] (lwCW yL_make cL_make 5 (some .int) [(0, 10, 13, 13), (0, 10, 17, 15), (0, 10, 21, 17)]) rm rm.cells rm.slots 4 := vx_cwSW 4 hts (gdT m_4_140 m_4_141 m_1_0 m_4_142) rfl rfl rfl (by decide +kernel) hR
theorem m_8_55 : (Cond.code yX15_make cX15_make 3 (some .int)) ∈ lwA := lwA_mk (ck_8 _ (List.mem_of_getElem? (i := 55) rfl)) rfl
theorem m_8_52 : (Cond.methodLink RL 188 yX15_make) ∈ lwA := lwA_mk (ck_8 _ (List.mem_of_getElem? (i := 52) rfl)) rfl
theorem m_8_53 : (Cond.instanceMethod yX15_make) ∈ lwA := lwA_mk (ck_8 _ (List.mem_of_getElem? (i := 53) rfl)) rfl
theorem m_8_54 : (Cond.selects RX15 yX15_make yX15_make) ∈ lwA := lwA_mk (ck_8 _ (List.mem_of_getElem? (i := 54) rfl)) rfl
theorem k_RL_188 {args : Array Value} {s : State} {R rm : Room} (hts : ∀ w ∈ lwA, w.before args s = true) (hR : rm.frames + 1 ≤ R.frames ∧ 8 + (3 + 11) + rm.locals ≤ R.locals) : CallW R s args RL RX15 188 yX15_make cX15_make 3 (some .int) (lwC yX15_make cX15_make 3 (some .int)) rm rm.cells rm.slots 2 := cwV 2 hts (gdV m_8_52 m_8_53 m_8_54 m_1_12 m_8_55) rfl rfl rfl (by decide +kernel) hR
theorem m_4_170 : (Cond.codeWith yL_kind cL_kind 4 (some .int) [(0, 9, 12, 13)]) ∈ lwA := lwA_mk (ck_4 _ (List.mem_of_getElem? (i := 170) rfl)) rfl
theorem m_4_168 : (Cond.methodLink RL 189 yL_kind) ∈ lwA := lwA_mk (ck_4 _ (List.mem_of_getElem? (i := 168) rfl)) rfl
theorem m_4_169 : (Cond.static yL_kind) ∈ lwA := lwA_mk (ck_4 _ (List.mem_of_getElem? (i := 169) rfl)) rfl
theorem kW_189 {args : Array Value} {s : State} {R rm : Room} (hts : ∀ w ∈ lwA, w.before args s = true) (hR : rm.frames + 1 ≤ R.frames ∧ 8 + (4 + 11) + rm.locals ≤ R.locals) : vx_CSW R s args RL 189 yL_kind cL_kind 4 (some .int) [(0, 9, 12, 13)] (lwCW yL_kind cL_kind 4 (some .int) [(0, 9, 12, 13)]) rm rm.cells rm.slots 3 := vx_cwSW 3 hts (gdT m_4_168 m_4_169 m_1_0 m_4_170) rfl rfl rfl (by decide +kernel) hR
theorem m_8_86 : (Cond.code yX15_kind cX15_kind 2 (some .char)) ∈ lwA := lwA_mk (ck_8 _ (List.mem_of_getElem? (i := 86) rfl)) rfl
theorem m_8_83 : (Cond.methodLink RL 191 yX15_kind) ∈ lwA := lwA_mk (ck_8 _ (List.mem_of_getElem? (i := 83) rfl)) rfl
theorem m_8_84 : (Cond.instanceMethod yX15_kind) ∈ lwA := lwA_mk (ck_8 _ (List.mem_of_getElem? (i := 84) rfl)) rfl
theorem m_8_85 : (Cond.selects RX15 yX15_kind yX15_kind) ∈ lwA := lwA_mk (ck_8 _ (List.mem_of_getElem? (i := 85) rfl)) rfl
theorem k_RL_191 {args : Array Value} {s : State} {R rm : Room} (hts : ∀ w ∈ lwA, w.before args s = true) (hR : rm.frames + 1 ≤ R.frames ∧ 8 + (2 + 11) + rm.locals ≤ R.locals) : CallW R s args RL RX15 191 yX15_kind cX15_kind 2 (some .char) (lwC yX15_kind cX15_kind 2 (some .char)) rm rm.cells rm.slots 1 := cwV 1 hts (gdV m_8_83 m_8_84 m_8_85 m_1_12 m_8_86) rfl rfl rfl (by decide +kernel) hR
theorem m_4_177 : (Cond.codeWith yL_value cL_value 4 (some .int) [(0, 9, 12, 13)]) ∈ lwA := lwA_mk (ck_4 _ (List.mem_of_getElem? (i := 177) rfl)) rfl
theorem m_4_175 : (Cond.methodLink RL 192 yL_value) ∈ lwA := lwA_mk (ck_4 _ (List.mem_of_getElem? (i := 175) rfl)) rfl
theorem m_4_176 : (Cond.static yL_value) ∈ lwA := lwA_mk (ck_4 _ (List.mem_of_getElem? (i := 176) rfl)) rfl
theorem kW_192 {args : Array Value} {s : State} {R rm : Room} (hts : ∀ w ∈ lwA, w.before args s = true) (hR : rm.frames + 1 ≤ R.frames ∧ 8 + (4 + 11) + rm.locals ≤ R.locals) : vx_CSW R s args RL 192 yL_value cL_value 4 (some .int) [(0, 9, 12, 13)] (lwCW yL_value cL_value 4 (some .int) [(0, 9, 12, 13)]) rm rm.cells rm.slots 3 := vx_cwSW 3 hts (gdT m_4_175 m_4_176 m_1_0 m_4_177) rfl rfl rfl (by decide +kernel) hR
theorem m_8_90 : (Cond.code yX15_value cX15_value 2 (some .int)) ∈ lwA := lwA_mk (ck_8 _ (List.mem_of_getElem? (i := 90) rfl)) rfl
theorem m_8_87 : (Cond.methodLink RL 194 yX15_value) ∈ lwA := lwA_mk (ck_8 _ (List.mem_of_getElem? (i := 87) rfl)) rfl
theorem m_8_88 : (Cond.instanceMethod yX15_value) ∈ lwA := lwA_mk (ck_8 _ (List.mem_of_getElem? (i := 88) rfl)) rfl
theorem m_8_89 : (Cond.selects RX15 yX15_value yX15_value) ∈ lwA := lwA_mk (ck_8 _ (List.mem_of_getElem? (i := 89) rfl)) rfl
theorem k_RL_194 {args : Array Value} {s : State} {R rm : Room} (hts : ∀ w ∈ lwA, w.before args s = true) (hR : rm.frames + 1 ≤ R.frames ∧ 8 + (2 + 11) + rm.locals ≤ R.locals) : CallW R s args RL RX15 194 yX15_value cX15_value 2 (some .int) (lwC yX15_value cX15_value 2 (some .int)) rm rm.cells rm.slots 1 := cwV 1 hts (gdV m_8_87 m_8_88 m_8_89 m_1_12 m_8_90) rfl rfl rfl (by decide +kernel) hR
theorem m_4_184 : (Cond.codeWith yL_classOf cL_classOf 4 (some .int) [(0, 9, 12, 13)]) ∈ lwA := lwA_mk (ck_4 _ (List.mem_of_getElem? (i := 184) rfl)) rfl
theorem m_4_182 : (Cond.methodLink RL 195 yL_classOf) ∈ lwA := lwA_mk (ck_4 _ (List.mem_of_getElem? (i := 182) rfl)) rfl
theorem m_4_183 : (Cond.static yL_classOf) ∈ lwA := lwA_mk (ck_4 _ (List.mem_of_getElem? (i := 183) rfl)) rfl
theorem kW_195 {args : Array Value} {s : State} {R rm : Room} (hts : ∀ w ∈ lwA, w.before args s = true) (hR : rm.frames + 1 ≤ R.frames ∧ 8 + (4 + 11) + rm.locals ≤ R.locals) : vx_CSW R s args RL 195 yL_classOf cL_classOf 4 (some .int) [(0, 9, 12, 13)] (lwCW yL_classOf cL_classOf 4 (some .int) [(0, 9, 12, 13)]) rm rm.cells rm.slots 3 := vx_cwSW 3 hts (gdT m_4_182 m_4_183 m_1_0 m_4_184) rfl rfl rfl (by decide +kernel) hR
theorem m_8_94 : (Cond.code yX15_classOf cX15_classOf 2 (some .int)) ∈ lwA := lwA_mk (ck_8 _ (List.mem_of_getElem? (i := 94) rfl)) rfl
theorem m_8_91 : (Cond.methodLink RL 197 yX15_classOf) ∈ lwA := lwA_mk (ck_8 _ (List.mem_of_getElem? (i := 91) rfl)) rfl
theorem m_8_92 : (Cond.instanceMethod yX15_classOf) ∈ lwA := lwA_mk (ck_8 _ (List.mem_of_getElem? (i := 92) rfl)) rfl
theorem m_8_93 : (Cond.selects RX15 yX15_classOf yX15_classOf) ∈ lwA := lwA_mk (ck_8 _ (List.mem_of_getElem? (i := 93) rfl)) rfl
theorem k_RL_197 {args : Array Value} {s : State} {R rm : Room} (hts : ∀ w ∈ lwA, w.before args s = true) (hR : rm.frames + 1 ≤ R.frames ∧ 8 + (2 + 11) + rm.locals ≤ R.locals) : CallW R s args RL RX15 197 yX15_classOf cX15_classOf 2 (some .int) (lwC yX15_classOf cX15_classOf 2 (some .int)) rm rm.cells rm.slots 1 := cwV 1 hts (gdV m_8_91 m_8_92 m_8_93 m_1_12 m_8_94) rfl rfl rfl (by decide +kernel) hR
theorem m_4_193 : (Cond.codeWith yL_fieldKind cL_fieldKind 5 (some .int) [(0, 10, 13, 13)]) ∈ lwA := lwA_mk (ck_4 _ (List.mem_of_getElem? (i := 193) rfl)) rfl
theorem m_4_191 : (Cond.methodLink RL 198 yL_fieldKind) ∈ lwA := lwA_mk (ck_4 _ (List.mem_of_getElem? (i := 191) rfl)) rfl
theorem m_4_192 : (Cond.static yL_fieldKind) ∈ lwA := lwA_mk (ck_4 _ (List.mem_of_getElem? (i := 192) rfl)) rfl
theorem kW_198 {args : Array Value} {s : State} {R rm : Room} (hts : ∀ w ∈ lwA, w.before args s = true) (hR : rm.frames + 1 ≤ R.frames ∧ 8 + (5 + 11) + rm.locals ≤ R.locals) : vx_CSW R s args RL 198 yL_fieldKind cL_fieldKind 5 (some .int) [(0, 10, 13, 13)] (lwCW yL_fieldKind cL_fieldKind 5 (some .int) [(0, 10, 13, 13)]) rm rm.cells rm.slots 4 := vx_cwSW 4 hts (gdT m_4_191 m_4_192 m_1_0 m_4_193) rfl rfl rfl (by decide +kernel) hR
theorem m_8_102 : (Cond.code yX15_fieldKind cX15_fieldKind 3 (some .char)) ∈ lwA := lwA_mk (ck_8 _ (List.mem_of_getElem? (i := 102) rfl)) rfl
theorem m_8_99 : (Cond.methodLink RL 200 yX15_fieldKind) ∈ lwA := lwA_mk (ck_8 _ (List.mem_of_getElem? (i := 99) rfl)) rfl
theorem m_8_100 : (Cond.instanceMethod yX15_fieldKind) ∈ lwA := lwA_mk (ck_8 _ (List.mem_of_getElem? (i := 100) rfl)) rfl
theorem m_8_101 : (Cond.selects RX15 yX15_fieldKind yX15_fieldKind) ∈ lwA := lwA_mk (ck_8 _ (List.mem_of_getElem? (i := 101) rfl)) rfl
theorem k_RL_200 {args : Array Value} {s : State} {R rm : Room} (hts : ∀ w ∈ lwA, w.before args s = true) (hR : rm.frames + 1 ≤ R.frames ∧ 8 + (3 + 11) + rm.locals ≤ R.locals) : CallW R s args RL RX15 200 yX15_fieldKind cX15_fieldKind 3 (some .char) (lwC yX15_fieldKind cX15_fieldKind 3 (some .char)) rm rm.cells rm.slots 2 := cwV 2 hts (gdV m_8_99 m_8_100 m_8_101 m_1_12 m_8_102) rfl rfl rfl (by decide +kernel) hR
theorem m_4_210 : (Cond.codeWith yL_fieldValue cL_fieldValue 5 (some .int) [(0, 10, 13, 13)]) ∈ lwA := lwA_mk (ck_4 _ (List.mem_of_getElem? (i := 210) rfl)) rfl
theorem m_4_208 : (Cond.methodLink RL 201 yL_fieldValue) ∈ lwA := lwA_mk (ck_4 _ (List.mem_of_getElem? (i := 208) rfl)) rfl
theorem m_4_209 : (Cond.static yL_fieldValue) ∈ lwA := lwA_mk (ck_4 _ (List.mem_of_getElem? (i := 209) rfl)) rfl
theorem kW_201 {args : Array Value} {s : State} {R rm : Room} (hts : ∀ w ∈ lwA, w.before args s = true) (hR : rm.frames + 1 ≤ R.frames ∧ 8 + (5 + 11) + rm.locals ≤ R.locals) : vx_CSW R s args RL 201 yL_fieldValue cL_fieldValue 5 (some .int) [(0, 10, 13, 13)] (lwCW yL_fieldValue cL_fieldValue 5 (some .int) [(0, 10, 13, 13)]) rm rm.cells rm.slots 4 := vx_cwSW 4 hts (gdT m_4_208 m_4_209 m_1_0 m_4_210) rfl rfl rfl (by decide +kernel) hR
theorem m_8_110 : (Cond.code yX15_fieldValue cX15_fieldValue 3 (some .int)) ∈ lwA := lwA_mk (ck_8 _ (List.mem_of_getElem? (i := 110) rfl)) rfl
theorem m_8_107 : (Cond.methodLink RL 203 yX15_fieldValue) ∈ lwA := lwA_mk (ck_8 _ (List.mem_of_getElem? (i := 107) rfl)) rfl
theorem m_8_108 : (Cond.instanceMethod yX15_fieldValue) ∈ lwA := lwA_mk (ck_8 _ (List.mem_of_getElem? (i := 108) rfl)) rfl
theorem m_8_109 : (Cond.selects RX15 yX15_fieldValue yX15_fieldValue) ∈ lwA := lwA_mk (ck_8 _ (List.mem_of_getElem? (i := 109) rfl)) rfl
theorem k_RL_203 {args : Array Value} {s : State} {R rm : Room} (hts : ∀ w ∈ lwA, w.before args s = true) (hR : rm.frames + 1 ≤ R.frames ∧ 8 + (3 + 11) + rm.locals ≤ R.locals) : CallW R s args RL RX15 203 yX15_fieldValue cX15_fieldValue 3 (some .int) (lwC yX15_fieldValue cX15_fieldValue 3 (some .int)) rm rm.cells rm.slots 2 := cwV 2 hts (gdV m_8_107 m_8_108 m_8_109 m_1_12 m_8_110) rfl rfl rfl (by decide +kernel) hR
theorem m_2_57 : (Cond.code yX8_things cX8_things 1 (some .int)) ∈ lwA := lwA_mk (ck_2 _ (List.mem_of_getElem? (i := 57) rfl)) rfl
theorem m_2_54 : (Cond.methodLink RL 204 yX8_things) ∈ lwA := lwA_mk (ck_2 _ (List.mem_of_getElem? (i := 54) rfl)) rfl
theorem m_2_55 : (Cond.instanceMethod yX8_things) ∈ lwA := lwA_mk (ck_2 _ (List.mem_of_getElem? (i := 55) rfl)) rfl
theorem m_2_56 : (Cond.selects RX8 yX8_things yX8_things) ∈ lwA := lwA_mk (ck_2 _ (List.mem_of_getElem? (i := 56) rfl)) rfl
theorem k_RL_204 {args : Array Value} {s : State} {R rm : Room} (hts : ∀ w ∈ lwA, w.before args s = true) (hR : rm.frames + 1 ≤ R.frames ∧ 8 + (1 + 11) + rm.locals ≤ R.locals) : CallW R s args RL RX8 204 yX8_things cX8_things 1 (some .int) (lwC yX8_things cX8_things 1 (some .int)) rm rm.cells rm.slots 0 := cwV 0 hts (gdV m_2_54 m_2_55 m_2_56 m_1_1 m_2_57) rfl rfl rfl (by decide +kernel) hR
theorem m_8_114 : (Cond.code yX15_things cX15_things 1 (some .int)) ∈ lwA := lwA_mk (ck_8 _ (List.mem_of_getElem? (i := 114) rfl)) rfl
theorem m_8_111 : (Cond.methodLink RL 207 yX15_things) ∈ lwA := lwA_mk (ck_8 _ (List.mem_of_getElem? (i := 111) rfl)) rfl
theorem m_8_112 : (Cond.instanceMethod yX15_things) ∈ lwA := lwA_mk (ck_8 _ (List.mem_of_getElem? (i := 112) rfl)) rfl
theorem m_8_113 : (Cond.selects RX15 yX15_things yX15_things) ∈ lwA := lwA_mk (ck_8 _ (List.mem_of_getElem? (i := 113) rfl)) rfl
theorem k_RL_207 {args : Array Value} {s : State} {R rm : Room} (hts : ∀ w ∈ lwA, w.before args s = true) (hR : rm.frames + 1 ≤ R.frames ∧ 8 + (1 + 11) + rm.locals ≤ R.locals) : CallW R s args RL RX15 207 yX15_things cX15_things 1 (some .int) (lwC yX15_things cX15_things 1 (some .int)) rm rm.cells rm.slots 0 := cwV 0 hts (gdV m_8_111 m_8_112 m_8_113 m_1_12 m_8_114) rfl rfl rfl (by decide +kernel) hR
theorem m_2_61 : (Cond.code yX8_collect cX8_collect 6 (some .int)) ∈ lwA := lwA_mk (ck_2 _ (List.mem_of_getElem? (i := 61) rfl)) rfl
theorem m_2_58 : (Cond.methodLink RL 208 yX8_collect) ∈ lwA := lwA_mk (ck_2 _ (List.mem_of_getElem? (i := 58) rfl)) rfl
theorem m_2_59 : (Cond.instanceMethod yX8_collect) ∈ lwA := lwA_mk (ck_2 _ (List.mem_of_getElem? (i := 59) rfl)) rfl
theorem m_2_60 : (Cond.selects RX8 yX8_collect yX8_collect) ∈ lwA := lwA_mk (ck_2 _ (List.mem_of_getElem? (i := 60) rfl)) rfl
theorem k_RL_208 {args : Array Value} {s : State} {R rm : Room} (hts : ∀ w ∈ lwA, w.before args s = true) (hR : rm.frames + 1 ≤ R.frames ∧ 8 + (6 + 11) + rm.locals ≤ R.locals) : CallW R s args RL RX8 208 yX8_collect cX8_collect 6 (some .int) (lwC yX8_collect cX8_collect 6 (some .int)) rm rm.cells rm.slots 0 := cwV 0 hts (gdV m_2_58 m_2_59 m_2_60 m_1_1 m_2_61) rfl rfl rfl (by decide +kernel) hR
theorem m_8_118 : (Cond.code yX15_collect cX15_collect 7 (some .int)) ∈ lwA := lwA_mk (ck_8 _ (List.mem_of_getElem? (i := 118) rfl)) rfl
theorem m_8_115 : (Cond.methodLink RL 211 yX15_collect) ∈ lwA := lwA_mk (ck_8 _ (List.mem_of_getElem? (i := 115) rfl)) rfl
theorem m_8_116 : (Cond.instanceMethod yX15_collect) ∈ lwA := lwA_mk (ck_8 _ (List.mem_of_getElem? (i := 116) rfl)) rfl
theorem m_8_117 : (Cond.selects RX15 yX15_collect yX15_collect) ∈ lwA := lwA_mk (ck_8 _ (List.mem_of_getElem? (i := 117) rfl)) rfl
theorem k_RL_211 {args : Array Value} {s : State} {R rm : Room} (hts : ∀ w ∈ lwA, w.before args s = true) (hR : rm.frames + 1 ≤ R.frames ∧ 8 + (7 + 11) + rm.locals ≤ R.locals) : CallW R s args RL RX15 211 yX15_collect cX15_collect 7 (some .int) (lwC yX15_collect cX15_collect 7 (some .int)) rm rm.cells rm.slots 0 := cwV 0 hts (gdV m_8_115 m_8_116 m_8_117 m_1_12 m_8_118) rfl rfl rfl (by decide +kernel) hR
theorem m_4_217 : (Cond.codeWith yL_begin cL_begin 8 (some .int) [(0, 16, 19, 13), (0, 16, 23, 15), (0, 16, 27, 17), (0, 16, 31, 31)]) ∈ lwA := lwA_mk (ck_4 _ (List.mem_of_getElem? (i := 217) rfl)) rfl
theorem m_4_215 : (Cond.methodLink RL 212 yL_begin) ∈ lwA := lwA_mk (ck_4 _ (List.mem_of_getElem? (i := 215) rfl)) rfl
theorem m_4_216 : (Cond.static yL_begin) ∈ lwA := lwA_mk (ck_4 _ (List.mem_of_getElem? (i := 216) rfl)) rfl
theorem kW_212 {args : Array Value} {s : State} {R rm : Room} (hts : ∀ w ∈ lwA, w.before args s = true) (hR : rm.frames + 1 ≤ R.frames ∧ 8 + (8 + 11) + rm.locals ≤ R.locals) : vx_CSW R s args RL 212 yL_begin cL_begin 8 (some .int) [(0, 16, 19, 13), (0, 16, 23, 15), (0, 16, 27, 17), (0, 16, 31, 31)] (lwCW yL_begin cL_begin 8 (some .int) [(0, 16, 19, 13), (0, 16, 23, 15), (0, 16, 27, 17), (0, 16, 31, 31)]) rm rm.cells rm.slots 7 := vx_cwSW 7 hts (gdT m_4_215 m_4_216 m_1_0 m_4_217) rfl rfl rfl (by decide +kernel) hR
theorem m_8_127 : (Cond.code yX15_begin cX15_begin 9 (some .int)) ∈ lwA := lwA_mk (ck_8 _ (List.mem_of_getElem? (i := 127) rfl)) rfl
theorem m_8_124 : (Cond.methodLink RL 215 yX15_begin) ∈ lwA := lwA_mk (ck_8 _ (List.mem_of_getElem? (i := 124) rfl)) rfl
theorem m_8_125 : (Cond.instanceMethod yX15_begin) ∈ lwA := lwA_mk (ck_8 _ (List.mem_of_getElem? (i := 125) rfl)) rfl
theorem m_8_126 : (Cond.selects RX15 yX15_begin yX15_begin) ∈ lwA := lwA_mk (ck_8 _ (List.mem_of_getElem? (i := 126) rfl)) rfl
theorem k_RL_215 {args : Array Value} {s : State} {R rm : Room} (hts : ∀ w ∈ lwA, w.before args s = true) (hR : rm.frames + 1 ≤ R.frames ∧ 8 + (9 + 11) + rm.locals ≤ R.locals) : CallW R s args RL RX15 215 yX15_begin cX15_begin 9 (some .int) (lwC yX15_begin cX15_begin 9 (some .int)) rm rm.cells rm.slots 5 := cwV 5 hts (gdV m_8_124 m_8_125 m_8_126 m_1_12 m_8_127) rfl rfl rfl (by decide +kernel) hR
theorem m_5_7 : (Cond.codeWith yL_go cL_go 4 (some .int) [(0, 9, 12, 15), (0, 9, 15, 17)]) ∈ lwA := lwA_mk (ck_5 _ (List.mem_of_getElem? (i := 7) rfl)) rfl
theorem m_5_5 : (Cond.methodLink RL 216 yL_go) ∈ lwA := lwA_mk (ck_5 _ (List.mem_of_getElem? (i := 5) rfl)) rfl
theorem m_5_6 : (Cond.static yL_go) ∈ lwA := lwA_mk (ck_5 _ (List.mem_of_getElem? (i := 6) rfl)) rfl
theorem kW_216 {args : Array Value} {s : State} {R rm : Room} (hts : ∀ w ∈ lwA, w.before args s = true) (hR : rm.frames + 1 ≤ R.frames ∧ 8 + (4 + 11) + rm.locals ≤ R.locals) : vx_CSW R s args RL 216 yL_go cL_go 4 (some .int) [(0, 9, 12, 15), (0, 9, 15, 17)] (lwCW yL_go cL_go 4 (some .int) [(0, 9, 12, 15), (0, 9, 15, 17)]) rm rm.cells rm.slots 3 := vx_cwSW 3 hts (gdT m_5_5 m_5_6 m_1_0 m_5_7) rfl rfl rfl (by decide +kernel) hR
theorem m_8_172 : (Cond.code yX15_go cX15_go 3 (some .int)) ∈ lwA := lwA_mk (ck_8 _ (List.mem_of_getElem? (i := 172) rfl)) rfl
theorem m_8_169 : (Cond.methodLink RL 218 yX15_go) ∈ lwA := lwA_mk (ck_8 _ (List.mem_of_getElem? (i := 169) rfl)) rfl
theorem m_8_170 : (Cond.instanceMethod yX15_go) ∈ lwA := lwA_mk (ck_8 _ (List.mem_of_getElem? (i := 170) rfl)) rfl
theorem m_8_171 : (Cond.selects RX15 yX15_go yX15_go) ∈ lwA := lwA_mk (ck_8 _ (List.mem_of_getElem? (i := 171) rfl)) rfl
theorem k_RL_218 {args : Array Value} {s : State} {R rm : Room} (hts : ∀ w ∈ lwA, w.before args s = true) (hR : rm.frames + 1 ≤ R.frames ∧ 8 + (3 + 11) + rm.locals ≤ R.locals) : CallW R s args RL RX15 218 yX15_go cX15_go 3 (some .int) (lwC yX15_go cX15_go 3 (some .int)) rm rm.cells rm.slots 1 := cwV 1 hts (gdV m_8_169 m_8_170 m_8_171 m_1_12 m_8_172) rfl rfl rfl (by decide +kernel) hR
theorem m_5_213 : (Cond.codeWith yL_end cL_end 3 (some .int) [(0, 8, 11, 17)]) ∈ lwA := lwA_mk (ck_5 _ (List.mem_of_getElem? (i := 213) rfl)) rfl
theorem m_5_211 : (Cond.methodLink RL 219 yL_end) ∈ lwA := lwA_mk (ck_5 _ (List.mem_of_getElem? (i := 211) rfl)) rfl
theorem m_5_212 : (Cond.static yL_end) ∈ lwA := lwA_mk (ck_5 _ (List.mem_of_getElem? (i := 212) rfl)) rfl
theorem kW_219 {args : Array Value} {s : State} {R rm : Room} (hts : ∀ w ∈ lwA, w.before args s = true) (hR : rm.frames + 1 ≤ R.frames ∧ 8 + (3 + 11) + rm.locals ≤ R.locals) : vx_CSW R s args RL 219 yL_end cL_end 3 (some .int) [(0, 8, 11, 17)] (lwCW yL_end cL_end 3 (some .int) [(0, 8, 11, 17)]) rm rm.cells rm.slots 2 := vx_cwSW 2 hts (gdT m_5_211 m_5_212 m_1_0 m_5_213) rfl rfl rfl (by decide +kernel) hR
theorem m_9_3 : (Cond.code yX15_end cX15_end 2 (some .int)) ∈ lwA := lwA_mk (ck_9 _ (List.mem_of_getElem? (i := 3) rfl)) rfl
theorem m_9_0 : (Cond.methodLink RL 222 yX15_end) ∈ lwA := lwA_mk (ck_9 _ (List.mem_of_getElem? (i := 0) rfl)) rfl
theorem m_9_1 : (Cond.instanceMethod yX15_end) ∈ lwA := lwA_mk (ck_9 _ (List.mem_of_getElem? (i := 1) rfl)) rfl
theorem m_9_2 : (Cond.selects RX15 yX15_end yX15_end) ∈ lwA := lwA_mk (ck_9 _ (List.mem_of_getElem? (i := 2) rfl)) rfl
theorem k_RL_222 {args : Array Value} {s : State} {R rm : Room} (hts : ∀ w ∈ lwA, w.before args s = true) (hR : rm.frames + 1 ≤ R.frames ∧ 8 + (2 + 11) + rm.locals ≤ R.locals) : CallW R s args RL RX15 222 yX15_end cX15_end 2 (some .int) (lwC yX15_end cX15_end 2 (some .int)) rm rm.cells rm.slots 0 := cwV 0 hts (gdV m_9_0 m_9_1 m_9_2 m_1_12 m_9_3) rfl rfl rfl (by decide +kernel) hR
theorem m_2_127 : (Cond.code yX8_state cX8_state 1 (some .char)) ∈ lwA := lwA_mk (ck_2 _ (List.mem_of_getElem? (i := 127) rfl)) rfl
theorem m_2_124 : (Cond.methodLink RL 223 yX8_state) ∈ lwA := lwA_mk (ck_2 _ (List.mem_of_getElem? (i := 124) rfl)) rfl
theorem m_2_125 : (Cond.instanceMethod yX8_state) ∈ lwA := lwA_mk (ck_2 _ (List.mem_of_getElem? (i := 125) rfl)) rfl
theorem m_2_126 : (Cond.selects RX8 yX8_state yX8_state) ∈ lwA := lwA_mk (ck_2 _ (List.mem_of_getElem? (i := 126) rfl)) rfl
theorem k_RL_223 {args : Array Value} {s : State} {R rm : Room} (hts : ∀ w ∈ lwA, w.before args s = true) (hR : rm.frames + 1 ≤ R.frames ∧ 8 + (1 + 11) + rm.locals ≤ R.locals) : CallW R s args RL RX8 223 yX8_state cX8_state 1 (some .char) (lwC yX8_state cX8_state 1 (some .char)) rm rm.cells rm.slots 0 := cwV 0 hts (gdV m_2_124 m_2_125 m_2_126 m_1_1 m_2_127) rfl rfl rfl (by decide +kernel) hR
theorem m_9_7 : (Cond.code yX15_state cX15_state 1 (some .char)) ∈ lwA := lwA_mk (ck_9 _ (List.mem_of_getElem? (i := 7) rfl)) rfl
theorem m_9_4 : (Cond.methodLink RL 226 yX15_state) ∈ lwA := lwA_mk (ck_9 _ (List.mem_of_getElem? (i := 4) rfl)) rfl
theorem m_9_5 : (Cond.instanceMethod yX15_state) ∈ lwA := lwA_mk (ck_9 _ (List.mem_of_getElem? (i := 5) rfl)) rfl
theorem m_9_6 : (Cond.selects RX15 yX15_state yX15_state) ∈ lwA := lwA_mk (ck_9 _ (List.mem_of_getElem? (i := 6) rfl)) rfl
theorem k_RL_226 {args : Array Value} {s : State} {R rm : Room} (hts : ∀ w ∈ lwA, w.before args s = true) (hR : rm.frames + 1 ≤ R.frames ∧ 8 + (1 + 11) + rm.locals ≤ R.locals) : CallW R s args RL RX15 226 yX15_state cX15_state 1 (some .char) (lwC yX15_state cX15_state 1 (some .char)) rm rm.cells rm.slots 0 := cwV 0 hts (gdV m_9_4 m_9_5 m_9_6 m_1_12 m_9_7) rfl rfl rfl (by decide +kernel) hR
theorem m_5_221 : (Cond.codeWith yL_reason cL_reason 3 (some .int) [(0, 8, 11, 36)]) ∈ lwA := lwA_mk (ck_5 _ (List.mem_of_getElem? (i := 221) rfl)) rfl
theorem m_5_219 : (Cond.methodLink RL 227 yL_reason) ∈ lwA := lwA_mk (ck_5 _ (List.mem_of_getElem? (i := 219) rfl)) rfl
theorem m_5_220 : (Cond.static yL_reason) ∈ lwA := lwA_mk (ck_5 _ (List.mem_of_getElem? (i := 220) rfl)) rfl
theorem kW_227 {args : Array Value} {s : State} {R rm : Room} (hts : ∀ w ∈ lwA, w.before args s = true) (hR : rm.frames + 1 ≤ R.frames ∧ 8 + (3 + 11) + rm.locals ≤ R.locals) : vx_CSW R s args RL 227 yL_reason cL_reason 3 (some .int) [(0, 8, 11, 36)] (lwCW yL_reason cL_reason 3 (some .int) [(0, 8, 11, 36)]) rm rm.cells rm.slots 2 := vx_cwSW 2 hts (gdT m_5_219 m_5_220 m_1_0 m_5_221) rfl rfl rfl (by decide +kernel) hR
theorem m_9_11 : (Cond.code yX15_reason cX15_reason 1 (some .char)) ∈ lwA := lwA_mk (ck_9 _ (List.mem_of_getElem? (i := 11) rfl)) rfl
theorem m_9_8 : (Cond.methodLink RL 229 yX15_reason) ∈ lwA := lwA_mk (ck_9 _ (List.mem_of_getElem? (i := 8) rfl)) rfl
theorem m_9_9 : (Cond.instanceMethod yX15_reason) ∈ lwA := lwA_mk (ck_9 _ (List.mem_of_getElem? (i := 9) rfl)) rfl
theorem m_9_10 : (Cond.selects RX15 yX15_reason yX15_reason) ∈ lwA := lwA_mk (ck_9 _ (List.mem_of_getElem? (i := 10) rfl)) rfl
theorem k_RL_229 {args : Array Value} {s : State} {R rm : Room} (hts : ∀ w ∈ lwA, w.before args s = true) (hR : rm.frames + 1 ≤ R.frames ∧ 8 + (1 + 11) + rm.locals ≤ R.locals) : CallW R s args RL RX15 229 yX15_reason cX15_reason 1 (some .char) (lwC yX15_reason cX15_reason 1 (some .char)) rm rm.cells rm.slots 0 := cwV 0 hts (gdV m_9_8 m_9_9 m_9_10 m_1_12 m_9_11) rfl rfl rfl (by decide +kernel) hR
theorem m_5_229 : (Cond.codeWith yL_answerKind cL_answerKind 3 (some .int) [(0, 8, 11, 36)]) ∈ lwA := lwA_mk (ck_5 _ (List.mem_of_getElem? (i := 229) rfl)) rfl
theorem m_5_227 : (Cond.methodLink RL 230 yL_answerKind) ∈ lwA := lwA_mk (ck_5 _ (List.mem_of_getElem? (i := 227) rfl)) rfl
theorem m_5_228 : (Cond.static yL_answerKind) ∈ lwA := lwA_mk (ck_5 _ (List.mem_of_getElem? (i := 228) rfl)) rfl
theorem kW_230 {args : Array Value} {s : State} {R rm : Room} (hts : ∀ w ∈ lwA, w.before args s = true) (hR : rm.frames + 1 ≤ R.frames ∧ 8 + (3 + 11) + rm.locals ≤ R.locals) : vx_CSW R s args RL 230 yL_answerKind cL_answerKind 3 (some .int) [(0, 8, 11, 36)] (lwCW yL_answerKind cL_answerKind 3 (some .int) [(0, 8, 11, 36)]) rm rm.cells rm.slots 2 := vx_cwSW 2 hts (gdT m_5_227 m_5_228 m_1_0 m_5_229) rfl rfl rfl (by decide +kernel) hR
theorem m_9_15 : (Cond.code yX15_answerKind cX15_answerKind 1 (some .char)) ∈ lwA := lwA_mk (ck_9 _ (List.mem_of_getElem? (i := 15) rfl)) rfl
theorem m_9_12 : (Cond.methodLink RL 232 yX15_answerKind) ∈ lwA := lwA_mk (ck_9 _ (List.mem_of_getElem? (i := 12) rfl)) rfl
theorem m_9_13 : (Cond.instanceMethod yX15_answerKind) ∈ lwA := lwA_mk (ck_9 _ (List.mem_of_getElem? (i := 13) rfl)) rfl
theorem m_9_14 : (Cond.selects RX15 yX15_answerKind yX15_answerKind) ∈ lwA := lwA_mk (ck_9 _ (List.mem_of_getElem? (i := 14) rfl)) rfl
theorem k_RL_232 {args : Array Value} {s : State} {R rm : Room} (hts : ∀ w ∈ lwA, w.before args s = true) (hR : rm.frames + 1 ≤ R.frames ∧ 8 + (1 + 11) + rm.locals ≤ R.locals) : CallW R s args RL RX15 232 yX15_answerKind cX15_answerKind 1 (some .char) (lwC yX15_answerKind cX15_answerKind 1 (some .char)) rm rm.cells rm.slots 0 := cwV 0 hts (gdV m_9_12 m_9_13 m_9_14 m_1_12 m_9_15) rfl rfl rfl (by decide +kernel) hR
theorem m_6_1 : (Cond.codeWith yL_answer cL_answer 3 (some .int) [(0, 8, 11, 36)]) ∈ lwA := lwA_mk (ck_6 _ (List.mem_of_getElem? (i := 1) rfl)) rfl
theorem m_5_239 : (Cond.methodLink RL 233 yL_answer) ∈ lwA := lwA_mk (ck_5 _ (List.mem_of_getElem? (i := 239) rfl)) rfl
theorem m_6_0 : (Cond.static yL_answer) ∈ lwA := lwA_mk (ck_6 _ (List.mem_of_getElem? (i := 0) rfl)) rfl
theorem kW_233 {args : Array Value} {s : State} {R rm : Room} (hts : ∀ w ∈ lwA, w.before args s = true) (hR : rm.frames + 1 ≤ R.frames ∧ 8 + (3 + 11) + rm.locals ≤ R.locals) : vx_CSW R s args RL 233 yL_answer cL_answer 3 (some .int) [(0, 8, 11, 36)] (lwCW yL_answer cL_answer 3 (some .int) [(0, 8, 11, 36)]) rm rm.cells rm.slots 2 := vx_cwSW 2 hts (gdT m_5_239 m_6_0 m_1_0 m_6_1) rfl rfl rfl (by decide +kernel) hR
theorem m_9_19 : (Cond.code yX15_answer cX15_answer 1 (some .int)) ∈ lwA := lwA_mk (ck_9 _ (List.mem_of_getElem? (i := 19) rfl)) rfl
theorem m_9_16 : (Cond.methodLink RL 235 yX15_answer) ∈ lwA := lwA_mk (ck_9 _ (List.mem_of_getElem? (i := 16) rfl)) rfl
theorem m_9_17 : (Cond.instanceMethod yX15_answer) ∈ lwA := lwA_mk (ck_9 _ (List.mem_of_getElem? (i := 17) rfl)) rfl
theorem m_9_18 : (Cond.selects RX15 yX15_answer yX15_answer) ∈ lwA := lwA_mk (ck_9 _ (List.mem_of_getElem? (i := 18) rfl)) rfl
theorem k_RL_235 {args : Array Value} {s : State} {R rm : Room} (hts : ∀ w ∈ lwA, w.before args s = true) (hR : rm.frames + 1 ≤ R.frames ∧ 8 + (1 + 11) + rm.locals ≤ R.locals) : CallW R s args RL RX15 235 yX15_answer cX15_answer 1 (some .int) (lwC yX15_answer cX15_answer 1 (some .int)) rm rm.cells rm.slots 0 := cwV 0 hts (gdV m_9_16 m_9_17 m_9_18 m_1_12 m_9_19) rfl rfl rfl (by decide +kernel) hR
theorem m_2_131 : (Cond.code yX8_steps cX8_steps 1 (some .int)) ∈ lwA := lwA_mk (ck_2 _ (List.mem_of_getElem? (i := 131) rfl)) rfl
theorem m_2_128 : (Cond.methodLink RL 236 yX8_steps) ∈ lwA := lwA_mk (ck_2 _ (List.mem_of_getElem? (i := 128) rfl)) rfl
theorem m_2_129 : (Cond.instanceMethod yX8_steps) ∈ lwA := lwA_mk (ck_2 _ (List.mem_of_getElem? (i := 129) rfl)) rfl
theorem m_2_130 : (Cond.selects RX8 yX8_steps yX8_steps) ∈ lwA := lwA_mk (ck_2 _ (List.mem_of_getElem? (i := 130) rfl)) rfl
theorem k_RL_236 {args : Array Value} {s : State} {R rm : Room} (hts : ∀ w ∈ lwA, w.before args s = true) (hR : rm.frames + 1 ≤ R.frames ∧ 8 + (1 + 11) + rm.locals ≤ R.locals) : CallW R s args RL RX8 236 yX8_steps cX8_steps 1 (some .int) (lwC yX8_steps cX8_steps 1 (some .int)) rm rm.cells rm.slots 0 := cwV 0 hts (gdV m_2_128 m_2_129 m_2_130 m_1_1 m_2_131) rfl rfl rfl (by decide +kernel) hR
theorem m_9_23 : (Cond.code yX15_steps cX15_steps 1 (some .int)) ∈ lwA := lwA_mk (ck_9 _ (List.mem_of_getElem? (i := 23) rfl)) rfl
theorem m_9_20 : (Cond.methodLink RL 239 yX15_steps) ∈ lwA := lwA_mk (ck_9 _ (List.mem_of_getElem? (i := 20) rfl)) rfl
theorem m_9_21 : (Cond.instanceMethod yX15_steps) ∈ lwA := lwA_mk (ck_9 _ (List.mem_of_getElem? (i := 21) rfl)) rfl
theorem m_9_22 : (Cond.selects RX15 yX15_steps yX15_steps) ∈ lwA := lwA_mk (ck_9 _ (List.mem_of_getElem? (i := 22) rfl)) rfl
theorem k_RL_239 {args : Array Value} {s : State} {R rm : Room} (hts : ∀ w ∈ lwA, w.before args s = true) (hR : rm.frames + 1 ≤ R.frames ∧ 8 + (1 + 11) + rm.locals ≤ R.locals) : CallW R s args RL RX15 239 yX15_steps cX15_steps 1 (some .int) (lwC yX15_steps cX15_steps 1 (some .int)) rm rm.cells rm.slots 0 := cwV 0 hts (gdV m_9_20 m_9_21 m_9_22 m_1_12 m_9_23) rfl rfl rfl (by decide +kernel) hR
theorem m_2_135 : (Cond.code yX8_frames cX8_frames 1 (some .int)) ∈ lwA := lwA_mk (ck_2 _ (List.mem_of_getElem? (i := 135) rfl)) rfl
theorem m_2_132 : (Cond.methodLink RL 240 yX8_frames) ∈ lwA := lwA_mk (ck_2 _ (List.mem_of_getElem? (i := 132) rfl)) rfl
theorem m_2_133 : (Cond.instanceMethod yX8_frames) ∈ lwA := lwA_mk (ck_2 _ (List.mem_of_getElem? (i := 133) rfl)) rfl
theorem m_2_134 : (Cond.selects RX8 yX8_frames yX8_frames) ∈ lwA := lwA_mk (ck_2 _ (List.mem_of_getElem? (i := 134) rfl)) rfl
theorem k_RL_240 {args : Array Value} {s : State} {R rm : Room} (hts : ∀ w ∈ lwA, w.before args s = true) (hR : rm.frames + 1 ≤ R.frames ∧ 8 + (1 + 11) + rm.locals ≤ R.locals) : CallW R s args RL RX8 240 yX8_frames cX8_frames 1 (some .int) (lwC yX8_frames cX8_frames 1 (some .int)) rm rm.cells rm.slots 0 := cwV 0 hts (gdV m_2_132 m_2_133 m_2_134 m_1_1 m_2_135) rfl rfl rfl (by decide +kernel) hR
theorem m_9_27 : (Cond.code yX15_frames cX15_frames 1 (some .int)) ∈ lwA := lwA_mk (ck_9 _ (List.mem_of_getElem? (i := 27) rfl)) rfl
theorem m_9_24 : (Cond.methodLink RL 243 yX15_frames) ∈ lwA := lwA_mk (ck_9 _ (List.mem_of_getElem? (i := 24) rfl)) rfl
theorem m_9_25 : (Cond.instanceMethod yX15_frames) ∈ lwA := lwA_mk (ck_9 _ (List.mem_of_getElem? (i := 25) rfl)) rfl
theorem m_9_26 : (Cond.selects RX15 yX15_frames yX15_frames) ∈ lwA := lwA_mk (ck_9 _ (List.mem_of_getElem? (i := 26) rfl)) rfl
theorem k_RL_243 {args : Array Value} {s : State} {R rm : Room} (hts : ∀ w ∈ lwA, w.before args s = true) (hR : rm.frames + 1 ≤ R.frames ∧ 8 + (1 + 11) + rm.locals ≤ R.locals) : CallW R s args RL RX15 243 yX15_frames cX15_frames 1 (some .int) (lwC yX15_frames cX15_frames 1 (some .int)) rm rm.cells rm.slots 0 := cwV 0 hts (gdV m_9_24 m_9_25 m_9_26 m_1_12 m_9_27) rfl rfl rfl (by decide +kernel) hR
theorem m_6_8 : (Cond.codeWith yL_frame cL_frame 5 (some .int) [(0, 10, 13, 13), (0, 10, 17, 15)]) ∈ lwA := lwA_mk (ck_6 _ (List.mem_of_getElem? (i := 8) rfl)) rfl
theorem m_6_6 : (Cond.methodLink RL 244 yL_frame) ∈ lwA := lwA_mk (ck_6 _ (List.mem_of_getElem? (i := 6) rfl)) rfl
theorem m_6_7 : (Cond.static yL_frame) ∈ lwA := lwA_mk (ck_6 _ (List.mem_of_getElem? (i := 7) rfl)) rfl
theorem kW_244 {args : Array Value} {s : State} {R rm : Room} (hts : ∀ w ∈ lwA, w.before args s = true) (hR : rm.frames + 1 ≤ R.frames ∧ 8 + (5 + 11) + rm.locals ≤ R.locals) : vx_CSW R s args RL 244 yL_frame cL_frame 5 (some .int) [(0, 10, 13, 13), (0, 10, 17, 15)] (lwCW yL_frame cL_frame 5 (some .int) [(0, 10, 13, 13), (0, 10, 17, 15)]) rm rm.cells rm.slots 4 := vx_cwSW 4 hts (gdT m_6_6 m_6_7 m_1_0 m_6_8) rfl rfl rfl (by decide +kernel) hR
theorem m_9_31 : (Cond.code yX15_frame cX15_frame 4 (some .int)) ∈ lwA := lwA_mk (ck_9 _ (List.mem_of_getElem? (i := 31) rfl)) rfl
theorem m_9_28 : (Cond.methodLink RL 247 yX15_frame) ∈ lwA := lwA_mk (ck_9 _ (List.mem_of_getElem? (i := 28) rfl)) rfl
theorem m_9_29 : (Cond.instanceMethod yX15_frame) ∈ lwA := lwA_mk (ck_9 _ (List.mem_of_getElem? (i := 29) rfl)) rfl
theorem m_9_30 : (Cond.selects RX15 yX15_frame yX15_frame) ∈ lwA := lwA_mk (ck_9 _ (List.mem_of_getElem? (i := 30) rfl)) rfl
theorem k_RL_247 {args : Array Value} {s : State} {R rm : Room} (hts : ∀ w ∈ lwA, w.before args s = true) (hR : rm.frames + 1 ≤ R.frames ∧ 8 + (4 + 11) + rm.locals ≤ R.locals) : CallW R s args RL RX15 247 yX15_frame cX15_frame 4 (some .int) (lwC yX15_frame cX15_frame 4 (some .int)) rm rm.cells rm.slots 2 := cwV 2 hts (gdV m_9_28 m_9_29 m_9_30 m_1_12 m_9_31) rfl rfl rfl (by decide +kernel) hR
theorem m_6_21 : (Cond.codeWith yL_slotKind cL_slotKind 6 (some .int) [(0, 12, 15, 13), (0, 12, 19, 15), (0, 12, 23, 36)]) ∈ lwA := lwA_mk (ck_6 _ (List.mem_of_getElem? (i := 21) rfl)) rfl
theorem m_6_19 : (Cond.methodLink RL 248 yL_slotKind) ∈ lwA := lwA_mk (ck_6 _ (List.mem_of_getElem? (i := 19) rfl)) rfl
theorem m_6_20 : (Cond.static yL_slotKind) ∈ lwA := lwA_mk (ck_6 _ (List.mem_of_getElem? (i := 20) rfl)) rfl
theorem kW_248 {args : Array Value} {s : State} {R rm : Room} (hts : ∀ w ∈ lwA, w.before args s = true) (hR : rm.frames + 1 ≤ R.frames ∧ 8 + (6 + 11) + rm.locals ≤ R.locals) : vx_CSW R s args RL 248 yL_slotKind cL_slotKind 6 (some .int) [(0, 12, 15, 13), (0, 12, 19, 15), (0, 12, 23, 36)] (lwCW yL_slotKind cL_slotKind 6 (some .int) [(0, 12, 15, 13), (0, 12, 19, 15), (0, 12, 23, 36)]) rm rm.cells rm.slots 5 := vx_cwSW 5 hts (gdT m_6_19 m_6_20 m_1_0 m_6_21) rfl rfl rfl (by decide +kernel) hR
theorem m_9_40 : (Cond.code yX15_slotKind cX15_slotKind 5 (some .char)) ∈ lwA := lwA_mk (ck_9 _ (List.mem_of_getElem? (i := 40) rfl)) rfl
theorem m_9_37 : (Cond.methodLink RL 251 yX15_slotKind) ∈ lwA := lwA_mk (ck_9 _ (List.mem_of_getElem? (i := 37) rfl)) rfl
theorem m_9_38 : (Cond.instanceMethod yX15_slotKind) ∈ lwA := lwA_mk (ck_9 _ (List.mem_of_getElem? (i := 38) rfl)) rfl
theorem m_9_39 : (Cond.selects RX15 yX15_slotKind yX15_slotKind) ∈ lwA := lwA_mk (ck_9 _ (List.mem_of_getElem? (i := 39) rfl)) rfl
theorem k_RL_251 {args : Array Value} {s : State} {R rm : Room} (hts : ∀ w ∈ lwA, w.before args s = true) (hR : rm.frames + 1 ≤ R.frames ∧ 8 + (5 + 11) + rm.locals ≤ R.locals) : CallW R s args RL RX15 251 yX15_slotKind cX15_slotKind 5 (some .char) (lwC yX15_slotKind cX15_slotKind 5 (some .char)) rm rm.cells rm.slots 3 := cwV 3 hts (gdV m_9_37 m_9_38 m_9_39 m_1_12 m_9_40) rfl rfl rfl (by decide +kernel) hR
theorem m_6_35 : (Cond.codeWith yL_slot cL_slot 6 (some .int) [(0, 12, 15, 13), (0, 12, 19, 15), (0, 12, 23, 36)]) ∈ lwA := lwA_mk (ck_6 _ (List.mem_of_getElem? (i := 35) rfl)) rfl
theorem m_6_33 : (Cond.methodLink RL 252 yL_slot) ∈ lwA := lwA_mk (ck_6 _ (List.mem_of_getElem? (i := 33) rfl)) rfl
theorem m_6_34 : (Cond.static yL_slot) ∈ lwA := lwA_mk (ck_6 _ (List.mem_of_getElem? (i := 34) rfl)) rfl
theorem kW_252 {args : Array Value} {s : State} {R rm : Room} (hts : ∀ w ∈ lwA, w.before args s = true) (hR : rm.frames + 1 ≤ R.frames ∧ 8 + (6 + 11) + rm.locals ≤ R.locals) : vx_CSW R s args RL 252 yL_slot cL_slot 6 (some .int) [(0, 12, 15, 13), (0, 12, 19, 15), (0, 12, 23, 36)] (lwCW yL_slot cL_slot 6 (some .int) [(0, 12, 15, 13), (0, 12, 19, 15), (0, 12, 23, 36)]) rm rm.cells rm.slots 5 := vx_cwSW 5 hts (gdT m_6_33 m_6_34 m_1_0 m_6_35) rfl rfl rfl (by decide +kernel) hR
theorem m_9_49 : (Cond.code yX15_slot cX15_slot 5 (some .int)) ∈ lwA := lwA_mk (ck_9 _ (List.mem_of_getElem? (i := 49) rfl)) rfl
theorem m_9_46 : (Cond.methodLink RL 254 yX15_slot) ∈ lwA := lwA_mk (ck_9 _ (List.mem_of_getElem? (i := 46) rfl)) rfl
theorem m_9_47 : (Cond.instanceMethod yX15_slot) ∈ lwA := lwA_mk (ck_9 _ (List.mem_of_getElem? (i := 47) rfl)) rfl
theorem m_9_48 : (Cond.selects RX15 yX15_slot yX15_slot) ∈ lwA := lwA_mk (ck_9 _ (List.mem_of_getElem? (i := 48) rfl)) rfl
theorem k_RL_254 {args : Array Value} {s : State} {R rm : Room} (hts : ∀ w ∈ lwA, w.before args s = true) (hR : rm.frames + 1 ≤ R.frames ∧ 8 + (5 + 11) + rm.locals ≤ R.locals) : CallW R s args RL RX15 254 yX15_slot cX15_slot 5 (some .int) (lwC yX15_slot cX15_slot 5 (some .int)) rm rm.cells rm.slots 3 := cwV 3 hts (gdV m_9_46 m_9_47 m_9_48 m_1_12 m_9_49) rfl rfl rfl (by decide +kernel) hR
theorem m_2_139 : (Cond.code yX8_written cX8_written 1 (some .int)) ∈ lwA := lwA_mk (ck_2 _ (List.mem_of_getElem? (i := 139) rfl)) rfl
theorem m_2_136 : (Cond.methodLink RL 255 yX8_written) ∈ lwA := lwA_mk (ck_2 _ (List.mem_of_getElem? (i := 136) rfl)) rfl
theorem m_2_137 : (Cond.instanceMethod yX8_written) ∈ lwA := lwA_mk (ck_2 _ (List.mem_of_getElem? (i := 137) rfl)) rfl
theorem m_2_138 : (Cond.selects RX8 yX8_written yX8_written) ∈ lwA := lwA_mk (ck_2 _ (List.mem_of_getElem? (i := 138) rfl)) rfl
theorem k_RL_255 {args : Array Value} {s : State} {R rm : Room} (hts : ∀ w ∈ lwA, w.before args s = true) (hR : rm.frames + 1 ≤ R.frames ∧ 8 + (1 + 11) + rm.locals ≤ R.locals) : CallW R s args RL RX8 255 yX8_written cX8_written 1 (some .int) (lwC yX8_written cX8_written 1 (some .int)) rm rm.cells rm.slots 0 := cwV 0 hts (gdV m_2_136 m_2_137 m_2_138 m_1_1 m_2_139) rfl rfl rfl (by decide +kernel) hR
theorem m_9_53 : (Cond.code yX15_written cX15_written 1 (some .int)) ∈ lwA := lwA_mk (ck_9 _ (List.mem_of_getElem? (i := 53) rfl)) rfl
theorem m_9_50 : (Cond.methodLink RL 258 yX15_written) ∈ lwA := lwA_mk (ck_9 _ (List.mem_of_getElem? (i := 50) rfl)) rfl
theorem m_9_51 : (Cond.instanceMethod yX15_written) ∈ lwA := lwA_mk (ck_9 _ (List.mem_of_getElem? (i := 51) rfl)) rfl
theorem m_9_52 : (Cond.selects RX15 yX15_written yX15_written) ∈ lwA := lwA_mk (ck_9 _ (List.mem_of_getElem? (i := 52) rfl)) rfl
theorem k_RL_258 {args : Array Value} {s : State} {R rm : Room} (hts : ∀ w ∈ lwA, w.before args s = true) (hR : rm.frames + 1 ≤ R.frames ∧ 8 + (1 + 11) + rm.locals ≤ R.locals) : CallW R s args RL RX15 258 yX15_written cX15_written 1 (some .int) (lwC yX15_written cX15_written 1 (some .int)) rm rm.cells rm.slots 0 := cwV 0 hts (gdV m_9_50 m_9_51 m_9_52 m_1_12 m_9_53) rfl rfl rfl (by decide +kernel) hR
theorem m_6_42 : (Cond.codeWith yL_writtenKind cL_writtenKind 4 (some .int) [(0, 9, 12, 36)]) ∈ lwA := lwA_mk (ck_6 _ (List.mem_of_getElem? (i := 42) rfl)) rfl
theorem m_6_40 : (Cond.methodLink RL 259 yL_writtenKind) ∈ lwA := lwA_mk (ck_6 _ (List.mem_of_getElem? (i := 40) rfl)) rfl
theorem m_6_41 : (Cond.static yL_writtenKind) ∈ lwA := lwA_mk (ck_6 _ (List.mem_of_getElem? (i := 41) rfl)) rfl
theorem kW_259 {args : Array Value} {s : State} {R rm : Room} (hts : ∀ w ∈ lwA, w.before args s = true) (hR : rm.frames + 1 ≤ R.frames ∧ 8 + (4 + 11) + rm.locals ≤ R.locals) : vx_CSW R s args RL 259 yL_writtenKind cL_writtenKind 4 (some .int) [(0, 9, 12, 36)] (lwCW yL_writtenKind cL_writtenKind 4 (some .int) [(0, 9, 12, 36)]) rm rm.cells rm.slots 3 := vx_cwSW 3 hts (gdT m_6_40 m_6_41 m_1_0 m_6_42) rfl rfl rfl (by decide +kernel) hR
theorem m_9_57 : (Cond.code yX15_writtenKind cX15_writtenKind 2 (some .char)) ∈ lwA := lwA_mk (ck_9 _ (List.mem_of_getElem? (i := 57) rfl)) rfl
theorem m_9_54 : (Cond.methodLink RL 261 yX15_writtenKind) ∈ lwA := lwA_mk (ck_9 _ (List.mem_of_getElem? (i := 54) rfl)) rfl
theorem m_9_55 : (Cond.instanceMethod yX15_writtenKind) ∈ lwA := lwA_mk (ck_9 _ (List.mem_of_getElem? (i := 55) rfl)) rfl
theorem m_9_56 : (Cond.selects RX15 yX15_writtenKind yX15_writtenKind) ∈ lwA := lwA_mk (ck_9 _ (List.mem_of_getElem? (i := 56) rfl)) rfl
theorem k_RL_261 {args : Array Value} {s : State} {R rm : Room} (hts : ∀ w ∈ lwA, w.before args s = true) (hR : rm.frames + 1 ≤ R.frames ∧ 8 + (2 + 11) + rm.locals ≤ R.locals) : CallW R s args RL RX15 261 yX15_writtenKind cX15_writtenKind 2 (some .char) (lwC yX15_writtenKind cX15_writtenKind 2 (some .char)) rm rm.cells rm.slots 1 := cwV 1 hts (gdV m_9_54 m_9_55 m_9_56 m_1_12 m_9_57) rfl rfl rfl (by decide +kernel) hR
theorem m_6_59 : (Cond.codeWith yL_writtenValue cL_writtenValue 4 (some .int) [(0, 9, 12, 36)]) ∈ lwA := lwA_mk (ck_6 _ (List.mem_of_getElem? (i := 59) rfl)) rfl
theorem m_6_57 : (Cond.methodLink RL 262 yL_writtenValue) ∈ lwA := lwA_mk (ck_6 _ (List.mem_of_getElem? (i := 57) rfl)) rfl
theorem m_6_58 : (Cond.static yL_writtenValue) ∈ lwA := lwA_mk (ck_6 _ (List.mem_of_getElem? (i := 58) rfl)) rfl
theorem kW_262 {args : Array Value} {s : State} {R rm : Room} (hts : ∀ w ∈ lwA, w.before args s = true) (hR : rm.frames + 1 ≤ R.frames ∧ 8 + (4 + 11) + rm.locals ≤ R.locals) : vx_CSW R s args RL 262 yL_writtenValue cL_writtenValue 4 (some .int) [(0, 9, 12, 36)] (lwCW yL_writtenValue cL_writtenValue 4 (some .int) [(0, 9, 12, 36)]) rm rm.cells rm.slots 3 := vx_cwSW 3 hts (gdT m_6_57 m_6_58 m_1_0 m_6_59) rfl rfl rfl (by decide +kernel) hR
theorem m_9_65 : (Cond.code yX15_writtenValue cX15_writtenValue 2 (some .int)) ∈ lwA := lwA_mk (ck_9 _ (List.mem_of_getElem? (i := 65) rfl)) rfl
theorem m_9_62 : (Cond.methodLink RL 264 yX15_writtenValue) ∈ lwA := lwA_mk (ck_9 _ (List.mem_of_getElem? (i := 62) rfl)) rfl
theorem m_9_63 : (Cond.instanceMethod yX15_writtenValue) ∈ lwA := lwA_mk (ck_9 _ (List.mem_of_getElem? (i := 63) rfl)) rfl
theorem m_9_64 : (Cond.selects RX15 yX15_writtenValue yX15_writtenValue) ∈ lwA := lwA_mk (ck_9 _ (List.mem_of_getElem? (i := 64) rfl)) rfl
theorem k_RL_264 {args : Array Value} {s : State} {R rm : Room} (hts : ∀ w ∈ lwA, w.before args s = true) (hR : rm.frames + 1 ≤ R.frames ∧ 8 + (2 + 11) + rm.locals ≤ R.locals) : CallW R s args RL RX15 264 yX15_writtenValue cX15_writtenValue 2 (some .int) (lwC yX15_writtenValue cX15_writtenValue 2 (some .int)) rm rm.cells rm.slots 1 := cwV 1 hts (gdV m_9_62 m_9_63 m_9_64 m_1_12 m_9_65) rfl rfl rfl (by decide +kernel) hR
theorem m_6_66 : (Cond.codeWith yL_compiledShare cL_compiledShare 3 (some .int) [(0, 8, 11, 123)]) ∈ lwA := lwA_mk (ck_6 _ (List.mem_of_getElem? (i := 66) rfl)) rfl
theorem m_6_64 : (Cond.methodLink RL 265 yL_compiledShare) ∈ lwA := lwA_mk (ck_6 _ (List.mem_of_getElem? (i := 64) rfl)) rfl
theorem m_6_65 : (Cond.static yL_compiledShare) ∈ lwA := lwA_mk (ck_6 _ (List.mem_of_getElem? (i := 65) rfl)) rfl
theorem kW_265 {args : Array Value} {s : State} {R rm : Room} (hts : ∀ w ∈ lwA, w.before args s = true) (hR : rm.frames + 1 ≤ R.frames ∧ 8 + (3 + 11) + rm.locals ≤ R.locals) : vx_CSW R s args RL 265 yL_compiledShare cL_compiledShare 3 (some .int) [(0, 8, 11, 123)] (lwCW yL_compiledShare cL_compiledShare 3 (some .int) [(0, 8, 11, 123)]) rm rm.cells rm.slots 2 := vx_cwSW 2 hts (gdT m_6_64 m_6_65 m_1_0 m_6_66) rfl rfl rfl (by decide +kernel) hR
theorem m_9_69 : (Cond.code yX15_compiledShare cX15_compiledShare 1 (some .float)) ∈ lwA := lwA_mk (ck_9 _ (List.mem_of_getElem? (i := 69) rfl)) rfl
theorem m_9_66 : (Cond.methodLink RL 268 yX15_compiledShare) ∈ lwA := lwA_mk (ck_9 _ (List.mem_of_getElem? (i := 66) rfl)) rfl
theorem m_9_67 : (Cond.instanceMethod yX15_compiledShare) ∈ lwA := lwA_mk (ck_9 _ (List.mem_of_getElem? (i := 67) rfl)) rfl
theorem m_9_68 : (Cond.selects RX15 yX15_compiledShare yX15_compiledShare) ∈ lwA := lwA_mk (ck_9 _ (List.mem_of_getElem? (i := 68) rfl)) rfl
theorem k_RL_268 {args : Array Value} {s : State} {R rm : Room} (hts : ∀ w ∈ lwA, w.before args s = true) (hR : rm.frames + 1 ≤ R.frames ∧ 8 + (1 + 11) + rm.locals ≤ R.locals) : CallW R s args RL RX15 268 yX15_compiledShare cX15_compiledShare 1 (some .float) (lwC yX15_compiledShare cX15_compiledShare 1 (some .float)) rm rm.cells rm.slots 0 := cwV 0 hts (gdV m_9_66 m_9_67 m_9_68 m_1_12 m_9_69) rfl rfl rfl (by decide +kernel) hR
theorem m_6_94 : (Cond.codeWith yL_meanCalls cL_meanCalls 3 (some .int) [(0, 7, 10, 123)]) ∈ lwA := lwA_mk (ck_6 _ (List.mem_of_getElem? (i := 94) rfl)) rfl
theorem m_6_92 : (Cond.methodLink RL 269 yL_meanCalls) ∈ lwA := lwA_mk (ck_6 _ (List.mem_of_getElem? (i := 92) rfl)) rfl
theorem m_6_93 : (Cond.static yL_meanCalls) ∈ lwA := lwA_mk (ck_6 _ (List.mem_of_getElem? (i := 93) rfl)) rfl
theorem kW_269 {args : Array Value} {s : State} {R rm : Room} (hts : ∀ w ∈ lwA, w.before args s = true) (hR : rm.frames + 1 ≤ R.frames ∧ 8 + (3 + 11) + rm.locals ≤ R.locals) : vx_CSW R s args RL 269 yL_meanCalls cL_meanCalls 3 (some .int) [(0, 7, 10, 123)] (lwCW yL_meanCalls cL_meanCalls 3 (some .int) [(0, 7, 10, 123)]) rm rm.cells rm.slots 2 := vx_cwSW 2 hts (gdT m_6_92 m_6_93 m_1_0 m_6_94) rfl rfl rfl (by decide +kernel) hR
theorem m_9_73 : (Cond.code yX15_meanCalls cX15_meanCalls 8 (some .double)) ∈ lwA := lwA_mk (ck_9 _ (List.mem_of_getElem? (i := 73) rfl)) rfl
theorem m_9_70 : (Cond.methodLink RL 271 yX15_meanCalls) ∈ lwA := lwA_mk (ck_9 _ (List.mem_of_getElem? (i := 70) rfl)) rfl
theorem m_9_71 : (Cond.instanceMethod yX15_meanCalls) ∈ lwA := lwA_mk (ck_9 _ (List.mem_of_getElem? (i := 71) rfl)) rfl
theorem m_9_72 : (Cond.selects RX15 yX15_meanCalls yX15_meanCalls) ∈ lwA := lwA_mk (ck_9 _ (List.mem_of_getElem? (i := 72) rfl)) rfl
theorem k_RL_271 {args : Array Value} {s : State} {R rm : Room} (hts : ∀ w ∈ lwA, w.before args s = true) (hR : rm.frames + 1 ≤ R.frames ∧ 8 + (8 + 11) + rm.locals ≤ R.locals) : CallW R s args RL RX15 271 yX15_meanCalls cX15_meanCalls 8 (some .double) (lwC yX15_meanCalls cX15_meanCalls 8 (some .double)) rm rm.cells rm.slots 0 := cwV 0 hts (gdV m_9_70 m_9_71 m_9_72 m_1_12 m_9_73) rfl rfl rfl (by decide +kernel) hR
theorem m_2_143 : (Cond.code yX8_checksum cX8_checksum 8 (some .long)) ∈ lwA := lwA_mk (ck_2 _ (List.mem_of_getElem? (i := 143) rfl)) rfl
theorem m_2_140 : (Cond.methodLink RL 272 yX8_checksum) ∈ lwA := lwA_mk (ck_2 _ (List.mem_of_getElem? (i := 140) rfl)) rfl
theorem m_2_141 : (Cond.instanceMethod yX8_checksum) ∈ lwA := lwA_mk (ck_2 _ (List.mem_of_getElem? (i := 141) rfl)) rfl
theorem m_2_142 : (Cond.selects RX8 yX8_checksum yX8_checksum) ∈ lwA := lwA_mk (ck_2 _ (List.mem_of_getElem? (i := 142) rfl)) rfl
theorem k_RL_272 {args : Array Value} {s : State} {R rm : Room} (hts : ∀ w ∈ lwA, w.before args s = true) (hR : rm.frames + 1 ≤ R.frames ∧ 8 + (8 + 11) + rm.locals ≤ R.locals) : CallW R s args RL RX8 272 yX8_checksum cX8_checksum 8 (some .long) (lwC yX8_checksum cX8_checksum 8 (some .long)) rm rm.cells rm.slots 0 := cwV 0 hts (gdV m_2_140 m_2_141 m_2_142 m_1_1 m_2_143) rfl rfl rfl (by decide +kernel) hR
theorem m_9_77 : (Cond.code yX15_checksum cX15_checksum 9 (some .long)) ∈ lwA := lwA_mk (ck_9 _ (List.mem_of_getElem? (i := 77) rfl)) rfl
theorem m_9_74 : (Cond.methodLink RL 276 yX15_checksum) ∈ lwA := lwA_mk (ck_9 _ (List.mem_of_getElem? (i := 74) rfl)) rfl
theorem m_9_75 : (Cond.instanceMethod yX15_checksum) ∈ lwA := lwA_mk (ck_9 _ (List.mem_of_getElem? (i := 75) rfl)) rfl
theorem m_9_76 : (Cond.selects RX15 yX15_checksum yX15_checksum) ∈ lwA := lwA_mk (ck_9 _ (List.mem_of_getElem? (i := 76) rfl)) rfl
theorem k_RL_276 {args : Array Value} {s : State} {R rm : Room} (hts : ∀ w ∈ lwA, w.before args s = true) (hR : rm.frames + 1 ≤ R.frames ∧ 8 + (9 + 11) + rm.locals ≤ R.locals) : CallW R s args RL RX15 276 yX15_checksum cX15_checksum 9 (some .long) (lwC yX15_checksum cX15_checksum 9 (some .long)) rm rm.cells rm.slots 0 := cwV 0 hts (gdV m_9_74 m_9_75 m_9_76 m_1_12 m_9_77) rfl rfl rfl (by decide +kernel) hR
theorem m_2_175 : (Cond.code yX8_isSound cX8_isSound 1 (some .boolean)) ∈ lwA := lwA_mk (ck_2 _ (List.mem_of_getElem? (i := 175) rfl)) rfl
theorem m_2_172 : (Cond.methodLink RL 277 yX8_isSound) ∈ lwA := lwA_mk (ck_2 _ (List.mem_of_getElem? (i := 172) rfl)) rfl
theorem m_2_173 : (Cond.instanceMethod yX8_isSound) ∈ lwA := lwA_mk (ck_2 _ (List.mem_of_getElem? (i := 173) rfl)) rfl
theorem m_2_174 : (Cond.selects RX8 yX8_isSound yX8_isSound) ∈ lwA := lwA_mk (ck_2 _ (List.mem_of_getElem? (i := 174) rfl)) rfl
theorem k_RL_277 {args : Array Value} {s : State} {R rm : Room} (hts : ∀ w ∈ lwA, w.before args s = true) (hR : rm.frames + 1 ≤ R.frames ∧ 8 + (1 + 11) + rm.locals ≤ R.locals) : CallW R s args RL RX8 277 yX8_isSound cX8_isSound 1 (some .boolean) (lwC yX8_isSound cX8_isSound 1 (some .boolean)) rm rm.cells rm.slots 0 := cwV 0 hts (gdV m_2_172 m_2_173 m_2_174 m_1_1 m_2_175) rfl rfl rfl (by decide +kernel) hR
theorem m_9_86 : (Cond.code yX15_isSound cX15_isSound 8 (some .boolean)) ∈ lwA := lwA_mk (ck_9 _ (List.mem_of_getElem? (i := 86) rfl)) rfl
theorem m_9_83 : (Cond.methodLink RL 281 yX15_isSound) ∈ lwA := lwA_mk (ck_9 _ (List.mem_of_getElem? (i := 83) rfl)) rfl
theorem m_9_84 : (Cond.instanceMethod yX15_isSound) ∈ lwA := lwA_mk (ck_9 _ (List.mem_of_getElem? (i := 84) rfl)) rfl
theorem m_9_85 : (Cond.selects RX15 yX15_isSound yX15_isSound) ∈ lwA := lwA_mk (ck_9 _ (List.mem_of_getElem? (i := 85) rfl)) rfl
theorem k_RL_281 {args : Array Value} {s : State} {R rm : Room} (hts : ∀ w ∈ lwA, w.before args s = true) (hR : rm.frames + 1 ≤ R.frames ∧ 8 + (8 + 11) + rm.locals ≤ R.locals) : CallW R s args RL RX15 281 yX15_isSound cX15_isSound 8 (some .boolean) (lwC yX15_isSound cX15_isSound 8 (some .boolean)) rm rm.cells rm.slots 0 := cwV 0 hts (gdV m_9_83 m_9_84 m_9_85 m_1_12 m_9_86) rfl rfl rfl (by decide +kernel) hR
end SITES
section LAWA
variable {p : Program} {l : Launch} {e : Env} {s : State} {m : MethodId} {below : List Frame} {meth : Method} {c : Code} {b L : Nat} {xs : Nat → Int32} {D : va_G} {ar : Nat → ClassId} {κ : Nat → Nat} {H : Heap} {locs : List Loc} {G : gW} {nz x q1 y q2 out outD : Nat} {ls : Array Slot}
theorem FM_mono {y q : Nat} {t : Int32} {G1 : gW} (h : FM ar κ G y q t) (e : ∀ a c, y ≤ a → a ≤ q + 13 → G a = some c → G1 a = some c) : FM ar κ G1 y q t := by
  obtain ⟨hyq, m0, m1, m2, m3, m4, m5, m6, m7, m8, m9, m10, m11, m12, m13, m14⟩ := h
  exact ⟨hyq, e _ _ (by omega) (by omega) m0, e _ _ (by omega) (by omega) m1, e _ _ (by omega) (by omega) m2, e _ _ (by omega) (by omega) m3, e _ _ (by omega) (by omega) m4, e _ _ (by omega) (by omega) m5, e _ _ (by omega) (by omega) m6, e _ _ (by omega) (by omega) m7, e _ _ (by omega) (by omega) m8, e _ _ (by omega) (by omega) m9, e _ _ (by omega) (by omega) m10, e _ _ (by omega) (by omega) m11, e _ _ (by omega) (by omega) m12, e _ _ (by omega) (by omega) m13, e _ _ (by omega) (by omega) m14⟩
/-- the law's own frame: the cells it made, in their order -/
def LWs (ar : Nat → ClassId) (κ : Nat → Nat) (G : gW) (x q1 y q2 out outD : Nat) : Prop := FH ar κ G x q1 ∧ FM ar κ G y q2 0 ∧ G out = some (.inl (ar 1, 1, .inr (.inl (fun _ => 0)))) ∧ G outD = some (.inl (ar 5, 1, .inr (.inr (.inr (.inl (fun _ => 0)))))) ∧ q1 + 136 < y ∧ q2 + 13 < out ∧ out < outD
theorem lw_end {pc cells slots : Nat} (S : CallFix p m c cL_law 9 s #[.ref b] lwA RL) (hr : meth.sig.returnType = ret) (hlk : meth.locks = false) (w : g_S D vwCl (fun q => s.heap.size ≤ q) s.heap G H locs nz) (hc : cells ≤ 600006) (hs : slots ≤ 7302056) (hdg : decode cL_law pc = .ok (.ireturn, 1)) : W p l e room_1 s m #[Value.ref b] below meth c H locs cells slots (lw_Z below #[Value.ref b] s) (F0 m pc ls [.int 1]) :=
  va_forget (fun q hq => w.2.2.1.2.2 q hq) (W.widen hc hs (W.base (lw_ret (Drawn.sameBut.refl s.drawn lw_cs) S.1 S.2.1 hr hlk hdg)))
theorem g_runSW {R : Room} {args : Array Value} {A : Nat → Prop} {cells slots mc ms n index pc nL maxL : Nat} {yy : MethodName} {bytes cc : ByteArray} {ret : Option FieldType} {hh : List (Nat × Nat × Nat × Nat)} {ws : List Cond} {rm : Room} {Qc : Array Value → State → Outcome → State → Prop} {free : Addr → Prop} {own : String} {As rest st0 : List Value} {lv : List (Nat × Value)} (S : CallFix p m c cc nL s args lwA own) (hE : g_E D vwCl (gT ar) (EX1 κ) A s s.heap) (w : g_S D vwCl A s.heap G H locs nz) (hl : lv_has ls nL lv) (hM : Met l yy ws rm (g_Pc D vwCl (gT ar) (EX1 κ) G nz As) Qc mc ms free) (cw : vx_CSW R s args own index yy bytes maxL ret hh ws rm mc ms n)
    (hn : As.length = n) (hst : st0 = As.reverse ++ rest) (hW : (rest.map fun v => v.category).sum ≤ 8) (hdg : decode cc pc = .ok (.invokestatic index, 3)) (hf : cells + mc ≤ R.cells ∧ slots + ms ≤ R.slots) :
    va_Run p l e R s m args below meth c H locs cells slots mc ms (F0 m pc ls st0) rest (Qc As.toArray) free :=
  vx_runSW S hM cw (g_preS (EX1_cl κ) w hE) rfl hn hl.1 hst (lv_room hW) hdg hf
end LAWA
