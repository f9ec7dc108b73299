/-! texts: those that are made, and those that stand in the law -/
section TXT
variable {p : Program} {l : Launch} {e : Env} {R : Room} {s : State} {m : MethodId} {args : Array Value} {below : List Frame} {meth : Method} {c : Code} {H : Heap} {locs : List Loc} {cells slots mc ms : Nat} {Q : State → Prop}
variable {cc : ByteArray} {pc : Nat} {ls : Array Slot} {rest st0 : List Value} {D : va_G} {A : Nat → Prop} {a b nz : Nat} {G G1 : gW} {ar : Nat → ClassId} {κ : Nat → Nat} {v : Nat} {bs : List Int32}
/-- letters that a byte holds -/
def Asc (bs : List Int32) : Prop := ∀ b ∈ bs, ∃ c : Nat, c < 128 ∧ b = nI c
theorem Asc.at (h : Asc bs) {j : Nat} (hj : j < bs.length) : ∃ c : Nat, c < 128 ∧ bs.getD j 0 = nI c := by
  rw [List.getD_eq_getElem?_getD, List.getElem?_eq_getElem hj]
  exact h _ (List.getElem_mem hj)
theorem fits_asc : ∀ c, c < 128 → fits .byte (.int (nI c)) = true ∧ (nI c).toInt8.toInt32 = nI c ∧ vp_nar .byte (nI c) = nI c ∧ (nI c &&& 255) = nI c ∧ (nI c).toUInt32 % 65536 = (nI c).toUInt32 ∧ narrow .char (.int (nI c)) = .int (nI c) := by decide +kernel
theorem Asc.fit (h : Asc bs) {j : Nat} (hj : j < bs.length) : fits .byte (.int (bs.getD j 0)) = true := by
  obtain ⟨c, hc, e⟩ := h.at hj
  rw [e]; exact (fits_asc c hc).1
abbrev tyF (bs : List Int32) : Nat → Int32 := fun j => bs.getD j 0
/-- the bytes of a text -/
def TV (ar : Nat → ClassId) (κ : Nat → Nat) (G : gW) (v : Nat) (bs : List Int32) : Prop := G v = some (.inl (ar 4, bs.length, .inl (tyF bs))) ∨ ∃ q ∈ lwT, v = κ (q.2.2.2.1 + 1) ∧ bs = q.2.2.2.2
/-- a text -/
def TX (ar : Nat → ClassId) (κ : Nat → Nat) (G : gW) (a v : Nat) (bs : List Int32) : Prop := ((∃ h z : Int32, G a = some (.inr (0, [.ref v, .int 0, .int h, .int z]))) ∧ G v = some (.inl (ar 4, bs.length, .inl (tyF bs)))) ∨ ∃ q ∈ lwT, a = κ q.2.2.2.1 ∧ v = κ (q.2.2.2.1 + 1) ∧ bs = q.2.2.2.2
theorem tx_v (h : TX ar κ G a v bs) : TV ar κ G v bs := by
  rcases h with ⟨-, h⟩ | ⟨q, h1, -, h2, h3⟩
  · exact Or.inl h
  · exact Or.inr ⟨q, h1, h2, h3⟩
/-- a world more than another -/
def gLe (G G1 : gW) : Prop := ∀ q e9, G q = some e9 → G1 q = some e9
theorem gLe.r : gLe G G := fun _ _ h => h
theorem gLe.t {G2 : gW} (h : gLe G G1) (h2 : gLe G1 G2) : gLe G G2 := fun q e9 z => h2 q e9 (h q e9 z)
theorem gLe.up {e9 : va_E} (h : gLe G G1) (h0 : G a = none) : gLe G (g_up G1 a e9) := fun q e8 z => g_up_o (fun y => by rw [y, h0] at z; cases z) (h q e8 z)
theorem TV.le (h : TV ar κ G v bs) (q : gLe G G1) : TV ar κ G1 v bs := h.imp (fun z => q _ _ z) id
theorem TX.le (h : TX ar κ G a v bs) (q : gLe G G1) : TX ar κ G1 a v bs := h.imp (fun z => ⟨z.1.elim fun h1 z => z.elim fun z1 z => ⟨h1, z1, q _ _ z⟩, q _ _ z.2⟩) id
theorem TX.lit {q : String × Nat × String × Nat × List Int32} (h : q ∈ lwT) : TX ar κ G (κ q.2.2.2.1) (κ (q.2.2.2.1 + 1)) q.2.2.2.2 := Or.inr ⟨q, h, rfl, rfl, rfl⟩
theorem lwT_len : ∀ q ∈ lwT, q.2.2.2.2.length < 100 := by decide +kernel
theorem lwT_asc0 : ∀ q ∈ lwT, ∀ b ∈ q.2.2.2.2, 0 ≤ b.toInt ∧ b.toInt < 128 := by decide +kernel
theorem asc_of {b : Int32} (h : 0 ≤ b.toInt ∧ b.toInt < 128) : ∃ c : Nat, c < 128 ∧ b = nI c := by
  refine ⟨b.toInt.toNat, by omega, ?_⟩
  apply Int32.toInt_inj.mp
  rw [nI_toInt (by omega)]
  omega
theorem lwT_asc {q : String × Nat × String × Nat × List Int32} (h : q ∈ lwT) : Asc q.2.2.2.2 := fun b hb => asc_of (lwT_asc0 q h b hb)
theorem tv_len (hx : p.tables.exec = Jvm.exec) (hb : c.code = cc) (hE : g_E D vwCl (gT ar) (EX1 κ) A s s.heap) (w : g_S D vwCl A s.heap G H locs nz) (h : TV ar κ G v bs) (hdg : decode cc pc = .ok (.arraylength, 1))
    (kk : W p l e R s m args below meth c H locs cells slots Q (F0 m (pc + 1) ls (.int (nI bs.length) :: rest))) : W p l e R s m args below meth c H locs cells slots Q (F0 m pc ls (.ref v :: rest)) := by
  rcases h with h | ⟨q, hq, rfl, rfl⟩
  · exact va_alen (v := nI bs.length) hx hb hE.1 (g_1 w.1 h) 0 4 rfl rfl rfl hdg kk
  · exact va_tlen (v := nI q.2.2.2.2.length) hx hb ((hE.2.2.2.2.2.2.1 q hq).2.1 0 (by decide)).2.2.2 w.2.2.1 rfl hdg kk
theorem tv_ald (hx : p.tables.exec = Jvm.exec) (hb : c.code = cc) (hE : g_E D vwCl (gT ar) (EX1 κ) A s s.heap) (w : g_S D vwCl A s.heap G H locs nz) (h : TV ar κ G v bs) {i : Int32} {j : Nat} (hi : i = nI j) (hj : j < bs.length) (hL : bs.length < 2 ^ 31) (hdg : decode cc pc = .ok (.baload, 1))
    (kk : W p l e R s m args below meth c H locs cells slots Q (F0 m (pc + 1) ls (.int (bs.getD j 0) :: rest))) : W p l e R s m args below meth c H locs cells slots Q (F0 m pc ls (.int i :: .ref v :: rest)) := by
  subst hi
  have hc : (nI j).toNatClampNeg = j := nI_clamp (by omega)
  rcases h with h | ⟨q, hq, rfl, rfl⟩
  · refine va_bald hx hb hE.1 (g_1 w.1 h) 0 4 rfl rfl (vp_in_nI hj hL) hdg ?_
    rw [hc]; exact kk
  · exact va_tb (v := .int (q.2.2.2.2.getD j 0)) hx hb ((hE.2.2.2.2.2.2.1 q hq).2.1 0 (by decide)).2.2.2 w.2.2.1 (vp_in_nI hj hL) (by rw [hc]; rfl) hdg kk
/-- fields of a text -/
theorem tx_val {own : String} {index nL : Nat} (S : CallFix p m c cc nL s args lwA own) (hE : g_E D vwCl (gT ar) (EX1 κ) A s s.heap) (w : g_S D vwCl A s.heap G H locs nz) (h : TX ar κ G a v bs) (hlink : (Cond.fieldLink own index "java/lang/String" "value" "[B").before args s = true)
    (hg : ∀ {fs : List Value}, G a = some (.inr (0, fs)) → fs[0]? = some (.ref v) → W p l e R s m args below meth c H locs cells slots Q (F0 m pc ls (.ref a :: rest))) (hdg : decode cc pc = .ok (.getfield index, 3))
    (kk : W p l e R s m args below meth c H locs cells slots Q (F0 m (pc + 3) ls (.ref v :: rest))) : W p l e R s m args below meth c H locs cells slots Q (F0 m pc ls (.ref a :: rest)) := by
  rcases h with ⟨⟨h1, z1, h⟩, -⟩ | ⟨q, hq, rfl, rfl, rfl⟩
  · exact hg h rfl
  · exact vk_getf S.1 S.2.1 ((hE.2.2.2.2.2.2.1 q hq).2.1 0 (by decide)).2.2.1 w.2.2.1 S.2.2.2.1 hlink (fun _ h => h) hdg kk
theorem tx_cod {own : String} {index nL : Nat} (S : CallFix p m c cc nL s args lwA own) (hE : g_E D vwCl (gT ar) (EX1 κ) A s s.heap) (w : g_S D vwCl A s.heap G H locs nz) (h : TX ar κ G a v bs) (hlink : (Cond.fieldLink own index "java/lang/String" "coder" "B").before args s = true)
    (hg : ∀ {fs : List Value}, G a = some (.inr (0, fs)) → fs[1]? = some (.int 0) → W p l e R s m args below meth c H locs cells slots Q (F0 m pc ls (.ref a :: rest))) (hdg : decode cc pc = .ok (.getfield index, 3))
    (kk : W p l e R s m args below meth c H locs cells slots Q (F0 m (pc + 3) ls (.int 0 :: rest))) : W p l e R s m args below meth c H locs cells slots Q (F0 m pc ls (.ref a :: rest)) := by
  rcases h with ⟨⟨h1, z1, h⟩, -⟩ | ⟨q, hq, rfl, rfl, rfl⟩
  · exact hg h rfl
  · exact vk_getf S.1 S.2.1 ((hE.2.2.2.2.2.2.1 q hq).2.1 0 (by decide)).2.1 w.2.2.1 S.2.2.2.1 hlink (fun _ h => h) hdg kk
theorem tx_recv (hE : g_E D vwCl (gT ar) (EX1 κ) A s s.heap) (w : g_S D vwCl A s.heap G H locs nz) (h : TX ar κ G a v bs) : ∃ cell : Cell, H[a]? = some cell ∧ cell.vm.isStatics = false ∧ s.vm.findClass "java/lang/String" = some cell.cls := by
  rcases h with ⟨⟨h1, z1, h⟩, -⟩ | ⟨q, hq, rfl, rfl, rfl⟩
  · exact va_recv (ci := 0) hE.1 (g_1 w.1 h) rfl (q0 := 0) rfl
  · exact vk_recv (hE.2.2.2.2.2.2.1 q hq).2 (i := 0) (by decide) w.2.2.1
/-- a call on an object outside, by its class -/
theorem g_runO {y : MethodName} {bytes : ByteArray} {maxL nL n index : Nat} {ret : Option FieldType} {rm : Room} {Qc : Array Value → State → Outcome → State → Prop} {free : Addr → Prop} {own C : String} {As : List Value} {lv : List (Nat × Value)} (S : CallFix p m c cc nL s args lwA own) (hE : g_E D vwCl (gT ar) (EX1 κ) A s s.heap) (w : g_S D vwCl A s.heap G H locs nz) (hl : lv_has ls nL lv) (hM : Met l y (lwC y bytes maxL ret) rm (g_Pc D vwCl (gT ar) (EX1 κ) G nz (.ref b :: As)) Qc mc ms free) (cw : CallW R s args own C index y bytes maxL ret (lwC y bytes maxL ret) rm mc ms n)
    (hr : ∃ cell : Cell, H[b]? = some cell ∧ cell.vm.isStatics = false ∧ s.vm.findClass C = some cell.cls) (hn : As.length = n) (hst : st0 = As.reverse ++ .ref b :: rest) (hW : (rest.map fun v => v.category).sum ≤ 8) (hdg : decode cc pc = .ok (.invokevirtual index, 3)) (hf : cells + mc ≤ R.cells ∧ slots + ms ≤ R.slots) :
    va_Run p l e R s m args below meth c H locs cells slots mc ms (F0 m pc ls st0) rest (Qc (Value.ref b :: As).toArray) free :=
  va_runV S hM cw ⟨g_blind (EX1_cl κ), hr, (g_preS (EX1_cl κ) w hE).2⟩ rfl hn hl.1 hst (lv_room hW) hdg hf
theorem g_runT {y : MethodName} {bytes : ByteArray} {maxL nL n index : Nat} {ret : Option FieldType} {rm : Room} {Qc : Array Value → State → Outcome → State → Prop} {free : Addr → Prop} {own : String} {As : List Value} {lv : List (Nat × Value)} (S : CallFix p m c cc nL s args lwA own) (hE : g_E D vwCl (gT ar) (EX1 κ) A s s.heap) (w : g_S D vwCl A s.heap G H locs nz) (hl : lv_has ls nL lv) (hM : Met l y (lwC y bytes maxL ret) rm (g_Pc D vwCl (gT ar) (EX1 κ) G nz (.ref a :: As)) Qc mc ms free) (cw : CallW R s args own RJ0 index y bytes maxL ret (lwC y bytes maxL ret) rm mc ms n)
    (h : TX ar κ G a v bs) (hn : As.length = n) (hst : st0 = As.reverse ++ .ref a :: rest) (hW : (rest.map fun v => v.category).sum ≤ 8) (hdg : decode cc pc = .ok (.invokevirtual index, 3)) (hf : cells + mc ≤ R.cells ∧ slots + ms ≤ R.slots) :
    va_Run p l e R s m args below meth c H locs cells slots mc ms (F0 m pc ls st0) rest (Qc (Value.ref a :: As).toArray) free :=
  g_runO S hE w hl hM cw (tx_recv hE w h) hn hst hW hdg hf
/-- a byte stored -/
theorem g_bast (hexec : p.tables.exec = Jvm.exec) (hb : c.code = cc) {cl : List vw_C} {tys : List (ClassId × FieldType)} {H0 : Heap} (hK : va_K D cl tys s) (w : g_S D cl A H0 G H locs nz) (t0 : Nat) {cA : ClassId} {n : Nat} {f : Nat → Int32} (ha : G a = some (.inl (cA, n, .inl f))) (ht : tys[t0]? = some (cA, .byte)) {i : Int32} {x : Int32} (hin : vp_in i n) (hdg : decode cc pc = .ok (.bastore, 1))
    (kk : ∀ (H1 : Heap) (locs1 : List Loc), g_S D cl A H0 (g_up G a (.inl (cA, n, .inl (upd f i.toNatClampNeg (vp_nar .byte x))))) H1 locs1 nz → W p l e R s m args below meth c H1 locs1 cells slots Q (F0 m (pc + 1) ls rest)) : W p l e R s m args below meth c H locs cells slots Q (F0 m pc ls (.int x :: .int i :: .ref a :: rest)) := by
  refine W.bast hexec hb (w.1 a _ ha) ((hK.2 t0 _ ht).1 n (fun j => .int (f j))) (fun q => by cases q) (by show ¬ (i < 0 ∨ (arrV _ _ _).slots.size ≤ _); rw [arrV_size]; exact hin) rfl rfl hdg fun H1 e z oq => ?_
  refine kk H1 _ (g_set w ha ?_ z oq)
  show H1[a]? = some (vp_cell _ _)
  rw [e]
  rw [vp_cell_i, vp_cell_i, arrV_store]
  congr 2
  funext q
  by_cases hq : q = i.toNatClampNeg
  · subst hq
    simp [updV, upd, vp_nar]
    try rfl
  · simp [updV, upd, hq]
theorem nn_clamp {z : Int32} (hz : ¬ z < 0) : z.toInt = (z.toNatClampNeg : Int) := by
  have hz0 : (0 : Int) ≤ z.toInt := by
    have := Int32.not_lt.mp hz
    simpa using Int32.le_iff_toInt_le.mp this
  show z.toInt = ((z.toInt.toNat : Nat) : Int)
  omega
/-- something that one may copy from -/
def SrcC (s : State) (H : Heap) (ty : FieldType) (a0 n0 : Nat) (f : Nat → Value) : Prop := ∃ scr : Cell, H[a0]? = some scr ∧ s.isArrayOf scr ty ∧ scr.vm ≠ .unknown ∧ n0 ≤ scr.slots.size ∧ ∀ j, j < n0 → scr.slots[j]? = some (f j)
theorem tv_src (hE : g_E D vwCl (gT ar) (EX1 κ) A s s.heap) (w : g_S D vwCl A s.heap G H locs nz) (h : TV ar κ G v bs) : SrcC s H .byte v bs.length (fun j => .int (tyF bs j)) := by
  rcases h with h | ⟨q, hq, rfl, rfl⟩
  · have hc0 : H[v]? = some (arrV (ar 4) bs.length (fun j => .int (tyF bs j))) := w.1 v _ h
    refine ⟨_, hc0, (hE.1.2 4 (ar 4, .byte) rfl).1 _ _, (fun q => by cases q), (by rw [arrV_size]; exact Nat.le_refl _), fun j hj => ?_⟩
    rw [arrV_read _ _ hj]
  · obtain ⟨scr, hs1, hs2, hs3, hs4, -, hs5, hs7⟩ := ((hE.2.2.2.2.2.2.1 q hq).2.1 0 (by decide)).2.2.2
    exact ⟨scr, by rw [w.2.2.1.2.1 _ (Array.getElem?_eq_some_iff.mp hs1).1 hs7]; exact hs1, hs2, hs3, hs4, hs5⟩
theorem g_srcI {cA : ClassId} {n : Nat} {f : Nat → Int32} {ty : FieldType} {t0 : Nat} (hE : g_E D vwCl (gT ar) (EX1 κ) A s s.heap) (w : g_S D vwCl A s.heap G H locs nz) (ha : G a = some (.inl (cA, n, .inl f))) (ht : (gT ar)[t0]? = some (cA, ty)) : SrcC s H ty a n (fun j => .int (f j)) := by
  have hc0 : H[a]? = some (arrV cA n (fun j => .int (f j))) := w.1 a _ ha
  refine ⟨_, hc0, (hE.1.2 t0 _ ht).1 _ _, (fun q => by cases q), (by rw [arrV_size]; exact Nat.le_refl _), fun j hj => ?_⟩
  rw [arrV_read _ _ hj]
theorem g_srcQ {cA : ClassId} {n : Nat} {f : Nat → Option Nat} {ty : FieldType} {t0 : Nat} (hE : g_E D vwCl (gT ar) (EX1 κ) A s s.heap) (w : g_S D vwCl A s.heap G H locs nz) (ha : G a = some (.inl (cA, n, .inr (.inr (.inr (.inr f)))))) (ht : (gT ar)[t0]? = some (cA, ty)) : SrcC s H ty a n (fun j => va_rf (f j)) := by
  have hc0 : H[a]? = some (arrV cA n (fun j => va_rf (f j))) := w.1 a _ ha
  refine ⟨_, hc0, (hE.1.2 t0 _ ht).1 _ _, (fun q => by cases q), (by rw [arrV_size]; exact Nat.le_refl _), fun j hj => ?_⟩
  rw [arrV_read _ _ hj]
theorem g_srcE {E0 : String} {a0 : Nat} {fv : Nat → Value} (w : g_S D vwCl A s.heap G H locs nz) (hX : va_T (.object E0) a0 0 fv A s s.heap) : SrcC s H (.object E0) a0 0 (fun _ => va_rf none) := by
  obtain ⟨scr, hs1, hs2, hs3, hs4, -, hs5, hs7⟩ := hX
  exact ⟨scr, by rw [w.2.2.1.2.1 _ (Array.getElem?_eq_some_iff.mp hs1).1 hs7]; exact hs1, hs2, hs3, hs4, fun j hj => absurd hj (Nat.not_lt_zero j)⟩
/-- bytes copied -/
theorem g_copyb (hexec : p.tables.exec = Jvm.exec) (hb : c.code = cc) (hml : c.maxLocals = ls.size) {own : String} {index : Nat} (hown : s.vm.findClass own = some m.cls) (hlink : (Cond.methodLink own index arraycopyName).before args s = true) (hnat : (Cond.native arraycopyName).before args s = true) (hstat : (Cond.static arraycopyName).before args s = true) (hini : (Cond.initialized "java/lang/System").before args s = true)
    (hE : g_E D vwCl (gT ar) (EX1 κ) A s s.heap) (w : g_S D vwCl A s.heap G H locs nz) {a0 n0 n1 : Nat} {f g : Nat → Int32} (hsrc : SrcC s H .byte a0 n0 (fun j => .int (f j))) (ha1 : G a = some (.inl (ar 4, n1, .inl g)))
    {sp dp n : Int32} {i j k : Nat} (esp : sp = nI i) (edp : dp = nI j) (en : n = nI k) (hb1 : n0 < 2 ^ 31) (hb2 : n1 < 2 ^ 31) (h4 : i + k ≤ n0) (h5 : j + k ≤ n1) (hfit : ∀ q, q < k → fits .byte (.int (f (i + q))) = true)
    (hframes : 1 ≤ R.frames) (hlocals : (rest.map fun v => v.category).sum + (nativeFrameWords "java/lang/System" "arraycopy" 5 + 11) ≤ R.locals) (hdg : decode cc pc = .ok (.invokestatic index, 3))
    (kk : ∀ (H1 : Heap) (locs1 : List Loc), g_S D vwCl A s.heap (g_up G a (.inl (ar 4, n1, .inl (va_cpy f g i j k)))) H1 locs1 nz → W p l e R s m args below meth c H1 locs1 cells slots Q (F0 m (pc + 3) ls rest)) : W p l e R s m args below meth c H locs cells slots Q (F0 m pc ls (.int n :: .int dp :: .ref a :: .int sp :: .ref a0 :: rest)) := by
  subst esp; subst edp; subst en
  have ci : (nI i).toNatClampNeg = i := nI_clamp (by omega)
  have cj : (nI j).toNatClampNeg = j := nI_clamp (by omega)
  have ck : (nI k).toNatClampNeg = k := nI_clamp (by omega)
  have h1 : ¬ nI i < 0 := nI_pos (by omega)
  have h2 : ¬ nI j < 0 := nI_pos (by omega)
  have h3 : ¬ nI k < 0 := nI_pos (by omega)
  intro T hT X
  obtain ⟨scr, hc0, ⟨hs6, k0, hk0, cm0, hkk0⟩, hs3, hs4, hs5⟩ := hsrc
  have hc1 : H[a]? = some (vp_cell (ar 4) (n1, .inl g)) := w.1 a _ ha1
  obtain ⟨-, k1, hk1, cm1, hkk1⟩ := (hE.1.2 4 (ar 4, .byte) rfl).1 n1 (fun j => .int (g j))
  obtain ⟨vm', X', step⟩ := X.arraycopy hexec hown hlink hnat hstat hini (src := a0) (dst := a) (cs := scr) (cd := vp_cell (ar 4) (n1, .inl g)) (srcPos := nI i) (destPos := nI j) (n := nI k) (by rw [hT]; exact hc0) (by rw [hT]; exact hc1)
    hs6 (fun _ h => by cases h) hs3 (fun h => by cases h) hk0 hk1 hkk0 hkk1 (by simp [refKind]) h1 h2 h3
    (by rw [nn_clamp h1, nn_clamp h3, ci, ck]; omega)
    (by rw [nn_clamp h2, nn_clamp h3, cj, ck]; show ¬ _ > ((arrV (ar 4) n1 (fun j => .int (g j))).slots.size : Int); rw [arrV_size]; omega)
    (fun vm₁ _ q hq => by
      rw [ck] at hq
      have e : scr.slots.getD ((nI i).toNatClampNeg + q) .null = .int (f (i + q)) := by
        rw [ci, Array.getD_eq_getD_getElem?, hs5 _ (by omega)]
        rfl
      refine ⟨?_, ?_⟩
      · rw [e]
        exact hfit q hq
      · rw [e]
        exact trivial)
    (g := F0 m pc ls (.int (nI k) :: .int (nI j) :: .ref a :: .int (nI i) :: .ref a0 :: rest)) rfl (by rw [hml]) (rest := rest) rfl (by rw [hb]; exact hdg) hframes (by show 2 * 0 + _ + _ ≤ _; omega)
  have e1 : copied scr (vp_cell (ar 4) (n1, .inl g)) (nI i) (nI j) (nI k) = vp_cell (ar 4) (n1, .inl (va_cpy f g i j k)) := by
    have z := va_copiedX (sp := (nI i).toNatClampNeg) (dp := (nI j).toNatClampNeg) (n := (nI k).toNatClampNeg) (fun z => .int z) scr (ar 4) (n1 := n1) f g hs5 (by rw [ci, ck]; exact h4)
    rw [ci, cj, ck] at z
    rw [vp_cell_i, vp_cell_i]
    unfold copied
    rw [ci, cj, ck]
    exact z
  rw [e1] at X' step
  have hl : a < H.size := (Array.getElem?_eq_some_iff.mp hc1).1
  have hheap : ((T.setVm vm').setCell a (vp_cell (ar 4) (n1, .inl (va_cpy f g i j k)))).heap = H.setIfInBounds a (vp_cell (ar 4) (n1, .inl (va_cpy f g i j k))) := by rw [← hT]; rfl
  have hA : A a := w.2.1 a _ ha1
  have ws := g_set (k := 0) (locs := locs) (H1 := H.setIfInBounds a (vp_cell (ar 4) (n1, .inl (va_cpy f g i j k)))) w ha1 (e := .inl (ar 4, n1, .inl (va_cpy f g i j k))) (by show (H.setIfInBounds a _)[a]? = some _; simp [Array.getElem?_setIfInBounds, hl]) (by simp) (fun q hq => by simp [Array.getElem?_setIfInBounds, Ne.symm hq])
  obtain ⟨t, a1, b1⟩ := kk _ _ ⟨ws.1, ws.2.1, ⟨ws.2.2.1.1, ws.2.2.1.2.1, fun q hq => by
      rcases List.mem_append.mp hq with h | h
      · exact w.2.2.1.2.2 q h
      · obtain ⟨z, -, hz⟩ := List.mem_map.mp h
        rw [← hz]
        exact hA⟩, ws.2.2.2.1, ws.2.2.2.2⟩ _ hheap X'
  exact ⟨t, step t a1, b1⟩
/-- references copied -/
theorem g_copyq (hexec : p.tables.exec = Jvm.exec) (hb : c.code = cc) (hml : c.maxLocals = ls.size) {own : String} {index : Nat} (hown : s.vm.findClass own = some m.cls) (hlink : (Cond.methodLink own index arraycopyName).before args s = true) (hnat : (Cond.native arraycopyName).before args s = true) (hstat : (Cond.static arraycopyName).before args s = true) (hini : (Cond.initialized "java/lang/System").before args s = true)
    (hE : g_E D vwCl (gT ar) (EX1 κ) A s s.heap) (w : g_S D vwCl A s.heap G H locs nz) {a0 n0 n1 t1 : Nat} {c1 : ClassId} {E0 E1 C : String} {f g : Nat → Option Nat} (hsrc : SrcC s H (.object E0) a0 n0 (fun j => va_rf (f j))) (ha1 : G a = some (.inl (c1, n1, .inr (.inr (.inr (.inr g)))))) (ht1 : (gT ar)[t1]? = some (c1, .object E1))
    {sp dp n : Int32} {i j k : Nat} (esp : sp = nI i) (edp : dp = nI j) (en : n = nI k) (hb1 : n0 < 2 ^ 31) (hb2 : n1 < 2 ^ 31) (h4 : i + k ≤ n0) (h5 : j + k ≤ n1)
    (hel : ∀ q : Nat, q < k → ∀ y : Nat, f (i + q) = some y → ∃ cellV : Cell, H[y]? = some cellV ∧ cellV.vm.isStatics = false ∧ s.vm.findClass C = some cellV.cls) (hasg : ∀ comp c0 : ClassId, s.vm.findClass E1 = some comp → s.vm.findClass C = some c0 → s.vm.assignable c0 comp = true)
    (hframes : 1 ≤ R.frames) (hlocals : (rest.map fun v => v.category).sum + (nativeFrameWords "java/lang/System" "arraycopy" 5 + 11) ≤ R.locals) (hdg : decode cc pc = .ok (.invokestatic index, 3))
    (kk : ∀ (H1 : Heap) (locs1 : List Loc), g_S D vwCl A s.heap (g_up G a (.inl (c1, n1, .inr (.inr (.inr (.inr (va_cpy f g i j k))))))) H1 locs1 nz → W p l e R s m args below meth c H1 locs1 cells slots Q (F0 m (pc + 3) ls rest)) : W p l e R s m args below meth c H locs cells slots Q (F0 m pc ls (.int n :: .int dp :: .ref a :: .int sp :: .ref a0 :: rest)) := by
  subst esp; subst edp; subst en
  have ci : (nI i).toNatClampNeg = i := nI_clamp (by omega)
  have cj : (nI j).toNatClampNeg = j := nI_clamp (by omega)
  have ck : (nI k).toNatClampNeg = k := nI_clamp (by omega)
  have h1 : ¬ nI i < 0 := nI_pos (by omega)
  have h2 : ¬ nI j < 0 := nI_pos (by omega)
  have h3 : ¬ nI k < 0 := nI_pos (by omega)
  intro T hT X
  obtain ⟨scr, hc0, ⟨hs6, k0, hk0, cm0, hkk0⟩, hs3, hs4, hs5⟩ := hsrc
  have hc1 : H[a]? = some (vp_cell c1 (n1, .inr (.inr (.inr (.inr g))))) := w.1 a _ ha1
  obtain ⟨-, k1, hk1, cm1, hkk1⟩ := (hE.1.2 t1 _ ht1).1 n1 (fun j => va_rf (g j))
  obtain ⟨vm', X', step⟩ := X.arraycopy hexec hown hlink hnat hstat hini (src := a0) (dst := a) (cs := scr) (cd := vp_cell c1 (n1, .inr (.inr (.inr (.inr g))))) (srcPos := nI i) (destPos := nI j) (n := nI k) (by rw [hT]; exact hc0) (by rw [hT]; exact hc1)
    hs6 (fun _ h => by cases h) hs3 (fun h => by cases h) hk0 hk1 hkk0 hkk1 rfl h1 h2 h3
    (by rw [nn_clamp h1, nn_clamp h3, ci, ck]; omega)
    (by rw [nn_clamp h2, nn_clamp h3, cj, ck]; show ¬ _ > ((arrV c1 n1 (fun j => va_rf (g j))).slots.size : Int); rw [arrV_size]; omega)
    (fun vm₁ hal q hq => by
      rw [ck] at hq
      have e : scr.slots.getD ((nI i).toNatClampNeg + q) .null = va_rf (f (i + q)) := by
        rw [ci, Array.getD_eq_getD_getElem?, hs5 _ (by omega)]
        rfl
      rw [e]
      cases hy : f (i + q) with
      | none => exact ⟨rfl, trivial⟩
      | some y =>
        obtain ⟨cellV, g1, g2, g3⟩ := hel q hq y hy
        obtain ⟨kA, comp, r1, r2, r3, -⟩ := (hE.1.2 t1 _ ht1).2
        cases hk1.symm.trans r1
        cases hkk1.symm.trans r2
        obtain ⟨kC, hkC, -⟩ := Vm.findClass_spec g3
        obtain ⟨kE, hkE, -⟩ := Vm.findClass_spec r3
        obtain ⟨kC', hkC', -⟩ := hal.2.2 _ _ hkC
        obtain ⟨kE', hkE', -⟩ := hal.2.2 _ _ hkE
        refine ⟨rfl, cellV, (show T.heap[y]? = some cellV by rw [hT]; exact g1), (fun q h => by rw [h] at g2; cases g2), ⟨kC', hkC'⟩, ?_, ?_⟩
        · exact ⟨kE', hkE'⟩
        · show vm₁.assignable _ _ = true
          rw [hal.assignable]
          exact hasg _ _ r3 g3)
    (g := F0 m pc ls (.int (nI k) :: .int (nI j) :: .ref a :: .int (nI i) :: .ref a0 :: rest)) rfl (by rw [hml]) (rest := rest) rfl (by rw [hb]; exact hdg) hframes (by show 2 * 0 + _ + _ ≤ _; omega)
  have e1 : copied scr (vp_cell c1 (n1, .inr (.inr (.inr (.inr g))))) (nI i) (nI j) (nI k) = vp_cell c1 (n1, .inr (.inr (.inr (.inr (va_cpy f g i j k))))) := by
    have z := va_copiedX (sp := (nI i).toNatClampNeg) (dp := (nI j).toNatClampNeg) (n := (nI k).toNatClampNeg) (fun z => va_rf z) scr c1 (n1 := n1) f g hs5 (by rw [ci, ck]; exact h4)
    rw [ci, cj, ck] at z
    rw [vp_cell_q, vp_cell_q]
    unfold copied
    rw [ci, cj, ck]
    exact z
  rw [e1] at X' step
  have hl : a < H.size := (Array.getElem?_eq_some_iff.mp hc1).1
  have hheap : ((T.setVm vm').setCell a (vp_cell c1 (n1, .inr (.inr (.inr (.inr (va_cpy f g i j k))))))).heap = H.setIfInBounds a (vp_cell c1 (n1, .inr (.inr (.inr (.inr (va_cpy f g i j k)))))) := by rw [← hT]; rfl
  have hA : A a := w.2.1 a _ ha1
  have ws := g_set (k := 0) (locs := locs) (H1 := H.setIfInBounds a (vp_cell c1 (n1, .inr (.inr (.inr (.inr (va_cpy f g i j k))))))) w ha1 (e := .inl (c1, n1, .inr (.inr (.inr (.inr (va_cpy f g i j k)))))) (by show (H.setIfInBounds a _)[a]? = some _; simp [Array.getElem?_setIfInBounds, hl]) (by simp) (fun q hq => by simp [Array.getElem?_setIfInBounds, Ne.symm hq])
  obtain ⟨t, a1, b1⟩ := kk _ _ ⟨ws.1, ws.2.1, ⟨ws.2.2.1.1, ws.2.2.1.2.1, fun q hq => by
      rcases List.mem_append.mp hq with h | h
      · exact w.2.2.1.2.2 q h
      · obtain ⟨z, -, hz⟩ := List.mem_map.mp h
        rw [← hz]
        exact hA⟩, ws.2.2.2.1, ws.2.2.2.2⟩ _ hheap X'
  exact ⟨t, step t a1, b1⟩
end TXT
theorem sh0 (x : Int32) : x >>> ((0 : Int32) &&& 31) = x := by
  apply Int32.toInt_inj.mp
  rw [pk_shr x _ 0 (by decide)]
  exact Int.shiftRight_zero _
theorem sl0 (x : Int32) : x <<< ((0 : Int32) &&& 31) = x := by
  have h := pk_shl x ((0 : Int32) &&& 31) 0 (by decide)
  have h2 := x.toBitVec.isLt
  apply Int32.toBitVec_inj.mp
  apply BitVec.eq_of_toNat_eq
  rw [h]
  omega
theorem zq_o {C n d : String} {A : Nat → Prop} {U : State} {H : Heap} (h : va_Zq C n d A U H) : ∃ f : Option Nat, va_Z C n d (va_rf f) A U H := by
  rcases h with h | ⟨t, h⟩
  · exact ⟨none, h⟩
  · exact ⟨some t, h⟩
theorem g_free {D : va_G} {cl : List vw_C} {A : Nat → Prop} {H0 H : Heap} {G : gW} {locs : List Loc} {n q : Nat} (w : g_S D cl A H0 G H locs n) (h : n ≤ q) : G q = none := by
  cases e : G q with
  | none => rfl
  | some z => exact absurd (g_ltn w e) (by omega)
theorem va_ldcSW {p : Program} {l : Launch} {e : Env} {R : Room} {s : State} {m : MethodId} {args : Array Value} {below : List Frame} {meth : Method} {c : Code} {H : Heap} {locs : List Loc} {cells slots : Nat} {Q : State → Prop} {cc : ByteArray} {pc : Nat} {ls : Array Slot} {rest : List Value} (hexec : p.tables.exec = Jvm.exec) (hb : c.code = cc) {own tx : String} {index q : Nat} (hown : s.vm.findClass own = some m.cls) (hZ : vk_R own index tx q s) (hdg : decode cc pc = .ok (.ldc_w index, 3))
    (k : W p l e R s m args below meth c H locs cells slots Q (F0 m (pc + 3) ls (.ref q :: rest))) : W p l e R s m args below meth c H locs cells slots Q (F0 m pc ls rest) := by
  intro T hT X
  obtain ⟨t, a1, b1⟩ := k T hT X
  exact ⟨t, X.ldcStringW hexec hown (text := tx) (a := q) hZ.1 hZ.2 (g := F0 m pc ls rest) rfl (by rw [hb]; exact hdg) t a1, b1⟩
/-- where a letter stands first, from a place on -/
def ixF (c : Int32) (bs : List Int32) : Nat → Nat → Int32
  | _, 0 => -1
  | i, k + 1 => if bs.getD i 0 = c then nI i else ixF c bs (i + 1) k
theorem ixF_0 {c : Int32} {bs : List Int32} {i : Nat} : ixF c bs i 0 = -1 := rfl
theorem ixF_y {c : Int32} {bs : List Int32} {i k : Nat} (h : bs.getD i 0 = c) : ixF c bs i (k + 1) = nI i := if_pos h
theorem ixF_n {c : Int32} {bs : List Int32} {i k : Nat} (h : ¬ bs.getD i 0 = c) : ixF c bs i (k + 1) = ixF c bs (i + 1) k := if_neg h
theorem max0 {i : Nat} (h : i < 2 ^ 31) : (if nI i < (0 : Int32) then (0 : Int32) else nI i) = nI i := if_neg (nI_pos h)
theorem minS {x : Int32} : (if x < x then x else x) = x := if_neg (Int32.lt_irrefl)
theorem nI_nlt9 {a b : Nat} (h : ¬ nI a < nI b) (ha : a < 2 ^ 31) (hb : b < 2 ^ 31) : b ≤ a := by
  rcases Nat.lt_or_ge a b with q | q
  · exact absurd (nI_lt q hb) h
  · exact q
theorem Asc.c255 {bs : List Int32} (h : Asc bs) {j : Nat} (hj : j < bs.length) : ((bs.getD j 0 &&& 255).toUInt32 % 65536).toInt32 = bs.getD j 0 := by
  obtain ⟨c, hc, e⟩ := h.at hj
  rw [e, (fits_asc c hc).2.2.2.1, (fits_asc c hc).2.2.2.2.1]
  rfl
theorem Asc.n1 {bs : List Int32} (h : Asc bs) {j : Nat} (hj : j < bs.length) : narrow .char (.int (bs.getD j 0)) = .int (bs.getD j 0) := by
  obtain ⟨c, hc, e⟩ := h.at hj
  rw [e, (fits_asc c hc).2.2.2.2.2]
theorem Asc.n255 {bs : List Int32} (h : Asc bs) {j : Nat} (hj : j < bs.length) : narrow .char (.int ((bs.getD j 0 &&& 255).toUInt32 % 65536).toInt32) = .int ((bs.getD j 0 &&& 255).toUInt32 % 65536).toInt32 := by
  rw [h.c255 hj]; exact h.n1 hj
/-- a piece of a text -/
def slc (bs : List Int32) (b e : Nat) : List Int32 := (bs.drop b).take (e - b)
theorem slc_len {bs : List Int32} {b e : Nat} (he : e ≤ bs.length) : (slc bs b e).length = e - b := by
  unfold slc; rw [List.length_take, List.length_drop]; omega
theorem slc_all {bs : List Int32} : slc bs 0 bs.length = bs := by
  unfold slc; rw [List.drop_zero, Nat.sub_zero, List.take_length]
theorem slc_at {bs : List Int32} {b e j : Nat} (hj : j < e - b) : (slc bs b e).getD j 0 = bs.getD (b + j) 0 := by
  unfold slc
  rw [List.getD_eq_getElem?_getD, List.getElem?_take, if_pos hj, List.getElem?_drop, ← List.getD_eq_getElem?_getD]
theorem tyF_out {bs : List Int32} {j : Nat} (h : bs.length ≤ j) : tyF bs j = 0 := by
  show bs.getD j 0 = 0
  rw [List.getD_eq_getElem?_getD, List.getElem?_eq_none h]; rfl
theorem slc_cpy {bs : List Int32} {b e : Nat} (hb : b ≤ e) (he : e ≤ bs.length) : va_cpy (tyF bs) (fun _ => 0) b 0 (e - b) = tyF (slc bs b e) := by
  funext j
  by_cases h : j < e - b
  · rw [pk_cpy_in (Nat.zero_le j) (by omega), Nat.sub_zero]
    exact (slc_at h).symm
  · rw [pk_cpy_out (Or.inr (by omega))]
    exact (tyF_out (by rw [slc_len he]; omega)).symm
theorem Asc.slc {bs : List Int32} (h : Asc bs) {b e : Nat} : Asc (slc bs b e) := fun x hx => h x (List.mem_of_mem_drop (List.mem_of_mem_take hx))
theorem g_clone {p : Program} {l : Launch} {e : Env} {R : Room} {s : State} {m : MethodId} {args : Array Value} {below : List Frame} {meth : Method} {c : Code} {H : Heap} {locs : List Loc} {cells slots : Nat} {Q : State → Prop} {cc : ByteArray} {pc : Nat} {ls : Array Slot} {rest : List Value} {D : va_G} {A : Nat → Prop} {a nz : Nat} {G : gW} {ar : Nat → ClassId} {κ : Nat → Nat} {H0 : Heap}
    (hexec : p.tables.exec = Jvm.exec) (hb : c.code = cc) (hml : c.maxLocals = ls.size) {own : String} {index : Nat} (hown : s.vm.findClass own = some m.cls)
    (hlink : (Cond.methodLink own index ⟨"[B", "clone", "()Ljava/lang/Object;"⟩).before args s = true) (hsame : (Cond.sameMethod "[B" "java/lang/Object" "clone" "()Ljava/lang/Object;").before args s = true)
    (hnat : (Cond.native ⟨"java/lang/Object", "clone", "()Ljava/lang/Object;"⟩).before args s = true) (hinst : (Cond.instanceMethod ⟨"java/lang/Object", "clone", "()Ljava/lang/Object;"⟩).before args s = true)
    (hsel : (Cond.selects "[B" ⟨"[B", "clone", "()Ljava/lang/Object;"⟩ ⟨"java/lang/Object", "clone", "()Ljava/lang/Object;"⟩).before args s = true) (hcl : va_Nw (.castable "[B" "java/lang/Cloneable") s)
    (hE : g_E D vwCl (gT ar) (EX1 κ) A s s.heap) (w : g_S D vwCl A H0 G H locs nz) {bs : List Int32} (ha : G a = some (.inl (ar 4, bs.length, .inl (tyF bs)))) (hA : Asc bs)
    (hframes : 1 ≤ R.frames) (hlocals : (rest.map fun v => v.category).sum + 14 ≤ R.locals) (hcells : cells + 1 ≤ R.cells) (hslots : slots + bs.length ≤ R.slots) (hdg : decode cc pc = .ok (.invokevirtual index, 3))
    (kk : ∀ (H1 : Heap), g_S D vwCl A H0 (g_up G nz (.inl (ar 4, bs.length, .inl (tyF bs)))) H1 locs (nz + 1) →
      W p l e R s m args below meth c H1 locs (cells + 1) (slots + bs.length) Q (F0 m (pc + 3) ls (.ref nz :: rest))) : W p l e R s m args below meth c H locs cells slots Q (F0 m pc ls (.ref a :: rest)) := by
  have hK := hE.1
  have hnm : s.vm.findClass "[B" = some (ar 4) := va_nm_byte (hK.2 4 (ar 4, .byte) rfl).2
  have hsz : (vp_cell (ar 4) (bs.length, .inl (tyF bs))).slots.size = bs.length := arrV_size _ _ _
  obtain ⟨c0, t0', f1, f2, f3⟩ := Cond.castable_spec (va_Nw.use (A := args) rfl hcl)
  cases hnm.symm.trans f1
  intro T hT X
  have hcellT : T.heap[a]? = some (vp_cell (ar 4) (bs.length, .inl (tyF bs))) := by rw [hT]; exact w.1 a _ ha
  obtain ⟨-, kA, hkA, comp, hkind⟩ := State.isArrayOf_alike X.warmed.alike ((hK.2 4 (ar 4, .byte) rfl).1 0 (fun _ => .null))
  obtain ⟨-, kS, hkS, compS, hkindS⟩ := (hK.2 4 (ar 4, .byte) rfl).1 0 (fun _ => .null)
  obtain ⟨vm', X', st⟩ := X.cloneArray hexec hown hlink hsame hnat hinst hsel (a := a) (cell := vp_cell (ar 4) (bs.length, .inl (tyF bs))) hcellT (fun k h => by cases h) (fun h => by cases h) hnm f2 f3
    (fun i v hv => by
      have hk' : T.vm.classes[ar 4]? = some kA := hkA
      have hf := va_fit (cA := ar 4) (n := bs.length) (F := fun j => .int (tyF bs j)) (ty := .byte) (fun i hi => hA.fit hi) i v hv
      rw [show (vp_cell (ar 4) (bs.length, .inl (tyF bs))).cls = ar 4 from rfl]
      simpa [State.fitsSlot, State.slotType?, hk', hkind] using hf)
    (g := F0 m pc ls (.ref a :: rest)) rfl (by rw [hml]) rfl (by rw [hb]; exact hdg) hframes (by show 2 * 0 + _ + 14 ≤ _; omega) hcells (by rw [hsz]; exact hslots) (hloader := Vm.clonesLoader_of_array hkS hkindS)
  have hcellE : ({ cls := (vp_cell (ar 4) (bs.length, .inl (tyF bs))).cls, slots := (vp_cell (ar 4) (bs.length, .inl (tyF bs))).slots } : Cell) = vp_cell (ar 4) (bs.length, .inl (tyF bs)) := rfl
  rw [hcellE, hsz] at X'
  generalize hH1 : H.push (vp_cell (ar 4) (bs.length, .inl (tyF bs))) = H1
  have z1 : H1.size = H.size + 1 := by rw [← hH1, Array.size_push]
  have e1 : H1[H.size]? = some (vp_cell (ar 4) (bs.length, .inl (tyF bs))) := by rw [← hH1, Array.getElem?_push_size]
  have o1 : ∀ q : Nat, q < H.size → H1[q]? = H[q]? := fun q hq => by rw [← hH1, Array.getElem?_push, if_neg (Nat.ne_of_lt hq)]
  have hn : H.size = nz := w.2.2.2.2
  subst hn
  obtain ⟨t, b1, b2⟩ := kk H1 (g_push w e1 z1 o1) ((T.setVm vm').pushCell (vp_cell (ar 4) (bs.length, .inl (tyF bs)))) (by rw [← hH1, ← hT]; rfl) X'
  refine ⟨t, st t ?_, b2⟩
  rw [hcellE, hT]
  exact b1
theorem minL {a b : Nat} (h : b ≤ a) (ha : a < 2 ^ 31) : (if nI b < nI a then nI b else nI a) = nI b := by
  by_cases c : b < a
  · exact if_pos (nI_lt c ha)
  · rw [show a = b by omega]; exact minS
theorem slc_0 {bs : List Int32} {b : Nat} : slc bs b b = [] := by
  unfold slc; rw [Nat.sub_self]; rfl
theorem dg_e : ∀ c, 48 ≤ c → c < 58 → dgN.getD c 0 = nI (c - 48) := by
  intro c h1 h2
  have : c = 48 ∨ c = 49 ∨ c = 50 ∨ c = 51 ∨ c = 52 ∨ c = 53 ∨ c = 54 ∨ c = 55 ∨ c = 56 ∨ c = 57 := by omega
  rcases this with rfl | rfl | rfl | rfl | rfl | rfl | rfl | rfl | rfl | rfl <;> decide +kernel
theorem gdU {own C owner : String} {idx : Nat} {x y : MethodName} {c : Cond} (h1 : Cond.methodLink own idx x ∈ lwA) (h6 : Cond.sameMethod x.cls owner x.name x.desc ∈ lwA) (h2 : Cond.selects C x y ∈ lwA) (h3 : Cond.instanceMethod y ∈ lwA) (h4 : Cond.initialized y.cls ∈ lwA) (h5 : c ∈ lwA) : GoodIn lwA (va_wsU own idx C owner x y (c :: lwA)) := by
  intro w hw
  have key : w ∈ lwA := by
    unfold va_wsU at hw
    rcases List.mem_append.mp hw with h | h
    · simp only [List.mem_cons, List.not_mem_nil, or_false] at h
      rcases h with rfl | rfl | rfl | rfl | rfl <;> assumption
    · exact (gd h5 w h).1
  exact ⟨key, lwA_good _ key⟩
/-- the value of one digit, and of two -/
def pD1 (d : Nat) : Int32 := -(0 - nI d)
def pD2 (d e : Nat) : Int32 := -((0 - nI d) * 10 - nI e)
theorem pd_1 : ∀ d, d < 10 → ¬ (0 : Int32) < -2147483647 + nI d ∧ ¬ (0 - nI d) < (-214748364 : Int32) := by decide +kernel
theorem pd_2 : ∀ d, d < 10 → ∀ e, e < 10 → ¬ (0 - nI d) * 10 < (-2147483647 : Int32) + nI e := by decide +kernel
/-- one or two digits, and what they say -/
def okD (bs : List Int32) : Prop := (∃ d, d < 10 ∧ bs = [nI (48 + d)]) ∨ ∃ d e, d < 10 ∧ e < 10 ∧ bs = [nI (48 + d), nI (48 + e)]
def pI : List Int32 → Int32
  | [a] => -(0 - (a - 48))
  | [a, b] => -((0 - (a - 48)) * 10 - (b - 48))
  | _ => 0
theorem pd_s : ∀ d, d < 10 → nI (48 + d) - 48 = nI d := by decide +kernel
theorem okD.asc {bs : List Int32} (h : okD bs) : Asc bs := by
  rcases h with ⟨d, hd, rfl⟩ | ⟨d, e, hd, he, rfl⟩
  · intro b hb
    rcases List.mem_cons.mp hb with rfl | hb
    · exact ⟨48 + d, by omega, rfl⟩
    · cases hb
  · intro b hb
    rcases List.mem_cons.mp hb with rfl | hb
    · exact ⟨48 + d, by omega, rfl⟩
    · rcases List.mem_cons.mp hb with rfl | hb
      · exact ⟨48 + e, by omega, rfl⟩
      · cases hb
theorem maxN {a b : Nat} (ha : a < 2 ^ 31) (hb : b < 2 ^ 31) : (if nI a < nI b then nI b else nI a) = nI (max a b) := by
  by_cases h : a < b
  · rw [if_pos (nI_lt h hb), Nat.max_eq_right (Nat.le_of_lt h)]
  · rw [if_neg (nI_nlt (by omega) ha), Nat.max_eq_left (by omega)]
theorem minR {a b : Nat} (h : a ≤ b) (hb : b < 2 ^ 31) : (if nI b < nI a then nI b else nI a) = nI a := if_neg (nI_nlt h hb)
theorem sub_le0 {a b : Nat} (h : a ≤ b) (hb : b < 2 ^ 30) : nI a - nI b ≤ 0 := by
  apply Int32.le_iff_toInt_le.mpr
  rw [pk_sub_toInt (by omega) hb]
  show (a : Int) - b ≤ 0
  omega
theorem sub_gt0 {a b : Nat} (h : b < a) (ha : a < 2 ^ 30) : ¬ nI a - nI b ≤ 0 := by
  rw [pk_sub (Nat.le_of_lt h)]
  exact nI_nle (by omega) (by omega)
/-- bytes and zeros behind them -/
def ext0 (cs : List Int32) (n : Nat) : List Int32 := cs ++ List.replicate (n - cs.length) 0
theorem ext0_len {cs : List Int32} {n : Nat} (h : cs.length ≤ n) : (ext0 cs n).length = n := by
  unfold ext0; rw [List.length_append, List.length_replicate]; omega
theorem tyF_rep {n j : Nat} : (List.replicate n (0 : Int32)).getD j 0 = 0 := by
  rw [List.getD_eq_getElem?_getD, List.getElem?_replicate]
  by_cases h : j < n
  · rw [if_pos h]; rfl
  · rw [if_neg h]; rfl
theorem tyF_app {a b : List Int32} {j : Nat} : tyF (a ++ b) j = if j < a.length then tyF a j else tyF b (j - a.length) := by
  show (a ++ b).getD j 0 = _
  by_cases h : j < a.length
  · rw [if_pos h, List.getD_eq_getElem?_getD, List.getElem?_append_left h, ← List.getD_eq_getElem?_getD]
  · rw [if_neg h, List.getD_eq_getElem?_getD, List.getElem?_append_right (by omega), ← List.getD_eq_getElem?_getD]
theorem ext0_cpy {cs : List Int32} {n : Nat} : va_cpy (tyF cs) (fun _ => 0) 0 0 cs.length = tyF (ext0 cs n) := by
  funext j
  unfold ext0
  rw [tyF_app]
  by_cases h : j < cs.length
  · rw [if_pos h, pk_cpy_in (Nat.zero_le _) (by omega), Nat.zero_add, Nat.sub_zero]
  · rw [if_neg h, pk_cpy_out (Or.inr (by omega))]
    exact tyF_rep.symm
theorem Asc.rep {n : Nat} : Asc (List.replicate n (0 : Int32)) := fun b hb => ⟨0, by omega, by rw [(List.mem_replicate.mp hb).2]; rfl⟩
theorem Asc.app {a b : List Int32} (h : Asc a) (h2 : Asc b) : Asc (a ++ b) := fun x hx => (List.mem_append.mp hx).elim (h x) (h2 x)
theorem Asc.ext0 {cs : List Int32} {n : Nat} (h : Asc cs) : Asc (ext0 cs n) := h.app Asc.rep
theorem ext0_take {cs : List Int32} {n k : Nat} (h : k ≤ cs.length) : (ext0 cs n).take k = cs.take k := by
  unfold ext0; rw [List.take_append_of_le_length h]
/-- bytes put over bytes -/
def ovr (cs : List Int32) (k : Nat) (bs : List Int32) : List Int32 := cs.take k ++ (bs ++ cs.drop (k + bs.length))
theorem ovr_len {cs bs : List Int32} {k : Nat} (h : k + bs.length ≤ cs.length) : (ovr cs k bs).length = cs.length := by
  unfold ovr; rw [List.length_append, List.length_append, List.length_take, List.length_drop]; omega
theorem ovr_cpy {cs bs : List Int32} {k : Nat} (h : k + bs.length ≤ cs.length) : va_cpy (tyF bs) (tyF cs) 0 k bs.length = tyF (ovr cs k bs) := by
  have hk : (cs.take k).length = k := by rw [List.length_take]; omega
  funext j
  unfold ovr
  rw [tyF_app, hk, tyF_app]
  by_cases h1 : j < k
  · rw [if_pos h1, pk_cpy_out (Or.inl h1)]
    show cs.getD j 0 = (cs.take k).getD j 0
    rw [List.getD_eq_getElem?_getD, List.getD_eq_getElem?_getD, List.getElem?_take, if_pos h1]
  · rw [if_neg h1]
    by_cases h2 : j < k + bs.length
    · rw [if_pos (by omega), pk_cpy_in (by omega) h2, Nat.zero_add]
    · rw [if_neg (by omega), pk_cpy_out (Or.inr (by omega))]
      show cs.getD j 0 = (cs.drop (k + bs.length)).getD (j - k - bs.length) 0
      rw [List.getD_eq_getElem?_getD, List.getD_eq_getElem?_getD, List.getElem?_drop, show k + bs.length + (j - k - bs.length) = j by omega]
theorem ovr_take {cs bs : List Int32} {k : Nat} (h : k + bs.length ≤ cs.length) : (ovr cs k bs).take (k + bs.length) = cs.take k ++ bs := by
  have hk : (cs.take k).length = k := by rw [List.length_take]; omega
  unfold ovr
  rw [← List.append_assoc, List.take_append_of_le_length (by rw [List.length_append, hk]; omega), List.take_of_length_le (by rw [List.length_append, hk]; omega)]
theorem Asc.ovr {cs bs : List Int32} {k : Nat} (h : Asc cs) (h2 : Asc bs) : Asc (ovr cs k bs) := Asc.app (fun x hx => h x (List.mem_of_mem_take hx)) (h2.app (fun x hx => h x (List.mem_of_mem_drop hx)))
/-- a private method of the parent is picked, whatever the object's class -/
theorem sel_priv {C : String} {y z z1 : MethodName} {s : State} {args : Array Value} (hy : y.cls ≠ "java/lang/invoke/MethodHandle" ∧ y.cls ≠ "java/lang/invoke/VarHandle") (hyz : z1.cls = y.cls)
    (hsz : (Cond.selects C z z1).before args s = true) (hpriv : (Cond.privateMethod y).before args s = true) (hinst : (Cond.instanceMethod y).before args s = true) : (Cond.selects C y y).before args s = true := by
  obtain ⟨c, r, m, h1, h2, h3, h4, kk, h5, h6⟩ := Cond.selects_spec hsz
  obtain ⟨mk, methM, hnamed, hmethM, -, -⟩ := Cond.instanceMethod_spec hinst
  have hfound : s.methodFound? y.cls y.name y.desc = some mk := State.methodFound?_of_named hnamed hy
  have hcls : mk.cls = m.cls := by
    have q1 := findClass_of_methodNamed hnamed
    have q2 := findClass_of_methodNamed h3
    rw [hyz] at q2
    exact Option.some.inj (q1.symm.trans q2)
  have hsel : selectMethod {} s.vm c mk = .method mk := selectMethod_private hmethM (Cond.privateMethod_at hpriv mk methM hnamed hmethM)
  simp only [Cond.before, Cond.holds, Cond.value, h1, hfound, hnamed, hsel, hcls, h5]
  simp; exact h6
theorem va_cuP {own C owner : String} {index maxL : Nat} {y : MethodName} {bytes : ByteArray} {ret : Option FieldType} {rm R : Room} {s : State} {args : Array Value} (n : Nat) (ht : ∀ w ∈ lwA, w.before args s = true) (hcd : Cond.code y bytes maxL ret ∈ lwA) (hini : Cond.initialized y.cls ∈ lwA) (hml : Cond.methodLink own index y ∈ lwA) (hsm : Cond.sameMethod y.cls owner y.name y.desc ∈ lwA) (him : Cond.instanceMethod y ∈ lwA)
    (hsel : (Cond.selects C y y).before args s = true) (hyx : y = ⟨owner, y.name, y.desc⟩) (hd : owner ≠ "java/lang/invoke/MethodHandle" ∧ owner ≠ "java/lang/invoke/VarHandle" ∧ (parseMethodDescriptor y.desc).map (fun d => d.parameters.length) = some n) (hR : rm.frames + 1 ≤ R.frames ∧ 8 + (maxL + 11) + rm.locals ≤ R.locals) : va_CU R s args own C owner index y y bytes maxL ret (lwC y bytes maxL ret) rm rm.cells rm.slots n := by
  refine ⟨⟨rfl, rfl, hR.1, hR.2, pay_in ht (gd hcd), List.mem_cons_self⟩, ht _ hcd, ht _ hini, ⟨hd.1, hd.2.1⟩, fun sig h => ?_, ht _ hml, ht _ hsm, by rw [← hyx]; exact va_Decl.of (ht _ him) (ht _ hcd), hsel, ht _ him⟩
  have h2 := hd.2.2
  rw [h] at h2
  exact (Option.some.inj h2).symm
theorem gdSU {own : String} {idx : Nat} {y : MethodName} {c : Cond} (h1 : Cond.methodLink own idx y ∈ lwA) (h6 : Cond.sameMethod y.cls y.cls y.name y.desc ∈ lwA) (h2 : Cond.superclass own y.cls ∈ lwA) (h3 : Cond.instanceMethod y ∈ lwA) (h4 : Cond.initialized y.cls ∈ lwA) (h5 : c ∈ lwA) : GoodIn lwA (va_wsSU own idx y (c :: lwA)) := by
  intro w hw
  have key : w ∈ lwA := by
    unfold va_wsSU at hw
    rcases List.mem_append.mp hw with h | h
    · simp only [List.mem_cons, List.not_mem_nil, or_false] at h
      rcases h with rfl | rfl | rfl | rfl | rfl <;> assumption
    · exact (gd h5 w h).1
  exact ⟨key, lwA_good _ key⟩
theorem g_runSU {p : Program} {l : Launch} {e : Env} {R : Room} {s : State} {m : MethodId} {args : Array Value} {below : List Frame} {meth : Method} {c : Code} {H : Heap} {locs : List Loc} {cells slots mc ms : Nat} {pc : Nat} {ls : Array Slot} {rest st0 : List Value} {D : va_G} {A : Nat → Prop} {nz : Nat} {G : gW} {ar : Nat → ClassId} {κ : Nat → Nat} {cc : ByteArray}
    {y : MethodName} {bytes : ByteArray} {maxL nL n index b : Nat} {ret : Option FieldType} {rm : Room} {Qc : Array Value → State → Outcome → State → Prop} {free : Addr → Prop} {own : String} {As fs : List Value} {lv : List (Nat × Value)} (S : CallFix p m c cc nL s args lwA own) (hE : g_E D vwCl (gT ar) (EX1 κ) A s s.heap) (w : g_S D vwCl A s.heap G H locs nz) (hl : lv_has ls nL lv) (hM : Met l y (lwC y bytes maxL ret) rm (g_Pc D vwCl (gT ar) (EX1 κ) G nz (.ref b :: As)) Qc mc ms free) (cw : va_CS R s args own index y bytes maxL ret (lwC y bytes maxL ret) rm mc ms n)
    (hb : G b = some (.inr (1, fs))) (hn : As.length = n) (hst : st0 = As.reverse ++ .ref b :: rest) (hW : (rest.map fun v => v.category).sum ≤ 8) (hdg : decode cc pc = .ok (.invokespecial index, 3)) (hf : cells + mc ≤ R.cells ∧ slots + ms ≤ R.slots) :
    va_Run p l e R s m args below meth c H locs cells slots mc ms (F0 m pc ls st0) rest (Qc (Value.ref b :: As).toArray) free :=
  va_runSU (hE.1.1 1 _ rfl).2 S hM cw (g_preV (EX1_cl κ) w hE hb rfl) rfl hn hl.1 hst (lv_room hW) hdg hf
theorem sd_1 : ∀ d, d < 10 → ¬ -(nI d) ≤ (-10 : Int32) := by decide +kernel
theorem sd_2 : ∀ d, d < 10 → (-100 : Int32) < -(nI d) := by decide +kernel
theorem sd_3 : ∀ d, d < 10 → (-9 : Int32) ≤ -(nI d) := by decide +kernel
theorem sd_4 : ∀ d, d < 10 → -(-(nI d)) = nI d := by decide +kernel
theorem sd_5 : ∀ d, d < 10 → vp_nar .byte (nI (48 + d % 10)) = nI (48 + d) := by decide +kernel
theorem asc_d {d : Nat} (h : d < 10) : Asc [nI (48 + d)] := fun b hb => by
  rcases List.mem_cons.mp hb with rfl | hb
  · exact ⟨48 + d, by omega, rfl⟩
  · cases hb
theorem ovr_upd {cs : List Int32} {k : Nat} {x : Int32} (h : k + 1 ≤ cs.length) : upd (tyF cs) k x = tyF (ovr cs k [x]) := by
  rw [← ovr_cpy (bs := [x]) h]
  funext j
  by_cases c : j = k
  · subst c
    rw [pk_us, pk_cpy_in (Nat.le_refl _) (by show j < j + 1; omega), Nat.sub_self]
    rfl
  · rw [pk_un c, pk_cpy_out (by show j < k ∨ k + 1 ≤ j; omega)]
theorem slc_take {bs : List Int32} {k : Nat} : slc bs 0 k = bs.take k := by
  unfold slc; rw [List.drop_zero, Nat.sub_zero]
theorem va_cuX {own C owner : String} {index maxL : Nat} {x y : MethodName} {bytes : ByteArray} {ret : Option FieldType} {rm R : Room} {s : State} {args : Array Value} (n : Nat) (ht : ∀ w ∈ lwA, w.before args s = true) (hcd : Cond.code y bytes maxL ret ∈ lwA) (hini : Cond.initialized y.cls ∈ lwA) (hml : Cond.methodLink own index x ∈ lwA) (hsm : Cond.sameMethod x.cls owner x.name x.desc ∈ lwA) (him : Cond.instanceMethod y ∈ lwA)
    (hsel : Cond.selects C x y ∈ lwA) (hdc : va_Decl s ⟨owner, x.name, x.desc⟩) (hd : owner ≠ "java/lang/invoke/MethodHandle" ∧ owner ≠ "java/lang/invoke/VarHandle" ∧ (parseMethodDescriptor x.desc).map (fun d => d.parameters.length) = some n) (hR : rm.frames + 1 ≤ R.frames ∧ 8 + (maxL + 11) + rm.locals ≤ R.locals) : va_CU R s args own C owner index x y bytes maxL ret (lwC y bytes maxL ret) rm rm.cells rm.slots n := by
  refine ⟨⟨rfl, rfl, hR.1, hR.2, pay_in ht (gd hcd), List.mem_cons_self⟩, ht _ hcd, ht _ hini, ⟨hd.1, hd.2.1⟩, fun sig h => ?_, ht _ hml, ht _ hsm, hdc, ht _ hsel, ht _ him⟩
  have h2 := hd.2.2
  rw [h] at h2
  exact (Option.some.inj h2).symm
theorem g_astqR {p : Program} {l : Launch} {e : Env} {R : Room} {s : State} {m : MethodId} {args : Array Value} {below : List Frame} {meth : Method} {c : Code} {H : Heap} {locs : List Loc} {cells slots : Nat} {Q : State → Prop} {cc : ByteArray} {pc : Nat} {ls : Array Slot} {rest : List Value} {D : va_G} {cl : List vw_C} {A : Nat → Prop} {a nz : Nat} {tys : List (ClassId × FieldType)} {H0 : Heap} {G : gW}
    (hexec : p.tables.exec = Jvm.exec) (hb : c.code = cc) (hK : va_K D cl tys s) (w : g_S D cl A H0 G H locs nz) (t0 : Nat) {E C : String} {cA : ClassId} {n v : Nat} {f : Nat → Option Nat} (ha : G a = some (.inl (cA, n, .inr (.inr (.inr (.inr f)))))) (ht : tys[t0]? = some (cA, .object E)) (hr : ∃ cellV : Cell, H[v]? = some cellV ∧ cellV.vm.isStatics = false ∧ s.vm.findClass C = some cellV.cls) (hca : va_Nw (.castable C E) s) {i : Int32} {k : Nat} (hi : i = nI k) (hk : k < n) (hn : n < 2 ^ 31) (hdg : decode cc pc = .ok (.aastore, 1))
    (kk : ∀ (H1 : Heap) (locs1 : List Loc), g_S D cl A H0 (g_up G a (.inl (cA, n, .inr (.inr (.inr (.inr (va_up f k (some v)))))))) H1 locs1 nz → W p l e R s m args below meth c H1 locs1 cells slots Q (F0 m (pc + 1) ls rest)) : W p l e R s m args below meth c H locs cells slots Q (F0 m pc ls (.ref v :: .int i :: .ref a :: rest)) := by
  subst hi
  have ck : (nI k).toNatClampNeg = k := nI_clamp (by omega)
  obtain ⟨cellV, g1, g3, g2⟩ := hr
  obtain ⟨kA, comp, k1, k2, k3, -⟩ := (hK.2 t0 _ ht).2
  obtain ⟨kE, hkE, -⟩ := Vm.findClass_spec k3
  obtain ⟨kC, hkC, -⟩ := Vm.findClass_spec g2
  refine W.aast hexec hb (w.1 a _ ha) (fun q h => by cases h) (fun h => by cases h) k1 k2 rfl hkE ⟨nI_pos (by omega), by show _ < (arrV _ _ _).slots.size; rw [arrV_size, ck]; exact hk⟩ g1 (fun q h => by rw [h] at g3; cases g3) hkC (vb_asgC hca _ _ k3 g2) rfl rfl hdg fun H1 e z oq => ?_
  refine kk H1 _ (g_set w ha ?_ z oq)
  show H1[a]? = some (vp_cell _ _)
  rw [e]
  rw [vp_cell_q, vp_cell_q, ck, arrV_store]
  congr 2
  funext q
  by_cases hq : q = k
  · subst hq
    simp [updV, va_up, va_rf]
  · simp [updV, va_up, hq]
/-- a world that is another but at two places, and more -/
def gLx (G : gW) (o d : Nat) (G1 : gW) : Prop := ∀ q e9, q ≠ o → q ≠ d → G q = some e9 → G1 q = some e9
theorem gLx.r {G : gW} {o d : Nat} : gLx G o d G := fun _ _ _ _ h => h
theorem gLx.o {G G1 : gW} {o d : Nat} {e9 : va_E} (h : gLx G o d G1) : gLx G o d (g_up G1 o e9) := fun q e8 h1 h2 z => g_up_o h1 (h q e8 h1 h2 z)
theorem gLx.e {G G1 : gW} {o d : Nat} {e9 : va_E} (h : gLx G o d G1) : gLx G o d (g_up G1 d e9) := fun q e8 h1 h2 z => g_up_o h2 (h q e8 h1 h2 z)
theorem gLx.up {G G1 : gW} {o d a : Nat} {e9 : va_E} (h : gLx G o d G1) (h0 : G a = none) : gLx G o d (g_up G1 a e9) := fun q e8 h1 h2 z => g_up_o (fun y => by rw [y, h0] at z; cases z) (h q e8 h1 h2 z)
theorem gLx.o2 {G G1 : gW} {o d : Nat} {e9 : va_E} (h : gLx (g_up G o e9) o d G1) : gLx G o d G1 := fun q e8 h1 h2 z => h q e8 h1 h2 (g_up_o h1 z)
theorem g_arrO {s : State} {H : Heap} {locs : List Loc} {D : va_G} {A : Nat → Prop} {a nz n : Nat} {G : gW} {ar : Nat → ClassId} {κ : Nat → Nat} {H0 : Heap} {f : Nat → Option Nat} (hE : g_E D vwCl (gT ar) (EX1 κ) A s s.heap) (w : g_S D vwCl A H0 G H locs nz) (ha : G a = some (.inl (ar 8, n, .inr (.inr (.inr (.inr f)))))) : ∃ cell : Cell, H[a]? = some cell ∧ cell.vm.isStatics = false ∧ s.vm.findClass "[Ljava/lang/Object;" = some cell.cls :=
  ⟨_, w.1 a _ ha, rfl, va_nmO (hE.1.2 8 (ar 8, .object "java/lang/Object") rfl).2 (by decide +kernel)⟩
