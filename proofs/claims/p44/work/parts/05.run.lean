/-! the arrays' kinds; calls over worlds -/
abbrev gT (ar : Nat → ClassId) : List (ClassId × FieldType) := [(ar 0, .int), (ar 1, .long), (ar 2, .char), (ar 3, .boolean), (ar 4, .byte), (ar 5, .object "Sendhouse$Frame"), (ar 6, .object "Sendhouse$Thing"), (ar 7, .object "Sendhouse$Told"), (ar 8, .object "java/lang/Object"), (ar 9, .object "java/lang/String")]
section RUN
variable {p : Program} {l : Launch} {e : Env} {R : Room} {s : State} {m : MethodId} {args : Array Value} {below : List Frame} {meth : Method} {c : Code} {H : Heap} {locs : List Loc} {cells slots : Nat}
variable {pc : Nat} {ls : Array Slot} {rest st0 : List Value} {D : va_G} {ar : Nat → ClassId} {κ : Nat → Nat} {A : Nat → Prop} {G : gW} {nz : Nat}
variable {y : MethodName} {bytes cc : ByteArray} {maxL nL mc ms n index : Nat} {ret : Option FieldType} {rm : Room} {Qc : Array Value → State → Outcome → State → Prop} {free : Addr → Prop} {own C host : String} {b ci : Nat} {As fs : List Value} {r : vw_C} {lv : List (Nat × Value)} {XC : String → State → State → Prop}
theorem g_runV (S : CallFix p m c cc nL s args lwA own) (hE : g_E D vwCl (gT ar) (EX1 κ) A s s.heap) (w : g_S D vwCl A s.heap G H locs nz) (hl : lv_has ls nL lv) (hM : Met l y (lwC y bytes maxL ret) rm (g_Pc D vwCl (gT ar) (EX1 κ) G nz (.ref b :: As)) Qc mc ms free) (cw : CallW R s args own C index y bytes maxL ret (lwC y bytes maxL ret) rm mc ms n)
    (hb : G b = some (.inr (ci, fs))) (hc : vwCl[ci]? = some r) (hC : r.1 = C) (hn : As.length = n) (hst : st0 = As.reverse ++ .ref b :: rest) (hW : (rest.map fun v => v.category).sum ≤ 8) (hdg : decode cc pc = .ok (.invokevirtual index, 3)) (hf : cells + mc ≤ R.cells ∧ slots + ms ≤ R.slots) :
    va_Run p l e R s m args below meth c H locs cells slots mc ms (F0 m pc ls st0) rest (Qc (Value.ref b :: As).toArray) free := by
  subst hC
  exact va_runV S hM cw (g_preV (EX1_cl κ) w hE hb hc) rfl hn hl.1 hst (lv_room hW) hdg hf
theorem g_runS (S : CallFix p m c cc nL s args lwA own) (hE : g_E D vwCl (gT ar) (EX1 κ) A s s.heap) (w : g_S D vwCl A s.heap G H locs nz) (hl : lv_has ls nL lv) (hM : Met l y (lwC y bytes maxL ret) rm (g_Pc D vwCl (gT ar) (EX1 κ) G nz As) Qc mc ms free) (cw : CallB R s args own index y bytes maxL ret (lwC y bytes maxL ret) rm mc ms n ∧ (Cond.static y).before args s = true)
    (hn : As.length = n) (hst : st0 = As.reverse ++ rest) (hW : (rest.map fun v => v.category).sum ≤ 8) (hdg : decode cc pc = .ok (.invokestatic index, 3)) (hf : cells + mc ≤ R.cells ∧ slots + ms ≤ R.slots) :
    va_Run p l e R s m args below meth c H locs cells slots mc ms (F0 m pc ls st0) rest (Qc As.toArray) free :=
  va_runS S hM cw (g_preS (EX1_cl κ) w hE) rfl hn hl.1 hst (lv_room hW) hdg hf
theorem g_runI (S : CallFix p m c cc nL s args lwA own) (hE : g_E D vwCl (gT ar) (EX1 κ) A s s.heap) (w : g_S D vwCl A s.heap G H locs nz) (hl : lv_has ls nL lv) (hM : Met l y (lwC y bytes maxL none) rm (g_Pc D vwCl (gT ar) (EX1 κ) G nz (.ref b :: As)) Qc mc ms free) (cw : CallB R s args own index y bytes maxL none (lwC y bytes maxL none) rm mc ms n ∧ y.name = "<init>" ∧ (Cond.instanceMethod y).before args s = true)
    (hn : As.length = n) (hst : st0 = As.reverse ++ .ref b :: rest) (hW : (rest.map fun v => v.category).sum ≤ 8) (hdg : decode cc pc = .ok (.invokespecial index, 3)) (hf : cells + mc ≤ R.cells ∧ slots + ms ≤ R.slots) :
    va_Run p l e R s m args below meth c H locs cells slots mc ms (F0 m pc ls st0) rest (Qc (Value.ref b :: As).toArray) free :=
  va_runI S hM cw (g_preS (EX1_cl κ) w hE) rfl hn hl.1 hst (lv_room hW) hdg hf
theorem g_runVN (S : CallFix p m c cc nL s args lwA own) (hE : g_E D vwCl (gT ar) (EX1 κ) A s s.heap) (w : g_S D vwCl A s.heap G H locs nz) (hl : lv_has ls nL lv) (hM : Met l y (lwC y bytes maxL ret) rm (g_Pc D vwCl (gT ar) (EX1 κ) G nz (.ref b :: As)) Qc mc ms free) (cw : va_CN R s args own index y host bytes maxL ret (lwC y bytes maxL ret) rm mc ms n ∧ (Cond.instanceMethod y).before args s = true ∧ (Cond.selects C y y).before args s = true)
    (hb : G b = some (.inr (ci, fs))) (hc : vwCl[ci]? = some r) (hC : r.1 = C) (hn : As.length = n) (hst : st0 = As.reverse ++ .ref b :: rest) (hW : (rest.map fun v => v.category).sum ≤ 8) (hdg : decode cc pc = .ok (.invokevirtual index, 3)) (hf : cells + mc ≤ R.cells ∧ slots + ms ≤ R.slots) :
    va_Run p l e R s m args below meth c H locs cells slots mc ms (F0 m pc ls st0) rest (Qc (Value.ref b :: As).toArray) free := by
  subst hC
  exact va_runVN S hM cw (g_preV (EX1_cl κ) w hE hb hc) rfl hn hl.1 hst (lv_room hW) hdg hf
theorem g_runSN (S : CallFix p m c cc nL s args lwA own) (hE : g_E D vwCl (gT ar) (EX1 κ) A s s.heap) (w : g_S D vwCl A s.heap G H locs nz) (hl : lv_has ls nL lv) (hM : Met l y (lwC y bytes maxL ret) rm (g_Pc D vwCl (gT ar) (EX1 κ) G nz As) Qc mc ms free) (cw : va_CN R s args own index y host bytes maxL ret (lwC y bytes maxL ret) rm mc ms n ∧ (Cond.static y).before args s = true ∧ True)
    (hn : As.length = n) (hst : st0 = As.reverse ++ rest) (hW : (rest.map fun v => v.category).sum ≤ 8) (hdg : decode cc pc = .ok (.invokestatic index, 3)) (hf : cells + mc ≤ R.cells ∧ slots + ms ≤ R.slots) :
    va_Run p l e R s m args below meth c H locs cells slots mc ms (F0 m pc ls st0) rest (Qc As.toArray) free :=
  va_runSN S hM cw (g_preS (EX1_cl κ) w hE) rfl hn hl.1 hst (lv_room hW) hdg hf
theorem g_runIN (S : CallFix p m c cc nL s args lwA own) (hE : g_E D vwCl (gT ar) (EX1 κ) A s s.heap) (w : g_S D vwCl A s.heap G H locs nz) (hl : lv_has ls nL lv) (hM : Met l y (lwC y bytes maxL none) rm (g_Pc D vwCl (gT ar) (EX1 κ) G nz (.ref b :: As)) Qc mc ms free) (cw : va_CN R s args own index y host bytes maxL none (lwC y bytes maxL none) rm mc ms n ∧ y.name = "<init>" ∧ (Cond.instanceMethod y).before args s = true)
    (hn : As.length = n) (hst : st0 = As.reverse ++ .ref b :: rest) (hW : (rest.map fun v => v.category).sum ≤ 8) (hdg : decode cc pc = .ok (.invokespecial index, 3)) (hf : cells + mc ≤ R.cells ∧ slots + ms ≤ R.slots) :
    va_Run p l e R s m args below meth c H locs cells slots mc ms (F0 m pc ls st0) rest (Qc (Value.ref b :: As).toArray) free :=
  va_runIN S hM cw (g_preS (EX1_cl κ) w hE) rfl hn hl.1 hst (lv_room hW) hdg hf
end RUN
section WEQ
variable {D : va_G} {cl : List vw_C} {A : Nat → Prop} {H0 H : Heap} {G u : gW} {a b n : Nat} {e e0 : va_E} {locs : List Loc}
theorem g_eqw (w : g_S D cl A H0 G H locs n) (h : G = u) : g_S D cl A H0 u H locs n := h ▸ w
theorem g_over : g_up (g_up G a e) a e0 = g_up G a e0 := by
  funext q
  by_cases h : q = a <;> simp [g_up, h]
theorem g_swp (ne : a ≠ b) : g_up (g_up G b e0) a e = g_up (g_up G a e) b e0 := by
  funext q
  by_cases h : q = a
  · subst h
    simp [g_up, ne]
  · simp [g_up, h]
theorem g_inn (h : g_up G a e = u) (ne : a ≠ b) : g_up (g_up G b e0) a e = g_up u b e0 := by rw [g_swp ne, h]
theorem g_cng (h : G = u) : g_up G b e = g_up u b e := by rw [h]
end WEQ
theorem g_id {G : gW} {a : Nat} {e : va_E} (h : G a = some e) : g_up G a e = G := by
  funext q
  by_cases hq : q = a
  · subst hq
    rw [g_up_s, h]
  · exact g_up_n hq
theorem lp_eq {i n : Nat} {x b : Int32} (hb : b = nI n) (ex : x = nI i) (hi : i ≤ n) (hn : n < 2 ^ 31) (c : b ≤ x) : i = n := by
  subst hb
  rcases Nat.lt_or_ge i n with q | q
  · exact absurd c (by rw [ex]; exact nI_ge q hn)
  · omega
theorem lp_lt {i n : Nat} {x b : Int32} (hb : b = nI n) (ex : x = nI i) (hi : i ≤ n) (hn : n < 2 ^ 31) (c : ¬ b ≤ x) : i < n := by
  subst hb
  rcases Nat.lt_or_ge i n with q | q
  · exact q
  · exact absurd (by rw [ex]; exact nI_le q (by omega)) c
