section JDKR
variable {p : Program} {l : Launch} {e : Env} {R : Room} {s : State} {m : MethodId} {args : Array Value} {below : List Frame} {meth : Method} {c : Code} {H : Heap} {locs : List Loc} {cells slots mc ms : Nat} {Q : State → Prop}
variable {cc : ByteArray} {pc : Nat} {ls : Array Slot} {rest st0 : List Value} {D : va_G} {cl : List vw_C} {A A0 : Nat → Prop} {a nz : Nat} {tys : List (ClassId × FieldType)} {H0 : Heap} {G : gW} {ar : Nat → ClassId} {κ : Nat → Nat}
/-- calls by an interface -/
theorem g_callFi {post : Int32 → gW × Nat → Prop} {a : Array Value} (w : g_S D cl A0 H0 G H locs nz) (hr : va_Run5 p l e R s m args below meth c H locs cells slots mc ms (F0 m pc ls st0) rest (g_Qi D cl (g_A G nz) post a) (g_A G nz))
    (kk : ∀ (r : Int32) (u : gW × Nat) (H1 : Heap) (locs1 : List Loc), post r u → nz ≤ u.2 → g_S D cl A0 H0 u.1 H1 locs1 u.2 → W p l e R s m args below meth c H1 locs1 (cells + mc) (slots + ms) Q (F0 m (pc + 5) ls (.int r :: rest))) : W p l e R s m args below meth c H locs cells slots Q (F0 m pc ls st0) :=
  va_callFi hr w.2.2.1 (fun q _ h => g_in w h) (fun q h => g_in w h) (fun r u t H1 locs1 ht hvm hp hB hz hk hS => by
    obtain ⟨b1, b2, b3⟩ := hB
    rw [ht] at b1 b3
    exact kk r u H1 locs1 hp (by rw [← b3, ← w.2.2.2.2]; exact hz) ⟨b1, fun a e h => g_in w (b2 a e h), hS, w.2.2.2.1, b3⟩)
theorem g_callFq {post : Option Nat → gW × Nat → Prop} {a : Array Value} (w : g_S D cl A0 H0 G H locs nz) (hr : va_Run5 p l e R s m args below meth c H locs cells slots mc ms (F0 m pc ls st0) rest (g_Qq D cl (g_A G nz) post a) (g_A G nz))
    (kk : ∀ (r : Option Nat) (u : gW × Nat) (H1 : Heap) (locs1 : List Loc), post r u → nz ≤ u.2 → g_S D cl A0 H0 u.1 H1 locs1 u.2 → W p l e R s m args below meth c H1 locs1 (cells + mc) (slots + ms) Q (F0 m (pc + 5) ls (va_rf r :: rest))) : W p l e R s m args below meth c H locs cells slots Q (F0 m pc ls st0) :=
  va_callFq hr w.2.2.1 (fun q _ h => g_in w h) (fun q h => g_in w h) (fun r u t H1 locs1 ht hvm hp hB hz hk hS => by
    obtain ⟨b1, b2, b3⟩ := hB
    rw [ht] at b1 b3
    exact kk r u H1 locs1 hp (by rw [← b3, ← w.2.2.2.2]; exact hz) ⟨b1, fun a e h => g_in w (b2 a e h), hS, w.2.2.2.1, b3⟩)
theorem gdF {own C : String} {idx : Nat} {x y : MethodName} {c : Cond} (h1 : Cond.methodLink own idx x ∈ lwA) (h2 : Cond.selects C x y ∈ lwA) (h3 : Cond.instanceMethod y ∈ lwA) (h4 : Cond.initialized y.cls ∈ lwA) (h5 : c ∈ lwA) : GoodIn lwA (va_wsF own idx C x y (c :: lwA)) := by
  intro w hw
  have key : w ∈ lwA := by
    unfold va_wsF at hw
    rcases List.mem_append.mp hw with h | h
    · simp only [List.mem_cons, List.not_mem_nil, or_false] at h
      rcases h with rfl | rfl | rfl | rfl <;> assumption
    · exact (gd h5 w h).1
  exact ⟨key, lwA_good _ key⟩
theorem g_runF {x y : MethodName} {bytes : ByteArray} {maxL nL n index count : Nat} {ret : Option FieldType} {ws : List Cond} {rm : Room} {Qc : Array Value → State → Outcome → State → Prop} {free : Addr → Prop} {own C : String} {b ci : Nat} {r : vw_C} {As fs : List Value} {lv : List (Nat × Value)} (S : CallFix p m c cc nL s args lwA own) (hE : g_E D vwCl (gT ar) (EX1 κ) A s s.heap) (w : g_S D vwCl A s.heap G H locs nz) (hl : lv_has ls nL lv) (hM : Met l y ws rm (g_Pc D vwCl (gT ar) (EX1 κ) G nz (.ref b :: As)) Qc mc ms free) (cw : va_CI R s args own C index x y bytes maxL ret ws rm mc ms n)
    (hb : G b = some (.inr (ci, fs))) (hc : vwCl[ci]? = some r) (hC : r.1 = C) (hn : As.length = n) (hst : st0 = As.reverse ++ .ref b :: rest) (hW : (rest.map fun v => v.category).sum ≤ 8) (hdg : decode cc pc = .ok (.invokeinterface index count, 5)) (hf : cells + mc ≤ R.cells ∧ slots + ms ≤ R.slots) :
    va_Run5 p l e R s m args below meth c H locs cells slots mc ms (F0 m pc ls st0) rest (Qc (Value.ref b :: As).toArray) free := by
  subst hC
  exact va_runF (hE.1.1 ci r hc).2 S hM cw (g_preV (EX1_cl κ) w hE hb hc) rfl hn hl.1 hst (lv_room hW) hdg hf
theorem g_castS {nL : Nat} {own nm : String} {index ci : Nat} {r : vw_C} {fs : List Value} (S : CallFix p m c cc nL s args lwA own) (hE : g_E D vwCl (gT ar) (EX1 κ) A s s.heap) (w : g_S D vwCl A0 H0 G H locs nz) (hlink : Cond.classLink own index nm ∈ lwA) (ha : G a = some (.inr (ci, fs))) (hc : vwCl[ci]? = some r) (hC : r.1 = nm) (hdg : decode cc pc = .ok (.checkcast index, 3))
    (k : W p l e R s m args below meth c H locs cells slots Q (F0 m (pc + 3) ls (.ref a :: rest))) : W p l e R s m args below meth c H locs cells slots Q (F0 m pc ls (.ref a :: rest)) := by
  subst hC
  exact va_castS S.1 S.2.1 S.2.2.2.1 (S.2.2.2.2 _ hlink) (hE.1.1 ci r hc).2 (va_recv hE.1 (g_1 w.1 ha) hc (q0 := 0) rfl) hdg k
theorem g_astqO (hexec : p.tables.exec = Jvm.exec) (hb : c.code = cc) (hK : va_K D cl tys s) (w : g_S D cl A H0 G H locs nz) (t0 ci : Nat) {E : String} {cA : ClassId} {r : vw_C} {n v : Nat} {vs : List Value} {f : Nat → Option Nat} (ha : G a = some (.inl (cA, n, .inr (.inr (.inr (.inr f)))))) (ht : tys[t0]? = some (cA, .object E)) (hca : va_Nw (.castable r.1 E) s) (hv : G v = some (.inr (ci, vs))) (hc : cl[ci]? = some r) {i : Int32} (hin : vp_in i n) (hdg : decode cc pc = .ok (.aastore, 1))
    (kk : ∀ (H1 : Heap) (locs1 : List Loc), g_S D cl A H0 (g_up G a (.inl (cA, n, .inr (.inr (.inr (.inr (va_up f i.toNatClampNeg (some v)))))))) H1 locs1 nz → W p l e R s m args below meth c H1 locs1 cells slots Q (F0 m (pc + 1) ls rest)) : W p l e R s m args below meth c H locs cells slots Q (F0 m pc ls (.ref v :: .int i :: .ref a :: rest)) := by
  have hlt : i.toNatClampNeg < n := Nat.not_le.mp fun q => hin (Or.inr q)
  have h0 : ¬ i < 0 := fun q => hin (Or.inl q)
  obtain ⟨r', hr', cellV, g1, g2, g3, -⟩ := w.1 v _ hv
  have hcls := (hK.1 ci r hc).2
  obtain ⟨kA, comp, k1, k2, k3, -⟩ := (hK.2 t0 _ ht).2
  obtain ⟨kE, hkE, -⟩ := Vm.findClass_spec k3
  obtain ⟨c0, t1, f1, f2, f3⟩ := Cond.castable_spec (va_Nw.use (A := args) rfl hca)
  cases hcls.1.symm.trans f1
  cases k3.symm.trans f2
  obtain ⟨kC, hkC, -⟩ := hcls.2
  refine W.aast hexec hb (w.1 a _ ha) (fun q h => by cases h) (fun h => by cases h) k1 k2 rfl hkE ⟨h0, by show _ < (arrV _ _ _).slots.size; rw [arrV_size]; exact hlt⟩ g1 (fun q h => by rw [g3] at h; cases h) (by rw [g2]; exact hkC) (by rw [g2]; exact f3) rfl rfl hdg fun H1 e z oq => ?_
  refine kk H1 _ (g_set w ha ?_ z oq)
  show H1[a]? = some (vp_cell _ _)
  rw [e]
  rw [vp_cell_q, vp_cell_q, arrV_store]
  congr 2
  funext q
  by_cases hq : q = i.toNatClampNeg
  · subst hq
    simp [updV, va_up, va_rf]
  · simp [updV, va_up, hq]
theorem g_out {E : String} {t : Nat} (h : va_O E t A s s.heap) (w : g_S D cl A s.heap G H locs nz) : ∃ cell : Cell, H[t]? = some cell ∧ cell.vm.isStatics = false ∧ s.vm.findClass E = some cell.cls := by
  obtain ⟨cell, h1, h2, h3, h4⟩ := h
  exact ⟨cell, by rw [w.2.2.1.2.1 t (Array.getElem?_eq_some_iff.mp h1).1 h4]; exact h1, h2, h3⟩
/-- nothing is copied, out of the empty array -/
theorem g_copy0 (hexec : p.tables.exec = Jvm.exec) (hb : c.code = cc) (hml : c.maxLocals = ls.size) {own : String} {index : Nat} (hown : s.vm.findClass own = some m.cls) (hlink : (Cond.methodLink own index arraycopyName).before args s = true) (hnat : (Cond.native arraycopyName).before args s = true) (hstat : (Cond.static arraycopyName).before args s = true) (hini : (Cond.initialized "java/lang/System").before args s = true)
    (hK : va_K D cl tys s) (w : g_S D cl A s.heap G H locs nz) (t1 : Nat) {a0 : Nat} {c1 : ClassId} {n1 : Nat} {fv : Nat → Value} {g : Nat → Option Nat} {E0 E1 : String} (hX : va_T (.object E0) a0 0 fv A s s.heap) (ha1 : G a = some (.inl (c1, n1, .inr (.inr (.inr (.inr g)))))) (ht1 : tys[t1]? = some (c1, .object E1))
    (hframes : 1 ≤ R.frames) (hlocals : (rest.map fun v => v.category).sum + (nativeFrameWords "java/lang/System" "arraycopy" 5 + 11) ≤ R.locals) (hdg : decode cc pc = .ok (.invokestatic index, 3))
    (kk : ∀ (H1 : Heap) (locs1 : List Loc), g_S D cl A s.heap G H1 locs1 nz → W p l e R s m args below meth c H1 locs1 cells slots Q (F0 m (pc + 3) ls rest)) : W p l e R s m args below meth c H locs cells slots Q (F0 m pc ls (.int 0 :: .int 0 :: .ref a :: .int 0 :: .ref a0 :: rest)) := by
  have z0 : (0 : Int32).toInt = 0 := by decide
  intro T hT X
  obtain ⟨scr, hs1, ⟨hs2, k0, hk0, cm0, hkk0⟩, hs3, -, -, -, hs7⟩ := hX
  have hc0 : H[a0]? = some scr := by rw [w.2.2.1.2.1 a0 (Array.getElem?_eq_some_iff.mp hs1).1 hs7]; exact hs1
  have hc1 : H[a]? = some (vp_cell c1 (n1, .inr (.inr (.inr (.inr g))))) := w.1 a _ ha1
  obtain ⟨-, k1, hk1, cm1, hkk1⟩ := (hK.2 t1 _ ht1).1 n1 (fun j => va_rf (g j))
  obtain ⟨vm', X', step⟩ := X.arraycopy hexec hown hlink hnat hstat hini (src := a0) (dst := a) (cs := scr) (cd := vp_cell c1 (n1, .inr (.inr (.inr (.inr g))))) (srcPos := 0) (destPos := 0) (n := 0) (by rw [hT]; exact hc0) (by rw [hT]; exact hc1)
    hs2 (fun _ h => by cases h) hs3 (fun h => by cases h) hk0 hk1 hkk0 hkk1 rfl (by decide) (by decide) (by decide)
    (by rw [z0]; omega)
    (by rw [z0]; show ¬ _ > ((arrV c1 n1 (fun j => va_rf (g j))).slots.size : Int); rw [arrV_size]; omega)
    (fun vm₁ hal i hi => absurd hi (Nat.not_lt_zero i))
    (g := F0 m pc ls (.int 0 :: .int 0 :: .ref a :: .int 0 :: .ref a0 :: rest)) rfl (by rw [hml]) (rest := rest) rfl (by rw [hb]; exact hdg) hframes (by show 2 * 0 + _ + _ ≤ _; omega)
  have hg : va_cpy (fun _ => none) g 0 0 0 = g := by
    funext q
    unfold va_cpy
    rw [if_neg (by omega)]
  have e1 : copied scr (vp_cell c1 (n1, .inr (.inr (.inr (.inr g))))) 0 0 0 = vp_cell c1 (n1, .inr (.inr (.inr (.inr g)))) := by
    rw [vp_cell_q]
    have k := va_copiedX (sp := 0) (dp := 0) (n := 0) (fun z => va_rf z) scr c1 (n1 := n1) (fun _ => none) g (fun j hj => absurd hj (Nat.not_lt_zero j)) (by decide)
    rw [hg] at k
    exact k
  rw [e1] at X' step
  have hl : a < H.size := (Array.getElem?_eq_some_iff.mp hc1).1
  have hheap : ((T.setVm vm').setCell a (vp_cell c1 (n1, .inr (.inr (.inr (.inr g)))))).heap = H.setIfInBounds a (vp_cell c1 (n1, .inr (.inr (.inr (.inr g))))) := by rw [← hT]; rfl
  have oq : ∀ q : Nat, (H.setIfInBounds a (vp_cell c1 (n1, .inr (.inr (.inr (.inr g))))))[q]? = H[q]? := by
    intro q
    by_cases hq : q = a
    · subst hq
      rw [hc1]
      simp [Array.getElem?_setIfInBounds, hl]
    · simp [Array.getElem?_setIfInBounds, Ne.symm hq]
  have hA : A a := w.2.1 a _ ha1
  obtain ⟨t, a1, b1⟩ := kk _ _ ⟨fun b f hb => (w.1 b f hb).kept (oq b), w.2.1, ⟨by simp; exact w.2.2.1.1, fun q g1 g2 => by rw [oq q]; exact w.2.2.1.2.1 q g1 g2, fun q hq => by
      rcases List.mem_append.mp hq with h | h
      · exact w.2.2.1.2.2 q h
      · obtain ⟨z, -, hz⟩ := List.mem_map.mp h
        rw [← hz]
        exact hA⟩, w.2.2.2.1, by simp; exact w.2.2.2.2⟩ _ hheap X'
  exact ⟨t, step t a1, b1⟩
end JDKR
