/-! calls over a part of the world: the rest is as it was -/
/-- what of a world lies at addresses of a kind -/
def g_res (P : Nat → Prop) [DecidablePred P] (G : gW) : gW := fun a => if P a then G a else none
/-- a kept part over what came back -/
def g_ov (G2 u : gW) : gW := fun a => match G2 a with
  | some e => some e
  | none => u a
section FRM
variable {D : va_G} {cl : List vw_C} {A A0 : Nat → Prop} {H0 H H1 : Heap} {G G1 G2 u : gW} {a : Nat} {e : va_E} {locs locs1 : List Loc} {nz : Nat} 
theorem g_res_i {P : Nat → Prop} [DecidablePred P] (h : P a) (hg : G a = some e) : g_res P G a = some e := by
  unfold g_res
  rw [if_pos h]
  exact hg
theorem g_res_s {P : Nat → Prop} [DecidablePred P] (h : g_res P G a = some e) : G a = some e := by
  unfold g_res at h
  split at h
  · exact h
  · cases h
theorem g_res_2 {P : Nat → Prop} [DecidablePred P] (h : g_res (fun x => ¬ P x) G a = some e) : G a = some e ∧ g_res P G a = none := by
  unfold g_res at h ⊢
  by_cases hp : P a
  · rw [if_neg (fun q => q hp)] at h
    cases h
  · rw [if_pos hp] at h
    exact ⟨h, if_neg hp⟩
theorem g_ov_l (h : G2 a = some e) : g_ov G2 u a = some e := by
  unfold g_ov
  rw [h]
theorem g_ov_r (h : G2 a = none) (hu : u a = some e) : g_ov G2 u a = some e := by
  unfold g_ov
  rw [h]
  exact hu
theorem g_res_n {P : Nat → Prop} [DecidablePred P] (h : ¬ P a) : g_res P G a = none := if_neg h
theorem g_sub (w : g_S D cl A0 H0 G H locs nz) (h : ∀ a e, G1 a = some e → G a = some e) : g_S D cl A0 H0 G1 H locs nz := ⟨fun a e h1 => w.1 a e (h a e h1), fun a e h1 => w.2.1 a e (h a e h1), w.2.2⟩
theorem g_fr {uu : gW × Nat} {t : State} (w : g_S D cl A0 H0 G H locs nz) (h1 : ∀ a e, G1 a = some e → G a = some e) (h2 : ∀ a e, G2 a = some e → G a = some e ∧ G1 a = none) (hB : g_B D cl (g_A G1 nz) uu t) (ht : t.heap = H1) (hk : ∀ q : Nat, q < H.size → ¬ g_A G1 nz q → H1[q]? = H[q]?) (hS : va_S A0 H0 H1 locs1) : g_S D cl A0 H0 (g_ov G2 uu.1) H1 locs1 uu.2 := by
  obtain ⟨b1, b2, b3⟩ := hB
  rw [ht] at b1 b3
  refine ⟨fun a e h => ?_, fun a e h => ?_, hS, w.2.2.2.1, b3⟩
  · unfold g_ov at h
    split at h
    · rename_i e9 h9
      cases h
      obtain ⟨q1, q2⟩ := h2 a _ h9
      refine (w.1 a _ q1).kept (hk a (g_lt w.1 q1) ?_)
      rintro (⟨e3, h3⟩ | h3)
      · rw [q2] at h3
        cases h3
      · exact absurd (g_ltn w q1) (Nat.not_lt.mpr h3)
    · exact b1 a e h
  · unfold g_ov at h
    split at h
    · rename_i e9 h9
      cases h
      exact w.2.1 a _ (h2 a _ h9).1
    · exact g_in (g_sub w h1) (b2 a e h)
end FRM
section FRC
variable {p : Program} {l : Launch} {e : Env} {R : Room} {s : State} {m : MethodId} {args : Array Value} {below : List Frame} {meth : Method} {c : Code} {H : Heap} {locs : List Loc} {cells slots mc ms : Nat} {Q : State → Prop}
variable {pc : Nat} {ls : Array Slot} {rest st0 : List Value} {D : va_G} {cl : List vw_C} {A0 : Nat → Prop} {G G1 : gW} {nz : Nat} {H0 : Heap} {px : String → gW × Nat → Prop}
/-- calls that may throw, over the part G1 -/
theorem gs_xcalli {post : Int32 → gW × Nat → Prop} {a : Array Value} (G2 : gW) (w : g_S D vwCl A0 H0 G H locs nz) (h1 : ∀ a e, G1 a = some e → G a = some e) (h2 : ∀ a e, G2 a = some e → G a = some e ∧ G1 a = none) (hr : vx_Run p l e R s m args below meth c H locs cells slots mc ms (F0 m pc ls st0) rest (g_Qi D vwCl (g_A G1 nz) post a) (gX D (g_A G1 nz) px) (g_A G1 nz))
    (kx : ∀ (E : String) (ce : Cell) (q9 : Addr) (u : gW × Nat) (H1 : Heap) (locs1 : List Loc), px E u → nz ≤ u.2 → g_S D vwCl A0 H0 (g_ov G2 u.1) H1 locs1 u.2 → H1[q9]? = some ce → ce.vm = .none → s.vm.findClass E = some ce.cls → vx_W p l e R s m args below meth c H1 locs1 (cells + mc) (slots + ms) Q (F0 m pc ls rest) q9)
    (kk : ∀ (r : Int32) (u : gW × Nat) (H1 : Heap) (locs1 : List Loc), post r u → nz ≤ u.2 → g_S D vwCl A0 H0 (g_ov G2 u.1) H1 locs1 u.2 → W p l e R s m args below meth c H1 locs1 (cells + mc) (slots + ms) Q (F0 m (pc + 3) ls (.int r :: rest))) : W p l e R s m args below meth c H locs cells slots Q (F0 m pc ls st0) :=
  vx_calli hr w.2.2.1 (fun q _ h => g_in (g_sub w h1) h) (fun q h => g_in (g_sub w h1) h) (fun q _ h => g_in (g_sub w h1) h) (fun E ce q9 u t H1 locs1 ht hvm _ hB hz hk hS hce hv hcl => by
    have hw := g_fr w h1 h2 hB.2 ht hk hS
    have b3 := hB.2.2.2
    rw [ht] at b3
    exact kx E ce q9 u H1 locs1 hB.1 (by rw [← b3, ← w.2.2.2.2]; exact hz) hw hce hv hcl) (fun r u t H1 locs1 ht hvm hp hB hz hk hS => by
    have hw := g_fr w h1 h2 hB ht hk hS
    have b3 := hB.2.2
    rw [ht] at b3
    exact kk r u H1 locs1 hp (by rw [← b3, ← w.2.2.2.2]; exact hz) hw)
theorem gs_xcallq {post : Option Nat → gW × Nat → Prop} {a : Array Value} (G2 : gW) (w : g_S D vwCl A0 H0 G H locs nz) (h1 : ∀ a e, G1 a = some e → G a = some e) (h2 : ∀ a e, G2 a = some e → G a = some e ∧ G1 a = none) (hr : vx_Run p l e R s m args below meth c H locs cells slots mc ms (F0 m pc ls st0) rest (g_Qq D vwCl (g_A G1 nz) post a) (gX D (g_A G1 nz) px) (g_A G1 nz))
    (kx : ∀ (E : String) (ce : Cell) (q9 : Addr) (u : gW × Nat) (H1 : Heap) (locs1 : List Loc), px E u → nz ≤ u.2 → g_S D vwCl A0 H0 (g_ov G2 u.1) H1 locs1 u.2 → H1[q9]? = some ce → ce.vm = .none → s.vm.findClass E = some ce.cls → vx_W p l e R s m args below meth c H1 locs1 (cells + mc) (slots + ms) Q (F0 m pc ls rest) q9)
    (kk : ∀ (r : Option Nat) (u : gW × Nat) (H1 : Heap) (locs1 : List Loc), post r u → nz ≤ u.2 → g_S D vwCl A0 H0 (g_ov G2 u.1) H1 locs1 u.2 → W p l e R s m args below meth c H1 locs1 (cells + mc) (slots + ms) Q (F0 m (pc + 3) ls (va_rf r :: rest))) : W p l e R s m args below meth c H locs cells slots Q (F0 m pc ls st0) :=
  vx_callq hr w.2.2.1 (fun q _ h => g_in (g_sub w h1) h) (fun q h => g_in (g_sub w h1) h) (fun q _ h => g_in (g_sub w h1) h) (fun E ce q9 u t H1 locs1 ht hvm _ hB hz hk hS hce hv hcl => by
    have hw := g_fr w h1 h2 hB.2 ht hk hS
    have b3 := hB.2.2.2
    rw [ht] at b3
    exact kx E ce q9 u H1 locs1 hB.1 (by rw [← b3, ← w.2.2.2.2]; exact hz) hw hce hv hcl) (fun r u t H1 locs1 ht hvm hp hB hz hk hS => by
    have hw := g_fr w h1 h2 hB ht hk hS
    have b3 := hB.2.2
    rw [ht] at b3
    exact kk r u H1 locs1 hp (by rw [← b3, ← w.2.2.2.2]; exact hz) hw)
theorem gs_calli {post : Int32 → gW × Nat → Prop} {a : Array Value} (G2 : gW) (w : g_S D cl A0 H0 G H locs nz) (h1 : ∀ a e, G1 a = some e → G a = some e) (h2 : ∀ a e, G2 a = some e → G a = some e ∧ G1 a = none) (hr : va_Run p l e R s m args below meth c H locs cells slots mc ms (F0 m pc ls st0) rest (g_Qi D cl (g_A G1 nz) post a) (g_A G1 nz))
    (kk : ∀ (r : Int32) (u : gW × Nat) (H1 : Heap) (locs1 : List Loc), post r u → nz ≤ u.2 → g_S D cl A0 H0 (g_ov G2 u.1) H1 locs1 u.2 → W p l e R s m args below meth c H1 locs1 (cells + mc) (slots + ms) Q (F0 m (pc + 3) ls (.int r :: rest))) : W p l e R s m args below meth c H locs cells slots Q (F0 m pc ls st0) :=
  va_calli hr w.2.2.1 (fun q _ h => g_in (g_sub w h1) h) (fun q h => g_in (g_sub w h1) h) (fun r u t H1 locs1 ht hvm hp hB hz hk hS => by
    have hw := g_fr w h1 h2 hB ht hk hS
    have b3 := hB.2.2
    rw [ht] at b3
    exact kk r u H1 locs1 hp (by rw [← b3, ← w.2.2.2.2]; exact hz) hw)
theorem gs_calll {post : Int64 → gW × Nat → Prop} {a : Array Value} (G2 : gW) (w : g_S D cl A0 H0 G H locs nz) (h1 : ∀ a e, G1 a = some e → G a = some e) (h2 : ∀ a e, G2 a = some e → G a = some e ∧ G1 a = none) (hr : va_Run p l e R s m args below meth c H locs cells slots mc ms (F0 m pc ls st0) rest (g_Ql D cl (g_A G1 nz) post a) (g_A G1 nz))
    (kk : ∀ (r : Int64) (u : gW × Nat) (H1 : Heap) (locs1 : List Loc), post r u → nz ≤ u.2 → g_S D cl A0 H0 (g_ov G2 u.1) H1 locs1 u.2 → W p l e R s m args below meth c H1 locs1 (cells + mc) (slots + ms) Q (F0 m (pc + 3) ls (.long r :: rest))) : W p l e R s m args below meth c H locs cells slots Q (F0 m pc ls st0) :=
  va_calll hr w.2.2.1 (fun q _ h => g_in (g_sub w h1) h) (fun q h => g_in (g_sub w h1) h) (fun r u t H1 locs1 ht hvm hp hB hz hk hS => by
    have hw := g_fr w h1 h2 hB ht hk hS
    have b3 := hB.2.2
    rw [ht] at b3
    exact kk r u H1 locs1 hp (by rw [← b3, ← w.2.2.2.2]; exact hz) hw)
theorem gs_callf {post : UInt32 → gW × Nat → Prop} {a : Array Value} (G2 : gW) (w : g_S D cl A0 H0 G H locs nz) (h1 : ∀ a e, G1 a = some e → G a = some e) (h2 : ∀ a e, G2 a = some e → G a = some e ∧ G1 a = none) (hr : va_Run p l e R s m args below meth c H locs cells slots mc ms (F0 m pc ls st0) rest (g_Qf D cl (g_A G1 nz) post a) (g_A G1 nz))
    (kk : ∀ (r : UInt32) (u : gW × Nat) (H1 : Heap) (locs1 : List Loc), post r u → nz ≤ u.2 → g_S D cl A0 H0 (g_ov G2 u.1) H1 locs1 u.2 → W p l e R s m args below meth c H1 locs1 (cells + mc) (slots + ms) Q (F0 m (pc + 3) ls (.float r :: rest))) : W p l e R s m args below meth c H locs cells slots Q (F0 m pc ls st0) :=
  va_callf hr w.2.2.1 (fun q _ h => g_in (g_sub w h1) h) (fun q h => g_in (g_sub w h1) h) (fun r u t H1 locs1 ht hvm hp hB hz hk hS => by
    have hw := g_fr w h1 h2 hB ht hk hS
    have b3 := hB.2.2
    rw [ht] at b3
    exact kk r u H1 locs1 hp (by rw [← b3, ← w.2.2.2.2]; exact hz) hw)
theorem gs_calld {post : UInt64 → gW × Nat → Prop} {a : Array Value} (G2 : gW) (w : g_S D cl A0 H0 G H locs nz) (h1 : ∀ a e, G1 a = some e → G a = some e) (h2 : ∀ a e, G2 a = some e → G a = some e ∧ G1 a = none) (hr : va_Run p l e R s m args below meth c H locs cells slots mc ms (F0 m pc ls st0) rest (g_Qd D cl (g_A G1 nz) post a) (g_A G1 nz))
    (kk : ∀ (r : UInt64) (u : gW × Nat) (H1 : Heap) (locs1 : List Loc), post r u → nz ≤ u.2 → g_S D cl A0 H0 (g_ov G2 u.1) H1 locs1 u.2 → W p l e R s m args below meth c H1 locs1 (cells + mc) (slots + ms) Q (F0 m (pc + 3) ls (.double r :: rest))) : W p l e R s m args below meth c H locs cells slots Q (F0 m pc ls st0) :=
  va_calld hr w.2.2.1 (fun q _ h => g_in (g_sub w h1) h) (fun q h => g_in (g_sub w h1) h) (fun r u t H1 locs1 ht hvm hp hB hz hk hS => by
    have hw := g_fr w h1 h2 hB ht hk hS
    have b3 := hB.2.2
    rw [ht] at b3
    exact kk r u H1 locs1 hp (by rw [← b3, ← w.2.2.2.2]; exact hz) hw)
theorem gs_callv {post : gW × Nat → Prop} {a : Array Value} (G2 : gW) (w : g_S D cl A0 H0 G H locs nz) (h1 : ∀ a e, G1 a = some e → G a = some e) (h2 : ∀ a e, G2 a = some e → G a = some e ∧ G1 a = none) (hr : va_Run p l e R s m args below meth c H locs cells slots mc ms (F0 m pc ls st0) rest (g_Qv D cl (g_A G1 nz) post a) (g_A G1 nz))
    (kk : ∀ (u : gW × Nat) (H1 : Heap) (locs1 : List Loc), post u → nz ≤ u.2 → g_S D cl A0 H0 (g_ov G2 u.1) H1 locs1 u.2 → W p l e R s m args below meth c H1 locs1 (cells + mc) (slots + ms) Q (F0 m (pc + 3) ls rest)) : W p l e R s m args below meth c H locs cells slots Q (F0 m pc ls st0) :=
  va_callv hr w.2.2.1 (fun q _ h => g_in (g_sub w h1) h) (fun q h => g_in (g_sub w h1) h) (fun u t H1 locs1 ht hvm hp hB hz hk hS => by
    have hw := g_fr w h1 h2 hB ht hk hS
    have b3 := hB.2.2
    rw [ht] at b3
    exact kk u H1 locs1 hp (by rw [← b3, ← w.2.2.2.2]; exact hz) hw)
/-- a body with a table of its own that always returns -/
theorem gH_ofW {cc : ByteArray} {tys : List (ClassId × FieldType)} {EX : (Nat → Prop) → State → Heap → Prop} {y : MethodName} {ws : List Cond} {rm : Room} {sz : Nat} {av : List Value} {Qc : Array Value → State → Outcome → State → Prop} {free : Addr → Prop} {maxL : Nat} {ret : Option FieldType} {hh : List (Nat × Nat × Nat × Nat)}
    (hy : plainName y.cls = true) (hnL : (lg_sl av).length ≤ maxL)
    (body : ∀ (p : Program) (e : Env) (s : State) (m : MethodId) (below : List Frame) (meth : Method) (c : Code) (ls : Array Slot),
      CallFix p m c cc maxL s av.toArray ws y.cls → meth.sig.returnType = ret → meth.locks = false → c.exceptionTable.toList = tableOf hh → g_E D cl tys EX (g_A G sz) s s.heap → g_S D cl (g_A G sz) s.heap G s.heap [] sz → lv_has ls maxL (lv_args 0 av) →
      W p l e rm s m av.toArray below meth c s.heap [] 0 0 (MQ below Qc av.toArray s mc ms free) (F0 m 0 ls [])) :
    Met l y (.codeWith y cc maxL ret hh :: ws) rm (g_Pc D cl tys EX G sz av) Qc mc ms free := by
  refine MetFree.of_bodyS (code := cc) (maxLocals := maxL) (ret := ret) hy ?_ ?_
  · intro args s m h hn
    obtain ⟨m9, meth, c, hn9, h1, h2, h3, h4, -, h5, h6, -⟩ := Cond.codeWith_spec (atoms_spec (ws := .codeWith y cc maxL ret hh :: ws) h _ List.mem_cons_self)
    cases hn.symm.trans hn9
    exact ⟨meth, c, h1, h2, h3, h4, h5, h6⟩
  · intro p e s m args below meth c s₁ B hml hP _
    have hh0 : s₁.heap = s.heap := by rw [B.state]; rfl
    have hts := atoms_spec (ws := .codeWith y cc maxL ret hh :: ws) B.pre
    obtain ⟨rfl, hsz, hP9, hK⟩ := hP
    have hl := lv_entry av (n := maxL) hnL
    subst hsz
    have K : W p l e rm s m av.toArray below meth c s.heap [] 0 0 (MQ below Qc av.toArray s mc ms free) (entryFrame m av.toArray maxL) := by
      rw [lg_entry_eq]
      exact body p e s m below meth c _ ⟨B.exec, B.bytes, hml, findClass_of_methodNamed B.named, fun w h => hts w (List.mem_cons_of_mem _ h)⟩ B.returns B.notSynchronized (vx_table (x := y) B (hts _ List.mem_cons_self)) hK ⟨hP9, g_self hP9, va_S.rf, fun q h => Or.inr h, rfl⟩ hl
    obtain ⟨t, a1, o, b1, b2, b3⟩ := K s₁ hh0 (Stand.of_body B)
    exact ⟨t, o, a1, b1, b2, b3⟩
end FRC
