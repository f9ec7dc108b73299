section VQX
variable {p : Program} {l : Launch} {e : Env} {R : Room} {s : State} {m : MethodId} {args : Array Value} {below : List Frame} {meth : Method} {c : Code} {H : Heap} {locs : List Loc} {cells slots : Nat} {Q : State → Prop}
variable {mc ms : Nat} {free : Addr → Prop} {A0 A1 : Nat → Prop} {H0 : Heap} {a : Array Value} {pc : Nat} {ls : Array Slot} {st0 rest : List Value}
theorem vx_callq {S SX : Type} {post : Option Nat → S → Prop} {px : SX → Prop} {B : S → State → Prop} {BX : String → SX → State → Prop} {AX : Nat → Prop} (hr : vx_Run p l e R s m args below meth c H locs cells slots mc ms (F0 m pc ls st0) rest (va_Qq post B A1 a) (vx_X px BX AX) free) (hS : va_S A0 H0 H locs) (hA : ∀ q, q < H.size → A1 q → A0 q) (hf : ∀ q, free q → A0 q) (hAX : ∀ q, q < H.size → AX q → A0 q)
    (kx : ∀ (E : String) (ce : Cell) (q9 : Addr) (u : SX) (t : State) (H1 : Heap) (locs1 : List Loc), t.heap = H1 → s.vm.Alike t.vm → px u → BX E u t → H.size ≤ H1.size → (∀ q : Nat, q < H.size → ¬ AX q → H1[q]? = H[q]?) → va_S A0 H0 H1 locs1 → H1[q9]? = some ce → ce.vm = .none → s.vm.findClass E = some ce.cls → vx_W p l e R s m args below meth c H1 locs1 (cells + mc) (slots + ms) Q (F0 m pc ls rest) q9)
    (kk : ∀ (r : Option Nat) (u : S) (t : State) (H1 : Heap) (locs1 : List Loc), t.heap = H1 → s.vm.Alike t.vm → post r u → B u t → H.size ≤ H1.size → (∀ q : Nat, q < H.size → ¬ A1 q → H1[q]? = H[q]?) → va_S A0 H0 H1 locs1 → W p l e R s m args below meth c H1 locs1 (cells + mc) (slots + ms) Q (F0 m (pc + 3) ls (va_rf r :: rest))) : W p l e R s m args below meth c H locs cells slots Q (F0 m pc ls st0) := by
  intro T hT X
  rcases hr T hT X with ⟨v, st₀, t, T', L, h0, X', hL, e1, e2, ⟨⟨r, u, hv, hp, hb⟩, hF⟩, st⟩ | ⟨q, st₀, t, T', L, E, ce, h0, X', hL, e1, e2, ⟨u, hp, hb, hF⟩, hce, hcv, hcl, st⟩
  · cases hv
    obtain ⟨k1, k2, k3⟩ := vx_keep h0 e1 hS hA hf hL hF
    obtain ⟨t2, a1, b1⟩ := kk r u t T'.heap (locs ++ L) e1.symm (by rw [← e2]; exact X'.warmed.alike) hp hb k1 k2 k3 T' rfl X'
    exact ⟨t2, st t2 a1, b1⟩
  · obtain ⟨k1, k2, k3⟩ := vx_keep h0 e1 hS hAX hf hL hF
    obtain ⟨t2, a1, b1⟩ := kx E ce q u t T'.heap (locs ++ L) e1.symm (by rw [← e2]; exact X'.warmed.alike) hp hb k1 k2 k3 (by rw [e1]; exact hce) hcv hcl T' rfl X'
    exact ⟨t2, st.trans a1, b1⟩
end VQX
/-! methods that may throw: what they leave then, and how a throw and a call of such a method is walked -/
abbrev gX (D : va_G) (A : Nat → Prop) (px : String → gW × Nat → Prop) : String → State → State → Prop := vx_X (S := gW × Nat) (fun _ => True) (fun E u t => px E u ∧ g_B D vwCl A u t) A
section EXC
variable {p : Program} {l : Launch} {e : Env} {R : Room} {s : State} {m : MethodId} {args : Array Value} {below : List Frame} {meth : Method} {c : Code} {H : Heap} {locs : List Loc} {cells slots mc ms : Nat} {Q : State → Prop}
variable {pc : Nat} {ls : Array Slot} {rest st0 : List Value} {D : va_G} {ar : Nat → ClassId} {κ : Nat → Nat} {A A0 : Nat → Prop} {G : gW} {nz : Nat} {H0 : Heap} {cl : List vw_C}
variable {y : MethodName} {bytes cc : ByteArray} {maxL nL n index : Nat} {ret : Option FieldType} {rm : Room} {Qc : Array Value → State → Outcome → State → Prop} {free : Addr → Prop} {own C host : String} {b ci : Nat} {As fs : List Value} {r : vw_C} {lv : List (Nat × Value)} {px : String → gW × Nat → Prop}
theorem g_thrown {cls : String} (w : g_S D vwCl A s.heap G H locs nz) (hp : ∀ n, nz ≤ n → px cls (G, n)) : ∀ t : State, s.vm.Alike t.vm → H.size ≤ t.heap.size → (∀ q : Nat, q < H.size → t.heap[q]? = H[q]?) → gX D A px cls s t := by
  intro t hvm hz hk
  refine ⟨(G, t.heap.size), trivial, ⟨hp _ (by rw [← w.2.2.2.2]; exact hz), fun a e ha => (w.1 a e ha).kept (hk a (g_lt w.1 ha)), w.2.1, rfl⟩, Nat.le_trans w.2.2.1.1 hz, fun q h1 h2 => ?_⟩
  rw [hk q (Nat.lt_of_lt_of_le h1 w.2.2.1.1)]
  exact w.2.2.1.2.1 q h1 h2
theorem g_throwS (hlt : l.stackTraces = false) (S : CallFix p m c cc nL s args lwA own) (hE : g_E D vwCl (gT ar) (EX1 κ) A s s.heap) (w : g_S D vwCl A s.heap G H locs nz) (hl : lv_has ls nL lv) (ht : ∀ x ∈ c.exceptionTable.toList, False) (hlk : meth.locks = false)
    {cls text : String} {names : List String} {ik is ic : Nat} (hcls : Bundle.fit cls = true) (hnames : ∀ n ∈ names, Bundle.fit n = true) (hk : Cond.classLink own ik cls ∈ lwA) (hini : Cond.initialized cls ∈ lwA) (hstr : (own, is, text) ∈ lwS)
    (hA1 : ∀ w ∈ (vx_atS own ic cls names).filter goodWord, w ∈ lwA) (hA2 : ∀ w ∈ (vx_atS own ic cls names).filter (fun w => !goodWord w), w ∈ lwN ∧ w.onTables = true) (hgood : ∀ w ∈ Cond.classLink own ik cls :: Cond.initialized cls :: vx_atS own ic cls names, vx_ot w = true)
    (d0 : decode cc pc = .ok (.new ik, 3)) (d3 : decode cc (pc + 3) = .ok (.dup, 1)) (d4 : decode cc (pc + 4) = .ok (.ldc is, 2)) (d6 : decode cc (pc + 6) = .ok (.invokespecial ic, 3)) (d9 : decode cc (pc + 9) = .ok (.athrow, 1))
    (hF : names.length + 3 < R.frames) (hL : (rest.map fun v => v.category).sum + (13 * (names.length + 1) + 43) ≤ R.locals) (h1 : cells + 1 ≤ R.cells) (h2 : slots + 6 ≤ R.slots) (h3 : cells + 1 ≤ mc) (h4 : slots + 6 ≤ ms)
    (hp : ∀ n, nz ≤ n → px cls (G, n)) : W p l e R s m args below meth c H locs cells slots (vx_MQ below Qc (gX D A px) args s mc ms A) (F0 m pc ls rest) := by
  obtain ⟨sa, hsa⟩ := hE.2.2.2.1 _ hstr
  have hat : ∀ w ∈ vx_atS own ic cls names, w.before args s = true := by
    intro w hw
    by_cases hg : goodWord w = true
    · exact S.2.2.2.2 _ (hA1 w (List.mem_filter.mpr ⟨hw, hg⟩))
    · obtain ⟨q1, q2⟩ := hA2 w (List.mem_filter.mpr ⟨hw, by simp [hg]⟩)
      exact va_Nw.use q2 (hE.2.1.1 w q1)
  exact vx_throwS S.1 S.2.1 hlt S.2.2.2.1 hcls hnames (S.2.2.2.2 _ hk) (S.2.2.2.2 _ hini) hsa hat hgood hE.2.2.1.1 hE.2.2.1.2 w.2.2.1 (hl.1.trans S.2.2.1.symm) d0 d3 d4 d6 d9 (fun x hx => (ht x hx).elim) hF hL h1 h2 hlk (g_thrown w hp) w.2.2.1.2.2 h3 h4
theorem g_throwSW (hlt : l.stackTraces = false) (S : CallFix p m c cc nL s args lwA own) (hE : g_E D vwCl (gT ar) (EX1 κ) A s s.heap) (w : g_S D vwCl A s.heap G H locs nz) (hl : lv_has ls nL lv) (ht : ∀ x ∈ c.exceptionTable.toList, False) (hlk : meth.locks = false)
    {cls text : String} {names : List String} {ik is ic : Nat} (hcls : Bundle.fit cls = true) (hnames : ∀ n ∈ names, Bundle.fit n = true) (hk : Cond.classLink own ik cls ∈ lwA) (hini : Cond.initialized cls ∈ lwA) (hstr : (own, is, text) ∈ lwS)
    (hA1 : ∀ w ∈ (vx_atS own ic cls names).filter goodWord, w ∈ lwA) (hA2 : ∀ w ∈ (vx_atS own ic cls names).filter (fun w => !goodWord w), w ∈ lwN ∧ w.onTables = true) (hgood : ∀ w ∈ Cond.classLink own ik cls :: Cond.initialized cls :: vx_atS own ic cls names, vx_ot w = true)
    (d0 : decode cc pc = .ok (.new ik, 3)) (d3 : decode cc (pc + 3) = .ok (.dup, 1)) (d4 : decode cc (pc + 4) = .ok (.ldc_w is, 3)) (d6 : decode cc (pc + 7) = .ok (.invokespecial ic, 3)) (d9 : decode cc (pc + 10) = .ok (.athrow, 1))
    (hF : names.length + 3 < R.frames) (hL : (rest.map fun v => v.category).sum + (13 * (names.length + 1) + 43) ≤ R.locals) (h1 : cells + 1 ≤ R.cells) (h2 : slots + 6 ≤ R.slots) (h3 : cells + 1 ≤ mc) (h4 : slots + 6 ≤ ms)
    (hp : ∀ n, nz ≤ n → px cls (G, n)) : W p l e R s m args below meth c H locs cells slots (vx_MQ below Qc (gX D A px) args s mc ms A) (F0 m pc ls rest) := by
  obtain ⟨sa, hsa⟩ := hE.2.2.2.1 _ hstr
  have hat : ∀ w ∈ vx_atS own ic cls names, w.before args s = true := by
    intro w hw
    by_cases hg : goodWord w = true
    · exact S.2.2.2.2 _ (hA1 w (List.mem_filter.mpr ⟨hw, hg⟩))
    · obtain ⟨q1, q2⟩ := hA2 w (List.mem_filter.mpr ⟨hw, by simp [hg]⟩)
      exact va_Nw.use q2 (hE.2.1.1 w q1)
  exact vx_throwSW S.1 S.2.1 hlt S.2.2.2.1 hcls hnames (S.2.2.2.2 _ hk) (S.2.2.2.2 _ hini) hsa hat hgood hE.2.2.1.1 hE.2.2.1.2 w.2.2.1 (hl.1.trans S.2.2.1.symm) d0 d3 d4 d6 d9 (fun x hx => (ht x hx).elim) hF hL h1 h2 hlk (g_thrown w hp) w.2.2.1.2.2 h3 h4
/-- a callee's exception goes on to the caller -/
theorem g_pass {E : String} {ce : Cell} {q9 : Addr} {u : gW × Nat} (ht : ∀ x ∈ c.exceptionTable.toList, False) (hlk : meth.locks = false) (w : g_S D vwCl A s.heap u.1 H locs u.2) (hcell : H[q9]? = some ce) (hv : ce.vm = .none) (hcl : s.vm.findClass E = some ce.cls) (hp : px E u) (hc : cells ≤ mc) (hs : slots ≤ ms) :
    vx_W p l e R s m args below meth c H locs cells slots (vx_MQ below Qc (gX D A px) args s mc ms A) (F0 m pc ls rest) q9 :=
  vx_out (fun x hx => (ht x hx).elim) hlk hcell hv hcl (fun t hh hvm => ⟨u, trivial, ⟨hp, by rw [hh]; exact w.1, w.2.1, by rw [hh]; exact w.2.2.2.2⟩, w.2.2.1.F hh⟩) w.2.2.1.2.2 hc hs
theorem gx_calli {post : Int32 → gW × Nat → Prop} {a : Array Value} (w : g_S D vwCl A0 H0 G H locs nz) (hr : vx_Run p l e R s m args below meth c H locs cells slots mc ms (F0 m pc ls st0) rest (g_Qi D vwCl (g_A G nz) post a) (gX D (g_A G nz) px) (g_A G nz))
    (kx : ∀ (E : String) (ce : Cell) (q9 : Addr) (u : gW × Nat) (H1 : Heap) (locs1 : List Loc), px E u → nz ≤ u.2 → g_S D vwCl A0 H0 u.1 H1 locs1 u.2 → H1[q9]? = some ce → ce.vm = .none → s.vm.findClass E = some ce.cls → vx_W p l e R s m args below meth c H1 locs1 (cells + mc) (slots + ms) Q (F0 m pc ls rest) q9)
    (kk : ∀ (r : Int32) (u : gW × Nat) (H1 : Heap) (locs1 : List Loc), post r u → nz ≤ u.2 → g_S D vwCl A0 H0 u.1 H1 locs1 u.2 → W p l e R s m args below meth c H1 locs1 (cells + mc) (slots + ms) Q (F0 m (pc + 3) ls (.int r :: rest))) : W p l e R s m args below meth c H locs cells slots Q (F0 m pc ls st0) :=
  vx_calli hr w.2.2.1 (fun q _ h => g_in w h) (fun q h => g_in w h) (fun q _ h => g_in w h) (fun E ce q9 u t H1 locs1 ht hvm _ hB hz hk hS hce hv hcl => by
    obtain ⟨hp, b1, b2, b3⟩ := hB
    rw [ht] at b1 b3
    exact kx E ce q9 u H1 locs1 hp (by rw [← b3, ← w.2.2.2.2]; exact hz) ⟨b1, fun a e h => g_in w (b2 a e h), hS, w.2.2.2.1, b3⟩ hce hv hcl) (fun r u t H1 locs1 ht hvm hp hB hz hk hS => by
    obtain ⟨b1, b2, b3⟩ := hB
    rw [ht] at b1 b3
    exact kk r u H1 locs1 hp (by rw [← b3, ← w.2.2.2.2]; exact hz) ⟨b1, fun a e h => g_in w (b2 a e h), hS, w.2.2.2.1, b3⟩)
theorem gx_calll {post : Int64 → gW × Nat → Prop} {a : Array Value} (w : g_S D vwCl A0 H0 G H locs nz) (hr : vx_Run p l e R s m args below meth c H locs cells slots mc ms (F0 m pc ls st0) rest (g_Ql D vwCl (g_A G nz) post a) (gX D (g_A G nz) px) (g_A G nz))
    (kx : ∀ (E : String) (ce : Cell) (q9 : Addr) (u : gW × Nat) (H1 : Heap) (locs1 : List Loc), px E u → nz ≤ u.2 → g_S D vwCl A0 H0 u.1 H1 locs1 u.2 → H1[q9]? = some ce → ce.vm = .none → s.vm.findClass E = some ce.cls → vx_W p l e R s m args below meth c H1 locs1 (cells + mc) (slots + ms) Q (F0 m pc ls rest) q9)
    (kk : ∀ (r : Int64) (u : gW × Nat) (H1 : Heap) (locs1 : List Loc), post r u → nz ≤ u.2 → g_S D vwCl A0 H0 u.1 H1 locs1 u.2 → W p l e R s m args below meth c H1 locs1 (cells + mc) (slots + ms) Q (F0 m (pc + 3) ls (.long r :: rest))) : W p l e R s m args below meth c H locs cells slots Q (F0 m pc ls st0) :=
  vx_calll hr w.2.2.1 (fun q _ h => g_in w h) (fun q h => g_in w h) (fun q _ h => g_in w h) (fun E ce q9 u t H1 locs1 ht hvm _ hB hz hk hS hce hv hcl => by
    obtain ⟨hp, b1, b2, b3⟩ := hB
    rw [ht] at b1 b3
    exact kx E ce q9 u H1 locs1 hp (by rw [← b3, ← w.2.2.2.2]; exact hz) ⟨b1, fun a e h => g_in w (b2 a e h), hS, w.2.2.2.1, b3⟩ hce hv hcl) (fun r u t H1 locs1 ht hvm hp hB hz hk hS => by
    obtain ⟨b1, b2, b3⟩ := hB
    rw [ht] at b1 b3
    exact kk r u H1 locs1 hp (by rw [← b3, ← w.2.2.2.2]; exact hz) ⟨b1, fun a e h => g_in w (b2 a e h), hS, w.2.2.2.1, b3⟩)
theorem gx_callv {post : gW × Nat → Prop} {a : Array Value} (w : g_S D vwCl A0 H0 G H locs nz) (hr : vx_Run p l e R s m args below meth c H locs cells slots mc ms (F0 m pc ls st0) rest (g_Qv D vwCl (g_A G nz) post a) (gX D (g_A G nz) px) (g_A G nz))
    (kx : ∀ (E : String) (ce : Cell) (q9 : Addr) (u : gW × Nat) (H1 : Heap) (locs1 : List Loc), px E u → nz ≤ u.2 → g_S D vwCl A0 H0 u.1 H1 locs1 u.2 → H1[q9]? = some ce → ce.vm = .none → s.vm.findClass E = some ce.cls → vx_W p l e R s m args below meth c H1 locs1 (cells + mc) (slots + ms) Q (F0 m pc ls rest) q9)
    (kk : ∀ (u : gW × Nat) (H1 : Heap) (locs1 : List Loc), post u → nz ≤ u.2 → g_S D vwCl A0 H0 u.1 H1 locs1 u.2 → W p l e R s m args below meth c H1 locs1 (cells + mc) (slots + ms) Q (F0 m (pc + 3) ls rest)) : W p l e R s m args below meth c H locs cells slots Q (F0 m pc ls st0) :=
  vx_callv hr w.2.2.1 (fun q _ h => g_in w h) (fun q h => g_in w h) (fun q _ h => g_in w h) (fun E ce q9 u t H1 locs1 ht hvm _ hB hz hk hS hce hv hcl => by
    obtain ⟨hp, b1, b2, b3⟩ := hB
    rw [ht] at b1 b3
    exact kx E ce q9 u H1 locs1 hp (by rw [← b3, ← w.2.2.2.2]; exact hz) ⟨b1, fun a e h => g_in w (b2 a e h), hS, w.2.2.2.1, b3⟩ hce hv hcl) (fun u t H1 locs1 ht hvm hp hB hz hk hS => by
    obtain ⟨b1, b2, b3⟩ := hB
    rw [ht] at b1 b3
    exact kk u H1 locs1 hp (by rw [← b3, ← w.2.2.2.2]; exact hz) ⟨b1, fun a e h => g_in w (b2 a e h), hS, w.2.2.2.1, b3⟩)
theorem gx_callq {post : Option Nat → gW × Nat → Prop} {a : Array Value} (w : g_S D vwCl A0 H0 G H locs nz) (hr : vx_Run p l e R s m args below meth c H locs cells slots mc ms (F0 m pc ls st0) rest (g_Qq D vwCl (g_A G nz) post a) (gX D (g_A G nz) px) (g_A G nz))
    (kx : ∀ (E : String) (ce : Cell) (q9 : Addr) (u : gW × Nat) (H1 : Heap) (locs1 : List Loc), px E u → nz ≤ u.2 → g_S D vwCl A0 H0 u.1 H1 locs1 u.2 → H1[q9]? = some ce → ce.vm = .none → s.vm.findClass E = some ce.cls → vx_W p l e R s m args below meth c H1 locs1 (cells + mc) (slots + ms) Q (F0 m pc ls rest) q9)
    (kk : ∀ (r : Option Nat) (u : gW × Nat) (H1 : Heap) (locs1 : List Loc), post r u → nz ≤ u.2 → g_S D vwCl A0 H0 u.1 H1 locs1 u.2 → W p l e R s m args below meth c H1 locs1 (cells + mc) (slots + ms) Q (F0 m (pc + 3) ls (va_rf r :: rest))) : W p l e R s m args below meth c H locs cells slots Q (F0 m pc ls st0) :=
  vx_callq hr w.2.2.1 (fun q _ h => g_in w h) (fun q h => g_in w h) (fun q _ h => g_in w h) (fun E ce q9 u t H1 locs1 ht hvm _ hB hz hk hS hce hv hcl => by
    obtain ⟨hp, b1, b2, b3⟩ := hB
    rw [ht] at b1 b3
    exact kx E ce q9 u H1 locs1 hp (by rw [← b3, ← w.2.2.2.2]; exact hz) ⟨b1, fun a e h => g_in w (b2 a e h), hS, w.2.2.2.1, b3⟩ hce hv hcl) (fun r u t H1 locs1 ht hvm hp hB hz hk hS => by
    obtain ⟨b1, b2, b3⟩ := hB
    rw [ht] at b1 b3
    exact kk r u H1 locs1 hp (by rw [← b3, ← w.2.2.2.2]; exact hz) ⟨b1, fun a e h => g_in w (b2 a e h), hS, w.2.2.2.1, b3⟩)
variable {XC : String → State → State → Prop}
theorem gx_runV (S : CallFix p m c cc nL s args lwA own) (hE : g_E D vwCl (gT ar) (EX1 κ) A s s.heap) (w : g_S D vwCl A s.heap G H locs nz) (hl : lv_has ls nL lv) (hM : vx_Met l y (lwC y bytes maxL ret) rm (g_Pc D vwCl (gT ar) (EX1 κ) G nz (.ref b :: As)) Qc XC mc ms free) (cw : CallW R s args own C index y bytes maxL ret (lwC y bytes maxL ret) rm mc ms n)
    (hb : G b = some (.inr (ci, fs))) (hc : vwCl[ci]? = some r) (hC : r.1 = C) (hn : As.length = n) (hst : st0 = As.reverse ++ .ref b :: rest) (hW : (rest.map fun v => v.category).sum ≤ 8) (hdg : decode cc pc = .ok (.invokevirtual index, 3)) (hf : cells + mc ≤ R.cells ∧ slots + ms ≤ R.slots) :
    vx_Run p l e R s m args below meth c H locs cells slots mc ms (F0 m pc ls st0) rest (Qc (Value.ref b :: As).toArray) XC free := by
  subst hC
  exact vx_runV S hM cw (g_preV (EX1_cl κ) w hE hb hc) rfl hn hl.1 hst (lv_room hW) hdg hf
theorem gx_runS (S : CallFix p m c cc nL s args lwA own) (hE : g_E D vwCl (gT ar) (EX1 κ) A s s.heap) (w : g_S D vwCl A s.heap G H locs nz) (hl : lv_has ls nL lv) (hM : vx_Met l y (lwC y bytes maxL ret) rm (g_Pc D vwCl (gT ar) (EX1 κ) G nz As) Qc XC mc ms free) (cw : CallB R s args own index y bytes maxL ret (lwC y bytes maxL ret) rm mc ms n ∧ (Cond.static y).before args s = true)
    (hn : As.length = n) (hst : st0 = As.reverse ++ rest) (hW : (rest.map fun v => v.category).sum ≤ 8) (hdg : decode cc pc = .ok (.invokestatic index, 3)) (hf : cells + mc ≤ R.cells ∧ slots + ms ≤ R.slots) :
    vx_Run p l e R s m args below meth c H locs cells slots mc ms (F0 m pc ls st0) rest (Qc As.toArray) XC free :=
  vx_runS S hM cw (g_preS (EX1_cl κ) w hE) rfl hn hl.1 hst (lv_room hW) hdg hf
end EXC
