section GM1
/-! The world as a function of the address: what each cell that is known holds. -/
abbrev gW : Type := Nat → Option va_E
def g_P (D : va_G) (cl : List vw_C) (G : gW) (H : Heap) : Prop := ∀ (a : Nat) (e : va_E), G a = some e → va_at D cl (a, e) H
def g_up (G : gW) (a : Nat) (e : va_E) : gW := fun q => if q = a then some e else G q
def g_D (A : Nat → Prop) (G : gW) : Prop := ∀ (a : Nat) (e : va_E), G a = some e → A a
def g_A (G : gW) (sz : Nat) : Nat → Prop := fun q => (∃ e, G q = some e) ∨ sz ≤ q
def g_S (D : va_G) (cl : List vw_C) (A : Nat → Prop) (H0 : Heap) (G : gW) (H : Heap) (locs : List Loc) (n : Nat) : Prop :=
  g_P D cl G H ∧ g_D A G ∧ va_S A H0 H locs ∧ (∀ q, H0.size ≤ q → A q) ∧ H.size = n
variable {D : va_G} {cl : List vw_C} {A : Nat → Prop} {H0 H H1 : Heap} {G u : gW} {a b : Nat} {e e0 : va_E} {locs : List Loc} {tys : List (ClassId × FieldType)} {n : Nat}
theorem g_up_s : g_up G a e a = some e := if_pos rfl
theorem g_up_n (h : b ≠ a) : g_up G a e b = G b := if_neg h
theorem g_up_o (h : b ≠ a) (hb : G b = some e0) : g_up G a e b = some e0 := (if_neg h).trans hb
theorem g_ne (ha : G a = some e) (hb : G b = none) : a ≠ b := fun h => by rw [h, hb] at ha; cases ha
theorem g_nx (ha : G a = some e) (hb : G b = some e0) (h : e ≠ e0) : a ≠ b := fun z => h (by rw [z, hb] at ha; exact (Option.some.inj ha).symm)
theorem g_1 (h : g_P D cl G H) (ha : G a = some e) : va_P D cl [(a, e)] H := by
  intro k q hk
  match k, hk with
  | 0, hk => cases hk; exact h a e ha
  | k + 1, hk => simp at hk
theorem g_2 (h : g_P D cl G H) (ha : G a = some e) (hb : G b = some e0) : va_P D cl [(a, e), (b, e0)] H := by
  intro k q hk
  match k, hk with
  | 0, hk => cases hk; exact h a e ha
  | 1, hk => cases hk; exact h b e0 hb
  | k + 2, hk => simp at hk
theorem g_lt (h : g_P D cl G H) (ha : G a = some e) : a < H.size := (h a e ha).lt
theorem g_fresh (h : g_P D cl G H) : G H.size = none := by
  cases hg : G H.size with
  | none => rfl
  | some e => exact absurd (g_lt h hg) (Nat.lt_irrefl _)
theorem g_none (w : g_S D cl A H0 G H locs n) : G n = none := by
  have h := g_fresh w.1
  rw [w.2.2.2.2] at h
  exact h
theorem g_ltn (w : g_S D cl A H0 G H locs n) (ha : G a = some e) : a < n := by
  have h := g_lt w.1 ha
  rw [w.2.2.2.2] at h
  exact h
theorem g_in (w : g_S D cl A H0 G H locs n) {q : Nat} (h : g_A G n q) : A q := by
  rcases h with ⟨e, h⟩ | h
  · exact w.2.1 q e h
  · exact w.2.2.2.1 q (Nat.le_trans w.2.2.1.1 (by rw [w.2.2.2.2]; exact h))
theorem g_set {k : Nat} (w : g_S D cl A H0 G H locs n) (ha : G a = some e0) (he : va_at D cl (a, e) H1) (z : H1.size = H.size) (oq : ∀ q : Nat, q ≠ a → H1[q]? = H[q]?) : g_S D cl A H0 (g_up G a e) H1 (locs ++ [⟨a, k⟩]) n := by
  refine ⟨fun b f hb => ?_, fun b f hb => ?_, w.2.2.1.put z oq (w.2.1 a _ ha), w.2.2.2.1, z.trans w.2.2.2.2⟩
  · by_cases hba : b = a
    · subst hba
      rw [g_up_s] at hb
      cases hb
      exact he
    · rw [g_up_n hba] at hb
      exact (w.1 b f hb).kept (oq b hba)
  · by_cases hba : b = a
    · subst hba
      exact w.2.1 b _ ha
    · rw [g_up_n hba] at hb
      exact w.2.1 b f hb
theorem g_push (w : g_S D cl A H0 G H locs n) (he : va_at D cl (H.size, e) H1) (z : H1.size = H.size + 1) (o1 : ∀ x : Nat, x < H.size → H1[x]? = H[x]?) : g_S D cl A H0 (g_up G n e) H1 locs (n + 1) := by
  have hn := w.2.2.2.2
  subst hn
  refine ⟨fun b f hb => ?_, fun b f hb => ?_, ⟨Nat.le_trans w.2.2.1.1 (by omega), fun x h1 h2 => (o1 x (Nat.lt_of_lt_of_le h1 w.2.2.1.1)).trans (w.2.2.1.2.1 x h1 h2), w.2.2.1.2.2⟩, w.2.2.2.1, z⟩
  · by_cases hba : b = H.size
    · subst hba
      rw [g_up_s] at hb
      cases hb
      exact he
    · rw [g_up_n hba] at hb
      exact (w.1 b f hb).kept (o1 b (g_lt w.1 hb))
  · by_cases hba : b = H.size
    · subst hba
      exact w.2.2.2.1 _ w.2.2.1.1
    · rw [g_up_n hba] at hb
      exact w.2.1 b f hb
/-- what else is given of a state, outside the cells of A: it stays while those cells stay -/
def g_cl (EX : (Nat → Prop) → State → Heap → Prop) : Prop :=
  (∀ (A : Nat → Prop) (s U : State) (H : Heap), s.WarmedH U.vm → EX A s H → EX A U H) ∧
  (∀ (A : Nat → Prop) (U : State) (H H1 : Heap), EX A U H → (∀ a : Nat, a < H.size → ¬ A a → H1[a]? = H[a]?) → EX A U H1) ∧
  (∀ (A B : Nat → Prop) (U : State) (H : Heap), EX A U H → (∀ q, B q → A q) → EX B U H)
/-- the tables' facts and the rest, of a state and a heap -/
def g_E (D : va_G) (cl : List vw_C) (tys : List (ClassId × FieldType)) (EX : (Nat → Prop) → State → Heap → Prop) (A : Nat → Prop) (U : State) (H : Heap) : Prop := va_K D cl tys U ∧ EX A U H
theorem g_E.go {EX : (Nat → Prop) → State → Heap → Prop} {s U : State} {B : Nat → Prop} (hcl : g_cl EX) (h : g_E D cl tys EX A s H) (hW : s.WarmedH U.vm) (hk : ∀ a : Nat, a < H.size → ¬ A a → H1[a]? = H[a]?) (hAB : ∀ q, B q → A q) : g_E D cl tys EX B U H1 :=
  ⟨va_K.moved hW.alike h.1, hcl.2.2 A B U H1 (hcl.2.1 A U H H1 (hcl.1 A s U H hW h.2) hk) hAB⟩
/-- a method's start and end over such a world -/
abbrev g_Pc (D : va_G) (cl : List vw_C) (tys : List (ClassId × FieldType)) (EX : (Nat → Prop) → State → Heap → Prop) (G : gW) (sz : Nat) (av : List Value) : Array Value → State → Prop := va_Pc av (fun U => U.heap.size = sz ∧ g_P D cl G U.heap ∧ g_E D cl tys EX (g_A G sz) U U.heap)
theorem g_blind {EX : (Nat → Prop) → State → Heap → Prop} (hcl : g_cl EX) {sz : Nat} {av : List Value} : FrameBlind (g_Pc D cl tys EX G sz av) := fun a U g mk h => by
  obtain ⟨h1, h2, h3, h4⟩ := h
  exact ⟨h1, h2, h3, g_E.go (H1 := (U.calling g mk a).heap) hcl h4 (State.WarmedH.refl U) (fun _ _ _ => rfl) (fun _ h => h)⟩
theorem g_preS {EX : (Nat → Prop) → State → Heap → Prop} (hcl : g_cl EX) {s : State} {As : List Value} (w : g_S D cl A s.heap G H locs n) (hE : g_E D cl tys EX A s s.heap) : PreS s H (g_Pc D cl tys EX G n As) As :=
  ⟨g_blind hcl, fun U hU hW => ⟨rfl, by rw [hU]; exact w.2.2.2.2, by rw [hU]; exact w.1, g_E.go hcl hE hW (by rw [hU]; exact w.2.2.1.2.1) (fun q h => g_in w h)⟩⟩
theorem g_preV {EX : (Nat → Prop) → State → Heap → Prop} (hcl : g_cl EX) {s : State} {As : List Value} {ci : Nat} {r : vw_C} {fs : List Value} (w : g_S D cl A s.heap G H locs n) (hE : g_E D cl tys EX A s s.heap) (hb : G b = some (.inr (ci, fs))) (hc : cl[ci]? = some r) : PreV s H r.1 b (g_Pc D cl tys EX G n (.ref b :: As)) As :=
  ⟨g_blind hcl, va_recv hE.1 (g_1 w.1 hb) hc (q0 := 0) rfl, (g_preS hcl w hE).2⟩
theorem g_self (h : g_P D cl G H) : g_D (g_A G H.size) G := fun a e ha => Or.inl ⟨e, ha⟩
end GM1
section GM2
variable {p : Program} {l : Launch} {e : Env} {R : Room} {s : State} {m : MethodId} {args : Array Value} {below : List Frame} {meth : Method} {c : Code} {H : Heap} {locs : List Loc} {cells slots : Nat} {Q : State → Prop}
variable {cc : ByteArray} {pc : Nat} {ls : Array Slot} {rest : List Value} {D : va_G} {cl : List vw_C} {A : Nat → Prop} {a : Nat} {tys : List (ClassId × FieldType)} {H0 : Heap} {G : gW} {nz : Nat}
/-- fields -/
theorem g_put (hexec : p.tables.exec = Jvm.exec) (hb : c.code = cc) {own ref C : String} {T : u_T} {N ci index : Nat} {Ts : List Cond} (hts : ∀ w ∈ Ts, w.before args s = true) (hin : ∀ w ∈ u_ws C T N, w ∈ Ts) (ty0 : Nat → FieldType) (hty : ∀ k, k < N → parseFieldDescriptor (T k).2.2.1 = some (ty0 k)) (hnm : ∀ a, a < N → ∀ b, b < N → a ≠ b → (T a).2.1 ≠ (T b).2.1) (hown : s.vm.findClass own = some m.cls) (hK : va_K D cl tys s) (w : g_S D cl A H0 G H locs nz) {fs : List Value} (he : G a = some (.inr (ci, fs))) (hc : cl[ci]? = some (C, T, N)) (k : Nat) (hk : k < N) (hlink : (Cond.fieldLink own index ref (T k).2.1 (T k).2.2.1).before args s = true) (hsame : ∀ x, s.fieldFound? (T k).1 (T k).2.1 (T k).2.2.1 = some x → s.fieldFound? ref (T k).2.1 (T k).2.2.1 = some x) (hfin : (T k).2.2.2 = false) {ty : FieldType} {v : Value} (hd : parseFieldDescriptor (T k).2.2.1 = some ty) (hn : narrow ty v = v) (hfit : fits ty v = true) (hl : k < fs.length)
    (hdg : decode cc pc = .ok (.putfield index, 3)) (kk : ∀ (H1 : Heap) (locs1 : List Loc), g_S D cl A H0 (g_up G a (.inr (ci, fs.set k v))) H1 locs1 nz → W p l e R s m args below meth c H1 locs1 cells slots Q (F0 m (pc + 3) ls rest)) : W p l e R s m args below meth c H locs cells slots Q (F0 m pc ls (v :: .ref a :: rest)) := by
  have hap := va_apart (own := own) hts hin ty0 hty hnm hK hc
  obtain ⟨r, h1, cell, q1, q2, q3, q4⟩ := w.1 a _ he
  have hr : r = (C, T, N) := Option.some.inj (h1.symm.trans hc)
  subst hr
  obtain ⟨hS, hfc, kC, hkC, hkind⟩ := hK.1 ci _ hc
  obtain ⟨cf, kf, fi, f, hi, hsl⟩ := hS k hk
  have hlay := hts _ (hin _ (u_in_lay hk))
  unfold u_lay at hlay
  rw [if_neg (by rw [hfin]; decide)] at hlay
  have hst := (u_facts hfc hkC (u_lays hts hin hk) hi).1
  have h6 := u_store hfc hkC hkind hlay hi hd hn hfit
  refine W.putK hexec hb (f := f) ⟨hown, hlink, ⟨_, _, _, hsame _ hi⟩, hst⟩ (by rw [q2]; exact h6) q1 q3 (by rw [hsl]; exact k2_hasslot (q4 k hk)) rfl rfl hdg fun H' e1 e2 e3 => ?_
  rw [hsl] at e1 ⊢
  exact kk H' _ (g_set w he ⟨_, hc, t_OB.to (V := updV (vp_V fs) k v) ⟨_, e1, q2, q3, t_set q4 hap hk v⟩ (fun j _ => vp_updV_set hl v j)⟩ e2 e3)
theorem g_putF (hexec : p.tables.exec = Jvm.exec) (hb : c.code = cc) {own ref C : String} {T : u_T} {N ci index : Nat} {Ts : List Cond} (hts : ∀ w ∈ Ts, w.before args s = true) (hin : ∀ w ∈ u_ws C T N, w ∈ Ts) (ty0 : Nat → FieldType) (hty : ∀ k, k < N → parseFieldDescriptor (T k).2.2.1 = some (ty0 k)) (hnm : ∀ a, a < N → ∀ b, b < N → a ≠ b → (T a).2.1 ≠ (T b).2.1) (hown : s.vm.findClass own = some m.cls) (hK : va_K D cl tys s) (w : g_S D cl A H0 G H locs nz) {fs : List Value} (he : G a = some (.inr (ci, fs))) (hc : cl[ci]? = some (C, T, N)) (k : Nat) (hk : k < N) (hlink : (Cond.fieldLink own index ref (T k).2.1 (T k).2.2.1).before args s = true) (hsame : ∀ x, s.fieldFound? (T k).1 (T k).2.1 (T k).2.2.1 = some x → s.fieldFound? ref (T k).2.1 (T k).2.2.1 = some x) (hfin : (T k).2.2.2 = true) (hin2 : meth.name = "<init>") (hdecl : (T k).1 = own) {ty : FieldType} {v : Value} (hd : parseFieldDescriptor (T k).2.2.1 = some ty) (hn : narrow ty v = v) (hfit : fits ty v = true) (hl : k < fs.length)
    (hdg : decode cc pc = .ok (.putfield index, 3)) (kk : ∀ (H1 : Heap) (locs1 : List Loc), g_S D cl A H0 (g_up G a (.inr (ci, fs.set k v))) H1 locs1 nz → W p l e R s m args below meth c H1 locs1 cells slots Q (F0 m (pc + 3) ls rest)) : W p l e R s m args below meth c H locs cells slots Q (F0 m pc ls (v :: .ref a :: rest)) := by
  have hap := va_apart (own := own) hts hin ty0 hty hnm hK hc
  obtain ⟨r, h1, cell, q1, q2, q3, q4⟩ := w.1 a _ he
  have hr : r = (C, T, N) := Option.some.inj (h1.symm.trans hc)
  subst hr
  obtain ⟨hS, hfc, kC, hkC, hkind⟩ := hK.1 ci _ hc
  obtain ⟨cf, kf, fi, f, hi, hsl⟩ := hS k hk
  have hlay := hts _ (hin _ (u_in_lay hk))
  unfold u_lay at hlay
  rw [if_pos hfin] at hlay
  have hst := (u_facts hfc hkC (u_lays hts hin hk) hi).1
  have hcf : m.cls = cf := by
    obtain ⟨_, _, c', _, _, _, -, -, hf', -, -, -, hown2, -⟩ := Cond.laysFinal_spec hlay
    have e1 : c' = cf := by have := hi.symm.trans hf'; simp at this; exact this.1.symm
    rw [hdecl] at hown2
    rw [← e1]; exact Option.some.inj (hown.symm.trans hown2)
  have h6 := u_fits hfc hkC hkind (Or.inr hlay) hi hd hn hfit
  refine W.putFinK hexec hb hown hlink (hsame _ hi) hst hcf hin2 (by rw [q2]; exact h6) q1 q3 (by rw [hsl]; exact k2_hasslot (q4 k hk)) rfl rfl hdg fun H' e1 e2 e3 => ?_
  rw [hsl] at e1 ⊢
  exact kk H' _ (g_set w he ⟨_, hc, t_OB.to (V := updV (vp_V fs) k v) ⟨_, e1, q2, q3, t_set q4 hap hk v⟩ (fun j _ => vp_updV_set hl v j)⟩ e2 e3)
theorem g_putN (hexec : p.tables.exec = Jvm.exec) (hb : c.code = cc) {own ref C host : String} {T : u_T} {N ci index : Nat} {Ts : List Cond} (hts : ∀ w ∈ Ts, w.before args s = true) (hin : ∀ w ∈ u_ws C T N, w ∈ Ts) (ty0 : Nat → FieldType) (hty : ∀ k, k < N → parseFieldDescriptor (T k).2.2.1 = some (ty0 k)) (hnm : ∀ a, a < N → ∀ b, b < N → a ≠ b → (T a).2.1 ≠ (T b).2.1) (hown : s.vm.findClass own = some m.cls) (hK : va_K D cl tys s) (w : g_S D cl A H0 G H locs nz) {fs : List Value} (he : G a = some (.inr (ci, fs))) (hc : cl[ci]? = some (C, T, N)) (k : Nat) (hk : k < N) (hlink : (Cond.fieldLinkNest own index ref (T k).2.1 (T k).2.2.1 host).before args s = true) (hsame : ∀ x, s.fieldFound? (T k).1 (T k).2.1 (T k).2.2.1 = some x → s.fieldFound? ref (T k).2.1 (T k).2.2.1 = some x) (hfin : (T k).2.2.2 = false) {ty : FieldType} {v : Value} (hd : parseFieldDescriptor (T k).2.2.1 = some ty) (hn : narrow ty v = v) (hfit : fits ty v = true) (hl : k < fs.length)
    (hdg : decode cc pc = .ok (.putfield index, 3)) (kk : ∀ (H1 : Heap) (locs1 : List Loc), g_S D cl A H0 (g_up G a (.inr (ci, fs.set k v))) H1 locs1 nz → W p l e R s m args below meth c H1 locs1 cells slots Q (F0 m (pc + 3) ls rest)) : W p l e R s m args below meth c H locs cells slots Q (F0 m pc ls (v :: .ref a :: rest)) := by
  have hap := va_apart (own := own) hts hin ty0 hty hnm hK hc
  obtain ⟨r, h1, cell, q1, q2, q3, q4⟩ := w.1 a _ he
  have hr : r = (C, T, N) := Option.some.inj (h1.symm.trans hc)
  subst hr
  obtain ⟨hS, hfc, kC, hkC, hkind⟩ := hK.1 ci _ hc
  obtain ⟨cf, kf, fi, f, hi, hsl⟩ := hS k hk
  have hlay := hts _ (hin _ (u_in_lay hk))
  unfold u_lay at hlay
  rw [if_neg (by rw [hfin]; decide)] at hlay
  have hst := (u_facts hfc hkC (u_lays hts hin hk) hi).1
  have h6 := u_store hfc hkC hkind hlay hi hd hn hfit
  refine va_WputK hexec hb (f := f) hown hlink (hsame _ hi) hst (by rw [q2]; exact h6) q1 q3 (by rw [hsl]; exact k2_hasslot (q4 k hk)) rfl rfl hdg fun H' e1 e2 e3 => ?_
  rw [hsl] at e1 ⊢
  exact kk H' _ (g_set w he ⟨_, hc, t_OB.to (V := updV (vp_V fs) k v) ⟨_, e1, q2, q3, t_set q4 hap hk v⟩ (fun j _ => vp_updV_set hl v j)⟩ e2 e3)
/-- arrays -/
theorem g_iast (hexec : p.tables.exec = Jvm.exec) (hb : c.code = cc) (hK : va_K D cl tys s) (w : g_S D cl A H0 G H locs nz) (t0 : Nat) {cA : ClassId} {n : Nat} {f : Nat → Int32} (ha : G a = some (.inl (cA, n, .inl f))) (ht : tys[t0]? = some (cA, .int)) {i : Int32} {x : Int32} (hin : vp_in i n) (hdg : decode cc pc = .ok (.iastore, 1))
    (kk : ∀ (H1 : Heap) (locs1 : List Loc), g_S D cl A H0 (g_up G a (.inl (cA, n, .inl (upd f i.toNatClampNeg x)))) H1 locs1 nz → W p l e R s m args below meth c H1 locs1 cells slots Q (F0 m (pc + 1) ls rest)) : W p l e R s m args below meth c H locs cells slots Q (F0 m pc ls (.int x :: .int i :: .ref a :: rest)) := by
  refine W.iast hexec hb (w.1 a _ ha) ((hK.2 t0 _ ht).1 n (fun j => .int (f j))) (fun q => by cases q) (by show ¬ (i < 0 ∨ (arrV _ _ _).slots.size ≤ _); rw [arrV_size]; exact hin) rfl rfl hdg fun H1 e z oq => ?_
  refine kk H1 _ (g_set w ha ?_ z oq)
  show H1[a]? = some (vp_cell _ _)
  rw [e]
  rw [vp_cell_i, vp_cell_i, arrV_store]
  congr 2
  funext q
  by_cases hq : q = i.toNatClampNeg
  · subst hq
    simp [updV, upd]
  · simp [updV, upd, hq]
theorem g_cast (hexec : p.tables.exec = Jvm.exec) (hb : c.code = cc) (hK : va_K D cl tys s) (w : g_S D cl A H0 G H locs nz) (t0 : Nat) {cA : ClassId} {n : Nat} {f : Nat → Int32} (ha : G a = some (.inl (cA, n, .inl f))) (ht : tys[t0]? = some (cA, .char)) {i : Int32} {x : Int32} (hin : vp_in i n) (hdg : decode cc pc = .ok (.castore, 1))
    (kk : ∀ (H1 : Heap) (locs1 : List Loc), g_S D cl A H0 (g_up G a (.inl (cA, n, .inl (upd f i.toNatClampNeg (vp_nar .char x))))) H1 locs1 nz → W p l e R s m args below meth c H1 locs1 cells slots Q (F0 m (pc + 1) ls rest)) : W p l e R s m args below meth c H locs cells slots Q (F0 m pc ls (.int x :: .int i :: .ref a :: rest)) := by
  refine W.cast hexec hb (w.1 a _ ha) ((hK.2 t0 _ ht).1 n (fun j => .int (f j))) (fun q => by cases q) (by show ¬ (i < 0 ∨ (arrV _ _ _).slots.size ≤ _); rw [arrV_size]; exact hin) rfl rfl hdg fun H1 e z oq => ?_
  refine kk H1 _ (g_set w ha ?_ z oq)
  show H1[a]? = some (vp_cell _ _)
  rw [e]
  rw [vp_cell_i, vp_cell_i, arrV_store]
  congr 2
  funext q
  by_cases hq : q = i.toNatClampNeg
  · subst hq
    simp [updV, upd, vp_nar]
    try rfl
  · simp [updV, upd, hq]
theorem g_zast (hexec : p.tables.exec = Jvm.exec) (hb : c.code = cc) (hK : va_K D cl tys s) (w : g_S D cl A H0 G H locs nz) (t0 : Nat) {cA : ClassId} {n : Nat} {f : Nat → Int32} (ha : G a = some (.inl (cA, n, .inl f))) (ht : tys[t0]? = some (cA, .boolean)) {i : Int32} {x : Int32} (hin : vp_in i n) (hdg : decode cc pc = .ok (.bastore, 1))
    (kk : ∀ (H1 : Heap) (locs1 : List Loc), g_S D cl A H0 (g_up G a (.inl (cA, n, .inl (upd f i.toNatClampNeg (vp_nar .boolean x))))) H1 locs1 nz → W p l e R s m args below meth c H1 locs1 cells slots Q (F0 m (pc + 1) ls rest)) : W p l e R s m args below meth c H locs cells slots Q (F0 m pc ls (.int x :: .int i :: .ref a :: rest)) := by
  refine W.zast hexec hb (w.1 a _ ha) ((hK.2 t0 _ ht).1 n (fun j => .int (f j))) (fun q => by cases q) (by show ¬ (i < 0 ∨ (arrV _ _ _).slots.size ≤ _); rw [arrV_size]; exact hin) rfl rfl hdg fun H1 e z oq => ?_
  refine kk H1 _ (g_set w ha ?_ z oq)
  show H1[a]? = some (vp_cell _ _)
  rw [e]
  rw [vp_cell_i, vp_cell_i, arrV_store]
  congr 2
  funext q
  by_cases hq : q = i.toNatClampNeg
  · subst hq
    simp [updV, upd, vp_nar]
    try rfl
  · simp [updV, upd, hq]
theorem g_last (hexec : p.tables.exec = Jvm.exec) (hb : c.code = cc) (hK : va_K D cl tys s) (w : g_S D cl A H0 G H locs nz) (t0 : Nat) {cA : ClassId} {n : Nat} {f : Nat → Int64} (ha : G a = some (.inl (cA, n, .inr (.inl f)))) (ht : tys[t0]? = some (cA, .long)) {i : Int32} {x : Int64} (hin : vp_in i n) (hdg : decode cc pc = .ok (.lastore, 1))
    (kk : ∀ (H1 : Heap) (locs1 : List Loc), g_S D cl A H0 (g_up G a (.inl (cA, n, .inr (.inl (vp_updL f i.toNatClampNeg x))))) H1 locs1 nz → W p l e R s m args below meth c H1 locs1 cells slots Q (F0 m (pc + 1) ls rest)) : W p l e R s m args below meth c H locs cells slots Q (F0 m pc ls (.long x :: .int i :: .ref a :: rest)) := by
  refine W.last hexec hb (w.1 a _ ha) ((hK.2 t0 _ ht).1 n (fun j => .long (f j))) (fun q => by cases q) (by show ¬ (i < 0 ∨ (arrV _ _ _).slots.size ≤ _); rw [arrV_size]; exact hin) rfl rfl hdg fun H1 e z oq => ?_
  refine kk H1 _ (g_set w ha ?_ z oq)
  show H1[a]? = some (vp_cell _ _)
  rw [e]
  rw [vp_cell_l, vp_cell_l, arrV_store]
  congr 2
  funext q
  by_cases hq : q = i.toNatClampNeg
  · subst hq
    simp [updV, vp_updL]
  · simp [updV, vp_updL, hq]
theorem g_dast (hexec : p.tables.exec = Jvm.exec) (hb : c.code = cc) (hK : va_K D cl tys s) (w : g_S D cl A H0 G H locs nz) (t0 : Nat) {cA : ClassId} {n : Nat} {f : Nat → UInt64} (ha : G a = some (.inl (cA, n, .inr (.inr (.inr (.inl f)))))) (ht : tys[t0]? = some (cA, .double)) {i : Int32} {x : UInt64} (hin : vp_in i n) (hdg : decode cc pc = .ok (.dastore, 1))
    (kk : ∀ (H1 : Heap) (locs1 : List Loc), g_S D cl A H0 (g_up G a (.inl (cA, n, .inr (.inr (.inr (.inl (vf_upd f i.toNatClampNeg x))))))) H1 locs1 nz → W p l e R s m args below meth c H1 locs1 cells slots Q (F0 m (pc + 1) ls rest)) : W p l e R s m args below meth c H locs cells slots Q (F0 m pc ls (.double x :: .int i :: .ref a :: rest)) := by
  refine W.dast hexec hb (w.1 a _ ha) ((hK.2 t0 _ ht).1 n (fun j => .double (f j))) (fun q => by cases q) (by show ¬ (i < 0 ∨ (arrV _ _ _).slots.size ≤ _); rw [arrV_size]; exact hin) rfl rfl hdg fun H1 e z oq => ?_
  refine kk H1 _ (g_set w ha ?_ z oq)
  show H1[a]? = some (vp_cell _ _)
  rw [e]
  rw [vp_cell_d, vp_cell_d, arrV_store]
  congr 2
  funext q
  by_cases hq : q = i.toNatClampNeg
  · subst hq
    simp [updV, vf_upd]
  · simp [updV, vf_upd, hq]
theorem g_astq (hexec : p.tables.exec = Jvm.exec) (hb : c.code = cc) (hK : va_K D cl tys s) (w : g_S D cl A H0 G H locs nz) (t0 ci : Nat) {cA : ClassId} {r : vw_C} {n v : Nat} {vs : List Value} {f : Nat → Option Nat} (ha : G a = some (.inl (cA, n, .inr (.inr (.inr (.inr f)))))) (ht : tys[t0]? = some (cA, .object r.1)) (hv : G v = some (.inr (ci, vs))) (hc : cl[ci]? = some r) {i : Int32} (hin : vp_in i n) (hdg : decode cc pc = .ok (.aastore, 1))
    (kk : ∀ (H1 : Heap) (locs1 : List Loc), g_S D cl A H0 (g_up G a (.inl (cA, n, .inr (.inr (.inr (.inr (va_up f i.toNatClampNeg (some v)))))))) H1 locs1 nz → W p l e R s m args below meth c H1 locs1 cells slots Q (F0 m (pc + 1) ls rest)) : W p l e R s m args below meth c H locs cells slots Q (F0 m pc ls (.ref v :: .int i :: .ref a :: rest)) := by
  have hlt : i.toNatClampNeg < n := Nat.not_le.mp fun q => hin (Or.inr q)
  have h0 : ¬ i < 0 := fun q => hin (Or.inl q)
  obtain ⟨r', hr', cellV, g1, g2, g3, -⟩ := w.1 v _ hv
  have hcls := (hK.1 ci r hc).2
  obtain ⟨kA, comp, k1, k2, k3, -⟩ := (hK.2 t0 _ ht).2
  have hcomp : comp = D.1 ci := Option.some.inj (k3.symm.trans hcls.1)
  subst hcomp
  obtain ⟨kC, hkC, -⟩ := hcls.2
  refine W.aast hexec hb (w.1 a _ ha) (fun q h => by cases h) (fun h => by cases h) k1 k2 rfl hkC ⟨h0, by show _ < (arrV _ _ _).slots.size; rw [arrV_size]; exact hlt⟩ g1 (fun q h => by rw [g3] at h; cases h) (by rw [g2]; exact hkC) (by rw [g2]; exact va_assign hcls) rfl rfl hdg fun H1 e z oq => ?_
  refine kk H1 _ (g_set w ha ?_ z oq)
  show H1[a]? = some (vp_cell _ _)
  rw [e]
  rw [vp_cell_q, vp_cell_q, arrV_store]
  congr 2
  funext q
  by_cases hq : q = i.toNatClampNeg
  · subst hq
    simp [updV, va_up, va_rf]
  · simp [updV, va_up, hq]
theorem g_astqN (hexec : p.tables.exec = Jvm.exec) (hb : c.code = cc) (hK : va_K D cl tys s) (w : g_S D cl A H0 G H locs nz) (t0 : Nat) {cA : ClassId} {C : String} {n : Nat} {f : Nat → Option Nat} (ha : G a = some (.inl (cA, n, .inr (.inr (.inr (.inr f)))))) (ht : tys[t0]? = some (cA, .object C)) {i : Int32} (hin : vp_in i n) (hdg : decode cc pc = .ok (.aastore, 1))
    (kk : ∀ (H1 : Heap) (locs1 : List Loc), g_S D cl A H0 (g_up G a (.inl (cA, n, .inr (.inr (.inr (.inr (va_up f i.toNatClampNeg none))))))) H1 locs1 nz → W p l e R s m args below meth c H1 locs1 cells slots Q (F0 m (pc + 1) ls rest)) : W p l e R s m args below meth c H locs cells slots Q (F0 m pc ls (.null :: .int i :: .ref a :: rest)) := by
  refine va_WaastN (C := C) hexec hb (w.1 a _ ha) ((hK.2 t0 _ ht).1 n (fun j => va_rf (f j))) (fun h => by cases h) (by show ¬ (i < 0 ∨ (arrV _ _ _).slots.size ≤ _); rw [arrV_size]; exact hin) rfl rfl hdg fun H1 e z oq => ?_
  refine kk H1 _ (g_set w ha ?_ z oq)
  show H1[a]? = some (vp_cell _ _)
  rw [e]
  rw [vp_cell_q, vp_cell_q, arrV_store]
  congr 2
  funext q
  by_cases hq : q = i.toNatClampNeg
  · subst hq
    simp [updV, va_up, va_rf]
  · simp [updV, va_up, hq]
/-- makings -/
theorem g_new (hexec : p.tables.exec = Jvm.exec) (hb : c.code = cc) {own C : String} {T : u_T} {N ci index : Nat} {Ts : List Cond} (hts : ∀ w ∈ Ts, w.before args s = true) (hin : ∀ w ∈ u_ws C T N, w ∈ Ts) (ty : Nat → FieldType) (hty : ∀ k, k < N → parseFieldDescriptor (T k).2.2.1 = some (ty k)) (hown : s.vm.findClass own = some m.cls) (hcl : (Cond.classLink own index C).before args s = true) (hinst : (Cond.instantiable C N).before args s = true) (hini : (Cond.initialized C).before args s = true)
    (hK : va_K D cl tys s) (w : g_S D cl A H0 G H locs nz) (hc : cl[ci]? = some (C, T, N)) {fs : List Value} (hfs : ∀ j, j < N → defaultValue (ty j) = vp_V fs j) (hcells : cells + 1 ≤ R.cells) (hslots : slots + N ≤ R.slots) (hdg : decode cc pc = .ok (.new index, 3))
    (kk : ∀ (H1 : Heap), g_S D cl A H0 (g_up G nz (.inr (ci, fs))) H1 locs (nz + 1) →
      W p l e R s m args below meth c H1 locs (cells + 1) (slots + N) Q (F0 m (pc + 3) ls (.ref nz :: rest))) : W p l e R s m args below meth c H locs cells slots Q (F0 m pc ls rest) := by
  have hKn := hK.1 ci _ hc
  refine W.newcK hexec hb hown hcl hinst hini rfl hdg hcells hslots hKn.2.1 rfl fun H1 kC hkC e1 z1 o1 => ?_
  rw [w.2.2.2.2]
  exact kk H1 (g_push w ⟨_, hc, (u_born ty hts hin hKn hkC e1 hty).to hfs⟩ z1 o1)
theorem g_newa (hexec : p.tables.exec = Jvm.exec) (hb : c.code = cc) {atype : ArrayType} (harr : (Cond.arrayClass (newarray.typeOf atype)).before args s = true) {ty : FieldType} (hty : newarray.typeOf atype = ty) (hK : va_K D cl tys s) (w : g_S D cl A H0 G H locs nz) (t0 : Nat) {cA : ClassId} (ht : tys[t0]? = some (cA, ty))
    {n : Int32} {N' : Nat} {a0 : vp_A} (ha : vp_cell cA a0 = arrV cA N' (fun _ => defaultValue ty)) (hn : ¬ n < 0) (hN : n.toNatClampNeg = N') (hbytes : N' * componentBytes ty ≤ 536870912) (hcells : cells + 1 ≤ R.cells) (hslots : slots + N' ≤ R.slots) (hdg : decode cc pc = .ok (.newarray atype, 2))
    (kk : ∀ (H1 : Heap), g_S D cl A H0 (g_up G nz (.inl (cA, a0))) H1 locs (nz + 1) →
      W p l e R s m args below meth c H1 locs (cells + 1) (slots + N') Q (F0 m (pc + 2) ls (.ref nz :: rest))) : W p l e R s m args below meth c H locs cells slots Q (F0 m pc ls (.int n :: rest)) := by
  subst hty
  refine va_newaK hexec hb harr rfl hdg rfl hn hN hbytes hcells hslots rfl fun H1 cA' e1 z1 o1 hAr hNm => ?_
  have hRA : s.vm.findClass ("[" ++ (newarray.typeOf atype).toString) = some cA := by
    have h := (hK.2 t0 _ ht).2
    cases atype <;> exact h
  have he : cA' = cA := Option.some.inj (hNm.symm.trans hRA)
  subst he
  rw [w.2.2.2.2]
  refine kk H1 (g_push w ?_ z1 o1)
  show H1[H.size]? = some (vp_cell _ _)
  rw [ha]
  exact e1
theorem g_newq (hexec : p.tables.exec = Jvm.exec) (hb : c.code = cc) {own C : String} {index : Nat} (hown : s.vm.findClass own = some m.cls) (hclink : (Cond.classLink own index C).before args s = true) (hover : (Cond.arrayOver (.object C)).before args s = true) (hK : va_K D cl tys s) (w : g_S D cl A H0 G H locs nz) (t0 : Nat) {cA : ClassId} (ht : tys[t0]? = some (cA, .object C))
    {n : Int32} {N' : Nat} (hn : ¬ n < 0) (hN : n.toNatClampNeg = N') (hbytes : N' * 4 ≤ 536870912) (hcells : cells + 1 ≤ R.cells) (hslots : slots + N' ≤ R.slots) (hdg : decode cc pc = .ok (.anewarray index, 3))
    (kk : ∀ (H1 : Heap), g_S D cl A H0 (g_up G nz (.inl (cA, N', .inr (.inr (.inr (.inr (fun _ => none))))))) H1 locs (nz + 1) →
      W p l e R s m args below meth c H1 locs (cells + 1) (slots + N') Q (F0 m (pc + 3) ls (.ref nz :: rest))) : W p l e R s m args below meth c H locs cells slots Q (F0 m pc ls (.int n :: rest)) := by
  subst hN
  refine W.anew hexec hb hown hclink hover rfl hdg rfl hn hbytes hcells hslots fun cA' kA comp f1 f2 f3 f4 => ?_
  obtain ⟨kA2, comp2, k1, k2, k3, k4⟩ := (hK.2 t0 _ ht).2
  have he : cA' = cA := by
    have h4 := k4
    first | exact Option.some.inj (f1.symm.trans h4) | exact Option.some.inj (f4.symm.trans h4)
  subst he
  generalize hH1 : H.push ({ cls := cA', slots := Array.replicate n.toNatClampNeg .null, vm := .none } : Cell) = H1
  have z1 : H1.size = H.size + 1 := by rw [← hH1, Array.size_push]
  have e1 : H1[H.size]? = some (arrV cA' n.toNatClampNeg (fun _ => .null)) := by rw [← hH1, Array.getElem?_push_size, ← arrV_new]
  have o1 : ∀ q : Nat, q < H.size → H1[q]? = H[q]? := fun q hq => by rw [← hH1, Array.getElem?_push, if_neg (Nat.ne_of_lt hq)]
  rw [w.2.2.2.2]
  refine kk H1 (g_push w ?_ z1 o1)
  show H1[H.size]? = some (vp_cell _ _)
  rw [vp_cell_q]
  exact e1
end GM2
section GM3
variable {p : Program} {l : Launch} {e : Env} {R : Room} {s : State} {m : MethodId} {args : Array Value} {below : List Frame} {meth : Method} {c : Code} {H : Heap} {locs : List Loc} {cells slots mc ms : Nat}
variable {cc : ByteArray} {pc : Nat} {ls : Array Slot} {rest st0 : List Value} {D : va_G} {cl : List vw_C} {A A0 : Nat → Prop} {tys : List (ClassId × FieldType)} {u G : gW} {nz : Nat} {H0 : Heap} {Q : State → Prop} {EX : (Nat → Prop) → State → Heap → Prop}
/-- what a method leaves: its world, and how many cells there are -/
abbrev g_B (D : va_G) (cl : List vw_C) (A : Nat → Prop) : gW × Nat → State → Prop := fun u t => g_P D cl u.1 t.heap ∧ g_D A u.1 ∧ t.heap.size = u.2
abbrev g_Qi (D : va_G) (cl : List vw_C) (A : Nat → Prop) (post : Int32 → gW × Nat → Prop) := va_Qi post (g_B D cl A) A
abbrev g_Ql (D : va_G) (cl : List vw_C) (A : Nat → Prop) (post : Int64 → gW × Nat → Prop) := va_Ql post (g_B D cl A) A
abbrev g_Qv (D : va_G) (cl : List vw_C) (A : Nat → Prop) (post : gW × Nat → Prop) := va_Qv post (g_B D cl A) A
abbrev g_Qq (D : va_G) (cl : List vw_C) (A : Nat → Prop) (post : Option Nat → gW × Nat → Prop) := va_Qq post (g_B D cl A) A
theorem g_iret {post : Int32 → gW × Nat → Prop} {v : Int32} (hx : p.tables.exec = Jvm.exec) (hb : c.code = cc) (hr : meth.sig.returnType = some .int) (hlocks : meth.locks = false) (w : g_S D cl A s.heap u H locs nz) (hc : cells ≤ mc) (hs : slots ≤ ms) (hdg : decode cc pc = .ok (.ireturn, 1)) (hp : post v (u, nz)) :
    W p l e R s m args below meth c H locs cells slots (MQ below (g_Qi D cl A post) args s mc ms A) (F0 m pc ls [.int v]) :=
  W.widen hc hs (W.iret hx hb hr (fun t ht hW => ⟨⟨v, (u, nz), rfl, hp, by rw [ht]; exact w.1, w.2.1, by rw [ht]; exact w.2.2.2.2⟩, w.2.2.1.F ht⟩) w.2.2.1.2.2 hdg hlocks)
theorem g_zret {post : Int32 → gW × Nat → Prop} {v : Int32} {ty : FieldType} (hx : p.tables.exec = Jvm.exec) (hb : c.code = cc) (hr : meth.sig.returnType = some ty) (hlocks : meth.locks = false) (w : g_S D cl A s.heap u H locs nz) (hc : cells ≤ mc) (hs : slots ≤ ms) (hdg : decode cc pc = .ok (.ireturn, 1)) (hn : narrow ty (.int v) = .int v) (hp : post v (u, nz)) :
    W p l e R s m args below meth c H locs cells slots (MQ below (g_Qi D cl A post) args s mc ms A) (F0 m pc ls [.int v]) :=
  W.widen hc hs (W.zret hx hb hr hn (fun t ht hW => ⟨⟨v, (u, nz), rfl, hp, by rw [ht]; exact w.1, w.2.1, by rw [ht]; exact w.2.2.2.2⟩, w.2.2.1.F ht⟩) w.2.2.1.2.2 hdg hlocks)
theorem g_lret {post : Int64 → gW × Nat → Prop} {v : Int64} (hx : p.tables.exec = Jvm.exec) (hb : c.code = cc) (hr : meth.sig.returnType = some .long) (hlocks : meth.locks = false) (w : g_S D cl A s.heap u H locs nz) (hc : cells ≤ mc) (hs : slots ≤ ms) (hdg : decode cc pc = .ok (.lreturn, 1)) (hp : post v (u, nz)) :
    W p l e R s m args below meth c H locs cells slots (MQ below (g_Ql D cl A post) args s mc ms A) (F0 m pc ls [.long v]) :=
  W.widen hc hs (W.lret hx hb hr (fun t ht hW => ⟨⟨v, (u, nz), rfl, hp, by rw [ht]; exact w.1, w.2.1, by rw [ht]; exact w.2.2.2.2⟩, w.2.2.1.F ht⟩) w.2.2.1.2.2 hdg hlocks)
theorem g_vret {post : gW × Nat → Prop} (hx : p.tables.exec = Jvm.exec) (hb : c.code = cc) (hr : meth.sig.returnType = none) (hlocks : meth.locks = false) (w : g_S D cl A s.heap u H locs nz) (hc : cells ≤ mc) (hs : slots ≤ ms) (hdg : decode cc pc = .ok (.return_, 1)) (hp : post (u, nz)) :
    W p l e R s m args below meth c H locs cells slots (MQ below (g_Qv D cl A post) args s mc ms A) (F0 m pc ls []) :=
  W.widen hc hs (W.vret hx hb hr (fun t ht hW => ⟨⟨(u, nz), rfl, hp, by rw [ht]; exact w.1, w.2.1, by rw [ht]; exact w.2.2.2.2⟩, w.2.2.1.F ht⟩) w.2.2.1.2.2 hdg hlocks)
theorem g_qret {post : Option Nat → gW × Nat → Prop} {r : Option Nat} {rt : FieldType} (hx : p.tables.exec = Jvm.exec) (hb : c.code = cc) (hr : meth.sig.returnType = some rt) (hrt : (∃ n, rt = .object n) ∨ ∃ t, rt = .array t) (hlocks : meth.locks = false) (w : g_S D cl A s.heap u H locs nz) (hc : cells ≤ mc) (hs : slots ≤ ms) (hdg : decode cc pc = .ok (.areturn, 1)) (hp : post r (u, nz)) :
    W p l e R s m args below meth c H locs cells slots (MQ below (g_Qq D cl A post) args s mc ms A) (F0 m pc ls [va_rf r]) :=
  W.widen hc hs (W.aret hx hb hr hrt (by cases r with
    | none => exact Or.inl rfl
    | some a => exact Or.inr ⟨a, rfl⟩) (fun t ht hW => ⟨⟨r, (u, nz), rfl, hp, by rw [ht]; exact w.1, w.2.1, by rw [ht]; exact w.2.2.2.2⟩, w.2.2.1.F ht⟩) w.2.2.1.2.2 hdg hlocks)
/-- a method's body from its entry -/
theorem g_ofW {y : MethodName} {ws : List Cond} {rm : Room} {sz : Nat} {av : List Value} {Qc : Array Value → State → Outcome → State → Prop} {free : Addr → Prop} {maxL : Nat} {ret : Option FieldType}
    (hy : plainName y.cls = true) (hnL : (lg_sl av).length ≤ maxL)
    (body : ∀ (p : Program) (e : Env) (s : State) (m : MethodId) (below : List Frame) (meth : Method) (c : Code) (ls : Array Slot),
      CallFix p m c cc maxL s av.toArray ws y.cls → meth.sig.returnType = ret → meth.locks = false → meth.name = y.name → g_E D cl tys EX (g_A G sz) s s.heap → g_S D cl (g_A G sz) s.heap G s.heap [] sz → lv_has ls maxL (lv_args 0 av) →
      W p l e rm s m av.toArray below meth c s.heap [] 0 0 (MQ below Qc av.toArray s mc ms free) (F0 m 0 ls [])) :
    Met l y (.code y cc maxL ret :: ws) rm (g_Pc D cl tys EX G sz av) Qc mc ms free := by
  refine Met.ofW (cc := cc) (maxL := maxL) (ret := ret) hy rfl ?_
  intro p e s m args below meth c s₁ B hml hv
  obtain ⟨rfl, hsz, hP, hK⟩ := hv
  have hts := atoms_spec (ws := .code y cc maxL ret :: ws) B.pre
  have hl := lv_entry av (n := maxL) hnL
  rw [lg_entry_eq]
  subst hsz
  exact body p e s m below meth c _ ⟨B.exec, B.bytes, hml, findClass_of_methodNamed B.named, fun w h => hts w (List.mem_cons_of_mem _ h)⟩ B.returns B.notSynchronized (name_of_methodNamed B.named B.method).1 hK ⟨hP, g_self hP, va_S.rf, fun q h => Or.inr h, rfl⟩ hl
theorem gx_ofW {y : MethodName} {ws : List Cond} {rm : Room} {sz : Nat} {av : List Value} {Qc : Array Value → State → Outcome → State → Prop} {XC : String → State → State → Prop} {free : Addr → Prop} {maxL : Nat} {ret : Option FieldType}
    (hy : plainName y.cls = true) (hnL : (lg_sl av).length ≤ maxL)
    (body : ∀ (p : Program) (e : Env) (s : State) (m : MethodId) (below : List Frame) (meth : Method) (c : Code) (ls : Array Slot),
      CallFix p m c cc maxL s av.toArray ws y.cls → meth.sig.returnType = ret → meth.locks = false → (∀ x ∈ c.exceptionTable.toList, False) → g_E D cl tys EX (g_A G sz) s s.heap → g_S D cl (g_A G sz) s.heap G s.heap [] sz → lv_has ls maxL (lv_args 0 av) →
      W p l e rm s m av.toArray below meth c s.heap [] 0 0 (vx_MQ below Qc XC av.toArray s mc ms free) (F0 m 0 ls [])) :
    vx_Met l y (.code y cc maxL ret :: ws) rm (g_Pc D cl tys EX G sz av) Qc XC mc ms free := by
  refine vx_ofW (cc := cc) (maxL := maxL) (ret := ret) hy rfl ?_
  intro p e s m args below meth c s₁ B hml ht hv
  obtain ⟨rfl, hsz, hP, hK⟩ := hv
  have hts := atoms_spec (ws := .code y cc maxL ret :: ws) B.pre
  have hl := lv_entry av (n := maxL) hnL
  rw [lg_entry_eq]
  subst hsz
  exact body p e s m below meth c _ ⟨B.exec, B.bytes, hml, findClass_of_methodNamed B.named, fun w h => hts w (List.mem_cons_of_mem _ h)⟩ B.returns B.notSynchronized ht hK ⟨hP, g_self hP, va_S.rf, fun q h => Or.inr h, rfl⟩ hl
/-- calls: the whole world goes along -/
theorem g_calli {post : Int32 → gW × Nat → Prop} {a : Array Value} (w : g_S D cl A0 H0 G H locs nz) (hr : va_Run p l e R s m args below meth c H locs cells slots mc ms (F0 m pc ls st0) rest (g_Qi D cl (g_A G nz) post a) (g_A G nz))
    (kk : ∀ (r : Int32) (u : gW × Nat) (H1 : Heap) (locs1 : List Loc), post r u → nz ≤ u.2 → g_S D cl A0 H0 u.1 H1 locs1 u.2 → W p l e R s m args below meth c H1 locs1 (cells + mc) (slots + ms) Q (F0 m (pc + 3) ls (.int r :: rest))) : W p l e R s m args below meth c H locs cells slots Q (F0 m pc ls st0) :=
  va_calli hr w.2.2.1 (fun q _ h => g_in w h) (fun q h => g_in w h) (fun r u t H1 locs1 ht hvm hp hB hz hk hS => by
    obtain ⟨b1, b2, b3⟩ := hB
    rw [ht] at b1 b3
    exact kk r u H1 locs1 hp (by rw [← b3, ← w.2.2.2.2]; exact hz) ⟨b1, fun a e h => g_in w (b2 a e h), hS, w.2.2.2.1, b3⟩)
theorem g_calll {post : Int64 → gW × Nat → Prop} {a : Array Value} (w : g_S D cl A0 H0 G H locs nz) (hr : va_Run p l e R s m args below meth c H locs cells slots mc ms (F0 m pc ls st0) rest (g_Ql D cl (g_A G nz) post a) (g_A G nz))
    (kk : ∀ (r : Int64) (u : gW × Nat) (H1 : Heap) (locs1 : List Loc), post r u → nz ≤ u.2 → g_S D cl A0 H0 u.1 H1 locs1 u.2 → W p l e R s m args below meth c H1 locs1 (cells + mc) (slots + ms) Q (F0 m (pc + 3) ls (.long r :: rest))) : W p l e R s m args below meth c H locs cells slots Q (F0 m pc ls st0) :=
  va_calll hr w.2.2.1 (fun q _ h => g_in w h) (fun q h => g_in w h) (fun r u t H1 locs1 ht hvm hp hB hz hk hS => by
    obtain ⟨b1, b2, b3⟩ := hB
    rw [ht] at b1 b3
    exact kk r u H1 locs1 hp (by rw [← b3, ← w.2.2.2.2]; exact hz) ⟨b1, fun a e h => g_in w (b2 a e h), hS, w.2.2.2.1, b3⟩)
theorem g_callv {post : gW × Nat → Prop} {a : Array Value} (w : g_S D cl A0 H0 G H locs nz) (hr : va_Run p l e R s m args below meth c H locs cells slots mc ms (F0 m pc ls st0) rest (g_Qv D cl (g_A G nz) post a) (g_A G nz))
    (kk : ∀ (u : gW × Nat) (H1 : Heap) (locs1 : List Loc), post u → nz ≤ u.2 → g_S D cl A0 H0 u.1 H1 locs1 u.2 → W p l e R s m args below meth c H1 locs1 (cells + mc) (slots + ms) Q (F0 m (pc + 3) ls rest)) : W p l e R s m args below meth c H locs cells slots Q (F0 m pc ls st0) :=
  va_callv hr w.2.2.1 (fun q _ h => g_in w h) (fun q h => g_in w h) (fun u t H1 locs1 ht hvm hp hB hz hk hS => by
    obtain ⟨b1, b2, b3⟩ := hB
    rw [ht] at b1 b3
    exact kk u H1 locs1 hp (by rw [← b3, ← w.2.2.2.2]; exact hz) ⟨b1, fun a e h => g_in w (b2 a e h), hS, w.2.2.2.1, b3⟩)
theorem g_callq {post : Option Nat → gW × Nat → Prop} {a : Array Value} (w : g_S D cl A0 H0 G H locs nz) (hr : va_Run p l e R s m args below meth c H locs cells slots mc ms (F0 m pc ls st0) rest (g_Qq D cl (g_A G nz) post a) (g_A G nz))
    (kk : ∀ (r : Option Nat) (u : gW × Nat) (H1 : Heap) (locs1 : List Loc), post r u → nz ≤ u.2 → g_S D cl A0 H0 u.1 H1 locs1 u.2 → W p l e R s m args below meth c H1 locs1 (cells + mc) (slots + ms) Q (F0 m (pc + 3) ls (va_rf r :: rest))) : W p l e R s m args below meth c H locs cells slots Q (F0 m pc ls st0) :=
  va_callq hr w.2.2.1 (fun q _ h => g_in w h) (fun q h => g_in w h) (fun r u t H1 locs1 ht hvm hp hB hz hk hS => by
    obtain ⟨b1, b2, b3⟩ := hB
    rw [ht] at b1 b3
    exact kk r u H1 locs1 hp (by rw [← b3, ← w.2.2.2.2]; exact hz) ⟨b1, fun a e h => g_in w (b2 a e h), hS, w.2.2.2.1, b3⟩)
end GM3
