section HL
variable {p : Program} {l : Launch} {e : Env} {R : Room} {s : State} {m : MethodId} {args : Array Value} {below : List Frame} {meth : Method} {c : Code} {H : Heap} {locs : List Loc} {cells slots : Nat} {Q : State → Prop}
variable {pc : Nat} {ls : Array Slot} {rest : List Value} {cc : ByteArray}
/-! references that may be none; counters; switches -/
theorem lv_aload_nQ (hexec : p.tables.exec = Jvm.exec) (hb : c.code = cc) {k : Fin 4} {i : Nat} {r : Option Nat} (hdg : decode cc pc = .ok (.aload_n k, 1)) (hi : (k : Nat) = i) (hl : ls[i]? = some (.val (va_rf r)))
    (kk : W p l e R s m args below meth c H locs cells slots Q (F0 m (pc + 1) ls (va_rf r :: rest))) : W p l e R s m args below meth c H locs cells slots Q (F0 m pc ls rest) := by
  cases r with
  | none => exact lv_aload_nN hexec hb hdg hi hl kk
  | some x => exact lv_aload_n hexec hb hdg hi hl kk
theorem lv_aloadQ (hexec : p.tables.exec = Jvm.exec) (hb : c.code = cc) {i : Nat} {r : Option Nat} (hdg : decode cc pc = .ok (.aload i, 2)) (hl : ls[i]? = some (.val (va_rf r)))
    (kk : W p l e R s m args below meth c H locs cells slots Q (F0 m (pc + 2) ls (va_rf r :: rest))) : W p l e R s m args below meth c H locs cells slots Q (F0 m pc ls rest) := by
  cases r with
  | none => exact lv_aloadN hexec hb hdg hl kk
  | some x => exact lv_aload hexec hb hdg hl kk
theorem lv_astore_nQ (hexec : p.tables.exec = Jvm.exec) (hb : c.code = cc) {k : Fin 4} {i nL : Nat} {r : Option Nat} {lv lv' : List (Nat × Value)} (hdg : decode cc pc = .ok (.astore_n k, 1)) (hi : (k : Nat) = i) (h : lv_has ls nL lv) (hn : i < nL) (hl : (i, va_rf r) :: lv.filter (fun q => !(q.1 == i) && !(q.1 + 1 == i && q.2.category == 2)) = lv')
    (kk : ∀ ls' : Array Slot, lv_has ls' nL lv' → W p l e R s m args below meth c H locs cells slots Q (F0 m (pc + 1) ls' rest)) : W p l e R s m args below meth c H locs cells slots Q (F0 m pc ls (va_rf r :: rest)) := by
  cases r with
  | none => exact lv_astore_nN hexec hb hdg hi h hn hl kk
  | some x => exact lv_astore_n hexec hb hdg hi h hn hl kk
theorem lv_astoreQ (hexec : p.tables.exec = Jvm.exec) (hb : c.code = cc) {i nL : Nat} {r : Option Nat} {lv lv' : List (Nat × Value)} (hdg : decode cc pc = .ok (.astore i, 2)) (h : lv_has ls nL lv) (hn : i < nL) (hl : (i, va_rf r) :: lv.filter (fun q => !(q.1 == i) && !(q.1 + 1 == i && q.2.category == 2)) = lv')
    (kk : ∀ ls' : Array Slot, lv_has ls' nL lv' → W p l e R s m args below meth c H locs cells slots Q (F0 m (pc + 2) ls' rest)) : W p l e R s m args below meth c H locs cells slots Q (F0 m pc ls (va_rf r :: rest)) := by
  cases r with
  | none => exact lv_astoreN hexec hb hdg h hn hl kk
  | some x => exact lv_astore hexec hb hdg h hn hl kk
theorem va_rf_cat {r : Option Nat} : (va_rf r).category = 1 := by cases r <;> rfl
theorem lp_up {i n N : Nat} {x b : Int32} (hb : b = nI n) (ex : x = nI i) (hi : i ≤ N) (hn : n < 2 ^ 31) (hN : n ≤ N) (hN2 : N < 2 ^ 31) (c : ¬ b ≤ x) : i + 1 ≤ N := by
  rcases Nat.lt_or_ge i n with q | q
  · omega
  · exact absurd (by rw [hb, ex]; exact nI_le q (by omega)) c
theorem lp_fu {i : Nat} {x b : Int32} (ex : x = nI i) (hi : i ≤ 2147483647) (c : ¬ b ≤ x) : i + 1 ≤ 2147483647 := by
  rcases Nat.lt_or_ge i 2147483647 with q | q
  · omega
  · have e : i = 2147483647 := by omega
    subst e
    refine absurd ?_ c
    rw [ex, Int32.le_iff_toInt_le, nI_toInt (by decide)]
    have := Int32.toInt_lt b
    omega
theorem in_lt {i n N : Nat} {x b : Int32} (hb : b = nI n) (ex : x = nI i) (hi : i ≤ N) (hn : n < 2 ^ 31) (hN2 : N < 2 ^ 31) (c : ¬ b ≤ x) : vp_in x n := by
  rcases Nat.lt_or_ge i n with q | q
  · rw [ex]; exact vp_in_nI q hn
  · exact absurd (by rw [hb, ex]; exact nI_le q (by omega)) c
theorem kp_in {i : Nat} {x b k : Int32} (hb : b = nI 60) (ex : x = nI i) (hi : i ≤ 60) (c : ¬ b ≤ x) (h0 : 0 ≤ k) (h : ¬ x < k) : vp_in k 60 := by
  subst hb ex
  rw [Int32.le_iff_toInt_le, nI_toInt (by decide), nI_toInt (by omega)] at c
  rw [Int32.le_iff_toInt_le] at h0
  rw [Int32.lt_iff_toInt_lt, nI_toInt (by omega)] at h
  have e0 : (0 : Int32).toInt = 0 := by decide
  rw [vp_in_iff]
  omega
theorem kp_up {i : Nat} {x b k : Int32} (hb : b = nI 60) (ex : x = nI i) (hi : i ≤ 60) (c : ¬ b ≤ x) (h0 : 0 ≤ k) (h : ¬ x < k) : 0 ≤ k + 1 := by
  have h1 := kp_in hb ex hi c h0 h
  rw [vp_in_iff] at h1
  have hn : ¬ k < 0 := by
    rw [Int32.lt_iff_toInt_lt]
    have e0 : (0 : Int32).toInt = 0 := by decide
    omega
  obtain ⟨j, hj, e⟩ := nI_of hn
  rw [e, nI_toInt hj] at h1
  rw [e, nI_1, Int32.le_iff_toInt_le, nI_toInt (by omega)]
  have e0 : (0 : Int32).toInt = 0 := by decide
  omega
/-- none of these -/
def sw_no (x : Int32) : List Int32 → Prop
  | [] => True
  | k :: r => ¬ x = k ∧ sw_no x r
theorem sw_not {x : Int32} {ks : List Int32} (h : sw_no x ks) : ∀ k ∈ ks, ¬ x = k := by
  induction ks with
  | nil => intro k hk; cases hk
  | cons a r ih =>
    intro k hk
    rcases List.mem_cons.mp hk with e | e
    · rw [e]; exact h.1
    · exact ih h.2 k e
theorem sw_def {x : Int32} {ks : List Int32} {ps : List (Int × Int)} {dflt : Int} (h : sw_no x ks) (hp : ps.all (fun q => q.2 == dflt || ks.any (fun k => k.toInt == q.1)) = true) : Op.lookupswitch.offset ps dflt x.toInt = dflt := by
  induction ps with
  | nil => rfl
  | cons q r ih =>
    obtain ⟨a, o⟩ := q
    rw [List.all_cons, Bool.and_eq_true] at hp
    rw [Op.lookupswitch.offset_cons]
    by_cases ha : a = x.toInt
    · rw [if_pos ha]
      have h1 := hp.1
      rw [Bool.or_eq_true] at h1
      rcases h1 with h1 | h1
      · exact eq_of_beq h1
      · obtain ⟨k, hk, hk2⟩ := List.any_eq_true.mp h1
        have h2 : k.toInt = a := eq_of_beq hk2
        exact absurd (Int32.toInt_inj.mp (by rw [h2, ha])) (sw_not h k hk)
    · rw [if_neg ha]
      exact ih hp.2
theorem sw_tab (hexec : p.tables.exec = Jvm.exec) (hb : c.code = cc) {dflt lo hi : Int} {offs : Array Int} {len : Nat} {x : Int32} {tgt : Nat} {ks : List Int32} (hdg : decode cc pc = .ok (.tableswitch dflt lo hi offs, len)) (h : sw_no x ks)
    (hp : (hi - lo + 1 == offs.size && (List.range offs.size).all (fun j => offs[j]? == some dflt || ks.any (fun k => k.toInt == lo + (j : Int)))) = true) (ht : (pc : Int) + dflt = (tgt : Int))
    (kk : W p l e R s m args below meth c H locs cells slots Q (F0 m tgt ls rest)) : W p l e R s m args below meth c H locs cells slots Q (F0 m pc ls (.int x :: rest)) := by
  rw [Bool.and_eq_true] at hp
  have hz : hi - lo + 1 = offs.size := eq_of_beq hp.1
  by_cases h1 : x.toInt < lo ∨ hi < x.toInt
  · exact lv_tableOut hexec hb hdg h1 ht kk
  · have h2 : ¬ x.toInt < lo := fun q => h1 (Or.inl q)
    have h3 : ¬ hi < x.toInt := fun q => h1 (Or.inr q)
    have h4 : (x.toInt - lo).toNat < offs.size := by omega
    have h5 := List.all_eq_true.mp hp.2 (x.toInt - lo).toNat (List.mem_range.mpr h4)
    rw [Bool.or_eq_true] at h5
    rcases h5 with h5 | h5
    · exact lv_tableIn hexec hb hdg h2 h3 (eq_of_beq h5) ht kk
    · obtain ⟨k, hk, hk2⟩ := List.any_eq_true.mp h5
      have h6 : k.toInt = lo + ((x.toInt - lo).toNat : Int) := eq_of_beq hk2
      exact absurd (Int32.toInt_inj.mp (by rw [h6]; omega)) (sw_not h k hk)
end HL
section BXS
variable {κ : Nat → Nat} {ar : Nat → ClassId} {x : Xo} {S : Ho} {G : gW} {a : Nat} {e c : va_E}
theorem ov_o (h : x.b a = none) (hg : G a = some e) : ov κ ar x S G a = some e := by unfold ov; rw [h]; exact hg
theorem ov_b0 (h : ov κ ar x S G a = none) : x.b a = none := by
  unfold ov at h
  cases hb : x.b a with
  | none => rfl
  | some t => rw [hb] at h; cases h
theorem ov_new (h : x.b a = none) : g_up (ov κ ar x S G) a c = ov κ ar x S (g_up G a c) := by
  funext q
  unfold g_up ov
  by_cases hq : q = a
  · subst hq; rw [if_pos rfl, h]; simp only [if_true]
  · rw [if_neg hq]
    cases x.b q with
    | none => simp only [if_neg hq]
    | some t => rfl
/-- what pages come lies behind -/
def BX (x : Xo) (z : Zo) (sz : Nat) : Prop := ∀ a t, z.b a = some t → x.b a = some t ∨ sz ≤ a
theorem BX_t {z1 z2 : Zo} {n0 n1 : Nat} (h1 : BX x z1 n0) (h2 : BX (x.pgs z1) z2 n1) (h : n0 ≤ n1) : BX x z2 n0 := fun a t q => by
  rcases h2 a t q with q1 | q1
  · exact h1 a t q1
  · exact Or.inr (Nat.le_trans h q1)
end BXS
section NRW
variable {p : Program} {l : Launch} {e : Env} {R : Room} {s : State} {m : MethodId} {args : Array Value} {below : List Frame} {meth : Method} {c : Code} {H : Heap} {locs : List Loc} {cells slots : Nat}
/-- a small type's answer is cut down -/
theorem W.zretN {cc : ByteArray} {Qc : Array Value → State → Outcome → State → Prop} {free : Addr → Prop} {v0 v : Int32} {ty : FieldType} (hexec : p.tables.exec = Jvm.exec) (hb : c.code = cc) (hr : meth.sig.returnType = some ty) (hn : narrow ty (.int v0) = .int v)
    (hq : ∀ t : State, t.heap = H → s.WarmedH t.vm → Qc args s (.returned (some (.int v))) t) (hf : ∀ q ∈ locs, free q.base)
    {pc : Nat} {ls : Array Slot} (hdg : decode cc pc = .ok (.ireturn, 1)) (hlocks : meth.locks = false) : W p l e R s m args below meth c H locs cells slots (MQ below Qc args s cells slots free) (F0 m pc ls [.int v0]) := by
  intro T hT X
  obtain ⟨fs, hret, hrun, hended, hW, hframe⟩ := X.leave (v := some (.int v)) (fun h => by rw [hr] at h; cases h)
  have hmeth' : T.vm.method? m = some meth := X.method'
  refine ⟨T.setFrames fs, ?_, .returned (some (.int v)), hrun, hended, hq _ hT hW, locs, ⟨⟨_, rfl⟩, hW, hframe⟩, hf⟩
  jvm_step X.here [X.here.top, hexec, hb, hdg, hmeth', hr, hn]
  (try refine ⟨rfl, ?_⟩); (try refine ⟨rfl, ?_⟩)
  first | (intro acts; rw [hret _ acts rfl rfl rfl]) | rw [hret _ _ rfl rfl rfl]
  exact Steps.refl _
theorem g_zretN {D : va_G} {cl : List vw_C} {A : Nat → Prop} {u : gW} {nz mc ms pc : Nat} {ls : Array Slot} {cc : ByteArray} {post : Int32 → gW × Nat → Prop} {v0 v : Int32} {ty : FieldType} (hx : p.tables.exec = Jvm.exec) (hb : c.code = cc) (hr : meth.sig.returnType = some ty) (hlocks : meth.locks = false) (w : g_S D cl A s.heap u H locs nz) (hc : cells ≤ mc) (hs : slots ≤ ms) (hdg : decode cc pc = .ok (.ireturn, 1)) (hn : narrow ty (.int v0) = .int v) (hp : post v (u, nz)) :
    W p l e R s m args below meth c H locs cells slots (MQ below (g_Qi D cl A post) args s mc ms A) (F0 m pc ls [.int v0]) :=
  W.widen hc hs (W.zretN hx hb hr hn (fun t ht hW => ⟨⟨v, (u, nz), rfl, hp, by rw [ht]; exact w.1, w.2.1, by rw [ht]; exact w.2.2.2.2⟩, w.2.2.1.F ht⟩) w.2.2.1.2.2 hdg hlocks)
end NRW
/-- as many methods, rows, pages and writings as before -/
def SZ (T S : Ho) : Prop := T.nt = S.nt ∧ T.nr = S.nr ∧ T.np = S.np ∧ T.wc = S.wc
theorem SZ.t {A B C : Ho} (h : SZ A B) (g : SZ B C) : SZ A C := ⟨h.1.trans g.1, h.2.1.trans g.2.1, h.2.2.1.trans g.2.2.1, h.2.2.2.trans g.2.2.2⟩
theorem SZ.to {A B : Ho} {k : Nat} (h : SZ A B) (p : k < B.nt) : k < A.nt := by rw [h.1]; exact p
theorem SZ.ro {A B : Ho} {k : Nat} (h : SZ A B) (p : k < B.nr) : k < A.nr := by rw [h.2.1]; exact p
/-- as many methods and rows, and at least as many pages -/
def SZW (T S : Ho) : Prop := T.nt = S.nt ∧ T.nr = S.nr ∧ S.np ≤ T.np
theorem SZW.t {A B C : Ho} (h : SZW A B) (g : SZW B C) : SZW A C := ⟨h.1.trans g.1, h.2.1.trans g.2.1, Nat.le_trans g.2.2 h.2.2⟩
theorem SZ.w {A B : Ho} (h : SZ A B) : SZW A B := ⟨h.1, h.2.1, Nat.le_of_eq h.2.2.1.symm⟩
theorem SZW.to {A B : Ho} {k : Nat} (h : SZW A B) (p : k < B.nt) : k < A.nt := by rw [h.1]; exact p
theorem SZW.ro {A B : Ho} {k : Nat} (h : SZW A B) (p : k < B.nr) : k < A.nr := by rw [h.2.1]; exact p
/-- fewer than 5120 writings, and the pages for them -/
def Wk (S : Ho) : Prop := ∃ n : Nat, n < 5120 ∧ S.wc = nI n ∧ S.np = (n + 511) / 512
theorem Wk.sz {T S : Ho} (h : Wk S) (e : SZ T S) : Wk T := by
  obtain ⟨n, h1, h2, h3⟩ := h
  exact ⟨n, h1, e.2.2.2.trans h2, e.2.2.1.trans h3⟩
theorem Wk.np {S : Ho} (h : Wk S) : S.np ≤ 10 := by
  obtain ⟨n, h1, h2, h3⟩ := h
  omega
theorem me_mul : ∀ a : Fin 12, ∀ b : Fin 16, nI a.val * 16 + nI b.val = nI (a.val * 16 + b.val) := by decide +kernel
theorem in_me {i j : Int32} (h1 : ¬ isB i 12 = 0) (h2 : ¬ isB j 16 = 0) : vp_in (i * 16 + j) 192 := by
  obtain ⟨a1, a2⟩ := isB_n.mp h1
  obtain ⟨b1, b2⟩ := isB_n.mp h2
  rcases pk_ix i (n := 12) (by decide) with h | h | ⟨a, ha, rfl⟩
  · exact absurd h a1
  · exact absurd h a2
  rcases pk_ix j (n := 16) (by decide) with h | h | ⟨b, hb, rfl⟩
  · exact absurd h b1
  · exact absurd h b2
  have e := me_mul ⟨a, ha⟩ ⟨b, hb⟩
  show vp_in (nI a * 16 + nI b) 192
  rw [e]
  exact vp_in_nI (show a * 16 + b < 192 by omega) (by decide)
theorem dn_0 (x : Int32) : x.toInt + 2 ≤ ((FU + 1 : Nat) : Int) ∧ 1 ≤ FU + 1 := by
  have h := Int32.toInt_lt x
  have e := FU_e
  omega
theorem dn_m {n : Nat} {x : Int32} (c : ¬ x < 0) (h : x.toInt + 2 ≤ ((n + 1 : Nat) : Int) ∧ 1 ≤ n + 1) : (x + (-1)).toInt + 2 ≤ (n : Int) ∧ 1 ≤ n := by
  obtain ⟨j, hj, e⟩ := nI_of c
  subst e
  rw [nI_toInt hj] at h
  cases j with
  | zero =>
    have e1 : (nI 0 + (-1)).toInt = -1 := by decide
    rw [e1]
    omega
  | succ j =>
    have e1 : nI (j + 1) + (-1) = nI j := by
      rw [← nI_1, Int32.add_assoc]
      have e2 : (1 : Int32) + (-1) = 0 := by decide
      rw [e2, Int32.add_zero]
    rw [e1, nI_toInt (by omega)]
    omega
