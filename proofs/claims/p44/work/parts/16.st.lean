/-! a house's state, in plain values; where each of its cells lies; the world that holds it -/
structure Ro where
  (l f g d q : Nat → Int32)
  (n k : Int32)
structure To where
  (c s a t n : Int32)
structure Th where
  (p : Nat → Int64)
  (n c z r : Int32)
structure Fr where
  (a t p : Nat → Int64)
  (o : Option Nat)
  (v : Int64)
  (w d : Int32)
structure Ho where
  (ab fc : Nat → Int32)
  (cn : Int32)
  (me : Nat → Option Nat)
  (nt : Nat)
  (to : Nat → To)
  (ro : Nat → Ro)
  (gl : Nat → Int64)
  (al re : Nat → Option (Fin 60))
  (th : Fin 60 → Th)
  (tc rc mk : Int32)
  (fr : Fin 12 → Fr)
  (fn st rs : Int32)
  (an : Int64)
  (sp : Int32)
  (np : Nat)
  (pg : Nat → Nat → Int64)
  (wc : Int32)
  (ws wp : Int64)
inductive Tg where
  | ho | cl | ab | fc | me | gl | ts | al | re | fs | wr | pl | el
  | th (i : Fin 60) | tp (i : Fin 60)
  | fr (i : Fin 12) | fa (i : Fin 12) | ft (i : Fin 12) | fp (i : Fin 12)
  | to (k : Nat) | ro (k : Nat) | rl (k : Nat) | rf (k : Nat) | rg (k : Nat) | rd (k : Nat) | rq (k : Nat) | pg (k : Nat) | pv (k : Nat)
structure Xo where
  (f : Tg → Nat)
  (b : Nat → Option Tg)
  (cm : Nat → Int32)
  (ht : Int32)
  (ec : Nat)
  (mc : Int32)
def fF (k : Nat) : Option (Fin 12) := if h : k < 12 then some ⟨k, h⟩ else none
def updF {n : Nat} {α : Type} (f : Fin n → α) (i : Fin n) (v : α) : Fin n → α := fun j => if j = i then v else f j
def updN {α : Type} (f : Nat → α) (i : Nat) (v : α) : Nat → α := fun j => if j = i then v else f j
theorem updF_s {n : Nat} {α : Type} {f : Fin n → α} {i : Fin n} {v : α} : updF f i v i = v := if_pos rfl
theorem updF_o {n : Nat} {α : Type} {f : Fin n → α} {i j : Fin n} {v : α} (h : j ≠ i) : updF f i v j = f j := if_neg h
theorem updN_s {α : Type} {f : Nat → α} {i : Nat} {v : α} : updN f i v i = v := if_pos rfl
theorem updN_o {α : Type} {f : Nat → α} {i j : Nat} {v : α} (h : j ≠ i) : updN f i v j = f j := if_neg h
theorem updF_id {n : Nat} {α : Type} {f : Fin n → α} {i : Fin n} : updF f i (f i) = f := by
  funext j
  by_cases h : j = i
  · subst h; exact updF_s
  · exact updF_o h
theorem updN_id {α : Type} {f : Nat → α} {i : Nat} : updN f i (f i) = f := by
  funext j
  by_cases h : j = i
  · subst h; exact updN_s
  · exact updN_o h
theorem updF_2 {n : Nat} {α : Type} {f : Fin n → α} {i : Fin n} {v u : α} : updF (updF f i v) i u = updF f i u := by
  funext j
  by_cases h : j = i
  · subst h; rw [updF_s, updF_s]
  · rw [updF_o h, updF_o h, updF_o h]
theorem updN_2 {α : Type} {f : Nat → α} {i : Nat} {v u : α} : updN (updN f i v) i u = updN f i u := by
  funext j
  by_cases h : j = i
  · subst h; rw [updN_s, updN_s]
  · rw [updN_o h, updN_o h, updN_o h]
/-- one thing, one frame, one method, one list of rows set anew -/
def Ho.thS (S : Ho) (i : Fin 60) (v : Th) : Ho := { S with th := updF S.th i v }
def Ho.frS (S : Ho) (i : Fin 12) (v : Fr) : Ho := { S with fr := updF S.fr i v }
def Ho.toS (S : Ho) (k : Nat) (v : To) : Ho := { S with to := updN S.to k v }
def Ho.roS (S : Ho) (k : Nat) (v : Ro) : Ho := { S with ro := updN S.ro k v }
theorem thS_id {S : Ho} {i : Fin 60} : S.thS i (S.th i) = S := by unfold Ho.thS; rw [updF_id]
theorem frS_id {S : Ho} {i : Fin 12} : S.frS i (S.fr i) = S := by unfold Ho.frS; rw [updF_id]
theorem toS_id {S : Ho} {k : Nat} : S.toS k (S.to k) = S := by unfold Ho.toS; rw [updN_id]
theorem roS_id {S : Ho} {k : Nat} : S.roS k (S.ro k) = S := by unfold Ho.roS; rw [updN_id]
/-- which cells there are -/
def vl (S : Ho) : Tg → Bool
  | .to k => decide (k < S.nt)
  | .ro k => decide (k ≤ S.nt)
  | .rl k => decide (k ≤ S.nt)
  | .rf k => decide (k ≤ S.nt)
  | .rg k => decide (k ≤ S.nt)
  | .rd k => decide (k ≤ S.nt)
  | .rq k => decide (k ≤ S.nt)
  | .pg k => decide (k < S.np)
  | .pv k => decide (k < S.np)
  | .el => decide (0 < S.np)
  | _ => true
/-- what a cell holds -/
def cellH (κ : Nat → Nat) (ar : Nat → ClassId) (x : Xo) (S : Ho) : Tg → va_E
  | .ho => .inr (14, [.ref (x.f .cl), .ref (x.f .me), .ref (x.f (.ro S.nt)), .int x.ht, .ref (x.f .gl), .ref (x.f .ts), .ref (x.f .fs), .int S.fn, .int S.st, .int S.rs, .long S.an, .int S.sp, .ref (x.f .wr)])
  | .cl => .inr (6, [.ref (x.f .ab), .ref (x.f .fc), .int S.cn])
  | .ab => .inl (ar 0, 12, .inl S.ab)
  | .fc => .inl (ar 0, 12, .inl S.fc)
  | .me => .inl (ar 7, 192, .inr (.inr (.inr (.inr (fun j => (S.me j).map (fun k => x.f (.to k)))))))
  | .gl => .inl (ar 1, 8, .inr (.inl S.gl))
  | .ts => .inr (11, [.ref (x.f .al), .ref (x.f .re), .int S.tc, .int S.rc, .int S.mk])
  | .al => .inl (ar 6, 60, .inr (.inr (.inr (.inr (fun j => (S.al j).map (fun k => x.f (.th k)))))))
  | .re => .inl (ar 6, 60, .inr (.inr (.inr (.inr (fun j => (S.re j).map (fun k => x.f (.th k)))))))
  | .fs => .inl (ar 5, 12, .inr (.inr (.inr (.inr (fun j => (fF j).map (fun k => x.f (.fr k)))))))
  | .wr => .inr (13, [.ref (x.f .pl), .int S.wc, .long S.ws, .long S.wp])
  | .pl => .inr (5, [.int x.mc, .ref (if S.np = 0 then κ 0 else x.f .el), .int (Int32.ofNat S.np)])
  | .el => .inl (ar 8, x.ec, .inr (.inr (.inr (.inr (fun j => if j < S.np then some (x.f (.pg j)) else none)))))
  | .th i => .inr (10, [.ref (x.f (.tp i)), .int (S.th i).n, .int (S.th i).c, .int (S.th i).z, .int (S.th i).r])
  | .tp i => .inl (ar 1, 8, .inr (.inl (S.th i).p))
  | .fr i => .inr (7, [.ref (x.f (.fa i)), .ref (x.f (.ft i)), .ref (x.f (.fp i)), va_rf ((S.fr i).o.map (fun k => x.f (.to k))), .long (S.fr i).v, .int (S.fr i).w, .int (S.fr i).d])
  | .fa i => .inl (ar 1, 2, .inr (.inl (S.fr i).a))
  | .ft i => .inl (ar 1, 4, .inr (.inl (S.fr i).t))
  | .fp i => .inl (ar 1, 8, .inr (.inl (S.fr i).p))
  | .to k => .inr (12, [.int (S.to k).c, .int (S.to k).s, .int (S.to k).a, .int (S.to k).t, .ref (x.f (.ro k)), .int (S.to k).n, .int (x.cm k)])
  | .ro k => .inr (9, [.ref (x.f (.rl k)), .ref (x.f (.rf k)), .ref (x.f (.rg k)), .ref (x.f (.rd k)), .ref (x.f (.rq k)), .int (S.ro k).n, .int (S.ro k).k])
  | .rl k => .inl (ar 2, 24, .inl (S.ro k).l)
  | .rf k => .inl (ar 0, 24, .inl (S.ro k).f)
  | .rg k => .inl (ar 0, 24, .inl (S.ro k).g)
  | .rd k => .inl (ar 0, 24, .inl (S.ro k).d)
  | .rq k => .inl (ar 0, 24, .inl (S.ro k).q)
  | .pg k => .inr (8, [.ref (x.f (.pv k))])
  | .pv k => .inl (ar 1, 512, .inr (.inl (S.pg k)))
def ov (κ : Nat → Nat) (ar : Nat → ClassId) (x : Xo) (S : Ho) (G : gW) : gW := fun a => match x.b a with
  | some t => some (cellH κ ar x S t)
  | none => G a
/-- the addresses and the numbers of methods are in order -/
structure OK (x : Xo) (S : Ho) : Prop where
  e : ∀ t, vl S t = true → x.b (x.f t) = some t
  v : ∀ a t, x.b a = some t → x.f t = a
  m : ∀ j k, S.me j = some k → k < S.nt
  o : ∀ i k, (S.fr i).o = some k → k < S.nt
section OV
variable {κ : Nat → Nat} {ar : Nat → ClassId} {x x' : Xo} {S S' T : Ho} {G : gW} {t : Tg} {c : va_E}
theorem ov_r (h : x.b (x.f t) = some t) : ov κ ar x S G (x.f t) = some (cellH κ ar x S t) := by
  unfold ov
  rw [h]
theorem ov_w (hv : ∀ a t, x.b a = some t → x.f t = a) (h : x.b (x.f t) = some t) (hb : x'.b = x.b) (hc : c = cellH κ ar x' S' t) (hs : ∀ t', t' ≠ t → cellH κ ar x' S' t' = cellH κ ar x S t') : g_up (ov κ ar x S G) (x.f t) c = ov κ ar x' S' G := by
  funext a
  unfold g_up ov
  rw [hb]
  by_cases q : a = x.f t
  · subst q
    rw [if_pos rfl, h, hc]
  · rw [if_neg q]
    cases hba : x.b a with
    | none => rfl
    | some t' =>
      have h1 := hv a t' hba
      have h2 : t' ≠ t := fun z => q (by rw [← h1, z])
      simp only [hs t' h2]
theorem OK.same (h : OK x S) (hn : T.nt = S.nt) (hp : T.np = S.np) (hm : ∀ j k, T.me j = some k → k < S.nt) (ho : ∀ i k, (T.fr i).o = some k → k < S.nt) : OK x T where
  e := fun t ht => h.e t (by
    have : vl S t = vl T t := by cases t <;> simp only [vl, hn, hp]
    rw [this]; exact ht)
  v := h.v
  m := fun j k q => by rw [hn]; exact hm j k q
  o := fun i k q => by rw [hn]; exact ho i k q
/-- a change that leaves the numbers of methods alone -/
theorem OK.plain (h : OK x S) (hn : T.nt = S.nt) (hp : T.np = S.np) (hm : T.me = S.me) (ho : T.fr = S.fr) : OK x T :=
  h.same hn hp (fun j k q => h.m j k (by rw [← hm]; exact q)) (fun i k q => h.o i k (by rw [← ho]; exact q))
theorem OK.frS (h : OK x S) {i : Fin 12} {v : Fr} (hv : ∀ k, v.o = some k → k < S.nt) : OK x (S.frS i v) :=
  h.same rfl rfl h.m (fun j k q => by
    by_cases hj : j = i
    · subst hj
      have : ((S.frS j v).fr j) = v := updF_s
      rw [this] at q
      exact hv k q
    · have : ((S.frS i v).fr j) = S.fr j := updF_o hj
      rw [this] at q
      exact h.o j k q)
theorem OK.f0 {i : Fin 12} {v v' : Fr} (h : OK x (S.frS i v)) (ho : v'.o = v.o) : OK x (S.frS i v') := h.same rfl rfl h.m (fun j k q => by
    by_cases hj : j = i
    · subst hj
      have e1 : ((S.frS j v').fr j) = v' := updF_s
      have e2 : ((S.frS j v).fr j) = v := updF_s
      rw [e1, ho, ← e2] at q
      exact h.o j k q
    · have e1 : ((S.frS i v').fr j) = S.fr j := updF_o hj
      have e2 : ((S.frS i v).fr j) = S.fr j := updF_o hj
      rw [e1, ← e2] at q
      exact h.o j k q)
macro "ovt" : tactic => `(tactic| (intro t' q; cases t' <;> first | rfl | exact absurd rfl q))
theorem ov_rfr {i : Fin 12} {v : Fr} (h : x.b (x.f (.fr i)) = some (.fr i)) : ov κ ar x (S.frS i v) G (x.f (.fr i)) = some (.inr (7, [.ref (x.f (.fa i)), .ref (x.f (.ft i)), .ref (x.f (.fp i)), va_rf (v.o.map (fun k => x.f (.to k))), .long v.v, .int v.w, .int v.d])) := by
  rw [ov_r h]; simp only [cellH, Ho.frS, updF_s]
theorem ov_rfa {i : Fin 12} {v : Fr} (h : x.b (x.f (.fa i)) = some (.fa i)) : ov κ ar x (S.frS i v) G (x.f (.fa i)) = some (.inl (ar 1, 2, .inr (.inl v.a))) := by
  rw [ov_r h]; simp only [cellH, Ho.frS, updF_s]
theorem ov_rft {i : Fin 12} {v : Fr} (h : x.b (x.f (.ft i)) = some (.ft i)) : ov κ ar x (S.frS i v) G (x.f (.ft i)) = some (.inl (ar 1, 4, .inr (.inl v.t))) := by
  rw [ov_r h]; simp only [cellH, Ho.frS, updF_s]
theorem ov_rfp {i : Fin 12} {v : Fr} (h : x.b (x.f (.fp i)) = some (.fp i)) : ov κ ar x (S.frS i v) G (x.f (.fp i)) = some (.inl (ar 1, 8, .inr (.inl v.p))) := by
  rw [ov_r h]; simp only [cellH, Ho.frS, updF_s]
theorem ov_wfr {i : Fin 12} {v v' : Fr} (hv : ∀ a t, x.b a = some t → x.f t = a) (h : x.b (x.f (.fr i)) = some (.fr i)) (hc : c = .inr (7, [.ref (x.f (.fa i)), .ref (x.f (.ft i)), .ref (x.f (.fp i)), va_rf (v'.o.map (fun k => x.f (.to k))), .long v'.v, .int v'.w, .int v'.d])) (h_a : v'.a = v.a) (h_t : v'.t = v.t) (h_p : v'.p = v.p) : g_up (ov κ ar x (S.frS i v) G) (x.f (.fr i)) c = ov κ ar x (S.frS i v') G := by
  refine ov_w hv h rfl (by rw [hc]; simp only [cellH, Ho.frS, updF_s]) (fun t' q => ?_)
  cases t' with
  | fr j =>
    by_cases hj : j = i
    · subst hj
      first
        | exact absurd rfl q
        | simp only [cellH, Ho.frS, updF_s, h_a, h_t, h_p]
    · simp only [cellH, Ho.frS, updF_o hj]
  | fa j =>
    by_cases hj : j = i
    · subst hj
      first
        | exact absurd rfl q
        | simp only [cellH, Ho.frS, updF_s, h_a, h_t, h_p]
    · simp only [cellH, Ho.frS, updF_o hj]
  | ft j =>
    by_cases hj : j = i
    · subst hj
      first
        | exact absurd rfl q
        | simp only [cellH, Ho.frS, updF_s, h_a, h_t, h_p]
    · simp only [cellH, Ho.frS, updF_o hj]
  | fp j =>
    by_cases hj : j = i
    · subst hj
      first
        | exact absurd rfl q
        | simp only [cellH, Ho.frS, updF_s, h_a, h_t, h_p]
    · simp only [cellH, Ho.frS, updF_o hj]
  | _ => rfl
theorem ov_wfa {i : Fin 12} {v v' : Fr} (hv : ∀ a t, x.b a = some t → x.f t = a) (h : x.b (x.f (.fa i)) = some (.fa i)) (hc : c = .inl (ar 1, 2, .inr (.inl v'.a))) (h_o : v'.o = v.o) (h_v : v'.v = v.v) (h_w : v'.w = v.w) (h_d : v'.d = v.d) (h_t : v'.t = v.t) (h_p : v'.p = v.p) : g_up (ov κ ar x (S.frS i v) G) (x.f (.fa i)) c = ov κ ar x (S.frS i v') G := by
  refine ov_w hv h rfl (by rw [hc]; simp only [cellH, Ho.frS, updF_s]) (fun t' q => ?_)
  cases t' with
  | fr j =>
    by_cases hj : j = i
    · subst hj
      first
        | exact absurd rfl q
        | simp only [cellH, Ho.frS, updF_s, h_o, h_v, h_w, h_d, h_t, h_p]
    · simp only [cellH, Ho.frS, updF_o hj]
  | fa j =>
    by_cases hj : j = i
    · subst hj
      first
        | exact absurd rfl q
        | simp only [cellH, Ho.frS, updF_s, h_o, h_v, h_w, h_d, h_t, h_p]
    · simp only [cellH, Ho.frS, updF_o hj]
  | ft j =>
    by_cases hj : j = i
    · subst hj
      first
        | exact absurd rfl q
        | simp only [cellH, Ho.frS, updF_s, h_o, h_v, h_w, h_d, h_t, h_p]
    · simp only [cellH, Ho.frS, updF_o hj]
  | fp j =>
    by_cases hj : j = i
    · subst hj
      first
        | exact absurd rfl q
        | simp only [cellH, Ho.frS, updF_s, h_o, h_v, h_w, h_d, h_t, h_p]
    · simp only [cellH, Ho.frS, updF_o hj]
  | _ => rfl
theorem ov_wft {i : Fin 12} {v v' : Fr} (hv : ∀ a t, x.b a = some t → x.f t = a) (h : x.b (x.f (.ft i)) = some (.ft i)) (hc : c = .inl (ar 1, 4, .inr (.inl v'.t))) (h_o : v'.o = v.o) (h_v : v'.v = v.v) (h_w : v'.w = v.w) (h_d : v'.d = v.d) (h_a : v'.a = v.a) (h_p : v'.p = v.p) : g_up (ov κ ar x (S.frS i v) G) (x.f (.ft i)) c = ov κ ar x (S.frS i v') G := by
  refine ov_w hv h rfl (by rw [hc]; simp only [cellH, Ho.frS, updF_s]) (fun t' q => ?_)
  cases t' with
  | fr j =>
    by_cases hj : j = i
    · subst hj
      first
        | exact absurd rfl q
        | simp only [cellH, Ho.frS, updF_s, h_o, h_v, h_w, h_d, h_a, h_p]
    · simp only [cellH, Ho.frS, updF_o hj]
  | fa j =>
    by_cases hj : j = i
    · subst hj
      first
        | exact absurd rfl q
        | simp only [cellH, Ho.frS, updF_s, h_o, h_v, h_w, h_d, h_a, h_p]
    · simp only [cellH, Ho.frS, updF_o hj]
  | ft j =>
    by_cases hj : j = i
    · subst hj
      first
        | exact absurd rfl q
        | simp only [cellH, Ho.frS, updF_s, h_o, h_v, h_w, h_d, h_a, h_p]
    · simp only [cellH, Ho.frS, updF_o hj]
  | fp j =>
    by_cases hj : j = i
    · subst hj
      first
        | exact absurd rfl q
        | simp only [cellH, Ho.frS, updF_s, h_o, h_v, h_w, h_d, h_a, h_p]
    · simp only [cellH, Ho.frS, updF_o hj]
  | _ => rfl
theorem ov_wfp {i : Fin 12} {v v' : Fr} (hv : ∀ a t, x.b a = some t → x.f t = a) (h : x.b (x.f (.fp i)) = some (.fp i)) (hc : c = .inl (ar 1, 8, .inr (.inl v'.p))) (h_o : v'.o = v.o) (h_v : v'.v = v.v) (h_w : v'.w = v.w) (h_d : v'.d = v.d) (h_a : v'.a = v.a) (h_t : v'.t = v.t) : g_up (ov κ ar x (S.frS i v) G) (x.f (.fp i)) c = ov κ ar x (S.frS i v') G := by
  refine ov_w hv h rfl (by rw [hc]; simp only [cellH, Ho.frS, updF_s]) (fun t' q => ?_)
  cases t' with
  | fr j =>
    by_cases hj : j = i
    · subst hj
      first
        | exact absurd rfl q
        | simp only [cellH, Ho.frS, updF_s, h_o, h_v, h_w, h_d, h_a, h_t]
    · simp only [cellH, Ho.frS, updF_o hj]
  | fa j =>
    by_cases hj : j = i
    · subst hj
      first
        | exact absurd rfl q
        | simp only [cellH, Ho.frS, updF_s, h_o, h_v, h_w, h_d, h_a, h_t]
    · simp only [cellH, Ho.frS, updF_o hj]
  | ft j =>
    by_cases hj : j = i
    · subst hj
      first
        | exact absurd rfl q
        | simp only [cellH, Ho.frS, updF_s, h_o, h_v, h_w, h_d, h_a, h_t]
    · simp only [cellH, Ho.frS, updF_o hj]
  | fp j =>
    by_cases hj : j = i
    · subst hj
      first
        | exact absurd rfl q
        | simp only [cellH, Ho.frS, updF_s, h_o, h_v, h_w, h_d, h_a, h_t]
    · simp only [cellH, Ho.frS, updF_o hj]
  | _ => rfl
theorem ov_rth {i : Fin 60} {v : Th} (h : x.b (x.f (.th i)) = some (.th i)) : ov κ ar x (S.thS i v) G (x.f (.th i)) = some (.inr (10, [.ref (x.f (.tp i)), .int v.n, .int v.c, .int v.z, .int v.r])) := by
  rw [ov_r h]; simp only [cellH, Ho.thS, updF_s]
theorem ov_rtp {i : Fin 60} {v : Th} (h : x.b (x.f (.tp i)) = some (.tp i)) : ov κ ar x (S.thS i v) G (x.f (.tp i)) = some (.inl (ar 1, 8, .inr (.inl v.p))) := by
  rw [ov_r h]; simp only [cellH, Ho.thS, updF_s]
theorem ov_wth {i : Fin 60} {v v' : Th} (hv : ∀ a t, x.b a = some t → x.f t = a) (h : x.b (x.f (.th i)) = some (.th i)) (hc : c = .inr (10, [.ref (x.f (.tp i)), .int v'.n, .int v'.c, .int v'.z, .int v'.r])) (h_p : v'.p = v.p) : g_up (ov κ ar x (S.thS i v) G) (x.f (.th i)) c = ov κ ar x (S.thS i v') G := by
  refine ov_w hv h rfl (by rw [hc]; simp only [cellH, Ho.thS, updF_s]) (fun t' q => ?_)
  cases t' with
  | th j =>
    by_cases hj : j = i
    · subst hj
      first
        | exact absurd rfl q
        | simp only [cellH, Ho.thS, updF_s, h_p]
    · simp only [cellH, Ho.thS, updF_o hj]
  | tp j =>
    by_cases hj : j = i
    · subst hj
      first
        | exact absurd rfl q
        | simp only [cellH, Ho.thS, updF_s, h_p]
    · simp only [cellH, Ho.thS, updF_o hj]
  | _ => rfl
theorem ov_wtp {i : Fin 60} {v v' : Th} (hv : ∀ a t, x.b a = some t → x.f t = a) (h : x.b (x.f (.tp i)) = some (.tp i)) (hc : c = .inl (ar 1, 8, .inr (.inl v'.p))) (h_n : v'.n = v.n) (h_c : v'.c = v.c) (h_z : v'.z = v.z) (h_r : v'.r = v.r) : g_up (ov κ ar x (S.thS i v) G) (x.f (.tp i)) c = ov κ ar x (S.thS i v') G := by
  refine ov_w hv h rfl (by rw [hc]; simp only [cellH, Ho.thS, updF_s]) (fun t' q => ?_)
  cases t' with
  | th j =>
    by_cases hj : j = i
    · subst hj
      first
        | exact absurd rfl q
        | simp only [cellH, Ho.thS, updF_s, h_n, h_c, h_z, h_r]
    · simp only [cellH, Ho.thS, updF_o hj]
  | tp j =>
    by_cases hj : j = i
    · subst hj
      first
        | exact absurd rfl q
        | simp only [cellH, Ho.thS, updF_s, h_n, h_c, h_z, h_r]
    · simp only [cellH, Ho.thS, updF_o hj]
  | _ => rfl
theorem ov_rto {i : Nat} {v : To} (h : x.b (x.f (.to i)) = some (.to i)) : ov κ ar x (S.toS i v) G (x.f (.to i)) = some (.inr (12, [.int v.c, .int v.s, .int v.a, .int v.t, .ref (x.f (.ro i)), .int v.n, .int (x.cm i)])) := by
  rw [ov_r h]; simp only [cellH, Ho.toS, updN_s]
theorem ov_wto {i : Nat} {v v' : To} (hv : ∀ a t, x.b a = some t → x.f t = a) (h : x.b (x.f (.to i)) = some (.to i)) (hc : c = .inr (12, [.int v'.c, .int v'.s, .int v'.a, .int v'.t, .ref (x.f (.ro i)), .int v'.n, .int (x.cm i)])) : g_up (ov κ ar x (S.toS i v) G) (x.f (.to i)) c = ov κ ar x (S.toS i v') G := by
  refine ov_w hv h rfl (by rw [hc]; simp only [cellH, Ho.toS, updN_s]) (fun t' q => ?_)
  cases t' with
  | to j =>
    by_cases hj : j = i
    · subst hj
      first
        | exact absurd rfl q
        | simp only [cellH, Ho.toS, updN_s]
    · simp only [cellH, Ho.toS, updN_o hj]
  | _ => rfl
theorem ov_rro {i : Nat} {v : Ro} (h : x.b (x.f (.ro i)) = some (.ro i)) : ov κ ar x (S.roS i v) G (x.f (.ro i)) = some (.inr (9, [.ref (x.f (.rl i)), .ref (x.f (.rf i)), .ref (x.f (.rg i)), .ref (x.f (.rd i)), .ref (x.f (.rq i)), .int v.n, .int v.k])) := by
  rw [ov_r h]; simp only [cellH, Ho.roS, updN_s]
theorem ov_rrl {i : Nat} {v : Ro} (h : x.b (x.f (.rl i)) = some (.rl i)) : ov κ ar x (S.roS i v) G (x.f (.rl i)) = some (.inl (ar 2, 24, .inl v.l)) := by
  rw [ov_r h]; simp only [cellH, Ho.roS, updN_s]
theorem ov_rrf {i : Nat} {v : Ro} (h : x.b (x.f (.rf i)) = some (.rf i)) : ov κ ar x (S.roS i v) G (x.f (.rf i)) = some (.inl (ar 0, 24, .inl v.f)) := by
  rw [ov_r h]; simp only [cellH, Ho.roS, updN_s]
theorem ov_rrg {i : Nat} {v : Ro} (h : x.b (x.f (.rg i)) = some (.rg i)) : ov κ ar x (S.roS i v) G (x.f (.rg i)) = some (.inl (ar 0, 24, .inl v.g)) := by
  rw [ov_r h]; simp only [cellH, Ho.roS, updN_s]
theorem ov_rrd {i : Nat} {v : Ro} (h : x.b (x.f (.rd i)) = some (.rd i)) : ov κ ar x (S.roS i v) G (x.f (.rd i)) = some (.inl (ar 0, 24, .inl v.d)) := by
  rw [ov_r h]; simp only [cellH, Ho.roS, updN_s]
theorem ov_rrq {i : Nat} {v : Ro} (h : x.b (x.f (.rq i)) = some (.rq i)) : ov κ ar x (S.roS i v) G (x.f (.rq i)) = some (.inl (ar 0, 24, .inl v.q)) := by
  rw [ov_r h]; simp only [cellH, Ho.roS, updN_s]
theorem ov_wro {i : Nat} {v v' : Ro} (hv : ∀ a t, x.b a = some t → x.f t = a) (h : x.b (x.f (.ro i)) = some (.ro i)) (hc : c = .inr (9, [.ref (x.f (.rl i)), .ref (x.f (.rf i)), .ref (x.f (.rg i)), .ref (x.f (.rd i)), .ref (x.f (.rq i)), .int v'.n, .int v'.k])) (h_l : v'.l = v.l) (h_f : v'.f = v.f) (h_g : v'.g = v.g) (h_d : v'.d = v.d) (h_q : v'.q = v.q) : g_up (ov κ ar x (S.roS i v) G) (x.f (.ro i)) c = ov κ ar x (S.roS i v') G := by
  refine ov_w hv h rfl (by rw [hc]; simp only [cellH, Ho.roS, updN_s]) (fun t' q => ?_)
  cases t' with
  | ro j =>
    by_cases hj : j = i
    · subst hj
      first
        | exact absurd rfl q
        | simp only [cellH, Ho.roS, updN_s, h_l, h_f, h_g, h_d, h_q]
    · simp only [cellH, Ho.roS, updN_o hj]
  | rl j =>
    by_cases hj : j = i
    · subst hj
      first
        | exact absurd rfl q
        | simp only [cellH, Ho.roS, updN_s, h_l, h_f, h_g, h_d, h_q]
    · simp only [cellH, Ho.roS, updN_o hj]
  | rf j =>
    by_cases hj : j = i
    · subst hj
      first
        | exact absurd rfl q
        | simp only [cellH, Ho.roS, updN_s, h_l, h_f, h_g, h_d, h_q]
    · simp only [cellH, Ho.roS, updN_o hj]
  | rg j =>
    by_cases hj : j = i
    · subst hj
      first
        | exact absurd rfl q
        | simp only [cellH, Ho.roS, updN_s, h_l, h_f, h_g, h_d, h_q]
    · simp only [cellH, Ho.roS, updN_o hj]
  | rd j =>
    by_cases hj : j = i
    · subst hj
      first
        | exact absurd rfl q
        | simp only [cellH, Ho.roS, updN_s, h_l, h_f, h_g, h_d, h_q]
    · simp only [cellH, Ho.roS, updN_o hj]
  | rq j =>
    by_cases hj : j = i
    · subst hj
      first
        | exact absurd rfl q
        | simp only [cellH, Ho.roS, updN_s, h_l, h_f, h_g, h_d, h_q]
    · simp only [cellH, Ho.roS, updN_o hj]
  | _ => rfl
theorem ov_wrl {i : Nat} {v v' : Ro} (hv : ∀ a t, x.b a = some t → x.f t = a) (h : x.b (x.f (.rl i)) = some (.rl i)) (hc : c = .inl (ar 2, 24, .inl v'.l)) (h_n : v'.n = v.n) (h_k : v'.k = v.k) (h_f : v'.f = v.f) (h_g : v'.g = v.g) (h_d : v'.d = v.d) (h_q : v'.q = v.q) : g_up (ov κ ar x (S.roS i v) G) (x.f (.rl i)) c = ov κ ar x (S.roS i v') G := by
  refine ov_w hv h rfl (by rw [hc]; simp only [cellH, Ho.roS, updN_s]) (fun t' q => ?_)
  cases t' with
  | ro j =>
    by_cases hj : j = i
    · subst hj
      first
        | exact absurd rfl q
        | simp only [cellH, Ho.roS, updN_s, h_n, h_k, h_f, h_g, h_d, h_q]
    · simp only [cellH, Ho.roS, updN_o hj]
  | rl j =>
    by_cases hj : j = i
    · subst hj
      first
        | exact absurd rfl q
        | simp only [cellH, Ho.roS, updN_s, h_n, h_k, h_f, h_g, h_d, h_q]
    · simp only [cellH, Ho.roS, updN_o hj]
  | rf j =>
    by_cases hj : j = i
    · subst hj
      first
        | exact absurd rfl q
        | simp only [cellH, Ho.roS, updN_s, h_n, h_k, h_f, h_g, h_d, h_q]
    · simp only [cellH, Ho.roS, updN_o hj]
  | rg j =>
    by_cases hj : j = i
    · subst hj
      first
        | exact absurd rfl q
        | simp only [cellH, Ho.roS, updN_s, h_n, h_k, h_f, h_g, h_d, h_q]
    · simp only [cellH, Ho.roS, updN_o hj]
  | rd j =>
    by_cases hj : j = i
    · subst hj
      first
        | exact absurd rfl q
        | simp only [cellH, Ho.roS, updN_s, h_n, h_k, h_f, h_g, h_d, h_q]
    · simp only [cellH, Ho.roS, updN_o hj]
  | rq j =>
    by_cases hj : j = i
    · subst hj
      first
        | exact absurd rfl q
        | simp only [cellH, Ho.roS, updN_s, h_n, h_k, h_f, h_g, h_d, h_q]
    · simp only [cellH, Ho.roS, updN_o hj]
  | _ => rfl
theorem ov_wrf {i : Nat} {v v' : Ro} (hv : ∀ a t, x.b a = some t → x.f t = a) (h : x.b (x.f (.rf i)) = some (.rf i)) (hc : c = .inl (ar 0, 24, .inl v'.f)) (h_n : v'.n = v.n) (h_k : v'.k = v.k) (h_l : v'.l = v.l) (h_g : v'.g = v.g) (h_d : v'.d = v.d) (h_q : v'.q = v.q) : g_up (ov κ ar x (S.roS i v) G) (x.f (.rf i)) c = ov κ ar x (S.roS i v') G := by
  refine ov_w hv h rfl (by rw [hc]; simp only [cellH, Ho.roS, updN_s]) (fun t' q => ?_)
  cases t' with
  | ro j =>
    by_cases hj : j = i
    · subst hj
      first
        | exact absurd rfl q
        | simp only [cellH, Ho.roS, updN_s, h_n, h_k, h_l, h_g, h_d, h_q]
    · simp only [cellH, Ho.roS, updN_o hj]
  | rl j =>
    by_cases hj : j = i
    · subst hj
      first
        | exact absurd rfl q
        | simp only [cellH, Ho.roS, updN_s, h_n, h_k, h_l, h_g, h_d, h_q]
    · simp only [cellH, Ho.roS, updN_o hj]
  | rf j =>
    by_cases hj : j = i
    · subst hj
      first
        | exact absurd rfl q
        | simp only [cellH, Ho.roS, updN_s, h_n, h_k, h_l, h_g, h_d, h_q]
    · simp only [cellH, Ho.roS, updN_o hj]
  | rg j =>
    by_cases hj : j = i
    · subst hj
      first
        | exact absurd rfl q
        | simp only [cellH, Ho.roS, updN_s, h_n, h_k, h_l, h_g, h_d, h_q]
    · simp only [cellH, Ho.roS, updN_o hj]
  | rd j =>
    by_cases hj : j = i
    · subst hj
      first
        | exact absurd rfl q
        | simp only [cellH, Ho.roS, updN_s, h_n, h_k, h_l, h_g, h_d, h_q]
    · simp only [cellH, Ho.roS, updN_o hj]
  | rq j =>
    by_cases hj : j = i
    · subst hj
      first
        | exact absurd rfl q
        | simp only [cellH, Ho.roS, updN_s, h_n, h_k, h_l, h_g, h_d, h_q]
    · simp only [cellH, Ho.roS, updN_o hj]
  | _ => rfl
theorem ov_wrg {i : Nat} {v v' : Ro} (hv : ∀ a t, x.b a = some t → x.f t = a) (h : x.b (x.f (.rg i)) = some (.rg i)) (hc : c = .inl (ar 0, 24, .inl v'.g)) (h_n : v'.n = v.n) (h_k : v'.k = v.k) (h_l : v'.l = v.l) (h_f : v'.f = v.f) (h_d : v'.d = v.d) (h_q : v'.q = v.q) : g_up (ov κ ar x (S.roS i v) G) (x.f (.rg i)) c = ov κ ar x (S.roS i v') G := by
  refine ov_w hv h rfl (by rw [hc]; simp only [cellH, Ho.roS, updN_s]) (fun t' q => ?_)
  cases t' with
  | ro j =>
    by_cases hj : j = i
    · subst hj
      first
        | exact absurd rfl q
        | simp only [cellH, Ho.roS, updN_s, h_n, h_k, h_l, h_f, h_d, h_q]
    · simp only [cellH, Ho.roS, updN_o hj]
  | rl j =>
    by_cases hj : j = i
    · subst hj
      first
        | exact absurd rfl q
        | simp only [cellH, Ho.roS, updN_s, h_n, h_k, h_l, h_f, h_d, h_q]
    · simp only [cellH, Ho.roS, updN_o hj]
  | rf j =>
    by_cases hj : j = i
    · subst hj
      first
        | exact absurd rfl q
        | simp only [cellH, Ho.roS, updN_s, h_n, h_k, h_l, h_f, h_d, h_q]
    · simp only [cellH, Ho.roS, updN_o hj]
  | rg j =>
    by_cases hj : j = i
    · subst hj
      first
        | exact absurd rfl q
        | simp only [cellH, Ho.roS, updN_s, h_n, h_k, h_l, h_f, h_d, h_q]
    · simp only [cellH, Ho.roS, updN_o hj]
  | rd j =>
    by_cases hj : j = i
    · subst hj
      first
        | exact absurd rfl q
        | simp only [cellH, Ho.roS, updN_s, h_n, h_k, h_l, h_f, h_d, h_q]
    · simp only [cellH, Ho.roS, updN_o hj]
  | rq j =>
    by_cases hj : j = i
    · subst hj
      first
        | exact absurd rfl q
        | simp only [cellH, Ho.roS, updN_s, h_n, h_k, h_l, h_f, h_d, h_q]
    · simp only [cellH, Ho.roS, updN_o hj]
  | _ => rfl
theorem ov_wrd {i : Nat} {v v' : Ro} (hv : ∀ a t, x.b a = some t → x.f t = a) (h : x.b (x.f (.rd i)) = some (.rd i)) (hc : c = .inl (ar 0, 24, .inl v'.d)) (h_n : v'.n = v.n) (h_k : v'.k = v.k) (h_l : v'.l = v.l) (h_f : v'.f = v.f) (h_g : v'.g = v.g) (h_q : v'.q = v.q) : g_up (ov κ ar x (S.roS i v) G) (x.f (.rd i)) c = ov κ ar x (S.roS i v') G := by
  refine ov_w hv h rfl (by rw [hc]; simp only [cellH, Ho.roS, updN_s]) (fun t' q => ?_)
  cases t' with
  | ro j =>
    by_cases hj : j = i
    · subst hj
      first
        | exact absurd rfl q
        | simp only [cellH, Ho.roS, updN_s, h_n, h_k, h_l, h_f, h_g, h_q]
    · simp only [cellH, Ho.roS, updN_o hj]
  | rl j =>
    by_cases hj : j = i
    · subst hj
      first
        | exact absurd rfl q
        | simp only [cellH, Ho.roS, updN_s, h_n, h_k, h_l, h_f, h_g, h_q]
    · simp only [cellH, Ho.roS, updN_o hj]
  | rf j =>
    by_cases hj : j = i
    · subst hj
      first
        | exact absurd rfl q
        | simp only [cellH, Ho.roS, updN_s, h_n, h_k, h_l, h_f, h_g, h_q]
    · simp only [cellH, Ho.roS, updN_o hj]
  | rg j =>
    by_cases hj : j = i
    · subst hj
      first
        | exact absurd rfl q
        | simp only [cellH, Ho.roS, updN_s, h_n, h_k, h_l, h_f, h_g, h_q]
    · simp only [cellH, Ho.roS, updN_o hj]
  | rd j =>
    by_cases hj : j = i
    · subst hj
      first
        | exact absurd rfl q
        | simp only [cellH, Ho.roS, updN_s, h_n, h_k, h_l, h_f, h_g, h_q]
    · simp only [cellH, Ho.roS, updN_o hj]
  | rq j =>
    by_cases hj : j = i
    · subst hj
      first
        | exact absurd rfl q
        | simp only [cellH, Ho.roS, updN_s, h_n, h_k, h_l, h_f, h_g, h_q]
    · simp only [cellH, Ho.roS, updN_o hj]
  | _ => rfl
theorem ov_wrq {i : Nat} {v v' : Ro} (hv : ∀ a t, x.b a = some t → x.f t = a) (h : x.b (x.f (.rq i)) = some (.rq i)) (hc : c = .inl (ar 0, 24, .inl v'.q)) (h_n : v'.n = v.n) (h_k : v'.k = v.k) (h_l : v'.l = v.l) (h_f : v'.f = v.f) (h_g : v'.g = v.g) (h_d : v'.d = v.d) : g_up (ov κ ar x (S.roS i v) G) (x.f (.rq i)) c = ov κ ar x (S.roS i v') G := by
  refine ov_w hv h rfl (by rw [hc]; simp only [cellH, Ho.roS, updN_s]) (fun t' q => ?_)
  cases t' with
  | ro j =>
    by_cases hj : j = i
    · subst hj
      first
        | exact absurd rfl q
        | simp only [cellH, Ho.roS, updN_s, h_n, h_k, h_l, h_f, h_g, h_d]
    · simp only [cellH, Ho.roS, updN_o hj]
  | rl j =>
    by_cases hj : j = i
    · subst hj
      first
        | exact absurd rfl q
        | simp only [cellH, Ho.roS, updN_s, h_n, h_k, h_l, h_f, h_g, h_d]
    · simp only [cellH, Ho.roS, updN_o hj]
  | rf j =>
    by_cases hj : j = i
    · subst hj
      first
        | exact absurd rfl q
        | simp only [cellH, Ho.roS, updN_s, h_n, h_k, h_l, h_f, h_g, h_d]
    · simp only [cellH, Ho.roS, updN_o hj]
  | rg j =>
    by_cases hj : j = i
    · subst hj
      first
        | exact absurd rfl q
        | simp only [cellH, Ho.roS, updN_s, h_n, h_k, h_l, h_f, h_g, h_d]
    · simp only [cellH, Ho.roS, updN_o hj]
  | rd j =>
    by_cases hj : j = i
    · subst hj
      first
        | exact absurd rfl q
        | simp only [cellH, Ho.roS, updN_s, h_n, h_k, h_l, h_f, h_g, h_d]
    · simp only [cellH, Ho.roS, updN_o hj]
  | rq j =>
    by_cases hj : j = i
    · subst hj
      first
        | exact absurd rfl q
        | simp only [cellH, Ho.roS, updN_s, h_n, h_k, h_l, h_f, h_g, h_d]
    · simp only [cellH, Ho.roS, updN_o hj]
  | _ => rfl
end OV
/-- how the functions of a state are put together -/
def oc {α β : Type} (e : Option α) (a : β) (f : α → β) : β := match e with
  | none => a
  | some k => f k
theorem oc_n {α β : Type} {e : Option α} {a : β} {f : α → β} (h : e = none) : oc e a f = a := by rw [h]; rfl
theorem oc_s {α β : Type} {e : Option α} {a : β} {f : α → β} {k : α} (h : e = some k) : oc e a f = f k := by rw [h]; rfl
/-- how a method that may throw ends: with an answer, or thrown, and the state then -/
inductive Rs (α : Type) where
  | v (r : α) (S : Ho)
  | x (E : String) (S : Ho)
def rc {α β : Type} (e : Rs α) (f : α → Ho → β) (g : String → Ho → β) : β := match e with
  | .v r S => f r S
  | .x E S => g E S
theorem rc_v {α β : Type} {e : Rs α} {f : α → Ho → β} {g : String → Ho → β} {r : α} {S : Ho} (h : e = .v r S) : rc e f g = f r S := by rw [h]; rfl
theorem rc_x {α β : Type} {e : Rs α} {f : α → Ho → β} {g : String → Ho → β} {E : String} {S : Ho} (h : e = .x E S) : rc e f g = g E S := by rw [h]; rfl
def pc {α β : Type} (e : α × Ho) (f : α → Ho → β) : β := f e.1 e.2
theorem pc_e {α β : Type} {e : α × Ho} {f : α → Ho → β} {r : α} {S : Ho} (h : e = (r, S)) : pc e f = f r S := by rw [h]; rfl
def vc {α β : Type} (e : α) (f : α → β) : β := f e
theorem vc_e {α β : Type} {e : α} {f : α → β} {S : α} (h : e = S) : vc e f = f S := by rw [h]; rfl
/-- how often a counting loop may go round -/
def FU : Nat := 2147483648
theorem FU_e : FU = 2147483648 := rfl
attribute [irreducible] FU
