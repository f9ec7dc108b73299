/-! two houses side by side -/
/-- the house, the next method that it is told lies at a -/
def pro (x : Xo) (S : Ho) (a : Nat) : Xo := (Sum.elim (Sum.elim (fun _ => x.f .ho) (Sum.elim (fun _ => x.f .cl) (Sum.elim (fun _ => x.f .ab) (Sum.elim (fun _ => x.f .fc) (Sum.elim (fun _ => x.f .me) (Sum.elim (fun _ => x.f .gl) (Sum.elim (fun _ => x.f .ts) (Sum.elim (fun _ => x.f .al) (Sum.elim (fun _ => x.f .re) (Sum.elim (fun _ => x.f .fs) (Sum.elim (fun _ => x.f .wr) (Sum.elim (fun _ => x.f .pl) ((fun _ => x.f .el)))))))))))))) (Sum.elim (Sum.elim (fun i => x.f (.th i)) ((fun i => x.f (.tp i)))) (Sum.elim (Sum.elim (fun i => x.f (.fr i)) (Sum.elim (fun i => x.f (.fa i)) (Sum.elim (fun i => x.f (.ft i)) ((fun i => x.f (.fp i)))))) (Sum.elim ((fun k => if k = S.nt then a else x.f (.to k))) (Sum.elim (Sum.elim (fun k => if k = S.nr then a + 1 else x.f (.ro k)) (Sum.elim (fun k => if k = S.nr then a + 2 else x.f (.rl k)) (Sum.elim (fun k => if k = S.nr then a + 3 else x.f (.rf k)) (Sum.elim (fun k => if k = S.nr then a + 4 else x.f (.rg k)) (Sum.elim (fun k => if k = S.nr then a + 5 else x.f (.rd k)) ((fun k => if k = S.nr then a + 6 else x.f (.rq k)))))))) ((Sum.elim (fun i => x.f (.pg i)) ((fun i => x.f (.pv i))))))))), x.ht, x.z)
section TWO
variable {κ : Nat → Nat} {ar : Nat → ClassId} {x x1 x2 : Xo} {S S1 S2 : Ho} {G : gW} {a k : Nat} {t : Tg}
theorem pro_to (h : k < S.nt) : (pro x S a).f (.to k) = x.f (.to k) := if_neg (by omega)
theorem pro_ro (h : k < S.nr) : (pro x S a).f (.ro k) = x.f (.ro k) := if_neg (by omega)
theorem pro_rl (h : k < S.nr) : (pro x S a).f (.rl k) = x.f (.rl k) := if_neg (by omega)
theorem pro_rf (h : k < S.nr) : (pro x S a).f (.rf k) = x.f (.rf k) := if_neg (by omega)
theorem pro_rg (h : k < S.nr) : (pro x S a).f (.rg k) = x.f (.rg k) := if_neg (by omega)
theorem pro_rd (h : k < S.nr) : (pro x S a).f (.rd k) = x.f (.rd k) := if_neg (by omega)
theorem pro_rq (h : k < S.nr) : (pro x S a).f (.rq k) = x.f (.rq k) := if_neg (by omega)
theorem pro_1 : (pro x S a).f (.to S.nt) = a := if_pos rfl
theorem pro_2 : RoA (pro x S a) S.nr (a + 1) := ⟨if_pos rfl, if_pos rfl, if_pos rfl, if_pos rfl, if_pos rfl, if_pos rfl⟩
theorem map_c {e : Option Nat} {F F' : Nat → Nat} (h : ∀ k, e = some k → F k = F' k) : e.map F = e.map F' := by
  cases e with
  | none => rfl
  | some k => exact congrArg some (h k rfl)
theorem pro_a (hv : vl S t = true) : (pro x S a).a t = x.a t := by
  rcases t with j | j | j | j | j | j
  · rcases j with ⟨⟩ | ⟨⟩ | ⟨⟩ | ⟨⟩ | ⟨⟩ | ⟨⟩ | ⟨⟩ | ⟨⟩ | ⟨⟩ | ⟨⟩ | ⟨⟩ | ⟨⟩ | ⟨⟩
    · rfl
    · rfl
    · rfl
    · rfl
    · rfl
    · rfl
    · rfl
    · rfl
    · rfl
    · rfl
    · rfl
    · rfl
    · rfl
  · rcases j with j | j
    · rfl
    · rfl
  · rcases j with j | j | j | j
    · rfl
    · rfl
    · rfl
    · rfl
  · exact pro_to (of_decide_eq_true (show decide (j < S.nt) = true from hv))
  · rcases j with j | j | j | j | j | j
    · exact pro_ro (of_decide_eq_true (show decide (j < S.nr) = true from hv))
    · exact pro_rl (of_decide_eq_true (show decide (j < S.nr) = true from hv))
    · exact pro_rf (of_decide_eq_true (show decide (j < S.nr) = true from hv))
    · exact pro_rg (of_decide_eq_true (show decide (j < S.nr) = true from hv))
    · exact pro_rd (of_decide_eq_true (show decide (j < S.nr) = true from hv))
    · exact pro_rq (of_decide_eq_true (show decide (j < S.nr) = true from hv))
  · rcases j with j | j
    · rfl
    · rfl
theorem pro_cell (h : OK x S) (hv : vl S t = true) : cellH κ ar (pro x S a) S t = cellH κ ar x S t := by
  rcases t with j | j | j | j | j | j
  · rcases j with ⟨⟩ | ⟨⟩ | ⟨⟩ | ⟨⟩ | ⟨⟩ | ⟨⟩ | ⟨⟩ | ⟨⟩ | ⟨⟩ | ⟨⟩ | ⟨⟩ | ⟨⟩ | ⟨⟩
    · show (.inr (14, [.ref ((pro x S a).f .cl), .ref ((pro x S a).f .me), .ref ((pro x S a).f (.ro S.ty)), .int (pro x S a).ht, .ref ((pro x S a).f .gl), .ref ((pro x S a).f .ts), .ref ((pro x S a).f .fs), .int S.fn, .int S.st, .int S.rs, .long S.an, .int S.sp, .ref ((pro x S a).f .wr)]) : va_E) = .inr (14, [.ref (x.f .cl), .ref (x.f .me), .ref (x.f (.ro S.ty)), .int x.ht, .ref (x.f .gl), .ref (x.f .ts), .ref (x.f .fs), .int S.fn, .int S.st, .int S.rs, .long S.an, .int S.sp, .ref (x.f .wr)])
      rw [pro_ro h.y]
      rfl
    · rfl
    · rfl
    · rfl
    · exact congrArg (fun Z9 => (.inl (ar 7, 192, .inr (.inr (.inr (.inr Z9)))) : va_E)) (funext fun j9 => map_c (fun k hk => pro_to (h.m hk)))
    · rfl
    · rfl
    · rfl
    · rfl
    · rfl
    · rfl
    · rfl
    · rfl
  · rcases j with j | j
    · rfl
    · rfl
  · rcases j with j | j | j | j
    · show (.inr (7, [.ref ((pro x S a).f (.fa j)), .ref ((pro x S a).f (.ft j)), .ref ((pro x S a).f (.fp j)), va_rf ((S.fr j).o.map (fun k9 => (pro x S a).f (.to k9))), .long (S.fr j).v, .int (S.fr j).w, .int (S.fr j).d]) : va_E) = .inr (7, [.ref (x.f (.fa j)), .ref (x.f (.ft j)), .ref (x.f (.fp j)), va_rf ((S.fr j).o.map (fun k9 => x.f (.to k9))), .long (S.fr j).v, .int (S.fr j).w, .int (S.fr j).d])
      rw [map_c (F := fun k9 => (pro x S a).f (.to k9)) (F' := fun k9 => x.f (.to k9)) (fun k hk => pro_to (h.o hk))]
      rfl
    · rfl
    · rfl
    · rfl
  · have hj := of_decide_eq_true (show decide (j < S.nt) = true from hv)
    show (.inr (12, [.int (S.to j).c, .int (S.to j).s, .int (S.to j).a, .int (S.to j).t, .ref ((pro x S a).f (.ro (S.to j).q)), .int (S.to j).n, .int ((pro x S a).cm j)]) : va_E) = .inr (12, [.int (S.to j).c, .int (S.to j).s, .int (S.to j).a, .int (S.to j).t, .ref (x.f (.ro (S.to j).q)), .int (S.to j).n, .int (x.cm j)])
    rw [pro_ro (h.q hj)]
    rfl
  · rcases j with j | j | j | j | j | j
    · have hj := of_decide_eq_true (show decide (j < S.nr) = true from hv)
      show (.inr (9, [.ref ((pro x S a).f (.rl j)), .ref ((pro x S a).f (.rf j)), .ref ((pro x S a).f (.rg j)), .ref ((pro x S a).f (.rd j)), .ref ((pro x S a).f (.rq j)), .int (S.ro j).n, .int (S.ro j).k]) : va_E) = .inr (9, [.ref (x.f (.rl j)), .ref (x.f (.rf j)), .ref (x.f (.rg j)), .ref (x.f (.rd j)), .ref (x.f (.rq j)), .int (S.ro j).n, .int (S.ro j).k])
      rw [pro_rl hj, pro_rf hj, pro_rg hj, pro_rd hj, pro_rq hj]
    · rfl
    · rfl
    · rfl
    · rfl
    · rfl
  · rcases j with j | j
    · rfl
    · rfl
theorem ov_pro (h : OK x S) : ov κ ar (pro x S a) S G = ov κ ar x S G := by
  funext q
  cases hb : x.b q with
  | none => exact (ov_0 (x := pro x S a) hb).trans (ov_0 hb).symm
  | some t => exact (ov_s (x := pro x S a) hb).trans ((congrArg some (pro_cell h (h.w q t hb))).trans (ov_s hb).symm)
theorem OK.pro (h : OK x S) : OK (pro x S a) S :=
  ⟨fun t hv => by rw [pro_a hv]; exact h.e t hv, fun q t hq => (pro_a (h.w q t hq)).trans (h.v q t hq), h.2.2⟩
/-- no cell is both houses' -/
def DJ (x1 x2 : Xo) : Prop := ∀ a, x1.b a = none ∨ x2.b a = none
theorem DJ.s (h : DJ x1 x2) : DJ x2 x1 := fun a => (h a).symm
theorem ov_swap (h : DJ x1 x2) : ov κ ar x1 S1 (ov κ ar x2 S2 G) = ov κ ar x2 S2 (ov κ ar x1 S1 G) := by
  funext q
  cases h1 : x1.b q with
  | none =>
    rw [ov_0 h1]
    cases h2 : x2.b q with
    | none => rw [ov_0 h2, ov_0 h2, ov_0 h1]
    | some t => rw [ov_s h2, ov_s h2]
  | some t =>
    have h2 : x2.b q = none := (h q).resolve_left (by rw [h1]; intro z; cases z)
    rw [ov_s h1, ov_0 h2, ov_s h1]
/-- a house is not where nothing was yet -/
theorem ov_new0 {sz : Nat} (h : ∀ q, sz ≤ q → ov κ ar x S G q = none) : ∀ q, sz ≤ q → x.b q = none ∧ G q = none := fun q hq => ⟨ov_b0 (h q hq), ov_G0 (h q hq)⟩
/-- a house later on: it lies where it lay, and its new cells lie behind -/
def BY (x y : Xo) (sz : Nat) : Prop := y.f .ho = x.f .ho ∧ ∀ a t, y.b a = some t → x.b a ≠ none ∨ sz ≤ a
theorem BY.r {sz : Nat} : BY x x sz := ⟨rfl, fun a t h => Or.inl (by rw [h]; intro z; cases z)⟩
theorem BY.tr {y z : Xo} {n m : Nat} (h : BY x y n) (g : BY y z m) (hn : n ≤ m) : BY x z n := ⟨g.1.trans h.1, fun a t q => by
  rcases g.2 a t q with q1 | q1
  · cases hb : y.b a with
    | none => exact absurd hb q1
    | some t2 => exact h.2 a t2 hb
  · exact Or.inr (Nat.le_trans hn q1)⟩
theorem BX.y {z : Zo} {sz : Nat} (h : BX x z sz) : BY x (x.pgs z) sz := ⟨rfl, fun a t q => by
  rcases h a t q with q1 | q1
  · exact Or.inl (by rw [q1]; intro z; cases z)
  · exact Or.inr q1⟩
theorem BY.pro {y : Xo} {sz : Nat} (h : BY (pro x S a) y sz) : BY x y sz := h
theorem BY.sht {v : Int32} {sz : Nat} : BY x (x.sht v) sz := ⟨rfl, fun a t q => Or.inl (by intro z; rw [show (x.sht v).b a = x.b a from rfl, z] at q; cases q)⟩
theorem DJ.y {y : Xo} {sz : Nat} (h : DJ x1 x2) (g : BY x1 y sz) (hz : ∀ q, sz ≤ q → x2.b q = none) : DJ y x2 := fun a => by
  cases hb : y.b a with
  | none => exact Or.inl rfl
  | some t =>
    rcases g.2 a t hb with q | q
    · exact Or.inr ((h a).resolve_left q)
    · exact Or.inr (hz a q)
end TWO
