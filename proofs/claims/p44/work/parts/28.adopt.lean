/-! cells that were made become a house's own -/
theorem g_sub {D : va_G} {cl : List vw_C} {A : Nat → Prop} {H0 H : Heap} {G G' : gW} {locs : List Loc} {n : Nat} (w : g_S D cl A H0 G H locs n) (h : ∀ a e, G' a = some e → G a = some e) : g_S D cl A H0 G' H locs n :=
  ⟨fun a e q => w.1 a e (h a e q), fun a e q => w.2.1 a e (h a e q), w.2.2⟩
theorem ov_sub {κ : Nat → Nat} {ar : Nat → ClassId} {x : Xo} {S : Ho} {G G' : gW} (h : ∀ a e, G' a = some e → G a = some e) : ∀ a e, ov κ ar x S G' a = some e → ov κ ar x S G a = some e := by
  intro a e q
  unfold ov at q ⊢
  cases hb : x.b a with
  | none => rw [hb] at q; exact h a e q
  | some t => rw [hb] at q; exact q
theorem up_sub {G : gW} {a : Nat} {c : va_E} (h : G a = none) : ∀ b e, G b = some e → g_up G a c b = some e := by
  intro b e q
  by_cases hb : b = a
  · subst hb; rw [h] at q; cases q
  · rw [g_up_n hb]; exact q
theorem ov_G0 {κ : Nat → Nat} {ar : Nat → ClassId} {x : Xo} {S : Ho} {G : gW} {a : Nat} (h : ov κ ar x S G a = none) : G a = none := by
  have hb := ov_b0 h
  unfold ov at h
  rw [hb] at h
  exact h
def zTo (x : Xo) (k a : Nat) : Zo := mkZ (fun q => if q = a then some (.to k) else x.b q) (updN x.cm k 0) x.ec x.mc x.pe x.pp x.pq
theorem adopt1 {κ : Nat → Nat} {ar : Nat → ClassId} {x : Xo} {S : Ho} {G : gW} {k a : Nat} {v : To} {c : va_E} (hv : ∀ a t, x.b a = some t → x.a t = a) (hb : x.b a = none) (ha : x.f (.to k) = a) (hc : c = .inr (12, [.int v.c, .int v.s, .int v.a, .int v.t, .ref (x.f (.ro v.q)), .int v.n, .int 0])) :
    ov κ ar x S (g_up G a c) = ov κ ar (x.pgs (zTo x k a)) ((S.snt (k + 1)).toS k v) G := by
  funext q
  unfold ov
  have hB : (x.pgs (zTo x k a)).b q = if q = a then some (.to k) else x.b q := rfl
  rw [hB]
  by_cases hq : q = a
  · subst hq
    rw [hb, if_pos rfl, hc]
    show g_up G q _ q = some (.inr (12, [.int (((S.snt (k + 1)).toS k v).to k).c, .int (((S.snt (k + 1)).toS k v).to k).s, .int (((S.snt (k + 1)).toS k v).to k).a, .int (((S.snt (k + 1)).toS k v).to k).t, .ref (x.f (.ro (((S.snt (k + 1)).toS k v).to k).q)), .int (((S.snt (k + 1)).toS k v).to k).n, .int (updN x.cm k 0 k)]))
    rw [toS_s, updN_s, g_up_s]
  · rw [if_neg hq]
    cases hbq : x.b q with
    | none => exact g_up_n hq
    | some t =>
      have h1 := hv q t hbq
      show some (cellH κ ar x S t) = some (cellH κ ar (x.pgs (zTo x k a)) ((S.snt (k + 1)).toS k v) t)
      rcases t with j | j | j | j | j | j
      · rcases j with ⟨⟩ | ⟨⟩ | ⟨⟩ | ⟨⟩ | ⟨⟩ | ⟨⟩ | ⟨⟩ | ⟨⟩ | ⟨⟩ | ⟨⟩ | ⟨⟩ | ⟨⟩ | ⟨⟩ <;> rfl
      · rfl
      · rfl
      · by_cases hj : j = k
        · subst hj
          exact absurd (h1.symm.trans ha) hq
        · have e1 : ((S.snt (k + 1)).toS k v).to j = S.to j := toS_o hj
          have e2 : updN x.cm k 0 j = x.cm j := updN_o hj
          show some (.inr (12, [.int (S.to j).c, .int (S.to j).s, .int (S.to j).a, .int (S.to j).t, .ref (x.f (.ro (S.to j).q)), .int (S.to j).n, .int (x.cm j)]) : va_E) = some (.inr (12, [.int (((S.snt (k + 1)).toS k v).to j).c, .int (((S.snt (k + 1)).toS k v).to j).s, .int (((S.snt (k + 1)).toS k v).to j).a, .int (((S.snt (k + 1)).toS k v).to j).t, .ref (x.f (.ro (((S.snt (k + 1)).toS k v).to j).q)), .int (((S.snt (k + 1)).toS k v).to j).n, .int (updN x.cm k 0 j)]))
          rw [e1, e2]
      · rfl
      · rfl
theorem OK.adopt1 {x : Xo} {S : Ho} {k a : Nat} {v : To} (h : OK x S) (hk : S.nt = k) (hb : x.b a = none) (ha : x.f (.to k) = a) (hq : v.q < S.nr) : OK (x.pgs (zTo x k a)) ((S.snt (k + 1)).toS k v) := by
  have hB : ∀ q, (x.pgs (zTo x k a)).b q = if q = a then some (.to k) else x.b q := fun _ => rfl
  have hA : ∀ t, (x.pgs (zTo x k a)).a t = x.a t := fun t => by
    rcases t with j | j | j | j | j | j
    · rcases j with ⟨⟩ | ⟨⟩ | ⟨⟩ | ⟨⟩ | ⟨⟩ | ⟨⟩ | ⟨⟩ | ⟨⟩ | ⟨⟩ | ⟨⟩ | ⟨⟩ | ⟨⟩ | ⟨⟩ <;> rfl
    · rcases j with j | j <;> rfl
    · rcases j with j | j | j | j <;> rfl
    · rfl
    · rcases j with j | j | j | j | j | j <;> rfl
    · rcases j with j | j <;> rfl
  have old : ∀ t, vl S t = true → (x.pgs (zTo x k a)).b ((x.pgs (zTo x k a)).a t) = some t := fun t ht => by
    rw [hB, hA, if_neg (fun z => by have := h.e t ht; rw [z, hb] at this; cases this)]
    exact h.e t ht
  refine ⟨fun t ht => ?_, fun q t ht => ?_, fun j i q => ?_, fun i j q => ?_, fun j q => ?_, h.y, fun q t ht => ?_⟩
  · rcases t with j | j | j | j | j | j
    · rcases j with ⟨⟩ | ⟨⟩ | ⟨⟩ | ⟨⟩ | ⟨⟩ | ⟨⟩ | ⟨⟩ | ⟨⟩ | ⟨⟩ | ⟨⟩ | ⟨⟩ | ⟨⟩ | ⟨⟩ <;> exact old _ ht
    · exact old _ ht
    · exact old _ ht
    · by_cases hj : j = k
      · subst hj
        rw [hB, hA]
        exact if_pos ha
      · have ht' : decide (j < k + 1) = true := ht
        exact old (.to j) (decide_eq_true (by have := of_decide_eq_true ht'; omega))
    · exact old _ ht
    · exact old _ ht
  · rw [hA]
    rw [hB] at ht
    by_cases hq9 : q = a
    · rw [if_pos hq9] at ht
      cases ht
      rw [hq9]
      exact ha
    · rw [if_neg hq9] at ht
      exact h.v q t ht
  · show i < k + 1
    have := h.m (j := j) (k := i) q
    omega
  · show j < k + 1
    have := h.o (i := i) (k := j) q
    omega
  · show (((S.snt (k + 1)).toS k v).to j).q < S.nr
    by_cases hj : j = k
    · subst hj
      rw [toS_s]
      exact hq
    · rw [toS_o hj]
      have q' : j < k + 1 := q
      exact h.q (k := j) (by omega)
  · rw [hB] at ht
    by_cases hq9 : q = a
    · rw [if_pos hq9] at ht
      cases ht
      exact decide_eq_true (show k < k + 1 by omega)
    · rw [if_neg hq9] at ht
      exact vl_mono (S := S) (T := (S.snt (k + 1)).toS k v) (show S.nt ≤ k + 1 by omega) (Nat.le_refl _) (Nat.le_refl _) (h.w q t ht)
def zRo (x : Xo) (r a : Nat) : Zo := mkZ (fun q => if q = a then some (.ro r) else if q = a + 1 then some (.rl r) else if q = a + 2 then some (.rf r) else if q = a + 3 then some (.rg r) else if q = a + 4 then some (.rd r) else if q = a + 5 then some (.rq r) else x.b q) x.cm x.ec x.mc x.pe x.pp x.pq
/-- the six cells of rows lie behind each other -/
def RoA (x : Xo) (r a : Nat) : Prop := x.f (.ro r) = a ∧ x.f (.rl r) = a + 1 ∧ x.f (.rf r) = a + 2 ∧ x.f (.rg r) = a + 3 ∧ x.f (.rd r) = a + 4 ∧ x.f (.rq r) = a + 5
theorem ro_cell {x : Xo} {r a : Nat} {n k : Int32} (h : RoA x r a) : (.inr (9, [.ref (a + 1), .ref (a + 2), .ref (a + 3), .ref (a + 4), .ref (a + 5), .int n, .int k]) : va_E) = .inr (9, [.ref (x.f (.rl r)), .ref (x.f (.rf r)), .ref (x.f (.rg r)), .ref (x.f (.rd r)), .ref (x.f (.rq r)), .int n, .int k]) := by
  obtain ⟨h0, h1, h2, h3, h4, h5⟩ := h
  rw [h1, h2, h3, h4, h5]
theorem adopt2 {κ : Nat → Nat} {ar : Nat → ClassId} {x : Xo} {S : Ho} {G : gW} {r a : Nat} {v : Ro} {c0 c1 c2 c3 c4 c5 : va_E} (hv : ∀ a t, x.b a = some t → x.a t = a) (hb : ∀ k, k < 6 → x.b (a + k) = none) (ha : RoA x r a) (hc0 : c0 = .inr (9, [.ref (x.f (.rl r)), .ref (x.f (.rf r)), .ref (x.f (.rg r)), .ref (x.f (.rd r)), .ref (x.f (.rq r)), .int v.n, .int v.k])) (hc1 : c1 = .inl (ar 2, 24, .inl v.l)) (hc2 : c2 = .inl (ar 0, 24, .inl v.f)) (hc3 : c3 = .inl (ar 0, 24, .inl v.g)) (hc4 : c4 = .inl (ar 0, 24, .inl v.d)) (hc5 : c5 = .inl (ar 0, 24, .inl v.q)) :
    ov κ ar x S (g_up (g_up (g_up (g_up (g_up (g_up G a c0) (a + 1) c1) (a + 2) c2) (a + 3) c3) (a + 4) c4) (a + 5) c5) = ov κ ar (x.pgs (zRo x r a)) ((S.snr (r + 1)).roS r v) G := by
  obtain ⟨h0, h1, h2, h3, h4, h5⟩ := ha
  funext q
  unfold ov
  have hB : (x.pgs (zRo x r a)).b q = if q = a then some (.ro r) else if q = a + 1 then some (.rl r) else if q = a + 2 then some (.rf r) else if q = a + 3 then some (.rg r) else if q = a + 4 then some (.rd r) else if q = a + 5 then some (.rq r) else x.b q := rfl
  rw [hB]
  by_cases q0 : q = a
  · rw [q0]
    have e0 := hb 0 (by decide)
    have e1 : x.b (a) = none := e0
    rw [e1]
    rw [if_pos rfl]
    show (g_up (g_up (g_up (g_up (g_up (g_up G a c0) (a + 1) c1) (a + 2) c2) (a + 3) c3) (a + 4) c4) (a + 5) c5) (a) = some (.inr (9, [.ref (x.f (.rl r)), .ref (x.f (.rf r)), .ref (x.f (.rg r)), .ref (x.f (.rd r)), .ref (x.f (.rq r)), .int (((S.snr (r + 1)).roS r v).ro r).n, .int (((S.snr (r + 1)).roS r v).ro r).k]))
    rw [roS_s, ← hc0]
    exact (g_up_n (show (a : Nat) ≠ a + 5 by omega)).trans ((g_up_n (show (a : Nat) ≠ a + 4 by omega)).trans ((g_up_n (show (a : Nat) ≠ a + 3 by omega)).trans ((g_up_n (show (a : Nat) ≠ a + 2 by omega)).trans ((g_up_n (show (a : Nat) ≠ a + 1 by omega)).trans (g_up_s)))))
  by_cases q1 : q = a + 1
  · subst q1
    have e0 := hb 1 (by decide)
    have e1 : x.b (a + 1) = none := e0
    rw [e1]
    rw [if_neg (show ¬ (a + 1 : Nat) = a by omega)]
    rw [if_pos rfl]
    show (g_up (g_up (g_up (g_up (g_up (g_up G a c0) (a + 1) c1) (a + 2) c2) (a + 3) c3) (a + 4) c4) (a + 5) c5) (a + 1) = some (.inl (ar 2, 24, .inl (((S.snr (r + 1)).roS r v).ro r).l))
    rw [roS_s, ← hc1]
    exact (g_up_n (show (a + 1 : Nat) ≠ a + 5 by omega)).trans ((g_up_n (show (a + 1 : Nat) ≠ a + 4 by omega)).trans ((g_up_n (show (a + 1 : Nat) ≠ a + 3 by omega)).trans ((g_up_n (show (a + 1 : Nat) ≠ a + 2 by omega)).trans (g_up_s))))
  by_cases q2 : q = a + 2
  · subst q2
    have e0 := hb 2 (by decide)
    have e1 : x.b (a + 2) = none := e0
    rw [e1]
    rw [if_neg (show ¬ (a + 2 : Nat) = a by omega)]
    rw [if_neg (show ¬ (a + 2 : Nat) = a + 1 by omega)]
    rw [if_pos rfl]
    show (g_up (g_up (g_up (g_up (g_up (g_up G a c0) (a + 1) c1) (a + 2) c2) (a + 3) c3) (a + 4) c4) (a + 5) c5) (a + 2) = some (.inl (ar 0, 24, .inl (((S.snr (r + 1)).roS r v).ro r).f))
    rw [roS_s, ← hc2]
    exact (g_up_n (show (a + 2 : Nat) ≠ a + 5 by omega)).trans ((g_up_n (show (a + 2 : Nat) ≠ a + 4 by omega)).trans ((g_up_n (show (a + 2 : Nat) ≠ a + 3 by omega)).trans (g_up_s)))
  by_cases q3 : q = a + 3
  · subst q3
    have e0 := hb 3 (by decide)
    have e1 : x.b (a + 3) = none := e0
    rw [e1]
    rw [if_neg (show ¬ (a + 3 : Nat) = a by omega)]
    rw [if_neg (show ¬ (a + 3 : Nat) = a + 1 by omega)]
    rw [if_neg (show ¬ (a + 3 : Nat) = a + 2 by omega)]
    rw [if_pos rfl]
    show (g_up (g_up (g_up (g_up (g_up (g_up G a c0) (a + 1) c1) (a + 2) c2) (a + 3) c3) (a + 4) c4) (a + 5) c5) (a + 3) = some (.inl (ar 0, 24, .inl (((S.snr (r + 1)).roS r v).ro r).g))
    rw [roS_s, ← hc3]
    exact (g_up_n (show (a + 3 : Nat) ≠ a + 5 by omega)).trans ((g_up_n (show (a + 3 : Nat) ≠ a + 4 by omega)).trans (g_up_s))
  by_cases q4 : q = a + 4
  · subst q4
    have e0 := hb 4 (by decide)
    have e1 : x.b (a + 4) = none := e0
    rw [e1]
    rw [if_neg (show ¬ (a + 4 : Nat) = a by omega)]
    rw [if_neg (show ¬ (a + 4 : Nat) = a + 1 by omega)]
    rw [if_neg (show ¬ (a + 4 : Nat) = a + 2 by omega)]
    rw [if_neg (show ¬ (a + 4 : Nat) = a + 3 by omega)]
    rw [if_pos rfl]
    show (g_up (g_up (g_up (g_up (g_up (g_up G a c0) (a + 1) c1) (a + 2) c2) (a + 3) c3) (a + 4) c4) (a + 5) c5) (a + 4) = some (.inl (ar 0, 24, .inl (((S.snr (r + 1)).roS r v).ro r).d))
    rw [roS_s, ← hc4]
    exact (g_up_n (show (a + 4 : Nat) ≠ a + 5 by omega)).trans (g_up_s)
  by_cases q5 : q = a + 5
  · subst q5
    have e0 := hb 5 (by decide)
    have e1 : x.b (a + 5) = none := e0
    rw [e1]
    rw [if_neg (show ¬ (a + 5 : Nat) = a by omega)]
    rw [if_neg (show ¬ (a + 5 : Nat) = a + 1 by omega)]
    rw [if_neg (show ¬ (a + 5 : Nat) = a + 2 by omega)]
    rw [if_neg (show ¬ (a + 5 : Nat) = a + 3 by omega)]
    rw [if_neg (show ¬ (a + 5 : Nat) = a + 4 by omega)]
    rw [if_pos rfl]
    show (g_up (g_up (g_up (g_up (g_up (g_up G a c0) (a + 1) c1) (a + 2) c2) (a + 3) c3) (a + 4) c4) (a + 5) c5) (a + 5) = some (.inl (ar 0, 24, .inl (((S.snr (r + 1)).roS r v).ro r).q))
    rw [roS_s, ← hc5]
    exact g_up_s
  rw [if_neg q0, if_neg q1, if_neg q2, if_neg q3, if_neg q4, if_neg q5]
  cases hbq : x.b q with
  | none => exact (g_up_n q5).trans ((g_up_n q4).trans ((g_up_n q3).trans ((g_up_n q2).trans ((g_up_n q1).trans (g_up_n q0)))))
  | some t =>
    have z1 := hv q t hbq
    show some (cellH κ ar x S t) = some (cellH κ ar (x.pgs (zRo x r a)) ((S.snr (r + 1)).roS r v) t)
    rcases t with j | j | j | j | j | j
    · rcases j with ⟨⟩ | ⟨⟩ | ⟨⟩ | ⟨⟩ | ⟨⟩ | ⟨⟩ | ⟨⟩ | ⟨⟩ | ⟨⟩ | ⟨⟩ | ⟨⟩ | ⟨⟩ | ⟨⟩ <;> rfl
    · rfl
    · rfl
    · rfl
    · rcases j with j | j | j | j | j | j
      · by_cases hj : j = r
        · subst hj
          exact absurd (z1.symm.trans h0) q0
        · show some (.inr (9, [.ref (x.f (.rl j)), .ref (x.f (.rf j)), .ref (x.f (.rg j)), .ref (x.f (.rd j)), .ref (x.f (.rq j)), .int (S.ro j).n, .int (S.ro j).k]) : va_E) = some (.inr (9, [.ref (x.f (.rl j)), .ref (x.f (.rf j)), .ref (x.f (.rg j)), .ref (x.f (.rd j)), .ref (x.f (.rq j)), .int (((S.snr (r + 1)).roS r v).ro j).n, .int (((S.snr (r + 1)).roS r v).ro j).k]))
          rw [show ((S.snr (r + 1)).roS r v).ro j = S.ro j from roS_o hj]
      · by_cases hj : j = r
        · subst hj
          exact absurd (z1.symm.trans h1) q1
        · show some (.inl (ar 2, 24, .inl (S.ro j).l) : va_E) = some (.inl (ar 2, 24, .inl (((S.snr (r + 1)).roS r v).ro j).l))
          rw [show ((S.snr (r + 1)).roS r v).ro j = S.ro j from roS_o hj]
      · by_cases hj : j = r
        · subst hj
          exact absurd (z1.symm.trans h2) q2
        · show some (.inl (ar 0, 24, .inl (S.ro j).f) : va_E) = some (.inl (ar 0, 24, .inl (((S.snr (r + 1)).roS r v).ro j).f))
          rw [show ((S.snr (r + 1)).roS r v).ro j = S.ro j from roS_o hj]
      · by_cases hj : j = r
        · subst hj
          exact absurd (z1.symm.trans h3) q3
        · show some (.inl (ar 0, 24, .inl (S.ro j).g) : va_E) = some (.inl (ar 0, 24, .inl (((S.snr (r + 1)).roS r v).ro j).g))
          rw [show ((S.snr (r + 1)).roS r v).ro j = S.ro j from roS_o hj]
      · by_cases hj : j = r
        · subst hj
          exact absurd (z1.symm.trans h4) q4
        · show some (.inl (ar 0, 24, .inl (S.ro j).d) : va_E) = some (.inl (ar 0, 24, .inl (((S.snr (r + 1)).roS r v).ro j).d))
          rw [show ((S.snr (r + 1)).roS r v).ro j = S.ro j from roS_o hj]
      · by_cases hj : j = r
        · subst hj
          exact absurd (z1.symm.trans h5) q5
        · show some (.inl (ar 0, 24, .inl (S.ro j).q) : va_E) = some (.inl (ar 0, 24, .inl (((S.snr (r + 1)).roS r v).ro j).q))
          rw [show ((S.snr (r + 1)).roS r v).ro j = S.ro j from roS_o hj]
    · rfl
theorem OK.adopt2 {x : Xo} {S : Ho} {r a : Nat} {v : Ro} (h : OK x S) (hr : S.nr = r) (hb : ∀ k, k < 6 → x.b (a + k) = none) (ha : RoA x r a) : OK (x.pgs (zRo x r a)) ((S.snr (r + 1)).roS r v) := by
  obtain ⟨h0, h1, h2, h3, h4, h5⟩ := ha
  have hB : ∀ q, (x.pgs (zRo x r a)).b q = if q = a then some (.ro r) else if q = a + 1 then some (.rl r) else if q = a + 2 then some (.rf r) else if q = a + 3 then some (.rg r) else if q = a + 4 then some (.rd r) else if q = a + 5 then some (.rq r) else x.b q := fun _ => rfl
  have hA : ∀ t, (x.pgs (zRo x r a)).a t = x.a t := fun t => by
    rcases t with j | j | j | j | j | j
    · rcases j with ⟨⟩ | ⟨⟩ | ⟨⟩ | ⟨⟩ | ⟨⟩ | ⟨⟩ | ⟨⟩ | ⟨⟩ | ⟨⟩ | ⟨⟩ | ⟨⟩ | ⟨⟩ | ⟨⟩ <;> rfl
    · rcases j with j | j <;> rfl
    · rcases j with j | j | j | j <;> rfl
    · rfl
    · rcases j with j | j | j | j | j | j <;> rfl
    · rcases j with j | j <;> rfl
  have far : ∀ q, x.b q ≠ none → ∀ k, k < 6 → q ≠ a + k := fun q hq k hk z => hq (by rw [z]; exact hb k hk)
  have old : ∀ t, vl S t = true → (x.pgs (zRo x r a)).b ((x.pgs (zRo x r a)).a t) = some t := fun t ht => by
    have e := h.e t ht
    have f := far (x.a t) (by rw [e]; exact fun z => by cases z)
    rw [hB, hA, if_neg (show ¬ x.a t = a from f 0 (by decide)), if_neg (f 1 (by decide)), if_neg (f 2 (by decide)), if_neg (f 3 (by decide)), if_neg (f 4 (by decide)), if_neg (f 5 (by decide))]
    exact e
  refine ⟨fun t ht => ?_, fun q t ht => ?_, h.2.2.1, h.2.2.2.1, fun j q => Nat.lt_succ_of_lt (by rw [← hr]; exact h.q (k := j) q), Nat.lt_succ_of_lt (by rw [← hr]; exact h.y), fun q t ht => ?_⟩
  · rcases t with j | j | j | j | j | j
    · rcases j with ⟨⟩ | ⟨⟩ | ⟨⟩ | ⟨⟩ | ⟨⟩ | ⟨⟩ | ⟨⟩ | ⟨⟩ | ⟨⟩ | ⟨⟩ | ⟨⟩ | ⟨⟩ | ⟨⟩ <;> exact old _ ht
    · exact old _ ht
    · exact old _ ht
    · exact old _ ht
    · rcases j with j | j | j | j | j | j
      · by_cases hj : j = r
        · subst hj
          show (x.pgs (zRo x j a)).b ((x.pgs (zRo x j a)).a (.ro j)) = some (.ro j)
          rw [hB, hA, if_pos (show x.a (.ro j) = a from h0)]
        · have ht' : decide (j < r + 1) = true := ht
          exact old (.ro j) (decide_eq_true (by have := of_decide_eq_true ht'; omega))
      · by_cases hj : j = r
        · subst hj
          show (x.pgs (zRo x j a)).b ((x.pgs (zRo x j a)).a (.rl j)) = some (.rl j)
          rw [hB, hA, if_neg (show ¬ x.a (.rl j) = a by rw [show x.a (.rl j) = x.f (.rl j) from rfl, h1]; omega), if_pos (show x.a (.rl j) = a + 1 from h1)]
        · have ht' : decide (j < r + 1) = true := ht
          exact old (.rl j) (decide_eq_true (by have := of_decide_eq_true ht'; omega))
      · by_cases hj : j = r
        · subst hj
          show (x.pgs (zRo x j a)).b ((x.pgs (zRo x j a)).a (.rf j)) = some (.rf j)
          rw [hB, hA, if_neg (show ¬ x.a (.rf j) = a by rw [show x.a (.rf j) = x.f (.rf j) from rfl, h2]; omega), if_neg (show ¬ x.a (.rf j) = a + 1 by rw [show x.a (.rf j) = x.f (.rf j) from rfl, h2]; omega), if_pos (show x.a (.rf j) = a + 2 from h2)]
        · have ht' : decide (j < r + 1) = true := ht
          exact old (.rf j) (decide_eq_true (by have := of_decide_eq_true ht'; omega))
      · by_cases hj : j = r
        · subst hj
          show (x.pgs (zRo x j a)).b ((x.pgs (zRo x j a)).a (.rg j)) = some (.rg j)
          rw [hB, hA, if_neg (show ¬ x.a (.rg j) = a by rw [show x.a (.rg j) = x.f (.rg j) from rfl, h3]; omega), if_neg (show ¬ x.a (.rg j) = a + 1 by rw [show x.a (.rg j) = x.f (.rg j) from rfl, h3]; omega), if_neg (show ¬ x.a (.rg j) = a + 2 by rw [show x.a (.rg j) = x.f (.rg j) from rfl, h3]; omega), if_pos (show x.a (.rg j) = a + 3 from h3)]
        · have ht' : decide (j < r + 1) = true := ht
          exact old (.rg j) (decide_eq_true (by have := of_decide_eq_true ht'; omega))
      · by_cases hj : j = r
        · subst hj
          show (x.pgs (zRo x j a)).b ((x.pgs (zRo x j a)).a (.rd j)) = some (.rd j)
          rw [hB, hA, if_neg (show ¬ x.a (.rd j) = a by rw [show x.a (.rd j) = x.f (.rd j) from rfl, h4]; omega), if_neg (show ¬ x.a (.rd j) = a + 1 by rw [show x.a (.rd j) = x.f (.rd j) from rfl, h4]; omega), if_neg (show ¬ x.a (.rd j) = a + 2 by rw [show x.a (.rd j) = x.f (.rd j) from rfl, h4]; omega), if_neg (show ¬ x.a (.rd j) = a + 3 by rw [show x.a (.rd j) = x.f (.rd j) from rfl, h4]; omega), if_pos (show x.a (.rd j) = a + 4 from h4)]
        · have ht' : decide (j < r + 1) = true := ht
          exact old (.rd j) (decide_eq_true (by have := of_decide_eq_true ht'; omega))
      · by_cases hj : j = r
        · subst hj
          show (x.pgs (zRo x j a)).b ((x.pgs (zRo x j a)).a (.rq j)) = some (.rq j)
          rw [hB, hA, if_neg (show ¬ x.a (.rq j) = a by rw [show x.a (.rq j) = x.f (.rq j) from rfl, h5]; omega), if_neg (show ¬ x.a (.rq j) = a + 1 by rw [show x.a (.rq j) = x.f (.rq j) from rfl, h5]; omega), if_neg (show ¬ x.a (.rq j) = a + 2 by rw [show x.a (.rq j) = x.f (.rq j) from rfl, h5]; omega), if_neg (show ¬ x.a (.rq j) = a + 3 by rw [show x.a (.rq j) = x.f (.rq j) from rfl, h5]; omega), if_neg (show ¬ x.a (.rq j) = a + 4 by rw [show x.a (.rq j) = x.f (.rq j) from rfl, h5]; omega), if_pos (show x.a (.rq j) = a + 5 from h5)]
        · have ht' : decide (j < r + 1) = true := ht
          exact old (.rq j) (decide_eq_true (by have := of_decide_eq_true ht'; omega))
    · exact old _ ht
  · rw [hA]
    rw [hB] at ht
    by_cases q0 : q = a
    · rw [if_pos q0] at ht
      cases ht
      rw [q0]
      exact h0
    rw [if_neg q0] at ht
    by_cases q1 : q = a + 1
    · rw [if_pos q1] at ht
      cases ht
      rw [q1]
      exact h1
    rw [if_neg q1] at ht
    by_cases q2 : q = a + 2
    · rw [if_pos q2] at ht
      cases ht
      rw [q2]
      exact h2
    rw [if_neg q2] at ht
    by_cases q3 : q = a + 3
    · rw [if_pos q3] at ht
      cases ht
      rw [q3]
      exact h3
    rw [if_neg q3] at ht
    by_cases q4 : q = a + 4
    · rw [if_pos q4] at ht
      cases ht
      rw [q4]
      exact h4
    rw [if_neg q4] at ht
    by_cases q5 : q = a + 5
    · rw [if_pos q5] at ht
      cases ht
      rw [q5]
      exact h5
    rw [if_neg q5] at ht
    exact h.v q t ht
  · rw [hB] at ht
    by_cases q0 : q = a
    · rw [if_pos q0] at ht
      cases ht
      exact decide_eq_true (show r < r + 1 by omega)
    rw [if_neg q0] at ht
    by_cases q1 : q = a + 1
    · rw [if_pos q1] at ht
      cases ht
      exact decide_eq_true (show r < r + 1 by omega)
    rw [if_neg q1] at ht
    by_cases q2 : q = a + 2
    · rw [if_pos q2] at ht
      cases ht
      exact decide_eq_true (show r < r + 1 by omega)
    rw [if_neg q2] at ht
    by_cases q3 : q = a + 3
    · rw [if_pos q3] at ht
      cases ht
      exact decide_eq_true (show r < r + 1 by omega)
    rw [if_neg q3] at ht
    by_cases q4 : q = a + 4
    · rw [if_pos q4] at ht
      cases ht
      exact decide_eq_true (show r < r + 1 by omega)
    rw [if_neg q4] at ht
    by_cases q5 : q = a + 5
    · rw [if_pos q5] at ht
      cases ht
      exact decide_eq_true (show r < r + 1 by omega)
    rw [if_neg q5] at ht
    exact vl_mono (S := S) (T := (S.snr (r + 1)).roS r v) (Nat.le_refl _) (show S.nr ≤ r + 1 by omega) (Nat.le_refl _) (h.w q t ht)
theorem ov_bf {D : va_G} {cl : List vw_C} {A : Nat → Prop} {H0 H : Heap} {κ : Nat → Nat} {ar : Nat → ClassId} {x : Xo} {S : Ho} {G : gW} {locs : List Loc} {n : Nat} (w : g_S D cl A H0 (ov κ ar x S G) H locs n) : ∀ a, n ≤ a → x.b a = none := by
  intro a ha
  cases hb : x.b a with
  | none => rfl
  | some t =>
    have h1 : ov κ ar x S G a = some (cellH κ ar x S t) := by unfold ov; rw [hb]
    exact absurd (g_ltn w h1) (Nat.not_lt.mpr ha)
theorem BX_zTo {x : Xo} {k a n : Nat} (h : n ≤ a) : BX x (zTo x k a) n := by
  intro q t hq
  have e : (zTo x k a).b q = if q = a then some (.to k) else x.b q := rfl
  rw [e] at hq
  by_cases z : q = a
  · exact Or.inr (by omega)
  · rw [if_neg z] at hq; exact Or.inl hq
theorem BX_zRo {x : Xo} {k a n : Nat} (h : n ≤ a) : BX x (zRo x k a) n := by
  intro q t hq
  have e : (zRo x k a).b q = if q = a then some (.ro k) else if q = a + 1 then some (.rl k) else if q = a + 2 then some (.rf k) else if q = a + 3 then some (.rg k) else if q = a + 4 then some (.rd k) else if q = a + 5 then some (.rq k) else x.b q := rfl
  rw [e] at hq
  by_cases z : a ≤ q
  · exact Or.inr (by omega)
  · rw [if_neg (by omega), if_neg (by omega), if_neg (by omega), if_neg (by omega), if_neg (by omega), if_neg (by omega)] at hq; exact Or.inl hq
