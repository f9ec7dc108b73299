/-! what is written: a page more, or not -/
theorem met_w {l : Launch} {y : MethodName} {ws : List Cond} {rm : Room} {D : va_G} {cl : List vw_C} {tys : List (ClassId × FieldType)} {EX : (Nat → Prop) → State → Heap → Prop} {G : gW} {sz : Nat} {av : List Value} {A : Nat → Prop} {mc ms : Nat} {fr : Addr → Prop} {post post2 : gW × Nat → Prop}
    (hM : Met l y ws rm (g_Pc D cl tys EX G sz av) (g_Qv D cl A post) mc ms fr) (h : (∀ q, sz ≤ q → G q = none) → ∀ u, post u → post2 u) : Met l y ws rm (g_Pc D cl tys EX G sz av) (g_Qv D cl A post2) mc ms fr :=
  Jvm.Free.MetFree.mono hM (fun _ _ h9 => h9) (fun _ _ _ _ _ h9 => h9) (fun a s o t hP q => by
    obtain ⟨⟨⟨u, h1, h2, h3⟩, h4⟩, h5⟩ := q
    refine ⟨⟨⟨u, h1, h (fun q9 hq => ?_) u h2, h3⟩, h4⟩, h5⟩
    cases hG : G q9 with
    | none => rfl
    | some e9 =>
      have h6 := g_lt hP.2.2.1 hG
      have h7 : s.heap.size = sz := hP.2.1
      omega)
theorem wk_div {n : Nat} (h : n < 2 ^ 31) : nI n / 512 = nI (n / 512) := by
  apply Int32.toInt_inj.mp
  rw [Int32.toInt_div_of_ne_right _ _ (by decide), nI_toInt h, nI_toInt (by omega), show (512 : Int32).toInt = 512 from by decide, Int.tdiv_eq_ediv_of_nonneg (by omega)]
  omega
def pix (Z : Ho) : Int32 := Z.wc - Z.wc / 512 * 512
def sX7_enlist (Z : Ho) (v : Int64) : Ho := if Z.np ≤ (Z.wc / 512).toNatClampNeg then (((((Z.snp (Z.np + 1)).spg (updN Z.pg Z.np (pU (fun _ => 0) 512 (pix Z) v))).swc (Z.wc + 1)).sws (pV Z.ws v)).swp ((Z.wp * 31) * 31))
  else ((((Z.spg (updN Z.pg (Z.wc / 512).toNatClampNeg (pU (Z.pg (Z.wc / 512).toNatClampNeg) 512 (pix Z) v))).swc (Z.wc + 1)).sws (pV Z.ws v)).swp ((Z.wp * 31) * 31))
def zPg (x : Xo) (k a e : Nat) : Zo := mkZ (fun q => if q = a then some (.pg k) else if q = a + 1 then some (.pv k) else if q = e then some .el else x.b q) x.cm x.ec (x.mc + 1) e (updN x.pp k a) (updN x.pq k (a + 1))
section PGS
variable {κ : Nat → Nat} {ar : Nat → ClassId} {x : Xo} {S : Ho} {G : gW} {a e k : Nat} {c : va_E} {t : Tg} {q : Nat}
theorem ov_s (h : x.b q = some t) : ov κ ar x S G q = some (cellH κ ar x S t) := by
  unfold ov
  rw [h]
theorem ov_0 (h : x.b q = none) : ov κ ar x S G q = G q := by
  unfold ov
  rw [h]
theorem ov_wpv {f : Nat → Int64} (hv : ∀ a t, x.b a = some t → x.a t = a) (h : x.b (x.a (.pv k)) = some (.pv k)) (hc : c = .inl (ar 1, 512, .inr (.inl f))) : g_up (ov κ ar x S G) (x.pq k) c = ov κ ar x (S.spg (updN S.pg k f)) G := by
  refine ov_w (t := .pv k) (x' := x) hv h rfl ?_ (fun t' q => ?_)
  · rw [hc]
    show _ = (.inl (ar 1, 512, .inr (.inl (updN S.pg k f k))) : va_E)
    rw [updN_s]
  rcases t' with j | j | j | j | j | j
  · rfl
  · rfl
  · rfl
  · rfl
  · rfl
  · rcases j with j | j
    · rfl
    · by_cases hj : j = k
      · subst hj
        exact absurd rfl q
      · show (.inl (ar 1, 512, .inr (.inl (updN S.pg k f j))) : va_E) = .inl (ar 1, 512, .inr (.inl (S.pg j)))
        rw [updN_o hj]
theorem up_page {P : Nat → Nat} {F : Nat → Option Nat} (hF : ∀ j, F j = if j < k then some (P j) else none) : va_up F k (some a) = fun j9 => if j9 < k + 1 then some (updN P k a j9) else none := by
  funext j
  by_cases h : j = k
  · subst h
    show va_up F j (some a) j = if j < j + 1 then some (updN P j a j) else none
    rw [updN_s, if_pos (Nat.lt_succ_self _)]
    exact if_pos rfl
  · show va_up F k (some a) j = if j < k + 1 then some (updN P k a j) else none
    rw [updN_o h]
    refine (if_neg h).trans ((hF j).trans ?_)
    by_cases h2 : j < k
    · rw [if_pos h2, if_pos (by omega)]
    · rw [if_neg h2, if_neg (by omega)]
theorem zPg_old (h0 : x.b a = none) (h1 : x.b (a + 1) = none) (he : x.b e = some .el ∨ x.b e = none) : ∀ q t, x.b q = some t → t ≠ .el → (x.pgs (zPg x k a e)).b q = some t := by
  intro q t z zt
  show (if q = a then some (.pg k) else if q = a + 1 then some (.pv k) else if q = e then some .el else x.b q) = some t
  rw [if_neg (fun y => by rw [y, h0] at z; cases z), if_neg (fun y => by rw [y, h1] at z; cases z), if_neg (fun y => by
    rw [y] at z
    rcases he with w | w
    · rw [w] at z; cases z; exact zt rfl
    · rw [w] at z; cases z)]
  exact z
theorem ov_page {f : Nat → Int64} {wc : Int32} {ws wp : Int64} (h : OK x S) (hk : S.np = k) (h0 : x.b a = none) (h1 : x.b (a + 1) = none) (ha : e ≠ a) (ha1 : e ≠ a + 1) (hel : ∀ q, x.b q = some .el → q = e) (he : x.b e = some .el ∨ x.b e = none) :
    g_up (g_up (g_up (g_up (g_up (ov κ ar x S G) a (.inr (8, [.ref (a + 1)]))) (a + 1) (.inl (ar 1, 512, .inr (.inl f)))) (x.f .pl) (.inr (5, [.int (x.mc + 1), .ref e, .int (Int32.ofNat (k + 1))]))) e (.inl (ar 8, 10, .inr (.inr (.inr (.inr (fun j9 => if j9 < k + 1 then some (updN x.pp k a j9) else none))))))) (x.f .wr) (.inr (13, [.ref (x.f .pl), .int wc, .long ws, .long wp])) = ov κ ar (x.pgs (zPg x k a e)) (((((S.snp (k + 1)).spg (updN S.pg k f)).swc wc).sws ws).swp wp) G := by
  have npg : ∀ q, x.b q ≠ some (.pg k) := fun q z => by
    have z2 : decide (k < S.np) = true := h.w q _ z
    rw [hk] at z2
    exact absurd (of_decide_eq_true z2) (Nat.lt_irrefl _)
  have npv : ∀ q, x.b q ≠ some (.pv k) := fun q z => by
    have z2 : decide (k < S.np) = true := h.w q _ z
    rw [hk] at z2
    exact absurd (of_decide_eq_true z2) (Nat.lt_irrefl _)
  have old := zPg_old (k := k) h0 h1 he
  have bwr : x.b (x.f .wr) = some .wr := h.e .wr rfl
  have bpl : x.b (x.f .pl) = some .pl := h.e .pl rfl
  have hB : ∀ q, (x.pgs (zPg x k a e)).b q = if q = a then some (.pg k) else if q = a + 1 then some (.pv k) else if q = e then some .el else x.b q := fun _ => rfl
  funext q
  by_cases q0 : q = x.f .wr
  · subst q0
    exact g_up_s.trans (ov_s (t := .wr) (old _ _ bwr (fun z => by cases z))).symm
  refine (g_up_n q0).trans ?_
  by_cases q1 : q = e
  · rw [q1]
    exact g_up_s.trans (ov_s (t := .el) (by rw [hB, if_neg ha, if_neg ha1, if_pos rfl])).symm
  refine (g_up_n q1).trans ?_
  by_cases q2 : q = x.f .pl
  · subst q2
    refine g_up_s.trans (Eq.trans ?_ (ov_s (t := .pl) (old _ _ bpl (fun z => by cases z))).symm)
    show some (.inr (5, [.int (x.mc + 1), .ref e, .int (Int32.ofNat (k + 1))]) : va_E) = some (.inr (5, [.int (x.mc + 1), .ref (if k + 1 = 0 then κ 0 else e), .int (Int32.ofNat (k + 1))]))
    rw [if_neg (Nat.succ_ne_zero k)]
  refine (g_up_n q2).trans ?_
  by_cases q3 : q = a + 1
  · rw [q3]
    refine g_up_s.trans (Eq.trans ?_ (ov_s (t := .pv k) (by rw [hB, if_neg (by omega), if_pos rfl])).symm)
    show some (.inl (ar 1, 512, .inr (.inl f)) : va_E) = some (.inl (ar 1, 512, .inr (.inl (updN S.pg k f k))))
    rw [updN_s]
  refine (g_up_n q3).trans ?_
  by_cases q4 : q = a
  · rw [q4]
    refine g_up_s.trans (Eq.trans ?_ (ov_s (t := .pg k) (by rw [hB, if_pos rfl])).symm)
    show some (.inr (8, [.ref (a + 1)]) : va_E) = some (.inr (8, [.ref (updN x.pq k (a + 1) k)]))
    rw [updN_s]
  refine (g_up_n q4).trans ?_
  have hb' : (x.pgs (zPg x k a e)).b q = x.b q := by rw [hB, if_neg q4, if_neg q3, if_neg q1]
  cases hbq : x.b q with
  | none => exact (ov_0 hbq).trans (ov_0 (hb'.trans hbq)).symm
  | some t =>
    refine (ov_s hbq).trans (Eq.trans ?_ (ov_s (hb'.trans hbq)).symm)
    have z := h.v q t hbq
    rcases t with j | j | j | j | j | j
    · rcases j with ⟨⟩ | ⟨⟩ | ⟨⟩ | ⟨⟩ | ⟨⟩ | ⟨⟩ | ⟨⟩ | ⟨⟩ | ⟨⟩ | ⟨⟩ | ⟨⟩ | ⟨⟩ | ⟨⟩
      · rfl
      · rfl
      · rfl
      · rfl
      · rfl
      · rfl
      · rfl
      · rfl
      · rfl
      · rfl
      · exact absurd z.symm q0
      · exact absurd z.symm q2
      · exact absurd (hel q hbq) q1
    · rfl
    · rfl
    · rfl
    · rfl
    · rcases j with j | j
      · by_cases hj : j = k
        · subst hj
          exact absurd hbq (npg q)
        · show some (.inr (8, [.ref (x.pq j)]) : va_E) = some (.inr (8, [.ref (updN x.pq k (a + 1) j)]))
          rw [updN_o hj]
      · by_cases hj : j = k
        · subst hj
          exact absurd hbq (npv q)
        · show some (.inl (ar 1, 512, .inr (.inl (S.pg j))) : va_E) = some (.inl (ar 1, 512, .inr (.inl (updN S.pg k f j))))
          rw [updN_o hj]
theorem OK.page {f : Nat → Nat → Int64} {wc : Int32} {ws wp : Int64} (h : OK x S) (hk : S.np = k) (h0 : x.b a = none) (h1 : x.b (a + 1) = none) (ha : e ≠ a) (ha1 : e ≠ a + 1) (hel : ∀ q, x.b q = some .el → q = e) (he : x.b e = some .el ∨ x.b e = none) : OK (x.pgs (zPg x k a e)) (((((S.snp (k + 1)).spg f).swc wc).sws ws).swp wp) := by
  have npg : ∀ q, x.b q ≠ some (.pg k) := fun q z => by
    have z2 : decide (k < S.np) = true := h.w q _ z
    rw [hk] at z2
    exact absurd (of_decide_eq_true z2) (Nat.lt_irrefl _)
  have npv : ∀ q, x.b q ≠ some (.pv k) := fun q z => by
    have z2 : decide (k < S.np) = true := h.w q _ z
    rw [hk] at z2
    exact absurd (of_decide_eq_true z2) (Nat.lt_irrefl _)
  have old := zPg_old (k := k) h0 h1 he
  have hB : ∀ q, (x.pgs (zPg x k a e)).b q = if q = a then some (.pg k) else if q = a + 1 then some (.pv k) else if q = e then some .el else x.b q := fun _ => rfl
  refine ⟨fun t ht => ?_, fun q t hq => ?_, h.2.2.1, h.2.2.2.1, h.2.2.2.2.1, h.2.2.2.2.2.1, fun q t hq => ?_⟩
  · rcases t with j | j | j | j | j | j
    · rcases j with ⟨⟩ | ⟨⟩ | ⟨⟩ | ⟨⟩ | ⟨⟩ | ⟨⟩ | ⟨⟩ | ⟨⟩ | ⟨⟩ | ⟨⟩ | ⟨⟩ | ⟨⟩ | ⟨⟩
      · exact old _ _ (h.e .ho ht) (fun z => by cases z)
      · exact old _ _ (h.e .cl ht) (fun z => by cases z)
      · exact old _ _ (h.e .ab ht) (fun z => by cases z)
      · exact old _ _ (h.e .fc ht) (fun z => by cases z)
      · exact old _ _ (h.e .me ht) (fun z => by cases z)
      · exact old _ _ (h.e .gl ht) (fun z => by cases z)
      · exact old _ _ (h.e .ts ht) (fun z => by cases z)
      · exact old _ _ (h.e .al ht) (fun z => by cases z)
      · exact old _ _ (h.e .re ht) (fun z => by cases z)
      · exact old _ _ (h.e .fs ht) (fun z => by cases z)
      · exact old _ _ (h.e .wr ht) (fun z => by cases z)
      · exact old _ _ (h.e .pl ht) (fun z => by cases z)
      · show (x.pgs (zPg x k a e)).b e = some .el
        rw [hB, if_neg ha, if_neg ha1, if_pos rfl]
    · rcases j with j | j
      · exact old _ _ (h.e (.th j) ht) (fun z => by cases z)
      · exact old _ _ (h.e (.tp j) ht) (fun z => by cases z)
    · rcases j with j | j | j | j
      · exact old _ _ (h.e (.fr j) ht) (fun z => by cases z)
      · exact old _ _ (h.e (.fa j) ht) (fun z => by cases z)
      · exact old _ _ (h.e (.ft j) ht) (fun z => by cases z)
      · exact old _ _ (h.e (.fp j) ht) (fun z => by cases z)
    · exact old _ _ (h.e (.to j) ht) (fun z => by cases z)
    · rcases j with j | j | j | j | j | j
      · exact old _ _ (h.e (.ro j) ht) (fun z => by cases z)
      · exact old _ _ (h.e (.rl j) ht) (fun z => by cases z)
      · exact old _ _ (h.e (.rf j) ht) (fun z => by cases z)
      · exact old _ _ (h.e (.rg j) ht) (fun z => by cases z)
      · exact old _ _ (h.e (.rd j) ht) (fun z => by cases z)
      · exact old _ _ (h.e (.rq j) ht) (fun z => by cases z)
    · rcases j with j | j
      · have ht' : decide (j < k + 1) = true := ht
        have hlt := of_decide_eq_true ht'
        by_cases hj : j = k
        · subst hj
          show (x.pgs (zPg x j a e)).b (updN x.pp j a j) = some (.pg j)
          rw [updN_s, hB, if_pos rfl]
        · show (x.pgs (zPg x k a e)).b (updN x.pp k a j) = some (.pg j)
          rw [updN_o hj]
          exact old _ _ (h.e_pg (i := j) (by omega)) (fun z => by cases z)
      · have ht' : decide (j < k + 1) = true := ht
        have hlt := of_decide_eq_true ht'
        by_cases hj : j = k
        · subst hj
          show (x.pgs (zPg x j a e)).b (updN x.pq j (a + 1) j) = some (.pv j)
          rw [updN_s, hB, if_neg (by omega), if_pos rfl]
        · show (x.pgs (zPg x k a e)).b (updN x.pq k (a + 1) j) = some (.pv j)
          rw [updN_o hj]
          exact old _ _ (h.e_pv (i := j) (by omega)) (fun z => by cases z)
  · rw [hB] at hq
    by_cases qa : q = a
    · rw [if_pos qa] at hq
      cases hq
      show updN x.pp k a k = q
      rw [updN_s, qa]
    rw [if_neg qa] at hq
    by_cases qb : q = a + 1
    · rw [if_pos qb] at hq
      cases hq
      show updN x.pq k (a + 1) k = q
      rw [updN_s, qb]
    rw [if_neg qb] at hq
    by_cases qe : q = e
    · rw [if_pos qe] at hq
      cases hq
      exact qe.symm
    rw [if_neg qe] at hq
    have z := h.v q t hq
    rcases t with j | j | j | j | j | j
    · rcases j with ⟨⟩ | ⟨⟩ | ⟨⟩ | ⟨⟩ | ⟨⟩ | ⟨⟩ | ⟨⟩ | ⟨⟩ | ⟨⟩ | ⟨⟩ | ⟨⟩ | ⟨⟩ | ⟨⟩
      · exact z
      · exact z
      · exact z
      · exact z
      · exact z
      · exact z
      · exact z
      · exact z
      · exact z
      · exact z
      · exact z
      · exact z
      · exact absurd (hel q hq) qe
    · rcases j with j | j <;> exact z
    · rcases j with j | j | j | j <;> exact z
    · exact z
    · rcases j with j | j | j | j | j | j <;> exact z
    · rcases j with j | j
      · by_cases hj : j = k
        · subst hj
          exact absurd hq (npg q)
        · show updN x.pp k a j = q
          rw [updN_o hj]
          exact z
      · by_cases hj : j = k
        · subst hj
          exact absurd hq (npv q)
        · show updN x.pq k (a + 1) j = q
          rw [updN_o hj]
          exact z
  · rw [hB] at hq
    by_cases qa : q = a
    · rw [if_pos qa] at hq
      cases hq
      exact decide_eq_true (Nat.lt_succ_self k)
    rw [if_neg qa] at hq
    by_cases qb : q = a + 1
    · rw [if_pos qb] at hq
      cases hq
      exact decide_eq_true (Nat.lt_succ_self k)
    rw [if_neg qb] at hq
    by_cases qe : q = e
    · rw [if_pos qe] at hq
      cases hq
      exact decide_eq_true (Nat.succ_pos k)
    rw [if_neg qe] at hq
    exact vl_mono (S := S) (T := (((((S.snp (k + 1)).spg f).swc wc).sws ws).swp wp)) (Nat.le_refl _) (Nat.le_refl _) (show S.np ≤ k + 1 by omega) (h.w q t hq)
theorem BX_page {sz : Nat} (ha : sz ≤ a) (hx : x.b e = some .el ∨ sz ≤ e) : BX x (zPg x k a e) sz := by
  intro q t hq
  have hB : (zPg x k a e).b q = if q = a then some (.pg k) else if q = a + 1 then some (.pv k) else if q = e then some .el else x.b q := rfl
  rw [hB] at hq
  by_cases qa : q = a
  · exact Or.inr (by omega)
  rw [if_neg qa] at hq
  by_cases qb : q = a + 1
  · exact Or.inr (by omega)
  rw [if_neg qb] at hq
  by_cases qe : q = e
  · rw [if_pos qe] at hq
    cases hq
    rcases hx with y | y
    · exact Or.inl (by rw [qe]; exact y)
    · exact Or.inr (by omega)
  rw [if_neg qe] at hq
  exact Or.inl hq
end PGS
theorem hX7_enlist (l : Launch) (D : va_G) (ar : Nat → ClassId) (κ : Nat → Nat) (G : gW) (x : Xo) (Z : Ho) (sz : Nat) (v0 : Int64) (hk : OK x Z) (hw : Wk Z) : Met l yX7_enlist (lwC yX7_enlist cX7_enlist 5 none) (rD 5 (3 * ((sX7_enlist Z v0).np - Z.np)) (523 * ((sX7_enlist Z v0).np - Z.np))) (g_Pc D vwCl (gT ar) (EX1 κ) (ov κ ar x Z G) sz [.ref (x.f .wr), .long v0]) (g_Qv D vwCl (g_A (ov κ ar x Z G) sz) (fun u => ∃ z9 : Zo, ∃ T9 : Ho, sX7_enlist Z v0 = T9 ∧ u.1 = ov κ ar (x.pgs z9) T9 G ∧ OK (x.pgs z9) T9 ∧ BX x z9 sz ∧ SZW T9 Z)) (3 * ((sX7_enlist Z v0).np - Z.np)) (523 * ((sX7_enlist Z v0).np - Z.np)) (g_A (ov κ ar x Z G) sz) := by
  obtain ⟨n, hn, hwc, hnp⟩ := hw
  have hd : Z.wc / 512 = nI (n / 512) := by rw [hwc]; exact wk_div (by omega)
  have hc : (Z.wc / 512).toNatClampNeg = n / 512 := by rw [hd]; exact nI_clamp (by omega)
  have hwr : ov κ ar x Z G (x.f .wr) = some (.inr (13, [.ref (x.f .pl), .int Z.wc, .long Z.ws, .long Z.wp])) := ov_r (t := .wr) (hk.e .wr rfl)
  have hpl : ov κ ar x Z G (x.f .pl) = some (.inr (5, [.int x.mc, .ref (if Z.np = 0 then κ 0 else x.pe), .int (Int32.ofNat Z.np)])) := ov_r (t := .pl) (hk.e .pl rfl)
  by_cases h9 : Z.np ≤ n / 512
  · have e1 : Z.np = n / 512 := by omega
    have es : sX7_enlist Z v0 = (((((Z.snp (Z.np + 1)).spg (updN Z.pg Z.np (pU (fun _ => 0) 512 (pix Z) v0))).swc (Z.wc + 1)).sws (pV Z.ws v0)).swp ((Z.wp * 31) * 31)) := if_pos (by rw [hc]; exact h9)
    have e0 : (sX7_enlist Z v0).np - Z.np = 1 := by
      rw [es]
      show Z.np + 1 - Z.np = 1
      omega
    rw [e0]
    by_cases hz : Z.np = 0
    · have hn0 : n = 0 := by omega
      have hw0 : Z.wc = 0 := by rw [hwc, hn0]; exact nI_0
      have hp0 : pix Z = 0 := by unfold pix; rw [hw0]; decide
      rw [if_pos hz, hz] at hpl
      rw [hw0] at hwr
      refine met_w (c_X7_en3 l D ar κ (ov κ ar x Z G) sz (x.f .wr) v0 (x.f .pl) Z.ws Z.wp x.mc hwr hpl) (fun hnn u hu => ?_)
      have b0 := ov_b0 (hnn sz (Nat.le_refl _))
      have b1 := ov_b0 (hnn (sz + 1) (by omega))
      have b2 := ov_b0 (hnn (sz + 2) (by omega))
      have hel : ∀ q, x.b q = some .el → q = sz + 2 := fun q z => by
        have z2 : decide (0 < Z.np) = true := hk.w q _ z
        exact absurd (of_decide_eq_true z2) (by omega)
      refine ⟨zPg x Z.np sz (sz + 2), _, es, ?_, OK.page hk rfl b0 b1 (by omega) (by omega) hel (Or.inr b2), BX_page (Nat.le_refl _) (Or.inr (by omega)), rfl, rfl, Nat.le_succ _⟩
      subst hu
      have e2 : va_up (fun _ => none) (Int32.toNatClampNeg 0) (some sz) = fun j9 => if j9 < Z.np + 1 then some (updN x.pp Z.np sz j9) else none := by
        rw [show Int32.toNatClampNeg 0 = Z.np from hz ▸ nI_clamp (n := 0) (by decide)]
        exact up_page (P := x.pp) (fun j => by rw [hz, if_neg (Nat.not_lt_zero j)])
      have e3 : (1 : Int32) = Int32.ofNat (Z.np + 1) := by rw [hz]; rfl
      have e4 : (1 : Int32) = Z.wc + 1 := by rw [hw0]; rfl
      refine Eq.trans ?_ (ov_page (f := pU (fun _ => 0) 512 (pix Z) v0) (wc := Z.wc + 1) (ws := pV Z.ws v0) (wp := (Z.wp * 31) * 31) hk rfl b0 b1 (by omega) (by omega) hel (Or.inr b2))
      rw [← e3, ← e4, ← e2, hp0]
    · rw [if_neg hz] at hpl
      have hel9 : x.b x.pe = some .el := hk.e .el (decide_eq_true (by omega))
      have hE : ov κ ar x Z G x.pe = some (.inl (ar 8, 10, .inr (.inr (.inr (.inr (fun j9 => if j9 < Z.np then some (x.pp j9) else none)))))) := ov_r (t := .el) hel9
      refine met_w (c_X7_en2 l D ar κ (ov κ ar x Z G) sz (x.f .wr) v0 (x.f .pl) Z.wc Z.ws Z.wp x.mc x.pe (Int32.ofNat Z.np) _ hwr hpl hE (by rw [hd]; exact nI_lt (b := 6400) (by omega) (by decide)) (by rw [hd, ← e1]; rfl) (Int32.lt_irrefl _) (fun z => by
          have := (nI_eq (a := Z.np) (b := 10) (by omega) (by decide)).mp z
          omega) (vp_in_nI (by omega) (by decide)) (isB_n.mpr ⟨by rw [hd]; exact nI_pos (by omega), by rw [hd, show Int32.ofNat Z.np + 1 = nI (Z.np + 1) from nI_1 _]; exact nI_ge (by omega) (by omega)⟩) (by rw [hd]; exact vp_in_nI (by omega) (by decide))) (fun hnn u hu => ?_)
      have b0 := ov_b0 (hnn sz (Nat.le_refl _))
      have b1 := ov_b0 (hnn (sz + 1) (by omega))
      have hel : ∀ q, x.b q = some .el → q = x.pe := fun q z => (hk.v q _ z).symm
      have ha : x.pe ≠ sz := fun y => by rw [y, b0] at hel9; cases hel9
      have ha1 : x.pe ≠ sz + 1 := fun y => by rw [y, b1] at hel9; cases hel9
      refine ⟨zPg x Z.np sz x.pe, _, es, ?_, OK.page hk rfl b0 b1 ha ha1 hel (Or.inl hel9), BX_page (Nat.le_refl _) (Or.inl hel9), rfl, rfl, Nat.le_succ _⟩
      subst hu
      have e2 : va_up (fun j9 => if j9 < Z.np then some (x.pp j9) else none) (Int32.toNatClampNeg (Int32.ofNat Z.np)) (some sz) = fun j9 => if j9 < Z.np + 1 then some (updN x.pp Z.np sz j9) else none := by
        rw [show Int32.toNatClampNeg (Int32.ofNat Z.np) = Z.np from nI_clamp (by omega)]
        exact up_page (fun _ => rfl)
      have e3 : Int32.ofNat Z.np + 1 = Int32.ofNat (Z.np + 1) := nI_1 _
      refine Eq.trans ?_ (ov_page (f := pU (fun _ => 0) 512 (pix Z) v0) (wc := Z.wc + 1) (ws := pV Z.ws v0) (wp := (Z.wp * 31) * 31) hk rfl b0 b1 ha ha1 hel (Or.inl hel9))
      rw [← e3, ← e2]
      rfl
  · have hlt : n / 512 < Z.np := Nat.lt_of_not_le h9
    have es : sX7_enlist Z v0 = ((((Z.spg (updN Z.pg (n / 512) (pU (Z.pg (n / 512)) 512 (pix Z) v0))).swc (Z.wc + 1)).sws (pV Z.ws v0)).swp ((Z.wp * 31) * 31)) := by
      unfold sX7_enlist
      rw [hc, if_neg h9]
    have e0 : (sX7_enlist Z v0).np - Z.np = 0 := by
      rw [es]
      show Z.np - Z.np = 0
      omega
    rw [e0]
    rw [if_neg (show ¬ Z.np = 0 by omega)] at hpl
    have hE : ov κ ar x Z G x.pe = some (.inl (ar 8, 10, .inr (.inr (.inr (.inr (fun j9 => if j9 < Z.np then some (x.pp j9) else none)))))) := ov_r (t := .el) (hk.e .el (decide_eq_true (by omega)))
    have hpg : ov κ ar x Z G (x.pp (n / 512)) = some (.inr (8, [.ref (x.pq (n / 512))])) := ov_r (t := .pg (n / 512)) (hk.e_pg hlt)
    have hpv : ov κ ar x Z G (x.pq (n / 512)) = some (.inl (ar 1, 512, .inr (.inl (Z.pg (n / 512))))) := ov_r (t := .pv (n / 512)) (hk.e_pv hlt)
    refine met_w (c_X7_en1 l D ar κ (ov κ ar x Z G) sz (x.f .wr) v0 (x.f .pl) Z.wc Z.ws Z.wp x.mc x.pe (Int32.ofNat Z.np) _ (x.pp (n / 512)) (x.pq (n / 512)) (Z.pg (n / 512)) hwr hpl hE hpg hpv (by rw [hd]; exact nI_lt (b := 6400) (by omega) (by decide)) (by rw [hd]; exact nI_lt hlt (by omega)) (isB_n.mpr ⟨by rw [hd]; exact nI_pos (by omega), by rw [hd]; exact nI_ge hlt (by omega)⟩) (by rw [hd]; exact vp_in_nI (by omega) (by decide)) (by rw [hc]; exact if_pos hlt)) (fun hnn u hu => ?_)
    refine ⟨x.z, _, es, ?_, hk.plain rfl rfl rfl rfl rfl rfl rfl, fun a9 t9 h => Or.inl h, rfl, rfl, Nat.le_refl _⟩
    subst hu
    refine (congrArg (fun Z9 => g_up Z9 (x.f .wr) (.inr (13, [.ref (x.f .pl), .int (Z.wc + 1), .long (pV Z.ws v0), .long ((Z.wp * 31) * 31)]))) (ov_wpv (f := pU (Z.pg (n / 512)) 512 (pix Z) v0) hk.v (hk.e_pv hlt) rfl)).trans ?_
    exact ov_wwr (S := Z.spg (updN Z.pg (n / 512) (pU (Z.pg (n / 512)) 512 (pix Z) v0))) (T := ((((Z.spg (updN Z.pg (n / 512) (pU (Z.pg (n / 512)) 512 (pix Z) v0))).swc (Z.wc + 1)).sws (pV Z.ws v0)).swp ((Z.wp * 31) * 31))) hk.v (hk.e .wr rfl) rfl rfl rfl rfl rfl rfl rfl rfl rfl rfl rfl rfl rfl rfl rfl rfl rfl rfl rfl rfl rfl rfl rfl rfl rfl
