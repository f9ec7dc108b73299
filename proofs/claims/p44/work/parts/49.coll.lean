/-! things that nothing reaches are gone, the others are left -/
section COL
variable {S : Ho} {t md f n c kp x i : Nat} {v : Int64} {m : Int32} {u : Nat → Option (Fin 60)} {w w' : Fin 60 → Int32}
/-- a value that a global, a frame or the answer has -/
def RtV (S : Ho) (f : Nat) (v : Int64) : Prop := (∃ g, g < 8 ∧ v = S.gl g) ∨ (∃ i, ∃ hi : i < 12, i < f ∧ ∃ N j, sX1_places S ⟨i, hi⟩ = nI N ∧ N ≤ 15 ∧ j < N ∧ v = sX1_place S ⟨i, hi⟩ (nI j)) ∨ (S.st = 114 ∧ v = S.an)
/-- a field of the thing of the number m has v -/
def EdV (S : Ho) (t : Nat) (m : Int32) (v : Int64) : Prop := ∃ i z k, i < t ∧ nT S.al S.th i = m ∧ (S.th (pT S.al i)).z = nI z ∧ z ≤ 8 ∧ k < z ∧ v = (S.th (pT S.al i)).p k
/-- a number that is reached -/
def RN (S : Ho) (t f : Nat) (m : Int32) : Prop := ∀ P : Int32 → Prop, (∀ v, RtV S f v → ¬ isT v = 0 → P (nf v)) → (∀ m v, P m → EdV S t m v → ¬ isT v = 0 → P (nf v)) → P m
theorem RN.r (h : RtV S f v) (q : ¬ isT v = 0) : RN S t f (nf v) := fun P h1 _ => h1 v h q
theorem RN.e (h : RN S t f m) (g : EdV S t m v) (q : ¬ isT v = 0) : RN S t f (nf v) := fun P h1 h2 => h2 m v (h P h1 h2) g q
theorem RtV.ok (h : Inv S t md f n) (g : RtV S f v) : okV (Dm S.al S.th t) v := by
  rcases g with ⟨g, hg, e⟩ | ⟨i, hi, hif, N, j, eN, hN, hj, e⟩ | ⟨e1, e⟩
  · rw [e]; exact h.gl g hg
  · obtain ⟨N', hN', eN', hv⟩ := pl_ok (h.fs i hi hif)
    have : N = N' := nI_inj (by omega) (by omega) (eN.symm.trans eN')
    subst this
    rw [e]; exact hv j hj
  · rw [e]; exact h.an e1
theorem EdV.ok (h : Inv S t md f n) (g : EdV S t m v) : okV (Dm S.al S.th t) v := by
  obtain ⟨i, z, k, hi, _, ez, hz, hk, e⟩ := g
  rw [e]; exact h.tf i hi z k ez hz hk
def CSt (S : Ho) (u : Nat → Option (Fin 60)) (c : Nat) (w : Fin 60 → Int32) : Ho := ((S.sre u).src (nI c)).sth (fun k => (S.th k).sr (w k))
theorem cst_tb (h : TB S.al S.th S.tc t md) : TB (CSt S u c w).al (CSt S u c w).th (CSt S u c w).tc t md := TB_e (fun _ => rfl) (fun _ => rfl) h
theorem cst_pl {i : Fin 12} : sX1_places (CSt S u c w) i = sX1_places S i := rfl
theorem cst_pp {i : Fin 12} {j : Int32} : sX1_place (CSt S u c w) i j = sX1_place S i j := rfl
/-- those that were reached so far: c of them, in the row u -/
def Gd (S : Ho) (t f : Nat) (u : Nat → Option (Fin 60)) (c : Nat) (w : Fin 60 → Int32) : Prop := ∃ e : Nat → Nat, (∀ j, j < c → e j < t ∧ u j = some (pT S.al (e j)) ∧ ¬ w (pT S.al (e j)) = 0 ∧ RN S t f (nT S.al S.th (e j))) ∧ (∀ i j, i < c → j < c → e i = e j → i = j) ∧ (∀ k, ¬ w k = 0 → ∃ j, j < c ∧ k = pT S.al (e j))
def Fl (S : Ho) (t : Nat) (w : Fin 60 → Int32) (m : Int32) : Prop := ∃ i, i < t ∧ nT S.al S.th i = m ∧ ¬ w (pT S.al i) = 0
def Mo (w w' : Fin 60 → Int32) : Prop := ∀ k, ¬ w k = 0 → ¬ w' k = 0
end COL
section MOX
variable {S : Ho} {t9 : Nat} {m9 : Int32} {w w' : Fin 60 → Int32}
theorem Mo.t {w2 : Fin 60 → Int32} (h : Mo w w') (g : Mo w' w2) : Mo w w2 := fun k q => g k (h k q)
theorem Mo.r : Mo w w := fun _ q => q
theorem Fl.m (h : Fl S t9 w m9) (g : Mo w w') : Fl S t9 w' m9 := by
  obtain ⟨i, h1, h2, h3⟩ := h
  exact ⟨i, h1, h2, g _ h3⟩
end MOX
section COL
variable {S : Ho} {t md f n c kp x i : Nat} {v : Int64} {m : Int32} {u : Nat → Option (Fin 60)} {w w' : Fin 60 → Int32}
theorem Gd.le (g : Gd S t f u c w) : c ≤ t := by
  obtain ⟨e, h1, h2, _⟩ := g
  exact inj_le t c e (fun j hj => (h1 j hj).1) h2
theorem st_1 (X : Ho) (T : Fin 60 → Th) (u : Nat → Option (Fin 60)) : (X.sth T).sre u = (X.sre u).sth T := rfl
theorem st_2 (X : Ho) (T : Fin 60 → Th) (c : Int32) : (X.sth T).src c = (X.src c).sth T := rfl
theorem st_3 (X : Ho) (c : Int32) (u : Nat → Option (Fin 60)) : (X.src c).sre u = (X.sre u).src c := rfl
theorem st_4 (X : Ho) (u u' : Nat → Option (Fin 60)) : (X.sre u).sre u' = X.sre u' := rfl
theorem st_5 (X : Ho) (c c' : Int32) : (X.src c).src c' = X.src c' := rfl
theorem st_6 (X : Ho) (T : Fin 60 → Th) (k : Fin 60) (v : Th) : (X.sth T).thS k v = X.sth (updF T k v) := rfl
theorem st_7 (X : Ho) (T : Fin 60 → Th) (a : Nat → Option (Fin 60)) : (X.sth T).sal a = (X.sal a).sth T := rfl
theorem st_8 (X : Ho) (a a' : Nat → Option (Fin 60)) : (X.sal a).sal a' = X.sal a' := rfl
theorem cst_g (X : Ho) (u u' : Nat → Option (Fin 60)) (c c' : Int32) (T : Fin 60 → Th) (k : Fin 60) (v : Th) : ((((((X.sre u).src c).sth T).sre u').src c').thS k v) = ((X.sre u').src c').sth (updF T k v) := by
  rw [st_1, st_2, st_6, st_3, st_4, st_5]
theorem sr_u {S : Ho} {w : Fin 60 → Int32} {k : Fin 60} {y : Int32} : updF (fun j => (S.th j).sr (w j)) k (((S.th k).sr (w k)).sr y) = fun j => (S.th j).sr (updF w k y j) := funext fun j => by
  by_cases q : j = k
  · rw [q, updF_s, updF_s]; rfl
  · rw [updF_o q, updF_o q]
theorem cst_mark {k : Fin 60} : ((((CSt S u c w).sre (updN (CSt S u c w).re c (some k))).src (nI (c + 1))).thS k (((CSt S u c w).th k).sr 1)) = CSt S (updN u c (some k)) (c + 1) (updF w k 1) :=
  (cst_g S u (updN u c (some k)) (nI c) (nI (c + 1)) (fun j => (S.th j).sr (w j)) k (((S.th k).sr (w k)).sr 1)).trans (congrArg (fun z9 => ((S.sre (updN u c (some k))).src (nI (c + 1))).sth z9) sr_u)
theorem rch_i (h : Inv S t md f n) (g : Gd S t f u c w) (hv : okV (Dm S.al S.th t) v) (hr : ¬ isT v = 0 → RN S t f (nf v)) :
    ∃ u' c' w', sX5_reach (CSt S u c w) v = CSt S u' c' w' ∧ Gd S t f u' c' w' ∧ c ≤ c' ∧ (∀ j, j < c → u' j = u j) ∧ Mo w w' ∧ (¬ isT v = 0 → Fl S t w' (nf v)) := by
  have ht := h.tb.l
  unfold sX5_reach
  rcases ov_e (v := v) (cst_tb (u := u) (c := c) (w := w) h.tb) with ⟨j, hj, hT, en0, q0⟩ | ⟨q, r⟩
  · have q : sX5_ofValue (CSt S u c w) v = some (pT S.al j) := q0
    have en : nT S.al S.th j = nf v := en0
    rw [oc_s q]
    by_cases cw : w (pT S.al j) = 0
    · obtain ⟨e, g1, g2, g3⟩ := g
      have hne : ∀ a, a < c → e a ≠ j := fun a ha z => (g1 a ha).2.2.1 (by rw [z]; exact cw)
      have hc : c + 1 ≤ t := inj_le t (c + 1) (fun a => if a < c then e a else j) (fun a ha => by
          show (if a < c then e a else j) < t
          by_cases qa : a < c
          · rw [if_pos qa]; exact (g1 a qa).1
          · rw [if_neg qa]; exact hj) (fun a b ha hb z => by
          have z' : (if a < c then e a else j) = (if b < c then e b else j) := z
          by_cases qa : a < c
          · by_cases qb : b < c
            · rw [if_pos qa, if_pos qb] at z'; exact g2 a b qa qb z'
            · rw [if_pos qa, if_neg qb] at z'; exact absurd z' (hne a qa)
          · by_cases qb : b < c
            · rw [if_neg qa, if_pos qb] at z'; exact absurd z'.symm (hne b qb)
            · omega)
      rw [if_pos (show ((CSt S u c w).th (pT S.al j)).r = 0 from cw), show (CSt S u c w).rc = nI c from rfl, if_neg (isB_1L (b := 60) (n := 60) rfl (by omega) (by decide)), nI_clamp (by omega), nI_1]
      refine ⟨updN u c (some (pT S.al j)), c + 1, updF w (pT S.al j) 1, ?_, ⟨fun a => if a < c then e a else j, fun a ha => ?_, fun a b ha hb z => ?_, fun k hk => ?_⟩, Nat.le_succ _, fun a ha => updN_o (by omega), fun k hk => ?_, fun _ => ⟨j, hj, en, ?_⟩⟩
      · exact cst_mark
      · show (if a < c then e a else j) < t ∧ updN u c (some (pT S.al j)) a = some (pT S.al (if a < c then e a else j)) ∧ ¬ updF w (pT S.al j) 1 (pT S.al (if a < c then e a else j)) = 0 ∧ RN S t f (nT S.al S.th (if a < c then e a else j))
        by_cases qa : a < c
        · rw [if_pos qa, updN_o (by omega)]
          obtain ⟨y1, y2, y3, y4⟩ := g1 a qa
          refine ⟨y1, y2, ?_, y4⟩
          rw [updF_o (fun z => hne a qa (h.tb.i (by omega) (by omega) z))]
          exact y3
        · obtain rfl : a = c := by omega
          rw [if_neg qa, updN_s, updF_s]
          exact ⟨hj, rfl, by decide, by rw [en]; exact hr hT⟩
      · have z' : (if a < c then e a else j) = (if b < c then e b else j) := z
        by_cases qa : a < c
        · by_cases qb : b < c
          · rw [if_pos qa, if_pos qb] at z'; exact g2 a b qa qb z'
          · rw [if_pos qa, if_neg qb] at z'; exact absurd z' (hne a qa)
        · by_cases qb : b < c
          · rw [if_neg qa, if_pos qb] at z'; exact absurd z'.symm (hne b qb)
          · omega
      · by_cases qk : k = pT S.al j
        · exact ⟨c, Nat.lt_succ_self c, by show k = pT S.al (if c < c then e c else j); rw [if_neg (Nat.lt_irrefl c)]; exact qk⟩
        · rw [updF_o qk] at hk
          obtain ⟨a, ha, ea⟩ := g3 k hk
          exact ⟨a, by omega, by show k = pT S.al (if a < c then e a else j); rw [if_pos ha]; exact ea⟩
      · by_cases qk : k = pT S.al j
        · rw [qk, updF_s]; decide
        · rw [updF_o qk]; exact hk
      · rw [updF_s]; decide
    · rw [if_neg (show ¬ ((CSt S u c w).th (pT S.al j)).r = 0 from cw)]
      exact ⟨u, c, w, rfl, g, Nat.le_refl _, fun _ _ => rfl, Mo.r, fun _ => ⟨j, hj, en, cw⟩⟩
  · rw [oc_n q]
    refine ⟨u, c, w, rfl, g, Nat.le_refl _, fun _ _ => rfl, Mo.r, fun hT => ?_⟩
    rcases hv with z | ⟨j, hj, ej⟩
    · exact absurd z hT
    · rcases r with z | z
      · exact absurd z hT
      · exact absurd ej (z j hj)
theorem rf_l {hi : i < 12} {N : Nat} (h : Inv S t md f n) (hif : i < f) (hN : N ≤ 15) (eN : sX1_places S ⟨i, hi⟩ = nI N) : ∀ (fu x : Nat) (u : Nat → Option (Fin 60)) (c : Nat) (w : Fin 60 → Int32), Gd S t f u c w → x ≤ N → N + 1 ≤ x + fu →
    ∃ u' c' w', LX8_reachFrom_7 ⟨i, hi⟩ fu (nI x) (CSt S u c w) = CSt S u' c' w' ∧ Gd S t f u' c' w' ∧ Mo w w' ∧ (∀ j, x ≤ j → j < N → ¬ isT (sX1_place S ⟨i, hi⟩ (nI j)) = 0 → Fl S t w' (nf (sX1_place S ⟨i, hi⟩ (nI j)))) := by
  intro fu
  induction fu with
  | zero => intro x u c w _ h1 h2; omega
  | succ fu ih =>
    intro x u c w g h1 h2
    rw [LX8_reachFrom_7_u, cst_pl, eN]
    by_cases q : nI N ≤ nI x
    · rw [if_pos q]
      have := (nI_leI (by omega) (by omega)).mp q
      exact ⟨u, c, w, rfl, g, Mo.r, fun j h3 h4 => by omega⟩
    · rw [if_neg q, cst_pp]
      have hx : x < N := by
        rcases Nat.lt_or_ge x N with y | y
        · exact y
        · exact absurd (nI_le y (by omega)) q
      have hR : RtV S f (sX1_place S ⟨i, hi⟩ (nI x)) := Or.inr (Or.inl ⟨i, hi, hif, N, x, eN, hN, hx, rfl⟩)
      obtain ⟨u1, c1, w1, e1, g1, _, _, m1, f1⟩ := rch_i h g (hR.ok h) (fun z => RN.r hR z)
      rw [vc_e e1, nI_1]
      obtain ⟨u2, c2, w2, e2, g2, m2, f2⟩ := ih (x + 1) u1 c1 w1 g1 (by omega) (by omega)
      refine ⟨u2, c2, w2, e2, g2, m1.t m2, fun j h3 h4 h5 => ?_⟩
      rcases Nat.lt_or_ge x j with y | y
      · exact f2 j (by omega) h4 h5
      · obtain rfl : j = x := by omega
        exact (f1 h5).m m2
/-- what a thing's fields lead to was reached -/
def Cl (S : Ho) (t : Nat) (w : Fin 60 → Int32) (i : Nat) : Prop := ∀ v, EdV S t (nT S.al S.th i) v → ¬ isT v = 0 → Fl S t w (nf v)
theorem rg_l {z : Nat} {S2 : Ho} {x1 : Int32} (h : Inv S t md f n) (hi : i < t) (hre : S2.re (Int32.toNatClampNeg x1) = some (pT S.al i)) (ez : (S.th (pT S.al i)).z = nI z) (hz : z ≤ 8) (hRN : RN S t f (nT S.al S.th i)) :
    ∀ (fu x : Nat) (u : Nat → Option (Fin 60)) (c : Nat) (w : Fin 60 → Int32), Gd S t f u c w → x ≤ z → z + 1 ≤ x + fu →
    ∃ u' c' w', LX5_reachFields_28 x1 S2 fu (nI x) (CSt S u c w) = CSt S u' c' w' ∧ Gd S t f u' c' w' ∧ c ≤ c' ∧ (∀ j, j < c → u' j = u j) ∧ Mo w w' ∧ (∀ k, x ≤ k → k < z → ¬ isT ((S.th (pT S.al i)).p k) = 0 → Fl S t w' (nf ((S.th (pT S.al i)).p k))) := by
  intro fu
  induction fu with
  | zero => intro x u c w _ h1 h2; omega
  | succ fu ih =>
    intro x u c w g h1 h2
    rw [LX5_reachFields_28_u, oc_s hre]
    have ez' : ((CSt S u c w).th (pT S.al i)).z = nI z := ez
    rw [ez']
    by_cases q : nI z ≤ nI x
    · rw [if_pos q]
      have := (nI_leI (by omega) (by omega)).mp q
      exact ⟨u, c, w, rfl, g, Nat.le_refl _, fun _ _ => rfl, Mo.r, fun j h3 h4 => by omega⟩
    · rw [if_neg q]
      have hx : x < z := by
        rcases Nat.lt_or_ge x z with y | y
        · exact y
        · exact absurd (nI_le y (by omega)) q
      have e0 : pA ((CSt S u c w).th (pT S.al i)).p 8 (nI x) = (S.th (pT S.al i)).p x := pA_1 (n := 8) (by omega) (by decide)
      rw [e0]
      have hE : EdV S t (nT S.al S.th i) ((S.th (pT S.al i)).p x) := ⟨i, z, x, hi, rfl, ez, hz, hx, rfl⟩
      obtain ⟨u1, c1, w1, e1, g1, l1, k1, m1, f1⟩ := rch_i h g (hE.ok h) (fun y => RN.e hRN hE y)
      rw [vc_e e1, nI_1]
      obtain ⟨u2, c2, w2, e2, g2, l2, k2, m2, f2⟩ := ih (x + 1) u1 c1 w1 g1 (by omega) (by omega)
      refine ⟨u2, c2, w2, e2, g2, by omega, fun j hj => (k2 j (by omega)).trans (k1 j hj), m1.t m2, fun j h3 h4 h5 => ?_⟩
      rcases Nat.lt_or_ge x j with y | y
      · exact f2 j (by omega) h4 h5
      · obtain rfl : j = x := by omega
        exact (f1 h5).m m2
theorem rs_l {Z : Ho} (h : Inv S t md f n) : ∀ (fu x : Nat) (u : Nat → Option (Fin 60)) (c : Nat) (w : Fin 60 → Int32), Gd S t f u c w → x ≤ c → 61 ≤ x + fu → (∀ j i, j < x → i < t → u j = some (pT S.al i) → Cl S t w i) →
    ∃ u' c' w', LX5_reachFields_2 Z fu (nI x) (CSt S u c w) = CSt S u' c' w' ∧ Gd S t f u' c' w' ∧ Mo w w' ∧ (∀ i, i < t → ¬ w' (pT S.al i) = 0 → Cl S t w' i) := by
  have ht := h.tb.l
  intro fu
  induction fu with
  | zero => intro x u c w g h1 h2; have := g.le; omega
  | succ fu ih =>
    intro x u c w g h1 h2 hc
    have hct := g.le
    have done : c ≤ x → ∃ u' c' w', CSt S u c w = CSt S u' c' w' ∧ Gd S t f u' c' w' ∧ Mo w w' ∧ (∀ i, i < t → ¬ w' (pT S.al i) = 0 → Cl S t w' i) := fun hcx => by
      refine ⟨u, c, w, rfl, g, Mo.r, fun i hi hw => ?_⟩
      obtain ⟨e, g1, g2, g3⟩ := g
      obtain ⟨j, hj, ej⟩ := g3 _ hw
      exact hc j i (by omega) hi (by rw [ej]; exact (g1 j hj).2.1)
    rw [LX5_reachFields_2_u]
    by_cases q1 : (60 : Int32) ≤ nI x
    · rw [if_pos q1]
      have := (nI_leI (a := 60) (by decide) (by omega)).mp q1
      exact done (by omega)
    rw [if_neg q1]
    have hx : x < 60 := by
      rcases Nat.lt_or_ge x 60 with y | y
      · exact y
      · exact absurd (nI_le (a := 60) y (by omega)) q1
    by_cases q2 : (CSt S u c w).rc ≤ nI x
    · rw [if_pos q2]
      exact done ((nI_leI (by omega) (by omega)).mp (show nI c ≤ nI x from q2))
    rw [if_neg q2]
    have hxc : x < c := by
      rcases Nat.lt_or_ge x c with y | y
      · exact y
      · exact absurd (nI_le y (by omega) : nI c ≤ nI x) q2
    obtain ⟨i, hi, ei, hR⟩ : ∃ i, i < t ∧ u x = some (pT S.al i) ∧ RN S t f (nT S.al S.th i) := by
      obtain ⟨e, g1, _, _⟩ := g
      exact ⟨e x, (g1 x hxc).1, (g1 x hxc).2.1, (g1 x hxc).2.2.2⟩
    obtain ⟨z, hz, ez⟩ := h.tb.z hi
    have hre : (CSt S u c w).re (Int32.toNatClampNeg (nI x)) = some (pT S.al i) := by
      rw [nI_clamp (by omega)]; exact ei
    obtain ⟨u1, c1, w1, e1, g1, l1, k1, m1, f1⟩ := rg_l h hi hre ez hz hR FU 0 u c w g (Nat.zero_le _) (by rw [FU_e]; omega)
    have e1 : LX5_reachFields_28 (nI x) (CSt S u c w) FU 0 (CSt S u c w) = CSt S u1 c1 w1 := e1
    rw [vc_e e1, nI_1]
    obtain ⟨u2, c2, w2, e2, g2, m2, f2⟩ := ih (x + 1) u1 c1 w1 g1 (by omega) (by omega) (fun j a hj ha eu => by
      rcases Nat.lt_or_ge j x with y | y
      · rw [k1 j (by omega)] at eu
        exact fun v hv hT => (hc j a y ha eu v hv hT).m m1
      · obtain rfl : j = x := by omega
        rw [k1 j hxc, ei] at eu
        have : i = a := h.tb.i (by omega) (by omega) (Option.some.inj eu)
        subst this
        intro v ⟨i3, z3, k3, hi3, en3, ez3, hz3, hk3, ev3⟩ hT
        have : i3 = i := h.tb.n hi3 hi en3
        subst this
        have : z3 = z := nI_inj (by omega) (by omega) (ez3.symm.trans ez)
        subst this
        rw [ev3] at hT ⊢
        exact f1 k3 (Nat.zero_le _) hk3 hT)
    exact ⟨u2, c2, w2, e2, g2, m1.t m2, f2⟩
/-- all that is asked first was reached -/
def AllR (S : Ho) (t f : Nat) (w : Fin 60 → Int32) : Prop := ∀ v, RtV S f v → ¬ isT v = 0 → Fl S t w (nf v)
theorem cl_37 (h : Inv S t md f n) : ∀ (fu x : Nat) (u : Nat → Option (Fin 60)) (c : Nat) (w : Fin 60 → Int32), Gd S t f u c w → x ≤ f → f + 1 ≤ x + fu →
    (∀ g, g < 8 → ¬ isT (S.gl g) = 0 → Fl S t w (nf (S.gl g))) → (∀ i (hi : i < 12), i < x → ∀ N j, sX1_places S ⟨i, hi⟩ = nI N → N ≤ 15 → j < N → ¬ isT (sX1_place S ⟨i, hi⟩ (nI j)) = 0 → Fl S t w (nf (sX1_place S ⟨i, hi⟩ (nI j)))) →
    ∃ u' c' w', LX8_collect_37 fu (nI x) (CSt S u c w) = sX5_sweep (sX5_reachFields (CSt S u' c' w')) ∧ Gd S t f u' c' w' ∧ AllR S t f w' := by
  have hf := h.f12
  intro fu
  induction fu with
  | zero => intro x u c w g h1 h2; omega
  | succ fu ih =>
    intro x u c w g h1 h2 hg hfr
    rw [LX8_collect_37_u, show (CSt S u c w).fn = nI f from h.fn]
    by_cases q1 : nI f ≤ nI x
    · rw [if_pos q1]
      have hx : x = f := by have := (nI_leI (by omega) (by omega)).mp q1; omega
      subst hx
      by_cases q2 : S.st = 114
      · rw [if_pos (show (CSt S u c w).st = 114 from q2)]
        have hR : RtV S x S.an := Or.inr (Or.inr ⟨q2, rfl⟩)
        obtain ⟨u1, c1, w1, e1, g1, _, _, m1, f1⟩ := rch_i h g (hR.ok h) (fun z => RN.r hR z)
        rw [vc_e (show sX5_reach (CSt S u c w) (CSt S u c w).an = CSt S u1 c1 w1 from e1)]
        refine ⟨u1, c1, w1, rfl, g1, fun v hv hT => ?_⟩
        rcases hv with ⟨g9, hg9, e⟩ | ⟨i, hi, hif, N, j, eN, hN, hj, e⟩ | ⟨_, e⟩
        · rw [e] at hT ⊢; exact (hg g9 hg9 hT).m m1
        · rw [e] at hT ⊢; exact (hfr i hi hif N j eN hN hj hT).m m1
        · rw [e] at hT ⊢; exact f1 hT
      · rw [if_neg (show ¬ (CSt S u c w).st = 114 from q2)]
        refine ⟨u, c, w, rfl, g, fun v hv hT => ?_⟩
        rcases hv with ⟨g9, hg9, e⟩ | ⟨i, hi, hif, N, j, eN, hN, hj, e⟩ | ⟨e0, e⟩
        · rw [e] at hT ⊢; exact hg g9 hg9 hT
        · rw [e] at hT ⊢; exact hfr i hi hif N j eN hN hj hT
        · exact absurd e0 q2
    · rw [if_neg q1]
      have hx : x < f := by
        rcases Nat.lt_or_ge x f with y | y
        · exact y
        · exact absurd (nI_le y (by omega)) q1
      have hx12 : x < 12 := by omega
      obtain ⟨N, hN, eN, hv⟩ := pl_ok (h.fs x hx12 hx)
      rw [oc_s (frameAt_1 hx12)]
      obtain ⟨u1, c1, w1, e1, g1, m1, f1⟩ := rf_l h hx hN eN FU 0 u c w g (Nat.zero_le _) (by rw [FU_e]; omega)
      have e1 : sX8_reachFrom (CSt S u c w) ⟨x, hx12⟩ = CSt S u1 c1 w1 := e1
      rw [vc_e e1, nI_1]
      refine ih (x + 1) u1 c1 w1 g1 (by omega) (by omega) (fun g9 hg9 hT => (hg g9 hg9 hT).m m1) (fun i hi hif N2 j eN2 hN2 hj hT => ?_)
      rcases Nat.lt_or_ge i x with y | y
      · exact (hfr i hi y N2 j eN2 hN2 hj hT).m m1
      · obtain rfl : i = x := by omega
        have : N = N2 := nI_inj (by omega) (by omega) (eN.symm.trans eN2)
        subst this
        exact f1 j (Nat.zero_le _) hj hT
theorem cl_10 {Z : Ho} (h : Inv S t md f n) : ∀ (fu x : Nat) (u : Nat → Option (Fin 60)) (c : Nat) (w : Fin 60 → Int32), Gd S t f u c w → x ≤ 8 → 9 ≤ x + fu →
    (∀ g, g < x → ¬ isT (S.gl g) = 0 → Fl S t w (nf (S.gl g))) →
    ∃ u' c' w', LX8_collect_10 Z fu (nI x) (CSt S u c w) = sX5_sweep (sX5_reachFields (CSt S u' c' w')) ∧ Gd S t f u' c' w' ∧ AllR S t f w' := by
  intro fu
  induction fu with
  | zero => intro x u c w g h1 h2; omega
  | succ fu ih =>
    intro x u c w g h1 h2 hg
    rw [LX8_collect_10_u]
    by_cases q1 : (8 : Int32) ≤ nI x
    · rw [if_pos q1]
      have hx : x = 8 := by have := (nI_leI (a := 8) (by decide) (by omega)).mp q1; omega
      subst hx
      exact cl_37 h FU 0 u c w g (Nat.zero_le _) (by rw [FU_e]; have := h.f12; omega) hg (fun i hi q => absurd q (Nat.not_lt_zero i))
    · rw [if_neg q1]
      have hx : x < 8 := by
        rcases Nat.lt_or_ge x 8 with y | y
        · exact y
        · exact absurd (nI_le (a := 8) y (by omega)) q1
      rw [nI_clamp (by omega)]
      have hR : RtV S f (S.gl x) := Or.inl ⟨x, hx, rfl⟩
      obtain ⟨u1, c1, w1, e1, g1, _, _, m1, f1⟩ := rch_i h g (hR.ok h) (fun z => RN.r hR z)
      have e1 : sX5_reach (CSt S u c w) ((CSt S u c w).gl x) = CSt S u1 c1 w1 := e1
      rw [vc_e e1, nI_1]
      refine ih (x + 1) u1 c1 w1 g1 (by omega) (by omega) (fun g9 hg9 hT => ?_)
      rcases Nat.lt_or_ge g9 x with y | y
      · exact (hg g9 y hT).m m1
      · obtain rfl : g9 = x := by omega
        exact f1 hT
/-- the sweep -/
def SwS (S : Ho) (u : Nat → Option (Fin 60)) (c : Nat) (a : Nat → Option (Fin 60)) (w : Fin 60 → Int32) : Ho := (((S.sre u).src (nI c)).sal a).sth (fun k => (S.th k).sr (w k))
theorem sw_g (X : Ho) (a a' : Nat → Option (Fin 60)) (T : Fin 60 → Th) (k : Fin 60) (v : Th) : ((((X.sal a).sth T).thS k v).sal a') = (X.sal a').sth (updF T k v) := by
  rw [st_6, st_7, st_8]
theorem sw_0 : SwS S u c S.al w = CSt S u c w := rfl
theorem sw_mark {a a' : Nat → Option (Fin 60)} {k : Fin 60} : (((SwS S u c a w).thS k (((SwS S u c a w).th k).sr 0)).sal a') = SwS S u c a' (updF w k 0) :=
  (sw_g ((S.sre u).src (nI c)) a a' (fun j => (S.th j).sr (w j)) k (((S.th k).sr (w k)).sr 0)).trans (congrArg (fun z9 => (((S.sre u).src (nI c)).sal a').sth z9) sr_u)
def SP (S : Ho) (w0 : Fin 60 → Int32) (x kp : Nat) (a : Nat → Option (Fin 60)) (w : Fin 60 → Int32) : Prop :=
  kp ≤ x ∧ (∀ j, j < 60 → a j = some (pT a j)) ∧ (∀ i j, i < 60 → j < 60 → pT a i = pT a j → i = j) ∧ (∀ j, x ≤ j → j < 60 → pT a j = pT S.al j) ∧
  (∀ j, j < kp → ∃ i, i < x ∧ pT a j = pT S.al i ∧ ¬ w0 (pT S.al i) = 0) ∧ (∀ i, i < x → ¬ w0 (pT S.al i) = 0 → ∃ j, j < kp ∧ pT a j = pT S.al i) ∧ (∀ i j, i < j → j < kp → (nT a S.th i).toInt < (nT a S.th j).toInt) ∧
  (∀ i, x ≤ i → i < 60 → w (pT S.al i) = w0 (pT S.al i)) ∧ (∀ i, i < x → w (pT S.al i) = 0) ∧ (∀ k, ¬ w k = 0 → ¬ w0 k = 0)
theorem pT_u {a : Nat → Option (Fin 60)} {j q : Nat} {k : Fin 60} : pT (updN a q (some k)) j = if j = q then k else pT a j := by
  unfold pT
  by_cases c : j = q
  · rw [if_pos c, c, updN_s]; rfl
  · rw [if_neg c, updN_o c]
theorem sw_l {Z : Ho} {w0 : Fin 60 → Int32} (h : Inv S t md f n) (hZ : Z.tc = nI t) : ∀ (fu x kp : Nat) (a : Nat → Option (Fin 60)) (w : Fin 60 → Int32), x ≤ t → t + 1 ≤ x + fu → SP S w0 x kp a w →
    ∃ kp' a' w', LX5_sweep_9 Z fu (nI x) (nI kp) (SwS S u c a w) = (nI (t - kp'), ((SwS S u c a' w').stc (nI kp')).src 0) ∧ SP S w0 t kp' a' w' := by
  have ht := h.tb.l
  intro fu
  induction fu with
  | zero => intro x kp a w h1 h2; omega
  | succ fu ih =>
    intro x kp a w h1 h2 hs
    obtain ⟨s1, s2, s3, s4, s5, s6, s7, s8, s9, s10⟩ := hs
    rw [LX5_sweep_9_u, hZ]
    by_cases q1 : nI t ≤ nI x
    · rw [if_pos q1]
      have hx : x = t := by have := (nI_leI (by omega) (by omega)).mp q1; omega
      subst hx
      exact ⟨kp, a, w, by rw [pk_sub s1], s1, s2, s3, s4, s5, s6, s7, s8, s9, s10⟩
    rw [if_neg q1]
    have hx : x < t := by
      rcases Nat.lt_or_ge x t with y | y
      · exact y
      · exact absurd (nI_le y (by omega)) q1
    rw [if_neg (show ¬ (60 : Int32) ≤ nI x from nI_ge (b := 60) (by omega) (by decide)), nI_clamp (by omega), nI_clamp (by omega)]
    have ex : (SwS S u c a w).al x = some (pT S.al x) := by
      show a x = _
      rw [s2 x (by omega), s4 x (Nat.le_refl _) (by omega)]
    rw [oc_s ex]
    have ew := s8 x (Nat.le_refl _) (by omega)
    by_cases q2 : w (pT S.al x) = 0
    · rw [if_pos (show ((SwS S u c a w).th (pT S.al x)).r = 0 from q2), nI_1]
      refine ih (x + 1) kp a w (by omega) (by omega) ⟨by omega, s2, s3, fun j h3 h4 => s4 j (by omega) h4, fun j hj => ?_, fun i hi hw => ?_, s7, fun i h3 h4 => s8 i (by omega) h4, fun i hi => ?_, s10⟩
      · obtain ⟨i, y1, y2⟩ := s5 j hj
        exact ⟨i, by omega, y2⟩
      · rcases Nat.lt_or_ge i x with y | y
        · exact s6 i y hw
        · obtain rfl : i = x := by omega
          exact absurd (ew.symm.trans q2) hw
      · rcases Nat.lt_or_ge i x with y | y
        · exact s9 i y
        · obtain rfl : i = x := by omega
          exact q2
    · rw [if_neg (show ¬ ((SwS S u c a w).th (pT S.al x)).r = 0 from q2), if_neg (nI_nlt s1 (by omega)), nI_1, nI_1]
      have ek : (SwS S u c a w).al kp = some (pT a kp) := s2 kp (by omega)
      rw [oc_s ek, vc_e rfl, vc_e rfl]
      have est : ((((SwS S u c a w).thS (pT S.al x) (((SwS S u c a w).th (pT S.al x)).sr 0))).sal (updN (updN ((SwS S u c a w).thS (pT S.al x) (((SwS S u c a w).th (pT S.al x)).sr 0)).al x (some (pT a kp))) kp (some (pT S.al x)))) = SwS S u c (updN (updN a x (some (pT a kp))) kp (some (pT S.al x))) (updF w (pT S.al x) 0) := by
        exact sw_mark
      rw [est]
      have hp : ∀ j, pT (updN (updN a x (some (pT a kp))) kp (some (pT S.al x))) j = if j = kp then pT S.al x else if j = x then pT a kp else pT a j := fun j => by rw [pT_u, pT_u]
      have hxx : pT a x = pT S.al x := s4 x (Nat.le_refl _) (by omega)
      have hw0 : ¬ w0 (pT S.al x) = 0 := by rw [← ew]; exact q2
      refine ih (x + 1) (kp + 1) _ _ (by omega) (by omega) ⟨by omega, fun j hj => ?_, fun i j hi hj e => ?_, fun j h3 h4 => ?_, fun j hj => ?_, fun i hi hw => ?_, fun i j hij hj => ?_, fun i h3 h4 => ?_, fun i hi => ?_, fun k hk => ?_⟩
      · rw [hp]
        by_cases c1 : j = kp
        · rw [if_pos c1, c1, updN_s]
        · rw [if_neg c1, updN_o c1]
          by_cases c2 : j = x
          · rw [if_pos c2, c2, updN_s]
          · rw [if_neg c2, updN_o c2]; exact s2 j hj
      · rw [hp, hp] at e
        have inj := s3
        by_cases c1 : i = kp
        · rw [if_pos c1] at e
          by_cases c2 : j = kp
          · omega
          · rw [if_neg c2] at e
            by_cases c3 : j = x
            · rw [if_pos c3, ← hxx] at e
              have := inj x kp (by omega) (by omega) e
              omega
            · rw [if_neg c3, ← hxx] at e
              have := inj x j (by omega) hj e
              omega
        · rw [if_neg c1] at e
          by_cases c2 : i = x
          · rw [if_pos c2] at e
            by_cases c3 : j = kp
            · rw [if_pos c3, ← hxx] at e
              have := inj kp x (by omega) (by omega) e
              omega
            · rw [if_neg c3] at e
              by_cases c4 : j = x
              · omega
              · rw [if_neg c4] at e
                have := inj kp j (by omega) hj e
                omega
          · rw [if_neg c2] at e
            by_cases c3 : j = kp
            · rw [if_pos c3, ← hxx] at e
              have := inj i x hi (by omega) e
              omega
            · rw [if_neg c3] at e
              by_cases c4 : j = x
              · rw [if_pos c4] at e
                have := inj i kp hi (by omega) e
                omega
              · rw [if_neg c4] at e
                exact inj i j hi hj e
      · rw [hp, if_neg (by omega), if_neg (by omega)]
        exact s4 j (by omega) h4
      · rw [hp]
        by_cases c1 : j = kp
        · rw [if_pos c1]; exact ⟨x, by omega, rfl, hw0⟩
        · rw [if_neg c1, if_neg (by omega)]
          obtain ⟨i, y1, y2⟩ := s5 j (by omega)
          exact ⟨i, by omega, y2⟩
      · rcases Nat.lt_or_ge i x with y | y
        · obtain ⟨j, hj, ej⟩ := s6 i y hw
          refine ⟨j, by omega, ?_⟩
          rw [hp, if_neg (by omega), if_neg (by omega)]; exact ej
        · obtain rfl : i = x := by omega
          refine ⟨kp, Nat.lt_succ_self kp, ?_⟩
          rw [hp, if_pos rfl]
      · have ei : nT (updN (updN a x (some (pT a kp))) kp (some (pT S.al x))) S.th i = nT a S.th i := by
          unfold nT
          rw [hp, if_neg (by omega), if_neg (by omega)]
        rw [ei]
        by_cases c1 : j = kp
        · have ej : nT (updN (updN a x (some (pT a kp))) kp (some (pT S.al x))) S.th j = nT S.al S.th x := by
            unfold nT
            rw [hp, if_pos c1]
          rw [ej]
          obtain ⟨i2, y1, y2, _⟩ := s5 i (by omega)
          have : nT a S.th i = nT S.al S.th i2 := by unfold nT; rw [y2]
          rw [this]
          exact h.tb.s y1 hx
        · have ej : nT (updN (updN a x (some (pT a kp))) kp (some (pT S.al x))) S.th j = nT a S.th j := by
            unfold nT
            rw [hp, if_neg c1, if_neg (by omega)]
          rw [ej]
          exact s7 i j hij (by omega)
      · rw [updF_o (fun e => by have := h.tb.i h4 (by omega) e; omega)]
        exact s8 i (by omega) h4
      · rcases Nat.lt_or_ge i x with y | y
        · rw [updF_o (fun e => by have := h.tb.i (by omega) (by omega) e; omega)]
          exact s9 i y
        · obtain rfl : i = x := by omega
          exact updF_s
      · by_cases qk : k = pT S.al x
        · rw [qk, updF_s] at hk; exact absurd rfl hk
        · rw [updF_o qk] at hk; exact s10 k hk
theorem collect_inv (h : Inv S t md f n) (hmd : md < 2 ^ 30) : ∃ c S', sX8_collect S = (nI (t - c), S') ∧ c ≤ t ∧ Inv S' c md f n ∧ S'.fr = S.fr ∧
    ∃ g : Nat → Nat, (∀ j, j < c → g j < md ∧ RN S t f (nI (g j))) ∧ (∀ i j, i < c → j < c → g i = g j → i = j) ∧ (∀ m, RN S t f m → ∃ j, j < c ∧ m = nI (g j)) := by
  have ht := h.tb.l
  have hS : S = CSt S S.re 0 (fun _ => 0) := by
    have e1 : S = ((S.sre S.re).src S.rc).sth S.th := rfl
    have e2 : S.th = fun k => (S.th k).sr 0 := funext fun k => Prod.ext rfl (Prod.ext rfl (h.r0 k))
    have e3 : S.rc = nI 0 := h.rc
    calc S = ((S.sre S.re).src S.rc).sth S.th := e1
      _ = ((S.sre S.re).src (nI 0)).sth S.th := by rw [e3]
      _ = CSt S S.re 0 (fun _ => 0) := congrArg (fun z9 => ((S.sre S.re).src (nI 0)).sth z9) e2
  have hG0 : Gd S t f S.re 0 (fun _ => 0) := ⟨fun _ => 0, fun j hj => absurd hj (Nat.not_lt_zero j), fun i j hi => absurd hi (Nat.not_lt_zero i), fun k hk => absurd rfl hk⟩
  obtain ⟨u1, c1, w1, e1, g1, a1⟩ := cl_10 (Z := S) h 9 0 S.re 0 (fun _ => 0) hG0 (by omega) (by omega) (fun g hg => absurd hg (Nat.not_lt_zero g))
  obtain ⟨u2, c2, w2, e2, g2, m2, f2⟩ := rs_l (Z := CSt S u1 c1 w1) h 61 0 u1 c1 w1 g1 (Nat.zero_le _) (by omega) (fun j i hj => absurd hj (Nat.not_lt_zero j))
  have hSP : SP S w2 0 0 S.al w2 := ⟨Nat.le_refl _, fun j hj => h.tb.a hj, fun i j hi hj e => h.tb.i hi hj e, fun _ _ _ => rfl, fun j hj => absurd hj (Nat.not_lt_zero j), fun i hi => absurd hi (Nat.not_lt_zero i), fun i j _ hj => absurd hj (Nat.not_lt_zero j), fun _ _ _ => rfl, fun i hi => absurd hi (Nat.not_lt_zero i), fun _ hk => hk⟩
  obtain ⟨kp, a, w, e3, s1, s2, s3, s4, s5, s6, s7, s8, s9, s10⟩ := sw_l (u := u2) (c := c2) (Z := CSt S u2 c2 w2) h h.tb.t 61 0 0 S.al w2 (Nat.zero_le _) (by omega) hSP
  have e0 : sX8_collect S = (nI (t - kp), ((SwS S u2 c2 a w).stc (nI kp)).src 0) := by
    have e4 : sX8_collect S = LX8_collect_10 S 9 0 (CSt S S.re 0 (fun _ => 0)) := congrArg (fun z9 => LX8_collect_10 S 9 0 z9) hS
    rw [e4, show LX8_collect_10 S 9 0 (CSt S S.re 0 (fun _ => 0)) = _ from e1]
    have e5 : sX5_reachFields (CSt S u1 c1 w1) = CSt S u2 c2 w2 := e2
    rw [e5]
    exact e3
  -- a number is reached just where it was marked
  have hfl : ∀ m, RN S t f m → Fl S t w2 m := fun m hm => hm (Fl S t w2) (fun v hv hT => (a1 v hv hT).m m2) (fun m v ⟨i, hi, en, hw⟩ hE hT => f2 i hi hw v (by rw [en]; exact hE) hT)
  have hrn : ∀ i, i < t → ¬ w2 (pT S.al i) = 0 → RN S t f (nT S.al S.th i) := fun i hi hw => by
    obtain ⟨e, y1, y2, y3⟩ := g2
    obtain ⟨j, hj, ej⟩ := y3 _ hw
    have := h.tb.i (by omega) (by have := (y1 j hj).1; omega) ej
    rw [this]; exact (y1 j hj).2.2.2
  have hn2 : ∀ j, j < kp → ∃ i, i < t ∧ nT a S.th j = nT S.al S.th i ∧ pT a j = pT S.al i ∧ ¬ w2 (pT S.al i) = 0 := fun j hj => by
    obtain ⟨i, y1, y2, y3⟩ := s5 j hj
    exact ⟨i, y1, by unfold nT; rw [y2], y2, y3⟩
  have hD : ∀ v, okV (Dm S.al S.th t) v → (¬ isT v = 0 → RN S t f (nf v)) → okV (Dm a (fun k => (S.th k).sr (w k)) kp) v := fun v hv hR => by
    by_cases cT : isT v = 0
    · exact Or.inl cT
    · obtain ⟨i, hi, en, hw⟩ := hfl _ (hR cT)
      obtain ⟨j, hj, ej⟩ := s6 i hi hw
      refine Or.inr ⟨j, hj, ?_⟩
      show (S.th (pT a j)).n = _
      rw [ej]; exact en
  refine ⟨kp, _, e0, s1, ⟨⟨⟨⟨rfl, by omega⟩, s2, s3, s7, fun j hj => ?_, fun j hj => ?_⟩, h.mk, rfl, fun k => ?_, ?_⟩, ⟨fun g hg => ?_, fun q => ?_, h.fc⟩, h.2.2.1, ⟨h.fn, h.f12, fun i hi hif => ?_⟩, h.2.2.2.2⟩, rfl, fun j => (nT a S.th j).toInt.toNat, fun j hj => ?_, fun i j hi hj e => ?_, fun m hm => ?_⟩
  · show 0 ≤ (nT a S.th j).toInt ∧ (nT a S.th j).toInt < md
    obtain ⟨i, y1, y2, _⟩ := hn2 j hj
    rw [y2]; exact h.tb.b y1
  · show ∃ z, z ≤ 8 ∧ (S.th (pT a j)).z = nI z
    obtain ⟨i, y1, _, y3, _⟩ := hn2 j hj
    rw [y3]; exact h.tb.z y1
  · show w k = 0
    by_cases qk : w k = 0
    · exact qk
    · have q2 := s10 k qk
      obtain ⟨e, y1, y2, y3⟩ := g2
      obtain ⟨j, hj, ej⟩ := y3 _ q2
      rw [ej] at qk
      exact absurd (s9 (e j) (y1 j hj).1) qk
  · intro j hj z k ez hz hk
    have ez : (S.th (pT a j)).z = nI z := ez
    show okV (Dm a (fun k => (S.th k).sr (w k)) kp) ((S.th (pT a j)).p k)
    obtain ⟨i, y1, y2, y3, y4⟩ := hn2 j hj
    rw [y3] at ez ⊢
    exact hD _ (h.tf i y1 z k ez hz hk) (fun hT => RN.e (hrn i y1 y4) ⟨i, z, k, y1, rfl, ez, hz, hk, rfl⟩ hT)
  · exact hD _ (h.gl g hg) (fun hT => RN.r (Or.inl ⟨g, hg, rfl⟩) hT)
  · exact hD _ (h.an q) (fun hT => RN.r (Or.inr (Or.inr ⟨q, rfl⟩)) hT)
  · have hfo := h.fs i hi hif
    obtain ⟨N, hN, eN, hv⟩ := pl_ok hfo
    obtain ⟨k, a9, tt, r, d, h1, h2, h3, h4, h5, h6, h7, h8, h9, h10, ⟨p1, p2, p3, p4⟩, h12⟩ := hfo
    have hNN : N = 1 + a9 + tt + d := nI_inj (by omega) (by omega) (eN.symm.trans (pls_e h1 h3 h5 h9))
    have rt : ∀ j, j < N → ¬ isT (sX1_place S ⟨i, hi⟩ (nI j)) = 0 → RN S t f (nf (sX1_place S ⟨i, hi⟩ (nI j))) := fun j hj hT => RN.r (Or.inr (Or.inl ⟨i, hi, hif, N, j, eN, hN, hj, rfl⟩)) hT
    refine ⟨k, a9, tt, r, d, h1, h2, h3, h4, h5, h6, h7, h8, h9, h10, ⟨?_, fun k9 hk9 => ?_, fun k9 hk9 => ?_, fun k9 hk9 => ?_⟩, h12⟩
    · have := rt 0 (by omega)
      rw [pl_v] at this
      exact hD _ p1 this
    · have := rt (1 + k9) (by omega)
      rw [pl_a h1 h3 h4 hk9] at this
      exact hD _ (p2 k9 hk9) this
    · have := rt (1 + a9 + k9) (by omega)
      rw [pl_t h1 h3 h4 h5 h6 hk9] at this
      exact hD _ (p3 k9 hk9) this
    · have := rt (1 + a9 + tt + k9) (by omega)
      rw [pl_p (d := d) h1 h3 h4 h5 h6 hk9 h10] at this
      exact hD _ (p4 k9 hk9) this
  · obtain ⟨i, y1, y2, y3, y4⟩ := hn2 j hj
    have hb := h.tb.b y1
    have e9 : nI (nT a S.th j).toInt.toNat = nT S.al S.th i := by
      rw [y2]
      exact (toI (by omega) (by omega)).symm
    refine ⟨?_, by show RN S t f (nI (nT a S.th j).toInt.toNat); rw [e9]; exact hrn i y1 y4⟩
    show (nT a S.th j).toInt.toNat < md
    rw [y2]; omega
  · obtain ⟨i1, y1, y2, y3, y4⟩ := hn2 i hi
    obtain ⟨i2, z1, z2, z3, z4⟩ := hn2 j hj
    have b1 := h.tb.b y1
    have b2 := h.tb.b z1
    have e' : (nT a S.th i).toInt.toNat = (nT a S.th j).toInt.toNat := e
    rcases Nat.lt_trichotomy i j with q | q | q
    · have := s7 i j q hj
      rw [y2, z2] at this e'
      omega
    · exact q
    · have := s7 j i q hi
      rw [y2, z2] at this e'
      omega
  · obtain ⟨i, hi, en, hw⟩ := hfl m hm
    obtain ⟨j, hj, ej⟩ := s6 i hi hw
    refine ⟨j, hj, ?_⟩
    have hb := h.tb.b hi
    have : nT a S.th j = nT S.al S.th i := by unfold nT; rw [ej]
    show m = nI (nT a S.th j).toInt.toNat
    rw [this, ← en]
    exact toI (by omega) (by omega)
end COL
